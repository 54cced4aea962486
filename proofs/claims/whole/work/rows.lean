section
-- ===== PART A: goes FIRST, ahead of the names: the tables' words, and 'selects' of the private methods out of them =====
/-- a private method of a class that the tables say can be made, by its rows of tables_1 -/
def lw_okq (q : MethodName × Nat) : Prop := (q.1.cls ≠ "java/lang/invoke/MethodHandle" ∧ q.1.cls ≠ "java/lang/invoke/VarHandle") ∧ Cond.instantiable q.1.cls q.2 ∈ tables_1 ∧ Cond.privateMethod q.1 ∈ tables_1 ∧ Cond.instanceMethod q.1 ∈ tables_1
theorem lw_p0 : lw_okq (⟨"GreyDays", "finds", "(I)Z"⟩, 8) := ⟨⟨by decide +kernel, by decide +kernel⟩, List.mem_of_getElem? (i := 18) (by decide +kernel), List.mem_of_getElem? (i := 137) (by decide +kernel), List.mem_of_getElem? (i := 138) (by decide +kernel)⟩
theorem lw_p1 : lw_okq (⟨"GreyDays", "finding", "()I"⟩, 8) := ⟨⟨by decide +kernel, by decide +kernel⟩, List.mem_of_getElem? (i := 18) (by decide +kernel), List.mem_of_getElem? (i := 141) (by decide +kernel), List.mem_of_getElem? (i := 142) (by decide +kernel)⟩
theorem lw_p2 : lw_okq (⟨"GreyDays", "findingOfPlaces", "(III)I"⟩, 8) := ⟨⟨by decide +kernel, by decide +kernel⟩, List.mem_of_getElem? (i := 18) (by decide +kernel), List.mem_of_getElem? (i := 155) (by decide +kernel), List.mem_of_getElem? (i := 156) (by decide +kernel)⟩
theorem lw_p3 : lw_okq (⟨"GreyDays", "findingOfMove", "(IIIII)I"⟩, 8) := ⟨⟨by decide +kernel, by decide +kernel⟩, List.mem_of_getElem? (i := 18) (by decide +kernel), List.mem_of_getElem? (i := 180) (by decide +kernel), List.mem_of_getElem? (i := 181) (by decide +kernel)⟩
theorem lw_p4 : lw_okq (⟨"GreyDays$Tape", "readLaw", "(LGreyDays$Town;)V"⟩, 5) := ⟨⟨by decide +kernel, by decide +kernel⟩, List.mem_of_getElem? (i := 48) (by decide +kernel), List.mem_of_getElem? (i := 269) (by decide +kernel), List.mem_of_getElem? (i := 270) (by decide +kernel)⟩
theorem lw_p5 : lw_okq (⟨"GreyDays$Tape", "takeByte", "(I)V"⟩, 5) := ⟨⟨by decide +kernel, by decide +kernel⟩, List.mem_of_getElem? (i := 48) (by decide +kernel), List.mem_of_getElem? (i := 273) (by decide +kernel), List.mem_of_getElem? (i := 274) (by decide +kernel)⟩
theorem lw_p6 : lw_okq (⟨"GreyDays$Tape", "isSound", "()Z"⟩, 5) := ⟨⟨by decide +kernel, by decide +kernel⟩, List.mem_of_getElem? (i := 48) (by decide +kernel), List.mem_of_getElem? (i := 277) (by decide +kernel), List.mem_of_getElem? (i := 278) (by decide +kernel)⟩
theorem lw_p7 : lw_okq (⟨"GreyDays$Tape", "byteHere", "()I"⟩, 5) := ⟨⟨by decide +kernel, by decide +kernel⟩, List.mem_of_getElem? (i := 48) (by decide +kernel), List.mem_of_getElem? (i := 281) (by decide +kernel), List.mem_of_getElem? (i := 282) (by decide +kernel)⟩
theorem lw_p8 : lw_okq (⟨"GreyDays$Tape", "faultAt", "(II)V"⟩, 5) := ⟨⟨by decide +kernel, by decide +kernel⟩, List.mem_of_getElem? (i := 48) (by decide +kernel), List.mem_of_getElem? (i := 285) (by decide +kernel), List.mem_of_getElem? (i := 286) (by decide +kernel)⟩
theorem lw_p9 : lw_okq (⟨"GreyDays$Tape", "takeNumber", "(II)I"⟩, 5) := ⟨⟨by decide +kernel, by decide +kernel⟩, List.mem_of_getElem? (i := 48) (by decide +kernel), List.mem_of_getElem? (i := 289) (by decide +kernel), List.mem_of_getElem? (i := 290) (by decide +kernel)⟩
theorem lw_p10 : lw_okq (⟨"GreyDays$Tape", "figuresHere", "()I"⟩, 5) := ⟨⟨by decide +kernel, by decide +kernel⟩, List.mem_of_getElem? (i := 48) (by decide +kernel), List.mem_of_getElem? (i := 293) (by decide +kernel), List.mem_of_getElem? (i := 294) (by decide +kernel)⟩
theorem lw_p11 : lw_okq (⟨"GreyDays$Tape", "readThings", "(LGreyDays$Town;)V"⟩, 5) := ⟨⟨by decide +kernel, by decide +kernel⟩, List.mem_of_getElem? (i := 48) (by decide +kernel), List.mem_of_getElem? (i := 301) (by decide +kernel), List.mem_of_getElem? (i := 302) (by decide +kernel)⟩
theorem lw_p12 : lw_okq (⟨"GreyDays$Tape", "readThing", "(LGreyDays$Town;I)V"⟩, 5) := ⟨⟨by decide +kernel, by decide +kernel⟩, List.mem_of_getElem? (i := 48) (by decide +kernel), List.mem_of_getElem? (i := 308) (by decide +kernel), List.mem_of_getElem? (i := 309) (by decide +kernel)⟩
theorem lw_p13 : lw_okq (⟨"GreyDays$Tape", "readPairs", "(LGreyDays$Town;)V"⟩, 5) := ⟨⟨by decide +kernel, by decide +kernel⟩, List.mem_of_getElem? (i := 48) (by decide +kernel), List.mem_of_getElem? (i := 378) (by decide +kernel), List.mem_of_getElem? (i := 379) (by decide +kernel)⟩
theorem lw_p14 : lw_okq (⟨"GreyDays$Tape", "readPair", "(LGreyDays$Town;)V"⟩, 5) := ⟨⟨by decide +kernel, by decide +kernel⟩, List.mem_of_getElem? (i := 48) (by decide +kernel), List.mem_of_getElem? (i := 382) (by decide +kernel), List.mem_of_getElem? (i := 383) (by decide +kernel)⟩
theorem lw_p15 : lw_okq (⟨"GreyDays$Town", "isOfPair", "(II)Z"⟩, 12) := ⟨⟨by decide +kernel, by decide +kernel⟩, List.mem_of_getElem? (i := 224) (by decide +kernel), List.mem_of_getElem? (i := 394) (by decide +kernel), List.mem_of_getElem? (i := 395) (by decide +kernel)⟩
def lw_privs_1 : List (MethodName × Nat) := [(⟨"GreyDays", "finds", "(I)Z"⟩, 8), (⟨"GreyDays", "finding", "()I"⟩, 8), (⟨"GreyDays", "findingOfPlaces", "(III)I"⟩, 8), (⟨"GreyDays", "findingOfMove", "(IIIII)I"⟩, 8), (⟨"GreyDays$Tape", "readLaw", "(LGreyDays$Town;)V"⟩, 5), (⟨"GreyDays$Tape", "takeByte", "(I)V"⟩, 5), (⟨"GreyDays$Tape", "isSound", "()Z"⟩, 5), (⟨"GreyDays$Tape", "byteHere", "()I"⟩, 5), (⟨"GreyDays$Tape", "faultAt", "(II)V"⟩, 5), (⟨"GreyDays$Tape", "takeNumber", "(II)I"⟩, 5), (⟨"GreyDays$Tape", "figuresHere", "()I"⟩, 5), (⟨"GreyDays$Tape", "readThings", "(LGreyDays$Town;)V"⟩, 5), (⟨"GreyDays$Tape", "readThing", "(LGreyDays$Town;I)V"⟩, 5), (⟨"GreyDays$Tape", "readPairs", "(LGreyDays$Town;)V"⟩, 5), (⟨"GreyDays$Tape", "readPair", "(LGreyDays$Town;)V"⟩, 5), (⟨"GreyDays$Town", "isOfPair", "(II)Z"⟩, 12)]
theorem lw_r1 : ∀ q ∈ lw_privs_1, lw_okq q := List.forall_mem_cons.mpr ⟨lw_p0, List.forall_mem_cons.mpr ⟨lw_p1, List.forall_mem_cons.mpr ⟨lw_p2, List.forall_mem_cons.mpr ⟨lw_p3, List.forall_mem_cons.mpr ⟨lw_p4, List.forall_mem_cons.mpr ⟨lw_p5, List.forall_mem_cons.mpr ⟨lw_p6, List.forall_mem_cons.mpr ⟨lw_p7, List.forall_mem_cons.mpr ⟨lw_p8, List.forall_mem_cons.mpr ⟨lw_p9, List.forall_mem_cons.mpr ⟨lw_p10, List.forall_mem_cons.mpr ⟨lw_p11, List.forall_mem_cons.mpr ⟨lw_p12, List.forall_mem_cons.mpr ⟨lw_p13, List.forall_mem_cons.mpr ⟨lw_p14, List.forall_mem_cons.mpr ⟨lw_p15, fun _ h => absurd h List.not_mem_nil⟩⟩⟩⟩⟩⟩⟩⟩⟩⟩⟩⟩⟩⟩⟩⟩
theorem lw_p16 : lw_okq (⟨"GreyDays$Town", "keepAct", "(III)V"⟩, 12) := ⟨⟨by decide +kernel, by decide +kernel⟩, List.mem_of_getElem? (i := 224) (by decide +kernel), List.mem_of_getElem? (i := 455) (by decide +kernel), List.mem_of_getElem? (i := 456) (by decide +kernel)⟩
theorem lw_p17 : lw_okq (⟨"GreyDays$Town", "forgetOldestAct", "()V"⟩, 12) := ⟨⟨by decide +kernel, by decide +kernel⟩, List.mem_of_getElem? (i := 224) (by decide +kernel), List.mem_of_getElem? (i := 459) (by decide +kernel), List.mem_of_getElem? (i := 460) (by decide +kernel)⟩
theorem lw_p18 : lw_okq (⟨"GreyDays", "isThing", "(I)Z"⟩, 8) := ⟨⟨by decide +kernel, by decide +kernel⟩, List.mem_of_getElem? (i := 18) (by decide +kernel), List.mem_of_getElem? (i := 468) (by decide +kernel), List.mem_of_getElem? (i := 469) (by decide +kernel)⟩
theorem lw_p19 : lw_okq (⟨"GreyDays", "areTwo", "(II)Z"⟩, 8) := ⟨⟨by decide +kernel, by decide +kernel⟩, List.mem_of_getElem? (i := 18) (by decide +kernel), List.mem_of_getElem? (i := 587) (by decide +kernel), List.mem_of_getElem? (i := 588) (by decide +kernel)⟩
theorem lw_p20 : lw_okq (⟨"GreyDays$Foretold", "lookAt", "(LGreyDays$Town;I)V"⟩, 3) := ⟨⟨by decide +kernel, by decide +kernel⟩, List.mem_of_getElem? (i := 70) (by decide +kernel), List.mem_of_getElem? (i := 617) (by decide +kernel), List.mem_of_getElem? (i := 618) (by decide +kernel)⟩
theorem lw_p21 : lw_okq (⟨"GreyDays$Foretold", "fillDyes", "(LGreyDays$Town;II)Z"⟩, 3) := ⟨⟨by decide +kernel, by decide +kernel⟩, List.mem_of_getElem? (i := 70) (by decide +kernel), List.mem_of_getElem? (i := 702) (by decide +kernel), List.mem_of_getElem? (i := 703) (by decide +kernel)⟩
theorem lw_p22 : lw_okq (⟨"GreyDays$Foretold", "isApartFromRow", "(LGreyDays$Town;II)Z"⟩, 3) := ⟨⟨by decide +kernel, by decide +kernel⟩, List.mem_of_getElem? (i := 70) (by decide +kernel), List.mem_of_getElem? (i := 706) (by decide +kernel), List.mem_of_getElem? (i := 707) (by decide +kernel)⟩
theorem lw_p23 : lw_okq (⟨"GreyDays$Foretold", "countEndings", "(LGreyDays$Town;I)V"⟩, 3) := ⟨⟨by decide +kernel, by decide +kernel⟩, List.mem_of_getElem? (i := 70) (by decide +kernel), List.mem_of_getElem? (i := 744) (by decide +kernel), List.mem_of_getElem? (i := 745) (by decide +kernel)⟩
theorem lw_p24 : lw_okq (⟨"GreyDays$Foretold", "waysOn", "(LGreyDays$Town;II)I"⟩, 3) := ⟨⟨by decide +kernel, by decide +kernel⟩, List.mem_of_getElem? (i := 70) (by decide +kernel), List.mem_of_getElem? (i := 751) (by decide +kernel), List.mem_of_getElem? (i := 752) (by decide +kernel)⟩
theorem lw_p25 : lw_okq (⟨"GreyDays$Foretold", "canFollow", "(III)Z"⟩, 3) := ⟨⟨by decide +kernel, by decide +kernel⟩, List.mem_of_getElem? (i := 70) (by decide +kernel), List.mem_of_getElem? (i := 755) (by decide +kernel), List.mem_of_getElem? (i := 756) (by decide +kernel)⟩
theorem lw_p26 : lw_okq (⟨"GreyDays$Foretold", "nextOnShelf", "(LGreyDays$Town;II)I"⟩, 3) := ⟨⟨by decide +kernel, by decide +kernel⟩, List.mem_of_getElem? (i := 70) (by decide +kernel), List.mem_of_getElem? (i := 763) (by decide +kernel), List.mem_of_getElem? (i := 764) (by decide +kernel)⟩
theorem lw_p27 : lw_okq (⟨"GreyDays$Foretold", "countTold", "(LGreyDays$Town;ZZ)I"⟩, 3) := ⟨⟨by decide +kernel, by decide +kernel⟩, List.mem_of_getElem? (i := 70) (by decide +kernel), List.mem_of_getElem? (i := 802) (by decide +kernel), List.mem_of_getElem? (i := 803) (by decide +kernel)⟩
theorem lw_p28 : lw_okq (⟨"GreyDays$Foretold", "isTold", "(LGreyDays$Town;IZZ)Z"⟩, 3) := ⟨⟨by decide +kernel, by decide +kernel⟩, List.mem_of_getElem? (i := 70) (by decide +kernel), List.mem_of_getElem? (i := 806) (by decide +kernel), List.mem_of_getElem? (i := 807) (by decide +kernel)⟩
theorem lw_p29 : lw_okq (⟨"GreyDays", "countOfTown", "(I)I"⟩, 8) := ⟨⟨by decide +kernel, by decide +kernel⟩, List.mem_of_getElem? (i := 18) (by decide +kernel), List.mem_of_getElem? (i := 980) (by decide +kernel), List.mem_of_getElem? (i := 981) (by decide +kernel)⟩
theorem lw_p30 : lw_okq (⟨"GreyDaysModel", "finding", "(I)I"⟩, 24) := ⟨⟨by decide +kernel, by decide +kernel⟩, List.mem_of_getElem? (i := 992) (by decide +kernel), List.mem_of_getElem? (i := 1085) (by decide +kernel), List.mem_of_getElem? (i := 1086) (by decide +kernel)⟩
theorem lw_p31 : lw_okq (⟨"GreyDaysModel", "begin", "()V"⟩, 24) := ⟨⟨by decide +kernel, by decide +kernel⟩, List.mem_of_getElem? (i := 992) (by decide +kernel), List.mem_of_getElem? (i := 1116) (by decide +kernel), List.mem_of_getElem? (i := 1117) (by decide +kernel)⟩
def lw_privs_2 : List (MethodName × Nat) := [(⟨"GreyDays$Town", "keepAct", "(III)V"⟩, 12), (⟨"GreyDays$Town", "forgetOldestAct", "()V"⟩, 12), (⟨"GreyDays", "isThing", "(I)Z"⟩, 8), (⟨"GreyDays", "areTwo", "(II)Z"⟩, 8), (⟨"GreyDays$Foretold", "lookAt", "(LGreyDays$Town;I)V"⟩, 3), (⟨"GreyDays$Foretold", "fillDyes", "(LGreyDays$Town;II)Z"⟩, 3), (⟨"GreyDays$Foretold", "isApartFromRow", "(LGreyDays$Town;II)Z"⟩, 3), (⟨"GreyDays$Foretold", "countEndings", "(LGreyDays$Town;I)V"⟩, 3), (⟨"GreyDays$Foretold", "waysOn", "(LGreyDays$Town;II)I"⟩, 3), (⟨"GreyDays$Foretold", "canFollow", "(III)Z"⟩, 3), (⟨"GreyDays$Foretold", "nextOnShelf", "(LGreyDays$Town;II)I"⟩, 3), (⟨"GreyDays$Foretold", "countTold", "(LGreyDays$Town;ZZ)I"⟩, 3), (⟨"GreyDays$Foretold", "isTold", "(LGreyDays$Town;IZZ)Z"⟩, 3), (⟨"GreyDays", "countOfTown", "(I)I"⟩, 8), (⟨"GreyDaysModel", "finding", "(I)I"⟩, 24), (⟨"GreyDaysModel", "begin", "()V"⟩, 24)]
theorem lw_r2 : ∀ q ∈ lw_privs_2, lw_okq q := List.forall_mem_cons.mpr ⟨lw_p16, List.forall_mem_cons.mpr ⟨lw_p17, List.forall_mem_cons.mpr ⟨lw_p18, List.forall_mem_cons.mpr ⟨lw_p19, List.forall_mem_cons.mpr ⟨lw_p20, List.forall_mem_cons.mpr ⟨lw_p21, List.forall_mem_cons.mpr ⟨lw_p22, List.forall_mem_cons.mpr ⟨lw_p23, List.forall_mem_cons.mpr ⟨lw_p24, List.forall_mem_cons.mpr ⟨lw_p25, List.forall_mem_cons.mpr ⟨lw_p26, List.forall_mem_cons.mpr ⟨lw_p27, List.forall_mem_cons.mpr ⟨lw_p28, List.forall_mem_cons.mpr ⟨lw_p29, List.forall_mem_cons.mpr ⟨lw_p30, List.forall_mem_cons.mpr ⟨lw_p31, fun _ h => absurd h List.not_mem_nil⟩⟩⟩⟩⟩⟩⟩⟩⟩⟩⟩⟩⟩⟩⟩⟩
theorem lw_p32 : lw_okq (⟨"GreyDaysModel", "nextToken", "()V"⟩, 24) := ⟨⟨by decide +kernel, by decide +kernel⟩, List.mem_of_getElem? (i := 992) (by decide +kernel), List.mem_of_getElem? (i := 1120) (by decide +kernel), List.mem_of_getElem? (i := 1121) (by decide +kernel)⟩
theorem lw_p33 : lw_okq (⟨"GreyDaysModel", "isLetter", "(I)Z"⟩, 24) := ⟨⟨by decide +kernel, by decide +kernel⟩, List.mem_of_getElem? (i := 992) (by decide +kernel), List.mem_of_getElem? (i := 1129) (by decide +kernel), List.mem_of_getElem? (i := 1130) (by decide +kernel)⟩
theorem lw_p34 : lw_okq (⟨"GreyDaysModel", "must", "(Z)V"⟩, 24) := ⟨⟨by decide +kernel, by decide +kernel⟩, List.mem_of_getElem? (i := 992) (by decide +kernel), List.mem_of_getElem? (i := 1133) (by decide +kernel), List.mem_of_getElem? (i := 1134) (by decide +kernel)⟩
theorem lw_p35 : lw_okq (⟨"GreyDaysModel", "bad", "(I)V"⟩, 24) := ⟨⟨by decide +kernel, by decide +kernel⟩, List.mem_of_getElem? (i := 992) (by decide +kernel), List.mem_of_getElem? (i := 1137) (by decide +kernel), List.mem_of_getElem? (i := 1138) (by decide +kernel)⟩
theorem lw_p36 : lw_okq (⟨"GreyDaysModel", "number", "(II)I"⟩, 24) := ⟨⟨by decide +kernel, by decide +kernel⟩, List.mem_of_getElem? (i := 992) (by decide +kernel), List.mem_of_getElem? (i := 1141) (by decide +kernel), List.mem_of_getElem? (i := 1142) (by decide +kernel)⟩
theorem lw_p37 : lw_okq (⟨"GreyDaysModel", "mustSign", "(I)V"⟩, 24) := ⟨⟨by decide +kernel, by decide +kernel⟩, List.mem_of_getElem? (i := 992) (by decide +kernel), List.mem_of_getElem? (i := 1145) (by decide +kernel), List.mem_of_getElem? (i := 1146) (by decide +kernel)⟩
theorem lw_p38 : lw_okq (⟨"GreyDaysModel", "readThing", "()V"⟩, 24) := ⟨⟨by decide +kernel, by decide +kernel⟩, List.mem_of_getElem? (i := 992) (by decide +kernel), List.mem_of_getElem? (i := 1152) (by decide +kernel), List.mem_of_getElem? (i := 1153) (by decide +kernel)⟩
theorem lw_p39 : lw_okq (⟨"GreyDaysModel", "readPair", "()V"⟩, 24) := ⟨⟨by decide +kernel, by decide +kernel⟩, List.mem_of_getElem? (i := 992) (by decide +kernel), List.mem_of_getElem? (i := 1156) (by decide +kernel), List.mem_of_getElem? (i := 1157) (by decide +kernel)⟩
theorem lw_p40 : lw_okq (⟨"GreyDaysModel", "failed", "()Z"⟩, 24) := ⟨⟨by decide +kernel, by decide +kernel⟩, List.mem_of_getElem? (i := 992) (by decide +kernel), List.mem_of_getElem? (i := 1163) (by decide +kernel), List.mem_of_getElem? (i := 1164) (by decide +kernel)⟩
theorem lw_p41 : lw_okq (⟨"GreyDaysModel", "isThere", "()Z"⟩, 24) := ⟨⟨by decide +kernel, by decide +kernel⟩, List.mem_of_getElem? (i := 992) (by decide +kernel), List.mem_of_getElem? (i := 1172) (by decide +kernel), List.mem_of_getElem? (i := 1173) (by decide +kernel)⟩
theorem lw_p42 : lw_okq (⟨"GreyDaysModel", "keep", "()V"⟩, 24) := ⟨⟨by decide +kernel, by decide +kernel⟩, List.mem_of_getElem? (i := 992) (by decide +kernel), List.mem_of_getElem? (i := 1178) (by decide +kernel), List.mem_of_getElem? (i := 1179) (by decide +kernel)⟩
theorem lw_p43 : lw_okq (⟨"GreyDaysModel", "isThing", "(I)Z"⟩, 24) := ⟨⟨by decide +kernel, by decide +kernel⟩, List.mem_of_getElem? (i := 992) (by decide +kernel), List.mem_of_getElem? (i := 1186) (by decide +kernel), List.mem_of_getElem? (i := 1187) (by decide +kernel)⟩
theorem lw_p44 : lw_okq (⟨"GreyDaysModel", "of", "(II)I"⟩, 24) := ⟨⟨by decide +kernel, by decide +kernel⟩, List.mem_of_getElem? (i := 992) (by decide +kernel), List.mem_of_getElem? (i := 1191) (by decide +kernel), List.mem_of_getElem? (i := 1192) (by decide +kernel)⟩
theorem lw_p45 : lw_okq (⟨"GreyDaysModel", "missingOn", "(I)I"⟩, 24) := ⟨⟨by decide +kernel, by decide +kernel⟩, List.mem_of_getElem? (i := 992) (by decide +kernel), List.mem_of_getElem? (i := 1209) (by decide +kernel), List.mem_of_getElem? (i := 1210) (by decide +kernel)⟩
theorem lw_p46 : lw_okq (⟨"GreyDaysModel", "lookOf", "(II)I"⟩, 24) := ⟨⟨by decide +kernel, by decide +kernel⟩, List.mem_of_getElem? (i := 992) (by decide +kernel), List.mem_of_getElem? (i := 1216) (by decide +kernel), List.mem_of_getElem? (i := 1217) (by decide +kernel)⟩
theorem lw_p47 : lw_okq (⟨"GreyDaysModel", "areTwo", "(II)Z"⟩, 24) := ⟨⟨by decide +kernel, by decide +kernel⟩, List.mem_of_getElem? (i := 992) (by decide +kernel), List.mem_of_getElem? (i := 1231) (by decide +kernel), List.mem_of_getElem? (i := 1232) (by decide +kernel)⟩
def lw_privs_3 : List (MethodName × Nat) := [(⟨"GreyDaysModel", "nextToken", "()V"⟩, 24), (⟨"GreyDaysModel", "isLetter", "(I)Z"⟩, 24), (⟨"GreyDaysModel", "must", "(Z)V"⟩, 24), (⟨"GreyDaysModel", "bad", "(I)V"⟩, 24), (⟨"GreyDaysModel", "number", "(II)I"⟩, 24), (⟨"GreyDaysModel", "mustSign", "(I)V"⟩, 24), (⟨"GreyDaysModel", "readThing", "()V"⟩, 24), (⟨"GreyDaysModel", "readPair", "()V"⟩, 24), (⟨"GreyDaysModel", "failed", "()Z"⟩, 24), (⟨"GreyDaysModel", "isThere", "()Z"⟩, 24), (⟨"GreyDaysModel", "keep", "()V"⟩, 24), (⟨"GreyDaysModel", "isThing", "(I)Z"⟩, 24), (⟨"GreyDaysModel", "of", "(II)I"⟩, 24), (⟨"GreyDaysModel", "missingOn", "(I)I"⟩, 24), (⟨"GreyDaysModel", "lookOf", "(II)I"⟩, 24), (⟨"GreyDaysModel", "areTwo", "(II)Z"⟩, 24)]
theorem lw_r3 : ∀ q ∈ lw_privs_3, lw_okq q := List.forall_mem_cons.mpr ⟨lw_p32, List.forall_mem_cons.mpr ⟨lw_p33, List.forall_mem_cons.mpr ⟨lw_p34, List.forall_mem_cons.mpr ⟨lw_p35, List.forall_mem_cons.mpr ⟨lw_p36, List.forall_mem_cons.mpr ⟨lw_p37, List.forall_mem_cons.mpr ⟨lw_p38, List.forall_mem_cons.mpr ⟨lw_p39, List.forall_mem_cons.mpr ⟨lw_p40, List.forall_mem_cons.mpr ⟨lw_p41, List.forall_mem_cons.mpr ⟨lw_p42, List.forall_mem_cons.mpr ⟨lw_p43, List.forall_mem_cons.mpr ⟨lw_p44, List.forall_mem_cons.mpr ⟨lw_p45, List.forall_mem_cons.mpr ⟨lw_p46, List.forall_mem_cons.mpr ⟨lw_p47, fun _ h => absurd h List.not_mem_nil⟩⟩⟩⟩⟩⟩⟩⟩⟩⟩⟩⟩⟩⟩⟩⟩
theorem lw_p48 : lw_okq (⟨"GreyDaysModel", "areAlike", "(III)Z"⟩, 24) := ⟨⟨by decide +kernel, by decide +kernel⟩, List.mem_of_getElem? (i := 992) (by decide +kernel), List.mem_of_getElem? (i := 1247) (by decide +kernel), List.mem_of_getElem? (i := 1248) (by decide +kernel)⟩
theorem lw_p49 : lw_okq (⟨"GreyDaysModel", "likeBy", "(II)I"⟩, 24) := ⟨⟨by decide +kernel, by decide +kernel⟩, List.mem_of_getElem? (i := 992) (by decide +kernel), List.mem_of_getElem? (i := 1255) (by decide +kernel), List.mem_of_getElem? (i := 1256) (by decide +kernel)⟩
theorem lw_p50 : lw_okq (⟨"GreyDaysModel", "harmBy", "(I)I"⟩, 24) := ⟨⟨by decide +kernel, by decide +kernel⟩, List.mem_of_getElem? (i := 992) (by decide +kernel), List.mem_of_getElem? (i := 1267) (by decide +kernel), List.mem_of_getElem? (i := 1268) (by decide +kernel)⟩
theorem lw_p51 : lw_okq (⟨"GreyDaysModel", "harmsOf", "(I)I"⟩, 24) := ⟨⟨by decide +kernel, by decide +kernel⟩, List.mem_of_getElem? (i := 992) (by decide +kernel), List.mem_of_getElem? (i := 1275) (by decide +kernel), List.mem_of_getElem? (i := 1276) (by decide +kernel)⟩
theorem lw_p52 : lw_okq (⟨"GreyDaysModel", "areMixes", "(I)Z"⟩, 24) := ⟨⟨by decide +kernel, by decide +kernel⟩, List.mem_of_getElem? (i := 992) (by decide +kernel), List.mem_of_getElem? (i := 1292) (by decide +kernel), List.mem_of_getElem? (i := 1293) (by decide +kernel)⟩
theorem lw_p53 : lw_okq (⟨"GreyDaysModel", "areApart", "(II)Z"⟩, 24) := ⟨⟨by decide +kernel, by decide +kernel⟩, List.mem_of_getElem? (i := 992) (by decide +kernel), List.mem_of_getElem? (i := 1296) (by decide +kernel), List.mem_of_getElem? (i := 1297) (by decide +kernel)⟩
theorem lw_p54 : lw_okq (⟨"GreyDaysModel", "follow", "(III)I"⟩, 24) := ⟨⟨by decide +kernel, by decide +kernel⟩, List.mem_of_getElem? (i := 992) (by decide +kernel), List.mem_of_getElem? (i := 1312) (by decide +kernel), List.mem_of_getElem? (i := 1313) (by decide +kernel)⟩
theorem lw_p55 : lw_okq (⟨"GreyDaysModel", "toldBy", "(II)I"⟩, 24) := ⟨⟨by decide +kernel, by decide +kernel⟩, List.mem_of_getElem? (i := 992) (by decide +kernel), List.mem_of_getElem? (i := 1329) (by decide +kernel), List.mem_of_getElem? (i := 1330) (by decide +kernel)⟩
theorem lw_p56 : lw_okq (⟨"GreyDaysModel", "sizeOf", "(I)I"⟩, 24) := ⟨⟨by decide +kernel, by decide +kernel⟩, List.mem_of_getElem? (i := 992) (by decide +kernel), List.mem_of_getElem? (i := 1371) (by decide +kernel), List.mem_of_getElem? (i := 1372) (by decide +kernel)⟩
theorem lw_p57 : lw_okq (⟨"GreyDaysModel", "inkSize", "(I)I"⟩, 24) := ⟨⟨by decide +kernel, by decide +kernel⟩, List.mem_of_getElem? (i := 992) (by decide +kernel), List.mem_of_getElem? (i := 1375) (by decide +kernel), List.mem_of_getElem? (i := 1376) (by decide +kernel)⟩
theorem lw_p58 : lw_okq (⟨"GreyDaysModel", "began", "(I)V"⟩, 24) := ⟨⟨by decide +kernel, by decide +kernel⟩, List.mem_of_getElem? (i := 992) (by decide +kernel), List.mem_of_getElem? (i := 1379) (by decide +kernel), List.mem_of_getElem? (i := 1380) (by decide +kernel)⟩
theorem lw_p59 : lw_okq (⟨"GreyDaysModel", "plainSize", "(I)I"⟩, 24) := ⟨⟨by decide +kernel, by decide +kernel⟩, List.mem_of_getElem? (i := 992) (by decide +kernel), List.mem_of_getElem? (i := 1383) (by decide +kernel), List.mem_of_getElem? (i := 1384) (by decide +kernel)⟩
theorem lw_p60 : lw_okq (⟨"GreyDaysModel", "markOf", "(I)I"⟩, 24) := ⟨⟨by decide +kernel, by decide +kernel⟩, List.mem_of_getElem? (i := 992) (by decide +kernel), List.mem_of_getElem? (i := 1387) (by decide +kernel), List.mem_of_getElem? (i := 1388) (by decide +kernel)⟩
def lw_privs_4 : List (MethodName × Nat) := [(⟨"GreyDaysModel", "areAlike", "(III)Z"⟩, 24), (⟨"GreyDaysModel", "likeBy", "(II)I"⟩, 24), (⟨"GreyDaysModel", "harmBy", "(I)I"⟩, 24), (⟨"GreyDaysModel", "harmsOf", "(I)I"⟩, 24), (⟨"GreyDaysModel", "areMixes", "(I)Z"⟩, 24), (⟨"GreyDaysModel", "areApart", "(II)Z"⟩, 24), (⟨"GreyDaysModel", "follow", "(III)I"⟩, 24), (⟨"GreyDaysModel", "toldBy", "(II)I"⟩, 24), (⟨"GreyDaysModel", "sizeOf", "(I)I"⟩, 24), (⟨"GreyDaysModel", "inkSize", "(I)I"⟩, 24), (⟨"GreyDaysModel", "began", "(I)V"⟩, 24), (⟨"GreyDaysModel", "plainSize", "(I)I"⟩, 24), (⟨"GreyDaysModel", "markOf", "(I)I"⟩, 24)]
theorem lw_r4 : ∀ q ∈ lw_privs_4, lw_okq q := List.forall_mem_cons.mpr ⟨lw_p48, List.forall_mem_cons.mpr ⟨lw_p49, List.forall_mem_cons.mpr ⟨lw_p50, List.forall_mem_cons.mpr ⟨lw_p51, List.forall_mem_cons.mpr ⟨lw_p52, List.forall_mem_cons.mpr ⟨lw_p53, List.forall_mem_cons.mpr ⟨lw_p54, List.forall_mem_cons.mpr ⟨lw_p55, List.forall_mem_cons.mpr ⟨lw_p56, List.forall_mem_cons.mpr ⟨lw_p57, List.forall_mem_cons.mpr ⟨lw_p58, List.forall_mem_cons.mpr ⟨lw_p59, List.forall_mem_cons.mpr ⟨lw_p60, fun _ h => absurd h List.not_mem_nil⟩⟩⟩⟩⟩⟩⟩⟩⟩⟩⟩⟩⟩
def lw_privs : List (MethodName × Nat) := lw_privs_1 ++ (lw_privs_2 ++ (lw_privs_3 ++ (lw_privs_4)))
def lw_tbl : List Cond := k2_sels lw_privs ++ tables_1
theorem lw_privs_ok : ∀ q ∈ lw_privs, lw_okq q := by
  show ∀ q ∈ lw_privs_1 ++ (lw_privs_2 ++ (lw_privs_3 ++ (lw_privs_4))), lw_okq q
  exact List.forall_mem_append.mpr ⟨lw_r1, List.forall_mem_append.mpr ⟨lw_r2, List.forall_mem_append.mpr ⟨lw_r3, lw_r4⟩⟩⟩

def RX0 : String := "GreyDays$Asking"
def TX0 : u_T := fun k => match k with
  | 0 => ("GreyDays$Asking", "bodies", "[I", true)
  | 1 => ("GreyDays$Asking", "begun", "I", false)
  | _ => ("GreyDays$Asking", "missingToday", "I", false)
def tyX0 : Nat → FieldType := fun k => match k with
  | 0 => .array .int
  | 1 => .int
  | _ => .int
abbrev wsX00 : List Cond := u_ws RX0 TX0 3
theorem nmX0 : ∀ a, a < 3 → ∀ b, b < 3 → a ≠ b → (TX0 a).2.1 ≠ (TX0 b).2.1 := by decide +kernel
theorem tyX0_ok : ∀ k, k < 3 → parseFieldDescriptor (TX0 k).2.2.1 = some (tyX0 k) := by decide +kernel
abbrev cX0_init : ByteArray := prog_2_method_1_code
def yX0_init : MethodName := ⟨RX0, "<init>", "()V"⟩
abbrev cX0_start : ByteArray := prog_2_method_2_code
def yX0_start : MethodName := ⟨RX0, "start", "(I)V"⟩
abbrev cX0_begin : ByteArray := prog_2_method_3_code
def yX0_begin : MethodName := ⟨RX0, "begin", "(I)V"⟩
abbrev cX0_missingToday : ByteArray := prog_2_method_4_code
def yX0_missingToday : MethodName := ⟨RX0, "missingToday", "()I"⟩
abbrev cX0_left : ByteArray := prog_2_method_5_code
def yX0_left : MethodName := ⟨RX0, "left", "(I)I"⟩
def RX1 : String := "GreyDays$Dyed"
def TX1 : u_T := fun k => match k with
  | 0 => ("GreyDays$Thing", "number", "I", true)
  | 1 => ("GreyDays$Thing", "shape", "I", true)
  | _ => ("GreyDays$Thing", "mix", "I", false)
def tyX1 : Nat → FieldType := fun k => match k with
  | 0 => .int
  | 1 => .int
  | _ => .int
abbrev wsX10 : List Cond := u_ws RX1 TX1 3
theorem nmX1 : ∀ a, a < 3 → ∀ b, b < 3 → a ≠ b → (TX1 a).2.1 ≠ (TX1 b).2.1 := by decide +kernel
theorem tyX1_ok : ∀ k, k < 3 → parseFieldDescriptor (TX1 k).2.2.1 = some (tyX1 k) := by decide +kernel
abbrev cX1_init : ByteArray := prog_3_method_1_code
def yX1_init : MethodName := ⟨RX1, "<init>", "(III)V"⟩
abbrev cX1_kindTold : ByteArray := prog_3_method_2_code
def yX1_kindTold : MethodName := ⟨RX1, "kindTold", "()I"⟩
abbrev cX1_lookOf : ByteArray := prog_3_method_3_code
def yX1_lookOf : MethodName := ⟨RX1, "lookOf", "(II)I"⟩
abbrev cX1_sizeAsked : ByteArray := prog_3_method_4_code
def yX1_sizeAsked : MethodName := ⟨RX1, "sizeAsked", "(LGreyDays$Asking;)I"⟩
abbrev cX1_markAsked : ByteArray := prog_3_method_5_code
def yX1_markAsked : MethodName := ⟨RX1, "markAsked", "(LGreyDays$Asking;)I"⟩
def RX2 : String := "GreyDays$Faded"
def TX2 : u_T := fun k => match k with
  | 0 => ("GreyDays$Thing", "number", "I", true)
  | 1 => ("GreyDays$Thing", "shape", "I", true)
  | _ => ("GreyDays$Thing", "mix", "I", false)
def tyX2 : Nat → FieldType := fun k => match k with
  | 0 => .int
  | 1 => .int
  | _ => .int
abbrev wsX20 : List Cond := u_ws RX2 TX2 3
theorem nmX2 : ∀ a, a < 3 → ∀ b, b < 3 → a ≠ b → (TX2 a).2.1 ≠ (TX2 b).2.1 := by decide +kernel
theorem tyX2_ok : ∀ k, k < 3 → parseFieldDescriptor (TX2 k).2.2.1 = some (tyX2 k) := by decide +kernel
abbrev cX2_init : ByteArray := prog_4_method_1_code
def yX2_init : MethodName := ⟨RX2, "<init>", "(III)V"⟩
abbrev cX2_kindTold : ByteArray := prog_4_method_2_code
def yX2_kindTold : MethodName := ⟨RX2, "kindTold", "()I"⟩
abbrev cX2_lookOf : ByteArray := prog_4_method_3_code
def yX2_lookOf : MethodName := ⟨RX2, "lookOf", "(II)I"⟩
abbrev cX2_sizeAsked : ByteArray := prog_4_method_4_code
def yX2_sizeAsked : MethodName := ⟨RX2, "sizeAsked", "(LGreyDays$Asking;)I"⟩
def RX3 : String := "GreyDays$Foretold"
def TX3 : u_T := fun k => match k with
  | 0 => ("GreyDays$Foretold", "looksThen", "[I", true)
  | 1 => ("GreyDays$Foretold", "dyeRow", "[I", true)
  | _ => ("GreyDays$Foretold", "endings", "[I", true)
def tyX3 : Nat → FieldType := fun k => match k with
  | 0 => .array .int
  | 1 => .array .int
  | _ => .array .int
abbrev wsX30 : List Cond := u_ws RX3 TX3 3
theorem nmX3 : ∀ a, a < 3 → ∀ b, b < 3 → a ≠ b → (TX3 a).2.1 ≠ (TX3 b).2.1 := by decide +kernel
theorem tyX3_ok : ∀ k, k < 3 → parseFieldDescriptor (TX3 k).2.2.1 = some (tyX3 k) := by decide +kernel
abbrev cX3_init : ByteArray := prog_5_method_1_code
def yX3_init : MethodName := ⟨RX3, "<init>", "()V"⟩
abbrev cX3_lookAt : ByteArray := prog_5_method_2_code
def yX3_lookAt : MethodName := ⟨RX3, "lookAt", "(LGreyDays$Town;I)V"⟩
abbrev cX3_alikeWith : ByteArray := prog_5_method_3_code
def yX3_alikeWith : MethodName := ⟨RX3, "alikeWith", "(LGreyDays$Town;II)I"⟩
abbrev cX3_unlikeLooks : ByteArray := prog_5_method_4_code
def yX3_unlikeLooks : MethodName := ⟨RX3, "unlikeLooks", "(LGreyDays$Town;I)I"⟩
abbrev cX3_harmOfDays : ByteArray := prog_5_method_5_code
def yX3_harmOfDays : MethodName := ⟨RX3, "harmOfDays", "(LGreyDays$Town;I)I"⟩
abbrev cX3_clearDays : ByteArray := prog_5_method_6_code
def yX3_clearDays : MethodName := ⟨RX3, "clearDays", "(LGreyDays$Town;)I"⟩
abbrev cX3_worstDay : ByteArray := prog_5_method_7_code
def yX3_worstDay : MethodName := ⟨RX3, "worstDay", "(LGreyDays$Town;)I"⟩
abbrev cX3_leastHarmPaint : ByteArray := prog_5_method_8_code
def yX3_leastHarmPaint : MethodName := ⟨RX3, "leastHarmPaint", "(LGreyDays$Town;I)I"⟩
abbrev cX3_weekHarmWith : ByteArray := prog_5_method_9_code
def yX3_weekHarmWith : MethodName := ⟨RX3, "weekHarmWith", "(LGreyDays$Town;II)I"⟩
abbrev cX3_daysAlike : ByteArray := prog_5_method_10_code
def yX3_daysAlike : MethodName := ⟨RX3, "daysAlike", "(LGreyDays$Town;III)I"⟩
abbrev cX3_countDyePairs : ByteArray := prog_5_method_11_code
def yX3_countDyePairs : MethodName := ⟨RX3, "countDyePairs", "(LGreyDays$Town;)I"⟩
abbrev cX3_dyeOfFirstRow : ByteArray := prog_5_method_12_code
def yX3_dyeOfFirstRow : MethodName := ⟨RX3, "dyeOfFirstRow", "(LGreyDays$Town;II)I"⟩
abbrev cX3_fillDyes : ByteArray := prog_5_method_13_code
def yX3_fillDyes : MethodName := ⟨RX3, "fillDyes", "(LGreyDays$Town;II)Z"⟩
abbrev cX3_isApartFromRow : ByteArray := prog_5_method_14_code
def yX3_isApartFromRow : MethodName := ⟨RX3, "isApartFromRow", "(LGreyDays$Town;II)Z"⟩
abbrev cX3_areApart : ByteArray := prog_5_method_15_code
def yX3_areApart : MethodName := ⟨RX3, "areApart", "(LGreyDays$Town;II)Z"⟩
abbrev cX3_bestHiding : ByteArray := prog_5_method_16_code
def yX3_bestHiding : MethodName := ⟨RX3, "bestHiding", "(LGreyDays$Town;I)I"⟩
abbrev cX3_weekdaysSeen : ByteArray := prog_5_method_17_code
def yX3_weekdaysSeen : MethodName := ⟨RX3, "weekdaysSeen", "(LGreyDays$Town;LGreyDays$Rows;II)I"⟩
abbrev cX3_countOrders : ByteArray := prog_5_method_18_code
def yX3_countOrders : MethodName := ⟨RX3, "countOrders", "(LGreyDays$Town;I)I"⟩
abbrev cX3_placeOfFirstOrder : ByteArray := prog_5_method_19_code
def yX3_placeOfFirstOrder : MethodName := ⟨RX3, "placeOfFirstOrder", "(LGreyDays$Town;II)I"⟩
abbrev cX3_countEndings : ByteArray := prog_5_method_20_code
def yX3_countEndings : MethodName := ⟨RX3, "countEndings", "(LGreyDays$Town;I)V"⟩
abbrev cX3_waysOn : ByteArray := prog_5_method_21_code
def yX3_waysOn : MethodName := ⟨RX3, "waysOn", "(LGreyDays$Town;II)I"⟩
abbrev cX3_nextOnShelf : ByteArray := prog_5_method_22_code
def yX3_nextOnShelf : MethodName := ⟨RX3, "nextOnShelf", "(LGreyDays$Town;II)I"⟩
abbrev cX3_canFollow : ByteArray := prog_5_method_23_code
def yX3_canFollow : MethodName := ⟨RX3, "canFollow", "(III)Z"⟩
abbrev cX3_placeOfEnding : ByteArray := prog_5_method_24_code
def yX3_placeOfEnding : MethodName := ⟨RX3, "placeOfEnding", "(II)I"⟩
abbrev cX3_countParting : ByteArray := prog_5_method_25_code
def yX3_countParting : MethodName := ⟨RX3, "countParting", "(LGreyDays$Town;II)I"⟩
abbrev cX3_firstParting : ByteArray := prog_5_method_26_code
def yX3_firstParting : MethodName := ⟨RX3, "firstParting", "(LGreyDays$Town;II)I"⟩
abbrev cX3_partsBy : ByteArray := prog_5_method_27_code
def yX3_partsBy : MethodName := ⟨RX3, "partsBy", "(LGreyDays$Town;IIII)Z"⟩
abbrev cX3_fewestMissing : ByteArray := prog_5_method_28_code
def yX3_fewestMissing : MethodName := ⟨RX3, "fewestMissing", "(LGreyDays$Town;II)I"⟩
abbrev cX3_bestTest : ByteArray := prog_5_method_29_code
def yX3_bestTest : MethodName := ⟨RX3, "bestTest", "(LGreyDays$Town;IIII)I"⟩
abbrev cX3_countTold : ByteArray := prog_5_method_30_code
def yX3_countTold : MethodName := ⟨RX3, "countTold", "(LGreyDays$Town;ZZ)I"⟩
abbrev cX3_isTold : ByteArray := prog_5_method_31_code
def yX3_isTold : MethodName := ⟨RX3, "isTold", "(LGreyDays$Town;IZZ)Z"⟩
abbrev cX3_likelihood : ByteArray := prog_5_method_32_code
def yX3_likelihood : MethodName := ⟨RX3, "likelihood", "(III)J"⟩
abbrev cX3_ways : ByteArray := prog_5_method_33_code
def yX3_ways : MethodName := ⟨RX3, "ways", "(II)J"⟩
abbrev cX3_power : ByteArray := prog_5_method_34_code
def yX3_power : MethodName := ⟨RX3, "power", "(JI)J"⟩
abbrev cX3_greatestShared : ByteArray := prog_5_method_35_code
def yX3_greatestShared : MethodName := ⟨RX3, "greatestShared", "(JJ)J"⟩
abbrev cX3_drawnYear : ByteArray := prog_5_method_36_code
def yX3_drawnYear : MethodName := ⟨RX3, "drawnYear", "(LGreyDays$Town;III)I"⟩
def RX4 : String := "GreyDays$Ink"
def TX4 : u_T := fun k => match k with
  | 0 => ("GreyDays$Thing", "number", "I", true)
  | 1 => ("GreyDays$Thing", "shape", "I", true)
  | _ => ("GreyDays$Thing", "mix", "I", false)
def tyX4 : Nat → FieldType := fun k => match k with
  | 0 => .int
  | 1 => .int
  | _ => .int
abbrev wsX40 : List Cond := u_ws RX4 TX4 3
theorem nmX4 : ∀ a, a < 3 → ∀ b, b < 3 → a ≠ b → (TX4 a).2.1 ≠ (TX4 b).2.1 := by decide +kernel
theorem tyX4_ok : ∀ k, k < 3 → parseFieldDescriptor (TX4 k).2.2.1 = some (tyX4 k) := by decide +kernel
abbrev cX4_init : ByteArray := prog_6_method_1_code
def yX4_init : MethodName := ⟨RX4, "<init>", "(III)V"⟩
abbrev cX4_kindTold : ByteArray := prog_6_method_2_code
def yX4_kindTold : MethodName := ⟨RX4, "kindTold", "()I"⟩
abbrev cX4_lookOf : ByteArray := prog_6_method_3_code
def yX4_lookOf : MethodName := ⟨RX4, "lookOf", "(II)I"⟩
abbrev cX4_sizeAsked : ByteArray := prog_6_method_4_code
def yX4_sizeAsked : MethodName := ⟨RX4, "sizeAsked", "(LGreyDays$Asking;)I"⟩
abbrev cX4_markAsked : ByteArray := prog_6_method_5_code
def yX4_markAsked : MethodName := ⟨RX4, "markAsked", "(LGreyDays$Asking;)I"⟩
def RX5 : String := "GreyDays$Rows"
def TX5 : u_T := fun k => match k with
  | 0 => ("GreyDays$Rows", "items", "[[I", true)
  | 1 => ("GreyDays$Rows", "lanes", "[I", true)
  | _ => ("GreyDays$Rows", "lengths", "[I", true)
def tyX5 : Nat → FieldType := fun k => match k with
  | 0 => .array (.array .int)
  | 1 => .array .int
  | _ => .array .int
abbrev wsX50 : List Cond := u_ws RX5 TX5 3
theorem nmX5 : ∀ a, a < 3 → ∀ b, b < 3 → a ≠ b → (TX5 a).2.1 ≠ (TX5 b).2.1 := by decide +kernel
theorem tyX5_ok : ∀ k, k < 3 → parseFieldDescriptor (TX5 k).2.2.1 = some (tyX5 k) := by decide +kernel
abbrev cX5_init : ByteArray := prog_7_method_1_code
def yX5_init : MethodName := ⟨RX5, "<init>", "()V"⟩
abbrev cX5_isNumber : ByteArray := prog_7_method_2_code
def yX5_isNumber : MethodName := ⟨RX5, "isNumber", "(I)Z"⟩
abbrev cX5_isThere : ByteArray := prog_7_method_3_code
def yX5_isThere : MethodName := ⟨RX5, "isThere", "(I)Z"⟩
abbrev cX5_haveOneLane : ByteArray := prog_7_method_4_code
def yX5_haveOneLane : MethodName := ⟨RX5, "haveOneLane", "(II)Z"⟩
abbrev cX5_hasPlaces : ByteArray := prog_7_method_5_code
def yX5_hasPlaces : MethodName := ⟨RX5, "hasPlaces", "(III)Z"⟩
abbrev cX5_make : ByteArray := prog_7_method_6_code
def yX5_make : MethodName := ⟨RX5, "make", "(III)V"⟩
abbrev cX5_put : ByteArray := prog_7_method_7_code
def yX5_put : MethodName := ⟨RX5, "put", "(III)I"⟩
abbrev cX5_itemAt : ByteArray := prog_7_method_8_code
def yX5_itemAt : MethodName := ⟨RX5, "itemAt", "(II)I"⟩
abbrev cX5_move : ByteArray := prog_7_method_9_code
def yX5_move : MethodName := ⟨RX5, "move", "(IIIII)V"⟩
abbrev cX5_remove : ByteArray := prog_7_method_10_code
def yX5_remove : MethodName := ⟨RX5, "remove", "(I)I"⟩
abbrev cX5_present : ByteArray := prog_7_method_11_code
def yX5_present : MethodName := ⟨RX5, "present", "()I"⟩
abbrev cX5_cut : ByteArray := prog_7_method_12_code
def yX5_cut : MethodName := ⟨RX5, "cut", "(II)I"⟩
def RX6 : String := "GreyDays$Shining"
def TX6 : u_T := fun k => match k with
  | 0 => ("GreyDays$Thing", "number", "I", true)
  | 1 => ("GreyDays$Thing", "shape", "I", true)
  | _ => ("GreyDays$Thing", "mix", "I", false)
def tyX6 : Nat → FieldType := fun k => match k with
  | 0 => .int
  | 1 => .int
  | _ => .int
abbrev wsX60 : List Cond := u_ws RX6 TX6 3
theorem nmX6 : ∀ a, a < 3 → ∀ b, b < 3 → a ≠ b → (TX6 a).2.1 ≠ (TX6 b).2.1 := by decide +kernel
theorem tyX6_ok : ∀ k, k < 3 → parseFieldDescriptor (TX6 k).2.2.1 = some (tyX6 k) := by decide +kernel
abbrev cX6_init : ByteArray := prog_8_method_1_code
def yX6_init : MethodName := ⟨RX6, "<init>", "(III)V"⟩
abbrev cX6_kindTold : ByteArray := prog_8_method_2_code
def yX6_kindTold : MethodName := ⟨RX6, "kindTold", "()I"⟩
abbrev cX6_lookOf : ByteArray := prog_8_method_3_code
def yX6_lookOf : MethodName := ⟨RX6, "lookOf", "(II)I"⟩
abbrev cX6_markAsked : ByteArray := prog_8_method_4_code
def yX6_markAsked : MethodName := ⟨RX6, "markAsked", "(LGreyDays$Asking;)I"⟩
def RX7 : String := "GreyDays$Tape"
def TX7 : u_T := fun k => match k with
  | 0 => ("GreyDays$Tape", "bytes", "[I", true)
  | 1 => ("GreyDays$Tape", "length", "I", false)
  | 2 => ("GreyDays$Tape", "place", "I", false)
  | 3 => ("GreyDays$Tape", "faultNumber", "I", false)
  | _ => ("GreyDays$Tape", "faultPlace", "I", false)
def tyX7 : Nat → FieldType := fun k => match k with
  | 0 => .array .int
  | 1 => .int
  | 2 => .int
  | 3 => .int
  | _ => .int
abbrev wsX70 : List Cond := u_ws RX7 TX7 5
theorem nmX7 : ∀ a, a < 5 → ∀ b, b < 5 → a ≠ b → (TX7 a).2.1 ≠ (TX7 b).2.1 := by decide +kernel
theorem tyX7_ok : ∀ k, k < 5 → parseFieldDescriptor (TX7 k).2.2.1 = some (tyX7 k) := by decide +kernel
abbrev cX7_init : ByteArray := prog_9_method_1_code
def yX7_init : MethodName := ⟨RX7, "<init>", "()V"⟩
abbrev cX7_put : ByteArray := prog_9_method_2_code
def yX7_put : MethodName := ⟨RX7, "put", "(I)Z"⟩
abbrev cX7_length : ByteArray := prog_9_method_3_code
def yX7_length : MethodName := ⟨RX7, "length", "()I"⟩
abbrev cX7_faultNumber : ByteArray := prog_9_method_4_code
def yX7_faultNumber : MethodName := ⟨RX7, "faultNumber", "()I"⟩
abbrev cX7_faultPlace : ByteArray := prog_9_method_5_code
def yX7_faultPlace : MethodName := ⟨RX7, "faultPlace", "()I"⟩
abbrev cX7_read : ByteArray := prog_9_method_6_code
def yX7_read : MethodName := ⟨RX7, "read", "()LGreyDays$Town;"⟩
abbrev cX7_readLaw : ByteArray := prog_9_method_7_code
def yX7_readLaw : MethodName := ⟨RX7, "readLaw", "(LGreyDays$Town;)V"⟩
abbrev cX7_readThings : ByteArray := prog_9_method_8_code
def yX7_readThings : MethodName := ⟨RX7, "readThings", "(LGreyDays$Town;)V"⟩
abbrev cX7_readThing : ByteArray := prog_9_method_9_code
def yX7_readThing : MethodName := ⟨RX7, "readThing", "(LGreyDays$Town;I)V"⟩
abbrev cX7_readPairs : ByteArray := prog_9_method_10_code
def yX7_readPairs : MethodName := ⟨RX7, "readPairs", "(LGreyDays$Town;)V"⟩
abbrev cX7_readPair : ByteArray := prog_9_method_11_code
def yX7_readPair : MethodName := ⟨RX7, "readPair", "(LGreyDays$Town;)V"⟩
abbrev cX7_takeByte : ByteArray := prog_9_method_12_code
def yX7_takeByte : MethodName := ⟨RX7, "takeByte", "(I)V"⟩
abbrev cX7_takeNumber : ByteArray := prog_9_method_13_code
def yX7_takeNumber : MethodName := ⟨RX7, "takeNumber", "(II)I"⟩
abbrev cX7_figuresHere : ByteArray := prog_9_method_14_code
def yX7_figuresHere : MethodName := ⟨RX7, "figuresHere", "()I"⟩
abbrev cX7_byteHere : ByteArray := prog_9_method_15_code
def yX7_byteHere : MethodName := ⟨RX7, "byteHere", "()I"⟩
abbrev cX7_isSound : ByteArray := prog_9_method_16_code
def yX7_isSound : MethodName := ⟨RX7, "isSound", "()Z"⟩
abbrev cX7_faultAt : ByteArray := prog_9_method_17_code
def yX7_faultAt : MethodName := ⟨RX7, "faultAt", "(II)V"⟩
abbrev cX7_kindOfSort : ByteArray := prog_9_method_18_code
def yX7_kindOfSort : MethodName := ⟨RX7, "kindOfSort", "(I)I"⟩
def RX8 : String := "GreyDays$Thing"
def TX8 : u_T := fun k => match k with
  | _ => ("", "", "", false)
def tyX8 : Nat → FieldType := fun k => match k with
  | _ => .int
abbrev wsX80 : List Cond := u_ws RX8 TX8 0
theorem nmX8 : ∀ a, a < 0 → ∀ b, b < 0 → a ≠ b → (TX8 a).2.1 ≠ (TX8 b).2.1 := by decide +kernel
theorem tyX8_ok : ∀ k, k < 0 → parseFieldDescriptor (TX8 k).2.2.1 = some (tyX8 k) := by decide +kernel
abbrev cX8_init : ByteArray := prog_10_method_1_code
def yX8_init : MethodName := ⟨RX8, "<init>", "(III)V"⟩
abbrev cX8_takesPaint : ByteArray := prog_10_method_4_code
def yX8_takesPaint : MethodName := ⟨RX8, "takesPaint", "()Z"⟩
abbrev cX8_mixed : ByteArray := prog_10_method_5_code
def yX8_mixed : MethodName := ⟨RX8, "mixed", "()I"⟩
abbrev cX8_shaped : ByteArray := prog_10_method_6_code
def yX8_shaped : MethodName := ⟨RX8, "shaped", "()I"⟩
abbrev cX8_mixAnew : ByteArray := prog_10_method_7_code
def yX8_mixAnew : MethodName := ⟨RX8, "mixAnew", "(I)V"⟩
abbrev cX8_lookWithout : ByteArray := prog_10_method_8_code
def yX8_lookWithout : MethodName := ⟨RX8, "lookWithout", "(I)I"⟩
abbrev cX8_sizeAsked : ByteArray := prog_10_method_9_code
def yX8_sizeAsked : MethodName := ⟨RX8, "sizeAsked", "(LGreyDays$Asking;)I"⟩
abbrev cX8_markAsked : ByteArray := prog_10_method_10_code
def yX8_markAsked : MethodName := ⟨RX8, "markAsked", "(LGreyDays$Asking;)I"⟩
def RX9 : String := "GreyDays$Town"
def TX9 : u_T := fun k => match k with
  | 0 => ("GreyDays$Town", "colours", "[I", true)
  | 1 => ("GreyDays$Town", "things", "[LGreyDays$Thing;", true)
  | 2 => ("GreyDays$Town", "thingCount", "I", false)
  | 3 => ("GreyDays$Town", "firsts", "[I", true)
  | 4 => ("GreyDays$Town", "seconds", "[I", true)
  | 5 => ("GreyDays$Town", "harms", "[I", true)
  | 6 => ("GreyDays$Town", "pairCount", "I", false)
  | 7 => ("GreyDays$Town", "day", "I", false)
  | 8 => ("GreyDays$Town", "actSorts", "[I", true)
  | 9 => ("GreyDays$Town", "actPlaces", "[I", true)
  | 10 => ("GreyDays$Town", "actBefores", "[I", true)
  | _ => ("GreyDays$Town", "actCount", "I", false)
def tyX9 : Nat → FieldType := fun k => match k with
  | 0 => .array .int
  | 1 => .array (.object "GreyDays$Thing")
  | 2 => .int
  | 3 => .array .int
  | 4 => .array .int
  | 5 => .array .int
  | 6 => .int
  | 7 => .int
  | 8 => .array .int
  | 9 => .array .int
  | 10 => .array .int
  | _ => .int
abbrev wsX90 : List Cond := u_ws RX9 TX9 12
theorem nmX9 : ∀ a, a < 12 → ∀ b, b < 12 → a ≠ b → (TX9 a).2.1 ≠ (TX9 b).2.1 := by decide +kernel
theorem tyX9_ok : ∀ k, k < 12 → parseFieldDescriptor (TX9 k).2.2.1 = some (tyX9 k) := by decide +kernel
abbrev cX9_init : ByteArray := prog_11_method_1_code
def yX9_init : MethodName := ⟨RX9, "<init>", "()V"⟩
abbrev cX9_duplicate : ByteArray := prog_11_method_2_code
def yX9_duplicate : MethodName := ⟨RX9, "duplicate", "()LGreyDays$Town;"⟩
abbrev cX9_setColourOn : ByteArray := prog_11_method_3_code
def yX9_setColourOn : MethodName := ⟨RX9, "setColourOn", "(II)V"⟩
abbrev cX9_addThing : ByteArray := prog_11_method_4_code
def yX9_addThing : MethodName := ⟨RX9, "addThing", "(III)V"⟩
abbrev cX9_addPair : ByteArray := prog_11_method_5_code
def yX9_addPair : MethodName := ⟨RX9, "addPair", "(III)V"⟩
abbrev cX9_newThing : ByteArray := prog_11_method_6_code
def yX9_newThing : MethodName := ⟨RX9, "newThing", "(IIII)LGreyDays$Thing;"⟩
abbrev cX9_hasThing : ByteArray := prog_11_method_7_code
def yX9_hasThing : MethodName := ⟨RX9, "hasThing", "(I)Z"⟩
abbrev cX9_thingAt : ByteArray := prog_11_method_8_code
def yX9_thingAt : MethodName := ⟨RX9, "thingAt", "(I)LGreyDays$Thing;"⟩
abbrev cX9_thingCount : ByteArray := prog_11_method_9_code
def yX9_thingCount : MethodName := ⟨RX9, "thingCount", "()I"⟩
abbrev cX9_pairCount : ByteArray := prog_11_method_10_code
def yX9_pairCount : MethodName := ⟨RX9, "pairCount", "()I"⟩
abbrev cX9_actCount : ByteArray := prog_11_method_11_code
def yX9_actCount : MethodName := ⟨RX9, "actCount", "()I"⟩
abbrev cX9_today : ByteArray := prog_11_method_12_code
def yX9_today : MethodName := ⟨RX9, "today", "()I"⟩
abbrev cX9_colourOn : ByteArray := prog_11_method_13_code
def yX9_colourOn : MethodName := ⟨RX9, "colourOn", "(I)I"⟩
abbrev cX9_missingIn : ByteArray := prog_11_method_14_code
def yX9_missingIn : MethodName := ⟨RX9, "missingIn", "(I)I"⟩
abbrev cX9_missingOn : ByteArray := prog_11_method_15_code
def yX9_missingOn : MethodName := ⟨RX9, "missingOn", "(I)I"⟩
abbrev cX9_setOf : ByteArray := prog_11_method_16_code
def yX9_setOf : MethodName := ⟨RX9, "setOf", "(I)I"⟩
abbrev cX9_areAlike : ByteArray := prog_11_method_17_code
def yX9_areAlike : MethodName := ⟨RX9, "areAlike", "(III)Z"⟩
abbrev cX9_harmWithout : ByteArray := prog_11_method_18_code
def yX9_harmWithout : MethodName := ⟨RX9, "harmWithout", "(I)I"⟩
abbrev cX9_harmOfPair : ByteArray := prog_11_method_19_code
def yX9_harmOfPair : MethodName := ⟨RX9, "harmOfPair", "(II)I"⟩
abbrev cX9_harmOfPairsWith : ByteArray := prog_11_method_20_code
def yX9_harmOfPairsWith : MethodName := ⟨RX9, "harmOfPairsWith", "(I)I"⟩
abbrev cX9_isOfPair : ByteArray := prog_11_method_21_code
def yX9_isOfPair : MethodName := ⟨RX9, "isOfPair", "(II)Z"⟩
abbrev cX9_passDays : ByteArray := prog_11_method_22_code
def yX9_passDays : MethodName := ⟨RX9, "passDays", "(I)V"⟩
abbrev cX9_repaint : ByteArray := prog_11_method_23_code
def yX9_repaint : MethodName := ⟨RX9, "repaint", "(II)I"⟩
abbrev cX9_changeWeek : ByteArray := prog_11_method_24_code
def yX9_changeWeek : MethodName := ⟨RX9, "changeWeek", "(II)I"⟩
abbrev cX9_keepAct : ByteArray := prog_11_method_25_code
def yX9_keepAct : MethodName := ⟨RX9, "keepAct", "(III)V"⟩
abbrev cX9_forgetOldestAct : ByteArray := prog_11_method_26_code
def yX9_forgetOldestAct : MethodName := ⟨RX9, "forgetOldestAct", "()V"⟩
abbrev cX9_undoLatest : ByteArray := prog_11_method_27_code
def yX9_undoLatest : MethodName := ⟨RX9, "undoLatest", "()V"⟩
def RX10 : String := "GreyDays$Twin"
def TX10 : u_T := fun k => match k with
  | 0 => ("GreyDays$Thing", "number", "I", true)
  | 1 => ("GreyDays$Thing", "shape", "I", true)
  | _ => ("GreyDays$Thing", "mix", "I", false)
def tyX10 : Nat → FieldType := fun k => match k with
  | 0 => .int
  | 1 => .int
  | _ => .int
abbrev wsX100 : List Cond := u_ws RX10 TX10 3
theorem nmX10 : ∀ a, a < 3 → ∀ b, b < 3 → a ≠ b → (TX10 a).2.1 ≠ (TX10 b).2.1 := by decide +kernel
theorem tyX10_ok : ∀ k, k < 3 → parseFieldDescriptor (TX10 k).2.2.1 = some (tyX10 k) := by decide +kernel
abbrev cX10_init : ByteArray := prog_12_method_1_code
def yX10_init : MethodName := ⟨RX10, "<init>", "(III)V"⟩
abbrev cX10_kindTold : ByteArray := prog_12_method_2_code
def yX10_kindTold : MethodName := ⟨RX10, "kindTold", "()I"⟩
abbrev cX10_lookOf : ByteArray := prog_12_method_3_code
def yX10_lookOf : MethodName := ⟨RX10, "lookOf", "(II)I"⟩
abbrev cX10_sizeAsked : ByteArray := prog_12_method_4_code
def yX10_sizeAsked : MethodName := ⟨RX10, "sizeAsked", "(LGreyDays$Asking;)I"⟩
abbrev cX10_markAsked : ByteArray := prog_12_method_5_code
def yX10_markAsked : MethodName := ⟨RX10, "markAsked", "(LGreyDays$Asking;)I"⟩
def RX11 : String := "GreyDays"
def TX11 : u_T := fun k => match k with
  | 0 => ("GreyDays", "rows", "LGreyDays$Rows;", true)
  | 1 => ("GreyDays", "tape", "LGreyDays$Tape;", true)
  | 2 => ("GreyDays", "foretold", "LGreyDays$Foretold;", true)
  | 3 => ("GreyDays", "asking", "LGreyDays$Asking;", true)
  | 4 => ("GreyDays", "images", "[LGreyDays$Town;", true)
  | 5 => ("GreyDays", "present", "LGreyDays$Town;", false)
  | 6 => ("GreyDays", "latestFault", "I", false)
  | _ => ("GreyDays", "latestFinding", "I", false)
def tyX11 : Nat → FieldType := fun k => match k with
  | 0 => .object "GreyDays$Rows"
  | 1 => .object "GreyDays$Tape"
  | 2 => .object "GreyDays$Foretold"
  | 3 => .object "GreyDays$Asking"
  | 4 => .array (.object "GreyDays$Town")
  | 5 => .object "GreyDays$Town"
  | 6 => .int
  | _ => .int
abbrev wsX110 : List Cond := u_ws RX11 TX11 8
theorem nmX11 : ∀ a, a < 8 → ∀ b, b < 8 → a ≠ b → (TX11 a).2.1 ≠ (TX11 b).2.1 := by decide +kernel
theorem tyX11_ok : ∀ k, k < 8 → parseFieldDescriptor (TX11 k).2.2.1 = some (tyX11 k) := by decide +kernel
abbrev cX11_init : ByteArray := prog_1_method_1_code
def yX11_init : MethodName := ⟨RX11, "<init>", "()V"⟩
abbrev cX11_row : ByteArray := prog_1_method_2_code
def yX11_row : MethodName := ⟨RX11, "row", "(III)I"⟩
abbrev cX11_set : ByteArray := prog_1_method_3_code
def yX11_set : MethodName := ⟨RX11, "set", "(III)I"⟩
abbrev cX11_copy : ByteArray := prog_1_method_4_code
def yX11_copy : MethodName := ⟨RX11, "copy", "(IIIII)I"⟩
abbrev cX11_drop : ByteArray := prog_1_method_5_code
def yX11_drop : MethodName := ⟨RX11, "drop", "(I)I"⟩
abbrev cX11_feed : ByteArray := prog_1_method_6_code
def yX11_feed : MethodName := ⟨RX11, "feed", "(I)I"⟩
abbrev cX11_town : ByteArray := prog_1_method_7_code
def yX11_town : MethodName := ⟨RX11, "town", "()I"⟩
abbrev cX11_fault : ByteArray := prog_1_method_8_code
def yX11_fault : MethodName := ⟨RX11, "fault", "()I"⟩
abbrev cX11_undo : ByteArray := prog_1_method_9_code
def yX11_undo : MethodName := ⟨RX11, "undo", "()I"⟩
abbrev cX11_days : ByteArray := prog_1_method_10_code
def yX11_days : MethodName := ⟨RX11, "days", "(I)I"⟩
abbrev cX11_paint : ByteArray := prog_1_method_11_code
def yX11_paint : MethodName := ⟨RX11, "paint", "(II)I"⟩
abbrev cX11_miss : ByteArray := prog_1_method_12_code
def yX11_miss : MethodName := ⟨RX11, "miss", "(II)I"⟩
abbrev cX11_thing : ByteArray := prog_1_method_13_code
def yX11_thing : MethodName := ⟨RX11, "thing", "(II)I"⟩
abbrev cX11_missing : ByteArray := prog_1_method_14_code
def yX11_missing : MethodName := ⟨RX11, "missing", "(I)I"⟩
abbrev cX11_pair : ByteArray := prog_1_method_15_code
def yX11_pair : MethodName := ⟨RX11, "pair", "(II)I"⟩
abbrev cX11_look : ByteArray := prog_1_method_16_code
def yX11_look : MethodName := ⟨RX11, "look", "(II)I"⟩
abbrev cX11_alike : ByteArray := prog_1_method_17_code
def yX11_alike : MethodName := ⟨RX11, "alike", "(III)I"⟩
abbrev cX11_like : ByteArray := prog_1_method_18_code
def yX11_like : MethodName := ⟨RX11, "like", "(II)I"⟩
abbrev cX11_looks : ByteArray := prog_1_method_19_code
def yX11_looks : MethodName := ⟨RX11, "looks", "(I)I"⟩
abbrev cX11_harm : ByteArray := prog_1_method_20_code
def yX11_harm : MethodName := ⟨RX11, "harm", "(I)I"⟩
abbrev cX11_harms : ByteArray := prog_1_method_21_code
def yX11_harms : MethodName := ⟨RX11, "harms", "(I)I"⟩
abbrev cX11_week : ByteArray := prog_1_method_22_code
def yX11_week : MethodName := ⟨RX11, "week", "(I)I"⟩
abbrev cX11_bestPaint : ByteArray := prog_1_method_23_code
def yX11_bestPaint : MethodName := ⟨RX11, "bestPaint", "(I)I"⟩
abbrev cX11_dyes : ByteArray := prog_1_method_24_code
def yX11_dyes : MethodName := ⟨RX11, "dyes", "(II)I"⟩
abbrev cX11_thief : ByteArray := prog_1_method_25_code
def yX11_thief : MethodName := ⟨RX11, "thief", "(I)I"⟩
abbrev cX11_seen : ByteArray := prog_1_method_26_code
def yX11_seen : MethodName := ⟨RX11, "seen", "(II)I"⟩
abbrev cX11_shelf : ByteArray := prog_1_method_27_code
def yX11_shelf : MethodName := ⟨RX11, "shelf", "(II)I"⟩
abbrev cX11_parted : ByteArray := prog_1_method_28_code
def yX11_parted : MethodName := ⟨RX11, "parted", "(III)I"⟩
abbrev cX11_merged : ByteArray := prog_1_method_29_code
def yX11_merged : MethodName := ⟨RX11, "merged", "(II)I"⟩
abbrev cX11_tests : ByteArray := prog_1_method_30_code
def yX11_tests : MethodName := ⟨RX11, "tests", "(IIII)I"⟩
abbrev cX11_bet : ByteArray := prog_1_method_31_code
def yX11_bet : MethodName := ⟨RX11, "bet", "(III)J"⟩
abbrev cX11_year : ByteArray := prog_1_method_32_code
def yX11_year : MethodName := ⟨RX11, "year", "(III)I"⟩
abbrev cX11_image : ByteArray := prog_1_method_33_code
def yX11_image : MethodName := ⟨RX11, "image", "(I)I"⟩
abbrev cX11_restore : ByteArray := prog_1_method_34_code
def yX11_restore : MethodName := ⟨RX11, "restore", "(I)I"⟩
abbrev cX11_kind : ByteArray := prog_1_method_35_code
def yX11_kind : MethodName := ⟨RX11, "kind", "(I)I"⟩
abbrev cX11_as : ByteArray := prog_1_method_36_code
def yX11_as : MethodName := ⟨RX11, "as", "(II)I"⟩
abbrev cX11_ask : ByteArray := prog_1_method_37_code
def yX11_ask : MethodName := ⟨RX11, "ask", "(II)I"⟩
abbrev cX11_trace : ByteArray := prog_1_method_38_code
def yX11_trace : MethodName := ⟨RX11, "trace", "(I)I"⟩
abbrev cX11_count : ByteArray := prog_1_method_39_code
def yX11_count : MethodName := ⟨RX11, "count", "(I)I"⟩
abbrev cX11_status : ByteArray := prog_1_method_40_code
def yX11_status : MethodName := ⟨RX11, "status", "()I"⟩
abbrev cX11_countOfTown : ByteArray := prog_1_method_41_code
def yX11_countOfTown : MethodName := ⟨RX11, "countOfTown", "(I)I"⟩
abbrev cX11_finds : ByteArray := prog_1_method_42_code
def yX11_finds : MethodName := ⟨RX11, "finds", "(I)Z"⟩
abbrev cX11_finding : ByteArray := prog_1_method_43_code
def yX11_finding : MethodName := ⟨RX11, "finding", "()I"⟩
abbrev cX11_findingOfPlaces : ByteArray := prog_1_method_44_code
def yX11_findingOfPlaces : MethodName := ⟨RX11, "findingOfPlaces", "(III)I"⟩
abbrev cX11_findingOfMove : ByteArray := prog_1_method_45_code
def yX11_findingOfMove : MethodName := ⟨RX11, "findingOfMove", "(IIIII)I"⟩
abbrev cX11_isThing : ByteArray := prog_1_method_46_code
def yX11_isThing : MethodName := ⟨RX11, "isThing", "(I)Z"⟩
abbrev cX11_areTwo : ByteArray := prog_1_method_47_code
def yX11_areTwo : MethodName := ⟨RX11, "areTwo", "(II)Z"⟩
abbrev cX11_isOfKind : ByteArray := prog_1_method_48_code
def yX11_isOfKind : MethodName := ⟨RX11, "isOfKind", "(LGreyDays$Thing;I)Z"⟩
abbrev cX11_isSet : ByteArray := prog_1_method_49_code
def yX11_isSet : MethodName := ⟨RX11, "isSet", "(I)Z"⟩
abbrev cX11_isWeekday : ByteArray := prog_1_method_50_code
def yX11_isWeekday : MethodName := ⟨RX11, "isWeekday", "(I)Z"⟩
abbrev cX11_isAhead : ByteArray := prog_1_method_51_code
def yX11_isAhead : MethodName := ⟨RX11, "isAhead", "(I)Z"⟩
abbrev cX11_isChoice : ByteArray := prog_1_method_52_code
def yX11_isChoice : MethodName := ⟨RX11, "isChoice", "(I)Z"⟩
abbrev cX11_isCost : ByteArray := prog_1_method_53_code
def yX11_isCost : MethodName := ⟨RX11, "isCost", "(I)Z"⟩
def RX12 : String := "GreyDaysModel"
def TX12 : u_T := fun k => match k with
  | 0 => ("GreyDaysModel", "thrown", "I", false)
  | 1 => ("GreyDaysModel", "status", "I", false)
  | 2 => ("GreyDaysModel", "lane", "[I", true)
  | 3 => ("GreyDaysModel", "many", "[I", true)
  | 4 => ("GreyDaysModel", "item", "[I", true)
  | 5 => ("GreyDaysModel", "town", "[I", true)
  | 6 => ("GreyDaysModel", "fresh", "[I", true)
  | 7 => ("GreyDaysModel", "was", "[I", true)
  | 8 => ("GreyDaysModel", "acts", "I", false)
  | 9 => ("GreyDaysModel", "tape", "[I", true)
  | 10 => ("GreyDaysModel", "taped", "I", false)
  | 11 => ("GreyDaysModel", "cursor", "I", false)
  | 12 => ("GreyDaysModel", "start", "I", false)
  | 13 => ("GreyDaysModel", "token", "I", false)
  | 14 => ("GreyDaysModel", "value", "I", false)
  | 15 => ("GreyDaysModel", "fault", "I", false)
  | 16 => ("GreyDaysModel", "faultAt", "I", false)
  | 17 => ("GreyDaysModel", "latest", "I", false)
  | 18 => ("GreyDaysModel", "mixes", "[I", true)
  | 19 => ("GreyDaysModel", "orders", "[I", true)
  | 20 => ("GreyDaysModel", "isKept", "[Z", true)
  | 21 => ("GreyDaysModel", "kept", "[I", true)
  | 22 => ("GreyDaysModel", "trace", "[I", true)
  | _ => ("GreyDaysModel", "traced", "I", false)
def tyX12 : Nat → FieldType := fun k => match k with
  | 0 => .int
  | 1 => .int
  | 2 => .array .int
  | 3 => .array .int
  | 4 => .array .int
  | 5 => .array .int
  | 6 => .array .int
  | 7 => .array .int
  | 8 => .int
  | 9 => .array .int
  | 10 => .int
  | 11 => .int
  | 12 => .int
  | 13 => .int
  | 14 => .int
  | 15 => .int
  | 16 => .int
  | 17 => .int
  | 18 => .array .int
  | 19 => .array .int
  | 20 => .array .boolean
  | 21 => .array .int
  | 22 => .array .int
  | _ => .int
abbrev wsX120 : List Cond := u_ws RX12 TX12 24
theorem nmX12 : ∀ a, a < 24 → ∀ b, b < 24 → a ≠ b → (TX12 a).2.1 ≠ (TX12 b).2.1 := by decide +kernel
theorem tyX12_ok : ∀ k, k < 24 → parseFieldDescriptor (TX12 k).2.2.1 = some (tyX12 k) := by decide +kernel
abbrev cX12_init : ByteArray := prog_14_method_1_code
def yX12_init : MethodName := ⟨RX12, "<init>", "()V"⟩
abbrev cX12_in : ByteArray := prog_14_method_3_code
def yX12_in : MethodName := ⟨RX12, "in", "(JJJ)Z"⟩
abbrev cX12_finding : ByteArray := prog_14_method_4_code
def yX12_finding : MethodName := ⟨RX12, "finding", "(I)I"⟩
abbrev cX12_isRow : ByteArray := prog_14_method_5_code
def yX12_isRow : MethodName := ⟨RX12, "isRow", "(I)Z"⟩
abbrev cX12_row : ByteArray := prog_14_method_6_code
def yX12_row : MethodName := ⟨RX12, "row", "(III)I"⟩
abbrev cX12_set : ByteArray := prog_14_method_7_code
def yX12_set : MethodName := ⟨RX12, "set", "(III)I"⟩
abbrev cX12_copy : ByteArray := prog_14_method_8_code
def yX12_copy : MethodName := ⟨RX12, "copy", "(IIIII)I"⟩
abbrev cX12_drop : ByteArray := prog_14_method_9_code
def yX12_drop : MethodName := ⟨RX12, "drop", "(I)I"⟩
abbrev cX12_feed : ByteArray := prog_14_method_10_code
def yX12_feed : MethodName := ⟨RX12, "feed", "(I)I"⟩
abbrev cX12_bad : ByteArray := prog_14_method_11_code
def yX12_bad : MethodName := ⟨RX12, "bad", "(I)V"⟩
abbrev cX12_nextToken : ByteArray := prog_14_method_12_code
def yX12_nextToken : MethodName := ⟨RX12, "nextToken", "()V"⟩
abbrev cX12_must : ByteArray := prog_14_method_13_code
def yX12_must : MethodName := ⟨RX12, "must", "(Z)V"⟩
abbrev cX12_isLetter : ByteArray := prog_14_method_14_code
def yX12_isLetter : MethodName := ⟨RX12, "isLetter", "(I)Z"⟩
abbrev cX12_number : ByteArray := prog_14_method_15_code
def yX12_number : MethodName := ⟨RX12, "number", "(II)I"⟩
abbrev cX12_mustSign : ByteArray := prog_14_method_16_code
def yX12_mustSign : MethodName := ⟨RX12, "mustSign", "(I)V"⟩
abbrev cX12_begin : ByteArray := prog_14_method_17_code
def yX12_begin : MethodName := ⟨RX12, "begin", "()V"⟩
abbrev cX12_failed : ByteArray := prog_14_method_18_code
def yX12_failed : MethodName := ⟨RX12, "failed", "()Z"⟩
abbrev cX12_fault : ByteArray := prog_14_method_19_code
def yX12_fault : MethodName := ⟨RX12, "fault", "()I"⟩
abbrev cX12_kindBy : ByteArray := prog_14_method_20_code
def yX12_kindBy : MethodName := ⟨RX12, "kindBy", "(I)I"⟩
abbrev cX12_readThing : ByteArray := prog_14_method_21_code
def yX12_readThing : MethodName := ⟨RX12, "readThing", "()V"⟩
abbrev cX12_isTold : ByteArray := prog_14_method_22_code
def yX12_isTold : MethodName := ⟨RX12, "isTold", "([III)Z"⟩
abbrev cX12_readPair : ByteArray := prog_14_method_23_code
def yX12_readPair : MethodName := ⟨RX12, "readPair", "()V"⟩
abbrev cX12_town : ByteArray := prog_14_method_24_code
def yX12_town : MethodName := ⟨RX12, "town", "()I"⟩
abbrev cX12_isThere : ByteArray := prog_14_method_25_code
def yX12_isThere : MethodName := ⟨RX12, "isThere", "()Z"⟩
abbrev cX12_isThing : ByteArray := prog_14_method_26_code
def yX12_isThing : MethodName := ⟨RX12, "isThing", "(I)Z"⟩
abbrev cX12_areTwo : ByteArray := prog_14_method_27_code
def yX12_areTwo : MethodName := ⟨RX12, "areTwo", "(II)Z"⟩
abbrev cX12_of : ByteArray := prog_14_method_28_code
def yX12_of : MethodName := ⟨RX12, "of", "(II)I"⟩
abbrev cX12_isFar : ByteArray := prog_14_method_29_code
def yX12_isFar : MethodName := ⟨RX12, "isFar", "(I)Z"⟩
abbrev cX12_bits : ByteArray := prog_14_method_30_code
def yX12_bits : MethodName := ⟨RX12, "bits", "(I)I"⟩
abbrev cX12_lookOf : ByteArray := prog_14_method_31_code
def yX12_lookOf : MethodName := ⟨RX12, "lookOf", "(II)I"⟩
abbrev cX12_setOf : ByteArray := prog_14_method_32_code
def yX12_setOf : MethodName := ⟨RX12, "setOf", "(I)I"⟩
abbrev cX12_missingOn : ByteArray := prog_14_method_33_code
def yX12_missingOn : MethodName := ⟨RX12, "missingOn", "(I)I"⟩
abbrev cX12_harmBy : ByteArray := prog_14_method_34_code
def yX12_harmBy : MethodName := ⟨RX12, "harmBy", "(I)I"⟩
abbrev cX12_harmsOf : ByteArray := prog_14_method_35_code
def yX12_harmsOf : MethodName := ⟨RX12, "harmsOf", "(I)I"⟩
abbrev cX12_likeBy : ByteArray := prog_14_method_36_code
def yX12_likeBy : MethodName := ⟨RX12, "likeBy", "(II)I"⟩
abbrev cX12_keep : ByteArray := prog_14_method_37_code
def yX12_keep : MethodName := ⟨RX12, "keep", "()V"⟩
abbrev cX12_days : ByteArray := prog_14_method_38_code
def yX12_days : MethodName := ⟨RX12, "days", "(I)I"⟩
abbrev cX12_paint : ByteArray := prog_14_method_39_code
def yX12_paint : MethodName := ⟨RX12, "paint", "(II)I"⟩
abbrev cX12_miss : ByteArray := prog_14_method_40_code
def yX12_miss : MethodName := ⟨RX12, "miss", "(II)I"⟩
abbrev cX12_undo : ByteArray := prog_14_method_41_code
def yX12_undo : MethodName := ⟨RX12, "undo", "()I"⟩
abbrev cX12_thing : ByteArray := prog_14_method_42_code
def yX12_thing : MethodName := ⟨RX12, "thing", "(II)I"⟩
abbrev cX12_missing : ByteArray := prog_14_method_43_code
def yX12_missing : MethodName := ⟨RX12, "missing", "(I)I"⟩
abbrev cX12_pair : ByteArray := prog_14_method_44_code
def yX12_pair : MethodName := ⟨RX12, "pair", "(II)I"⟩
abbrev cX12_look : ByteArray := prog_14_method_45_code
def yX12_look : MethodName := ⟨RX12, "look", "(II)I"⟩
abbrev cX12_areAlike : ByteArray := prog_14_method_46_code
def yX12_areAlike : MethodName := ⟨RX12, "areAlike", "(III)Z"⟩
abbrev cX12_alike : ByteArray := prog_14_method_47_code
def yX12_alike : MethodName := ⟨RX12, "alike", "(III)I"⟩
abbrev cX12_like : ByteArray := prog_14_method_48_code
def yX12_like : MethodName := ⟨RX12, "like", "(II)I"⟩
abbrev cX12_looks : ByteArray := prog_14_method_49_code
def yX12_looks : MethodName := ⟨RX12, "looks", "(I)I"⟩
abbrev cX12_harm : ByteArray := prog_14_method_50_code
def yX12_harm : MethodName := ⟨RX12, "harm", "(I)I"⟩
abbrev cX12_harms : ByteArray := prog_14_method_51_code
def yX12_harms : MethodName := ⟨RX12, "harms", "(I)I"⟩
abbrev cX12_week : ByteArray := prog_14_method_52_code
def yX12_week : MethodName := ⟨RX12, "week", "(I)I"⟩
abbrev cX12_bestPaint : ByteArray := prog_14_method_53_code
def yX12_bestPaint : MethodName := ⟨RX12, "bestPaint", "(I)I"⟩
abbrev cX12_areApart : ByteArray := prog_14_method_54_code
def yX12_areApart : MethodName := ⟨RX12, "areApart", "(II)Z"⟩
abbrev cX12_areMixes : ByteArray := prog_14_method_55_code
def yX12_areMixes : MethodName := ⟨RX12, "areMixes", "(I)Z"⟩
abbrev cX12_dyes : ByteArray := prog_14_method_56_code
def yX12_dyes : MethodName := ⟨RX12, "dyes", "(II)I"⟩
abbrev cX12_thief : ByteArray := prog_14_method_57_code
def yX12_thief : MethodName := ⟨RX12, "thief", "(I)I"⟩
abbrev cX12_seen : ByteArray := prog_14_method_58_code
def yX12_seen : MethodName := ⟨RX12, "seen", "(II)I"⟩
abbrev cX12_follow : ByteArray := prog_14_method_59_code
def yX12_follow : MethodName := ⟨RX12, "follow", "(III)I"⟩
abbrev cX12_shelf : ByteArray := prog_14_method_60_code
def yX12_shelf : MethodName := ⟨RX12, "shelf", "(II)I"⟩
abbrev cX12_parted : ByteArray := prog_14_method_61_code
def yX12_parted : MethodName := ⟨RX12, "parted", "(III)I"⟩
abbrev cX12_merged : ByteArray := prog_14_method_62_code
def yX12_merged : MethodName := ⟨RX12, "merged", "(II)I"⟩
abbrev cX12_toldBy : ByteArray := prog_14_method_63_code
def yX12_toldBy : MethodName := ⟨RX12, "toldBy", "(II)I"⟩
abbrev cX12_tests : ByteArray := prog_14_method_64_code
def yX12_tests : MethodName := ⟨RX12, "tests", "(IIII)I"⟩
abbrev cX12_bet : ByteArray := prog_14_method_65_code
def yX12_bet : MethodName := ⟨RX12, "bet", "(III)J"⟩
abbrev cX12_year : ByteArray := prog_14_method_66_code
def yX12_year : MethodName := ⟨RX12, "year", "(III)I"⟩
abbrev cX12_image : ByteArray := prog_14_method_67_code
def yX12_image : MethodName := ⟨RX12, "image", "(I)I"⟩
abbrev cX12_restore : ByteArray := prog_14_method_68_code
def yX12_restore : MethodName := ⟨RX12, "restore", "(I)I"⟩
abbrev cX12_isOf : ByteArray := prog_14_method_69_code
def yX12_isOf : MethodName := ⟨RX12, "isOf", "(II)Z"⟩
abbrev cX12_kind : ByteArray := prog_14_method_70_code
def yX12_kind : MethodName := ⟨RX12, "kind", "(I)I"⟩
abbrev cX12_as : ByteArray := prog_14_method_71_code
def yX12_as : MethodName := ⟨RX12, "as", "(II)I"⟩
abbrev cX12_began : ByteArray := prog_14_method_72_code
def yX12_began : MethodName := ⟨RX12, "began", "(I)V"⟩
abbrev cX12_plainSize : ByteArray := prog_14_method_73_code
def yX12_plainSize : MethodName := ⟨RX12, "plainSize", "(I)I"⟩
abbrev cX12_inkSize : ByteArray := prog_14_method_74_code
def yX12_inkSize : MethodName := ⟨RX12, "inkSize", "(I)I"⟩
abbrev cX12_markOf : ByteArray := prog_14_method_75_code
def yX12_markOf : MethodName := ⟨RX12, "markOf", "(I)I"⟩
abbrev cX12_sizeOf : ByteArray := prog_14_method_76_code
def yX12_sizeOf : MethodName := ⟨RX12, "sizeOf", "(I)I"⟩
abbrev cX12_ask : ByteArray := prog_14_method_77_code
def yX12_ask : MethodName := ⟨RX12, "ask", "(II)I"⟩
abbrev cX12_trace : ByteArray := prog_14_method_78_code
def yX12_trace : MethodName := ⟨RX12, "trace", "(I)I"⟩
abbrev cX12_count : ByteArray := prog_14_method_79_code
def yX12_count : MethodName := ⟨RX12, "count", "(I)I"⟩
abbrev cX12_status : ByteArray := prog_14_method_80_code
def yX12_status : MethodName := ⟨RX12, "status", "()I"⟩
def RJ6 : String := "java/lang/Integer"
def TJ6 : u_T := fun k => match k with
  | _ => ("", "", "", false)
def tyJ6 : Nat → FieldType := fun k => match k with
  | _ => .int
abbrev wsJ60 : List Cond := u_ws RJ6 TJ6 0
theorem nmJ6 : ∀ a, a < 0 → ∀ b, b < 0 → a ≠ b → (TJ6 a).2.1 ≠ (TJ6 b).2.1 := by decide +kernel
theorem tyJ6_ok : ∀ k, k < 0 → parseFieldDescriptor (TJ6 k).2.2.1 = some (tyJ6 k) := by decide +kernel
abbrev cJ6_bitCount_0f7a4 : ByteArray := prog_15_method_49_code
def yJ6_bitCount_0f7a4 : MethodName := ⟨RJ6, "bitCount", "(I)I"⟩
def RJ10 : String := "java/lang/System"
def TJ10 : u_T := fun k => match k with
  | _ => ("", "", "", false)
def tyJ10 : Nat → FieldType := fun k => match k with
  | _ => .int
abbrev wsJ100 : List Cond := u_ws RJ10 TJ10 0
theorem nmJ10 : ∀ a, a < 0 → ∀ b, b < 0 → a ≠ b → (TJ10 a).2.1 ≠ (TJ10 b).2.1 := by decide +kernel
theorem tyJ10_ok : ∀ k, k < 0 → parseFieldDescriptor (TJ10 k).2.2.1 = some (tyJ10 k) := by decide +kernel
def RJ7 : String := "java/util/Arrays"
def TJ7 : u_T := fun k => match k with
  | _ => ("", "", "", false)
def tyJ7 : Nat → FieldType := fun k => match k with
  | _ => .int
abbrev wsJ70 : List Cond := u_ws RJ7 TJ7 0
theorem nmJ7 : ∀ a, a < 0 → ∀ b, b < 0 → a ≠ b → (TJ7 a).2.1 ≠ (TJ7 b).2.1 := by decide +kernel
theorem tyJ7_ok : ∀ k, k < 0 → parseFieldDescriptor (TJ7 k).2.2.1 = some (tyJ7 k) := by decide +kernel
abbrev cJ7_fill_53178 : ByteArray := prog_17_method_103_code
def yJ7_fill_53178 : MethodName := ⟨RJ7, "fill", "([II)V"⟩
def RL : String := "GreyDaysLaw"
abbrev cL_law : ByteArray := code
def yL_law : MethodName := ⟨RL, "law", "([I)Z"⟩
abbrev vwCl : List vw_C := [(RX0, TX0, 3), (RX1, TX1, 3), (RX2, TX2, 3), (RX3, TX3, 3), (RX4, TX4, 3), (RX5, TX5, 3), (RX6, TX6, 3), (RX7, TX7, 5), (RX9, TX9, 12), (RX10, TX10, 3), (RX11, TX11, 8), (RX12, TX12, 24)]
theorem pj_mem {ws : List Cond} (ps : List Nat) (hp : ws = ps.filterMap (fun i => lw_tbl[i]?)) : ∀ w ∈ ws, w ∈ lw_tbl := by
  intro w hw
  rw [hp] at hw
  obtain ⟨i, -, hi⟩ := List.mem_filterMap.mp hw
  exact List.mem_of_getElem? hi
theorem pj_inX0 : ∀ w ∈ u_ws RX0 TX0 3, w ∈ lw_tbl := pj_mem [155, 157, 159] (by decide +kernel)
theorem pj_inX1 : ∀ w ∈ u_ws RX1 TX1 3, w ∈ lw_tbl := pj_mem [434, 435, 436] (by decide +kernel)
theorem pj_inX2 : ∀ w ∈ u_ws RX2 TX2 3, w ∈ lw_tbl := pj_mem [427, 428, 429] (by decide +kernel)
theorem pj_inX3 : ∀ w ∈ u_ws RX3 TX3 3, w ∈ lw_tbl := pj_mem [139, 141, 143] (by decide +kernel)
theorem pj_inX4 : ∀ w ∈ u_ws RX4 TX4 3, w ∈ lw_tbl := pj_mem [417, 418, 419] (by decide +kernel)
theorem pj_inX5 : ∀ w ∈ u_ws RX5 TX5 3, w ∈ lw_tbl := pj_mem [100, 102, 104] (by decide +kernel)
theorem pj_inX6 : ∀ w ∈ u_ws RX6 TX6 3, w ∈ lw_tbl := pj_mem [407, 408, 409] (by decide +kernel)
theorem pj_inX7 : ∀ w ∈ u_ws RX7 TX7 5, w ∈ lw_tbl := pj_mem [119, 121, 123, 125, 127] (by decide +kernel)
theorem pj_inX9 : ∀ w ∈ u_ws RX9 TX9 12, w ∈ lw_tbl := pj_mem [304, 306, 308, 310, 312, 314, 316, 318, 320, 322, 324, 326] (by decide +kernel)
theorem pj_inX10 : ∀ w ∈ u_ws RX10 TX10 3, w ∈ lw_tbl := pj_mem [394, 396, 398] (by decide +kernel)
theorem pj_inX11 : ∀ w ∈ u_ws RX11 TX11 8, w ∈ lw_tbl := pj_mem [172, 174, 176, 178, 180, 182, 184, 186] (by decide +kernel)
theorem pj_inX12 : ∀ w ∈ u_ws RX12 TX12 24, w ∈ lw_tbl := pj_mem [1082, 1084, 1086, 1088, 1090, 1092, 1094, 1096, 1098, 1100, 1102, 1104, 1106, 1108, 1110, 1112, 1114, 1116, 1118, 1120, 1122, 1124, 1126, 1128] (by decide +kernel)
end
section
/-! ===== the pure layer: a heap is a function from addresses to cells; V: from this point the method ends with Q; Ct: a method's contract ===== -/
abbrev pj_C : Type := (Nat × vp_A) ⊕ (Nat × List Value)
abbrev pj_H : Type := Nat → Option pj_C
abbrev pj_E : Type := va_G × (Nat → ClassId)
abbrev pj_Y : Type := MethodName × ByteArray × Nat × Option FieldType
def pj_e (E : pj_E) (c : pj_C) : va_E := match c with
  | .inl q => .inl (E.2 q.1, q.2)
  | .inr x => .inr x
def pj_tys (E : pj_E) : List (ClassId × FieldType) := [(E.2 0, .int), (E.2 1, .boolean), (E.2 2, .object "GreyDays$Thing"), (E.2 3, .object "GreyDays$Town"), (E.2 4, .array .int)]
def pj_ncs : List (String × String) := [("GreyDays$Twin", "GreyDays$Ink"), ("GreyDays$Shining", "GreyDays$Ink"), ("GreyDays$Dyed", "GreyDays$Ink"), ("GreyDays$Ink", "GreyDays$Dyed"), ("GreyDays$Faded", "GreyDays$Dyed"), ("GreyDays$Shining", "GreyDays$Twin"), ("GreyDays$Ink", "GreyDays$Twin"), ("GreyDays$Faded", "GreyDays$Twin"), ("GreyDays$Dyed", "GreyDays$Twin"), ("GreyDays$Twin", "GreyDays$Shining"), ("GreyDays$Ink", "GreyDays$Shining"), ("GreyDays$Faded", "GreyDays$Shining"), ("GreyDays$Dyed", "GreyDays$Shining"), ("GreyDays$Twin", "GreyDays$Faded"), ("GreyDays$Shining", "GreyDays$Faded"), ("GreyDays$Ink", "GreyDays$Faded"), ("GreyDays$Dyed", "GreyDays$Faded")]
def pj_WF (E : pj_E) (U : State) : Prop := va_K E.1 vwCl (pj_tys E) U ∧ ∀ q ∈ pj_ncs, va_Nc q.1 q.2 U
def pj_HR (E : pj_E) (B : Nat) (h : pj_H) (n : Nat) (H : Heap) : Prop := H.size = n ∧ ∀ (a : Nat) (c : pj_C), h a = some c → B ≤ a ∧ va_at E.1 vwCl (a, pj_e E c) H
def pj_up (h : pj_H) (a : Nat) (c : pj_C) : pj_H := fun q => if q = a then some c else h q
theorem pj_up_s {h : pj_H} {a : Nat} {c : pj_C} : pj_up h a c a = some c := if_pos rfl
theorem pj_up_n {h : pj_H} {a q : Nat} {c : pj_C} (hq : q ≠ a) : pj_up h a c q = h q := if_neg hq
def pj_rm (d mc ms : Nat) : Room := { frames := d, cells := mc, slots := ms, locals := 64 * d }
def pj_Qc (E : pj_E) (B : Nat) (Q : Option Value → pj_H → Nat → Prop) : Array Value → State → Outcome → State → Prop := fun _ st oc t =>
  (∃ (r : Option Value) (h : pj_H) (n : Nat), oc = .returned r ∧ Q r h n ∧ pj_HR E B h n t.heap) ∧ va_F (fun q => B ≤ q) st t
def pj_Pc (E : pj_E) (B : Nat) (av : List Value) (h : pj_H) (n : Nat) : Array Value → State → Prop := fun v U => v = av.toArray ∧ pj_WF E U ∧ pj_HR E B h n U.heap
def pj_Ct (E : pj_E) (B : Nat) (l : Launch) (Y : pj_Y) (d mc ms : Nat) (av : List Value) (h : pj_H) (n : Nat) (Q : Option Value → pj_H → Nat → Prop) : Prop :=
  Met l Y.1 (Cond.code Y.1 Y.2.1 Y.2.2.1 Y.2.2.2 :: lw_tbl) (pj_rm d mc ms) (pj_Pc E B av h n) (pj_Qc E B Q) mc ms (fun q => B ≤ q)
def pj_as : Nat → List (Option Value) → List (Nat × Value)
  | _, [] => []
  | i, some v :: l => (i, v) :: pj_as (i + 1) l
  | i, none :: l => pj_as (i + 1) l
theorem pj_as_mem : ∀ (l : List (Option Value)) (i j : Nat) (v : Value), (j, v) ∈ pj_as i l ↔ ∃ k, j = i + k ∧ l[k]? = some (some v)
  | [], i, j, v => by simp [pj_as]
  | some u :: l, i, j, v => by
    rw [pj_as, List.mem_cons, pj_as_mem l (i + 1) j v]
    constructor
    · rintro (h | ⟨k, h1, h2⟩)
      · cases h
        exact ⟨0, by omega, by simp⟩
      · exact ⟨k + 1, by omega, by simpa using h2⟩
    · rintro ⟨k, h1, h2⟩
      cases k with
      | zero => left; simp at h2; subst h2; simp at h1; rw [h1]
      | succ k => right; exact ⟨k, by omega, by simpa using h2⟩
  | none :: l, i, j, v => by
    rw [pj_as, pj_as_mem l (i + 1) j v]
    constructor
    · rintro ⟨k, h1, h2⟩
      exact ⟨k + 1, by omega, by simpa using h2⟩
    · rintro ⟨k, h1, h2⟩
      cases k with
      | zero => simp at h2
      | succ k => exact ⟨k, by omega, by simpa using h2⟩
def pj_L (la : Array Slot) (nL : Nat) (ls : List (Option Value)) : Prop := lv_has la nL (pj_as 0 ls) ∧ ls.length = nL
theorem pj_L.at {la : Array Slot} {nL : Nat} {ls : List (Option Value)} (h : pj_L la nL ls) {i : Nat} {v : Value} (hi : ls[i]? = some (some v)) : la[i]? = some (.val v) := h.1.2.2 (i, v) ((pj_as_mem ls 0 i v).mpr ⟨i, by omega, hi⟩)
def pj_V (E : pj_E) (B : Nat) (l : Launch) (Y : pj_Y) (d mc ms pc : Nat) (ls : List (Option Value)) (st : List Value) (h : pj_H) (n ce sl : Nat) (Q : Option Value → pj_H → Nat → Prop) : Prop :=
  ∀ (p : Program) (e : Env) (s : State) (m : MethodId) (args : Array Value) (below : List Frame) (meth : Method) (c : Code) (H : Heap) (locs : List Loc) (la : Array Slot),
    CallFix p m c Y.2.1 Y.2.2.1 s args lw_tbl Y.1.cls → meth.sig.returnType = Y.2.2.2 → meth.locks = false → meth.name = Y.1.name → pj_WF E s → pj_HR E B h n H → va_S (fun q => B ≤ q) s.heap H locs → pj_L la Y.2.2.1 ls →
    W p l e (pj_rm d mc ms) s m args below meth c H locs ce sl (MQ below (pj_Qc E B Q) args s mc ms (fun q => B ≤ q)) (F0 m pc la st)
theorem pj_WF.moved {E : pj_E} {u U : State} (hvm : u.vm.Alike U.vm) (h : pj_WF E u) : pj_WF E U := ⟨h.1.moved hvm, fun q hq => (h.2 q hq).moved hvm⟩
theorem pj_Pc_blind (E : pj_E) (B : Nat) (av : List Value) (h : pj_H) (n : Nat) : FrameBlind (pj_Pc E B av h n) := by
  intro a U g mk q
  obtain ⟨q0, q1, q2⟩ := q
  exact ⟨q0, pj_WF.moved (u := U) (U := U.calling g mk a) (Vm.Alike.refl U.vm) q1, q2⟩

/-! words that keep -/
theorem pj_aoA {t : FieldType} {u U : State} {A A' : Array Value} (hvm : u.vm.Alike U.vm) (h : (Cond.arrayOver (.array t)).before A u = true) : (Cond.arrayOver (.array t)).before A' U = true := by
  obtain ⟨comp, c, k, h1, h2, h3, h4, h5⟩ := arrayOverA_spec h
  obtain ⟨k', hk', he⟩ := hvm.2.2 _ _ h3
  have hi : (U.vm.classes.findIdx? fun (x : Class) => match x.kind with | .array component _ => component == comp | _ => false) = some c := by
    have e1 := va_idx_bare U.vm comp
    have e2 := va_idx_bare u.vm comp
    have e3 : U.vm.bare = u.vm.bare := by first | exact hvm.bare_eq | exact hvm.bare_eq.symm
    rw [e3] at e1
    exact e1.symm.trans (e2.trans h2)
  have hkind : k'.kind = .array comp (.array t) := by rw [he]; exact h4
  have f1 : U.vm.findClass (FieldType.array t).toString = some comp := by rw [hvm.findClass]; exact h1
  have f2 : U.vm.findClass ("[" ++ (FieldType.array t).toString) = some c := by rw [hvm.findClass]; exact h5
  unfold Cond.before Cond.holds
  simp only [Cond.value]
  rw [f1, Option.bind_some]
  refine (congrArg (fun o : Option Nat => (o.bind (fun c => (U.vm.classes[c]?).map fun (k : Class) => match k.kind with | .array _ ty => decide (ty = FieldType.array t) && decide (U.vm.findClass ("[" ++ (FieldType.array t).toString) = some c) | _ => false) == some true)) hi).trans ?_
  simp [hk', hkind, f2]
def pj_good : Cond → Bool
  | .methodLinkNest .. => true
  | .arrayOver (.object _) => true
  | .arrayOver (.array _) => true
  | w => goodWord w || (w.faceAtom && w.onTables)
theorem pj_warm {args a' : Array Value} {s U : State} (hW : s.WarmedH U.vm) {w : Cond} (hg : pj_good w = true) (h : w.before args s = true) : w.before a' U = true := by
  have key : (goodWord w || (w.faceAtom && w.onTables)) = true → w.before a' U = true := by
    intro hk
    rcases Bool.or_eq_true_iff.mp hk with hk | hk
    · exact word_at hW (good_of_word hk) h
    · rw [Bool.and_eq_true] at hk
      exact va_tabs (u := s.setVm U.vm) hk.2 rfl (Cond.faceAtom_setVm hW.alike w hk.1 h)
  cases w with
  | methodLinkNest a i x hh => exact va_tabs (u := s.setVm U.vm) rfl rfl (Cond.methodLinkNest_warmed (args := args) hW h)
  | arrayOver ty =>
    cases ty with
    | object C => exact va_AO.use (va_AO.moved hW.alike (va_AO.of h))
    | array t => exact pj_aoA hW.alike h
    | _ => exact key hg
  | _ => exact key hg
theorem pj_all : lw_tbl.all pj_good = true := by decide +kernel
theorem pj_words {Y : pj_Y} {args : Array Value} {s : State} (hts : ∀ w ∈ lw_tbl, w.before args s = true) (hc : Cond.code Y.1 Y.2.1 Y.2.2.1 Y.2.2.2 ∈ lw_tbl) : ∀ w ∈ (Cond.code Y.1 Y.2.1 Y.2.2.1 Y.2.2.2 :: lw_tbl), ∀ (a' : Array Value) (U : State), s.WarmedH U.vm → w.before a' U = true := by
  intro w hw a' U hW
  have hm : w ∈ lw_tbl := by
    rcases List.mem_cons.mp hw with rfl | h
    · exact hc
    · exact h
  exact pj_warm hW (List.all_eq_true.mp pj_all w hm) (hts w hm)
/-! ===== the method's table of instructions ===== -/
def pj_tab (cc : ByteArray) (P : List (Nat × Instr × Nat)) : Bool := P.all fun q => decide (decode cc q.1 = .ok (q.2.1, q.2.2))
theorem pj_d {cc : ByteArray} {P : List (Nat × Instr × Nat)} (h : pj_tab cc P = true) (i : Nat) {pc len : Nat} {ins : Instr} (hi : P[i]? = some (pc, ins, len)) : decode cc pc = .ok (ins, len) := by
  have := List.all_eq_true.mp h _ (List.mem_of_getElem? hi)
  exact of_decide_eq_true this
section PJR
variable {E : pj_E} {B : Nat} {l : Launch} {Y : pj_Y} {d mc ms pc q : Nat} {ls : List (Option Value)} {st : List Value} {h : pj_H} {n ce sl : Nat} {Q : Option Value → pj_H → Nat → Prop}

theorem pj_iadd {x y : Int32} (hd : decode Y.2.1 pc = .ok (.iadd, 1)) (hq : pc + 1 = q)  (kk : pj_V E B l Y d mc ms q ls (.int (x + y) :: st) h n ce sl Q) : pj_V E B l Y d mc ms pc ls (.int y :: .int x :: st) h n ce sl Q := by
  subst hq
  intro p e s m args below meth c H locs la S hr hk hn hW hH hS hL
  exact lv_iadd S.1 S.2.1 hd  (kk p e s m args below meth c H locs la S hr hk hn hW hH hS hL)
theorem pj_isub {x y : Int32} (hd : decode Y.2.1 pc = .ok (.isub, 1)) (hq : pc + 1 = q)  (kk : pj_V E B l Y d mc ms q ls (.int (x - y) :: st) h n ce sl Q) : pj_V E B l Y d mc ms pc ls (.int y :: .int x :: st) h n ce sl Q := by
  subst hq
  intro p e s m args below meth c H locs la S hr hk hn hW hH hS hL
  exact lv_isub S.1 S.2.1 hd  (kk p e s m args below meth c H locs la S hr hk hn hW hH hS hL)
theorem pj_imul {x y : Int32} (hd : decode Y.2.1 pc = .ok (.imul, 1)) (hq : pc + 1 = q)  (kk : pj_V E B l Y d mc ms q ls (.int (x * y) :: st) h n ce sl Q) : pj_V E B l Y d mc ms pc ls (.int y :: .int x :: st) h n ce sl Q := by
  subst hq
  intro p e s m args below meth c H locs la S hr hk hn hW hH hS hL
  exact lv_imul S.1 S.2.1 hd  (kk p e s m args below meth c H locs la S hr hk hn hW hH hS hL)
theorem pj_iand {x y : Int32} (hd : decode Y.2.1 pc = .ok (.iand, 1)) (hq : pc + 1 = q)  (kk : pj_V E B l Y d mc ms q ls (.int (x &&& y) :: st) h n ce sl Q) : pj_V E B l Y d mc ms pc ls (.int y :: .int x :: st) h n ce sl Q := by
  subst hq
  intro p e s m args below meth c H locs la S hr hk hn hW hH hS hL
  exact lv_iand S.1 S.2.1 hd  (kk p e s m args below meth c H locs la S hr hk hn hW hH hS hL)
theorem pj_ior {x y : Int32} (hd : decode Y.2.1 pc = .ok (.ior, 1)) (hq : pc + 1 = q)  (kk : pj_V E B l Y d mc ms q ls (.int (x ||| y) :: st) h n ce sl Q) : pj_V E B l Y d mc ms pc ls (.int y :: .int x :: st) h n ce sl Q := by
  subst hq
  intro p e s m args below meth c H locs la S hr hk hn hW hH hS hL
  exact lv_ior S.1 S.2.1 hd  (kk p e s m args below meth c H locs la S hr hk hn hW hH hS hL)
theorem pj_ixor {x y : Int32} (hd : decode Y.2.1 pc = .ok (.ixor, 1)) (hq : pc + 1 = q)  (kk : pj_V E B l Y d mc ms q ls (.int (x ^^^ y) :: st) h n ce sl Q) : pj_V E B l Y d mc ms pc ls (.int y :: .int x :: st) h n ce sl Q := by
  subst hq
  intro p e s m args below meth c H locs la S hr hk hn hW hH hS hL
  exact lv_ixor S.1 S.2.1 hd  (kk p e s m args below meth c H locs la S hr hk hn hW hH hS hL)
theorem pj_ishl {x y : Int32} (hd : decode Y.2.1 pc = .ok (.ishl, 1)) (hq : pc + 1 = q)  (kk : pj_V E B l Y d mc ms q ls (.int (x <<< (y &&& 31)) :: st) h n ce sl Q) : pj_V E B l Y d mc ms pc ls (.int y :: .int x :: st) h n ce sl Q := by
  subst hq
  intro p e s m args below meth c H locs la S hr hk hn hW hH hS hL
  exact lv_ishl S.1 S.2.1 hd  (kk p e s m args below meth c H locs la S hr hk hn hW hH hS hL)
theorem pj_ishr {x y : Int32} (hd : decode Y.2.1 pc = .ok (.ishr, 1)) (hq : pc + 1 = q)  (kk : pj_V E B l Y d mc ms q ls (.int (x >>> (y &&& 31)) :: st) h n ce sl Q) : pj_V E B l Y d mc ms pc ls (.int y :: .int x :: st) h n ce sl Q := by
  subst hq
  intro p e s m args below meth c H locs la S hr hk hn hW hH hS hL
  exact lv_ishr S.1 S.2.1 hd  (kk p e s m args below meth c H locs la S hr hk hn hW hH hS hL)
theorem pj_iushr {x y : Int32} (hd : decode Y.2.1 pc = .ok (.iushr, 1)) (hq : pc + 1 = q)  (kk : pj_V E B l Y d mc ms q ls (.int (x.toUInt32 >>> (y.toUInt32 &&& Int32.toUInt32 31)).toInt32 :: st) h n ce sl Q) : pj_V E B l Y d mc ms pc ls (.int y :: .int x :: st) h n ce sl Q := by
  subst hq
  intro p e s m args below meth c H locs la S hr hk hn hW hH hS hL
  exact lv_iushr S.1 S.2.1 hd rfl (kk p e s m args below meth c H locs la S hr hk hn hW hH hS hL)
theorem pj_ladd {x y : Int64} (hd : decode Y.2.1 pc = .ok (.ladd, 1)) (hq : pc + 1 = q)  (kk : pj_V E B l Y d mc ms q ls (.long (x + y) :: st) h n ce sl Q) : pj_V E B l Y d mc ms pc ls (.long y :: .long x :: st) h n ce sl Q := by
  subst hq
  intro p e s m args below meth c H locs la S hr hk hn hW hH hS hL
  exact lv_ladd S.1 S.2.1 hd  (kk p e s m args below meth c H locs la S hr hk hn hW hH hS hL)
theorem pj_lsub {x y : Int64} (hd : decode Y.2.1 pc = .ok (.lsub, 1)) (hq : pc + 1 = q)  (kk : pj_V E B l Y d mc ms q ls (.long (x - y) :: st) h n ce sl Q) : pj_V E B l Y d mc ms pc ls (.long y :: .long x :: st) h n ce sl Q := by
  subst hq
  intro p e s m args below meth c H locs la S hr hk hn hW hH hS hL
  exact lv_lsub S.1 S.2.1 hd  (kk p e s m args below meth c H locs la S hr hk hn hW hH hS hL)
theorem pj_lmul {x y : Int64} (hd : decode Y.2.1 pc = .ok (.lmul, 1)) (hq : pc + 1 = q)  (kk : pj_V E B l Y d mc ms q ls (.long (x * y) :: st) h n ce sl Q) : pj_V E B l Y d mc ms pc ls (.long y :: .long x :: st) h n ce sl Q := by
  subst hq
  intro p e s m args below meth c H locs la S hr hk hn hW hH hS hL
  exact lv_lmul S.1 S.2.1 hd  (kk p e s m args below meth c H locs la S hr hk hn hW hH hS hL)
theorem pj_ineg {x : Int32} (hd : decode Y.2.1 pc = .ok (.ineg, 1)) (hq : pc + 1 = q)  (kk : pj_V E B l Y d mc ms q ls (.int (-x) :: st) h n ce sl Q) : pj_V E B l Y d mc ms pc ls (.int x :: st) h n ce sl Q := by
  subst hq
  intro p e s m args below meth c H locs la S hr hk hn hW hH hS hL
  exact lv_ineg S.1 S.2.1 hd  (kk p e s m args below meth c H locs la S hr hk hn hW hH hS hL)
theorem pj_irem {x y : Int32} (hd : decode Y.2.1 pc = .ok (.irem, 1)) (hq : pc + 1 = q) (h0 : ¬ y = 0) (kk : pj_V E B l Y d mc ms q ls (.int (x - x / y * y) :: st) h n ce sl Q) : pj_V E B l Y d mc ms pc ls (.int y :: .int x :: st) h n ce sl Q := by
  subst hq
  intro p e s m args below meth c H locs la S hr hk hn hW hH hS hL
  exact lv_irem S.1 S.2.1 hd h0 (kk p e s m args below meth c H locs la S hr hk hn hW hH hS hL)
theorem pj_ldiv {x y : Int64} (hd : decode Y.2.1 pc = .ok (.ldiv, 1)) (hq : pc + 1 = q) (h0 : ¬ y = 0) (kk : pj_V E B l Y d mc ms q ls (.long (x / y) :: st) h n ce sl Q) : pj_V E B l Y d mc ms pc ls (.long y :: .long x :: st) h n ce sl Q := by
  subst hq
  intro p e s m args below meth c H locs la S hr hk hn hW hH hS hL
  exact lv_ldiv S.1 S.2.1 hd h0 (kk p e s m args below meth c H locs la S hr hk hn hW hH hS hL)
theorem pj_lrem {x y : Int64} (hd : decode Y.2.1 pc = .ok (.lrem, 1)) (hq : pc + 1 = q) (h0 : ¬ y = 0) (kk : pj_V E B l Y d mc ms q ls (.long (x - x / y * y) :: st) h n ce sl Q) : pj_V E B l Y d mc ms pc ls (.long y :: .long x :: st) h n ce sl Q := by
  subst hq
  intro p e s m args below meth c H locs la S hr hk hn hW hH hS hL
  exact lv_lrem S.1 S.2.1 hd h0 (kk p e s m args below meth c H locs la S hr hk hn hW hH hS hL)
theorem pj_lcmp {x y : Int64} (hd : decode Y.2.1 pc = .ok (.lcmp, 1)) (hq : pc + 1 = q)  (kk : pj_V E B l Y d mc ms q ls (.int (lg_cmp x y) :: st) h n ce sl Q) : pj_V E B l Y d mc ms pc ls (.long y :: .long x :: st) h n ce sl Q := by
  subst hq
  intro p e s m args below meth c H locs la S hr hk hn hW hH hS hL
  exact W.lcmp S.1 S.2.1 hd  (kk p e s m args below meth c H locs la S hr hk hn hW hH hS hL)
theorem pj_i2l {x : Int32} (hd : decode Y.2.1 pc = .ok (.i2l, 1)) (hq : pc + 1 = q)  (kk : pj_V E B l Y d mc ms q ls (.long x.toInt64 :: st) h n ce sl Q) : pj_V E B l Y d mc ms pc ls (.int x :: st) h n ce sl Q := by
  subst hq
  intro p e s m args below meth c H locs la S hr hk hn hW hH hS hL
  exact lv_i2l S.1 S.2.1 hd rfl (kk p e s m args below meth c H locs la S hr hk hn hW hH hS hL)
theorem pj_l2i {x : Int64} (hd : decode Y.2.1 pc = .ok (.l2i, 1)) (hq : pc + 1 = q)  (kk : pj_V E B l Y d mc ms q ls (.int x.toInt32 :: st) h n ce sl Q) : pj_V E B l Y d mc ms pc ls (.long x :: st) h n ce sl Q := by
  subst hq
  intro p e s m args below meth c H locs la S hr hk hn hW hH hS hL
  exact lv_l2i S.1 S.2.1 hd rfl (kk p e s m args below meth c H locs la S hr hk hn hW hH hS hL)
theorem pj_i2b {x : Int32} (hd : decode Y.2.1 pc = .ok (.i2b, 1)) (hq : pc + 1 = q)  (kk : pj_V E B l Y d mc ms q ls (.int x.toInt8.toInt32 :: st) h n ce sl Q) : pj_V E B l Y d mc ms pc ls (.int x :: st) h n ce sl Q := by
  subst hq
  intro p e s m args below meth c H locs la S hr hk hn hW hH hS hL
  exact lv_i2b S.1 S.2.1 hd rfl (kk p e s m args below meth c H locs la S hr hk hn hW hH hS hL)
theorem pj_i2s {x : Int32} (hd : decode Y.2.1 pc = .ok (.i2s, 1)) (hq : pc + 1 = q)  (kk : pj_V E B l Y d mc ms q ls (.int x.toInt16.toInt32 :: st) h n ce sl Q) : pj_V E B l Y d mc ms pc ls (.int x :: st) h n ce sl Q := by
  subst hq
  intro p e s m args below meth c H locs la S hr hk hn hW hH hS hL
  exact lv_i2s S.1 S.2.1 hd rfl (kk p e s m args below meth c H locs la S hr hk hn hW hH hS hL)
theorem pj_iconst {k : Int} {v : Int32} (hd : decode Y.2.1 pc = .ok (.iconst k, 1)) (hq : pc + 1 = q) (hv : Int32.ofInt k = v) (kk : pj_V E B l Y d mc ms q ls (.int v :: st) h n ce sl Q) : pj_V E B l Y d mc ms pc ls st h n ce sl Q := by
  subst hq
  intro p e s m args below meth c H locs la S hr hk hn hW hH hS hL
  exact lv_iconst S.1 S.2.1 hd hv (kk p e s m args below meth c H locs la S hr hk hn hW hH hS hL)
theorem pj_bipush {k : Int} {v : Int32} (hd : decode Y.2.1 pc = .ok (.bipush k, 2)) (hq : pc + 2 = q) (hv : (Int8.ofInt k).toInt32 = v) (kk : pj_V E B l Y d mc ms q ls (.int v :: st) h n ce sl Q) : pj_V E B l Y d mc ms pc ls st h n ce sl Q := by
  subst hq
  intro p e s m args below meth c H locs la S hr hk hn hW hH hS hL
  exact lv_bipush S.1 S.2.1 hd hv (kk p e s m args below meth c H locs la S hr hk hn hW hH hS hL)
theorem pj_sipush {k : Int} {v : Int32} (hd : decode Y.2.1 pc = .ok (.sipush k, 3)) (hq : pc + 3 = q) (hv : (Int16.ofInt k).toInt32 = v) (kk : pj_V E B l Y d mc ms q ls (.int v :: st) h n ce sl Q) : pj_V E B l Y d mc ms pc ls st h n ce sl Q := by
  subst hq
  intro p e s m args below meth c H locs la S hr hk hn hW hH hS hL
  exact lv_sipush S.1 S.2.1 hd hv (kk p e s m args below meth c H locs la S hr hk hn hW hH hS hL)
theorem pj_lconst {k : Fin 2} {v : Int64} (hd : decode Y.2.1 pc = .ok (.lconst k, 1)) (hq : pc + 1 = q) (hv : Int64.ofNat (k : Nat) = v) (kk : pj_V E B l Y d mc ms q ls (.long v :: st) h n ce sl Q) : pj_V E B l Y d mc ms pc ls st h n ce sl Q := by
  subst hq
  intro p e s m args below meth c H locs la S hr hk hn hW hH hS hL
  exact lv_lconst S.1 S.2.1 hd hv (kk p e s m args below meth c H locs la S hr hk hn hW hH hS hL)
theorem pj_dup {v : Value} (hd : decode Y.2.1 pc = .ok (.dup, 1)) (hq : pc + 1 = q) (hv : v.category = 1) (kk : pj_V E B l Y d mc ms q ls (v :: v :: st) h n ce sl Q) : pj_V E B l Y d mc ms pc ls (v :: st) h n ce sl Q := by
  subst hq
  intro p e s m args below meth c H locs la S hr hk hn hW hH hS hL
  exact lv_dup S.1 S.2.1 hd hv (kk p e s m args below meth c H locs la S hr hk hn hW hH hS hL)
theorem pj_null  (hd : decode Y.2.1 pc = .ok (.aconst_null, 1)) (hq : pc + 1 = q)  (kk : pj_V E B l Y d mc ms q ls (.null :: st) h n ce sl Q) : pj_V E B l Y d mc ms pc ls st h n ce sl Q := by
  subst hq
  intro p e s m args below meth c H locs la S hr hk hn hW hH hS hL
  exact lv_null S.1 S.2.1 hd  (kk p e s m args below meth c H locs la S hr hk hn hW hH hS hL)
theorem pj_dup2 {v u : Value} (hd : decode Y.2.1 pc = .ok (.dup2, 1)) (hq : pc + 1 = q) (hv : v.category = 1) (hu : u.category = 1) (kk : pj_V E B l Y d mc ms q ls (v :: u :: v :: u :: st) h n ce sl Q) : pj_V E B l Y d mc ms pc ls (v :: u :: st) h n ce sl Q := by
  subst hq
  intro p e s m args below meth c H locs la S hr hk hn hW hH hS hL
  exact lv_dup2_11 S.1 S.2.1 hd hv hu (kk p e s m args below meth c H locs la S hr hk hn hW hH hS hL)
theorem pj_ldc {i : Nat} {v : Int32} (hd : decode Y.2.1 pc = .ok (.ldc i, 2)) (hq : pc + 2 = q) (hc : Cond.constant Y.1.cls i v ∈ lw_tbl) (kk : pj_V E B l Y d mc ms q ls (.int v :: st) h n ce sl Q) : pj_V E B l Y d mc ms pc ls st h n ce sl Q := by
  subst hq
  intro p e s m args below meth c H locs la S hr hk hn hW hH hS hL
  exact lv_ldc S.1 S.2.1 S.2.2.2.1 (S.2.2.2.2 _ hc) hd (kk p e s m args below meth c H locs la S hr hk hn hW hH hS hL)
theorem pj_ldcw {i : Nat} {v : Int32} (hd : decode Y.2.1 pc = .ok (.ldc_w i, 3)) (hq : pc + 3 = q) (hc : Cond.constant Y.1.cls i v ∈ lw_tbl) (kk : pj_V E B l Y d mc ms q ls (.int v :: st) h n ce sl Q) : pj_V E B l Y d mc ms pc ls st h n ce sl Q := by
  subst hq
  intro p e s m args below meth c H locs la S hr hk hn hW hH hS hL
  exact lv_ldcw S.1 S.2.1 S.2.2.2.1 (S.2.2.2.2 _ hc) hd (kk p e s m args below meth c H locs la S hr hk hn hW hH hS hL)
theorem pj_ldc2 {i : Nat} {v : Int64} (hd : decode Y.2.1 pc = .ok (.ldc2_w i, 3)) (hq : pc + 3 = q) (hc : Cond.constantLong Y.1.cls i v ∈ lw_tbl) (kk : pj_V E B l Y d mc ms q ls (.long v :: st) h n ce sl Q) : pj_V E B l Y d mc ms pc ls st h n ce sl Q := by
  subst hq
  intro p e s m args below meth c H locs la S hr hk hn hW hH hS hL
  exact lv_ldc2 S.1 S.2.1 S.2.2.2.1 (S.2.2.2.2 _ hc) hd (kk p e s m args below meth c H locs la S hr hk hn hW hH hS hL)
theorem pj_icmp_eq {x y : Int32} {t : Nat} {off : Int} (hd : decode Y.2.1 pc = .ok (.if_icmp .eq off, 3)) (hq : pc + 3 = q) (ht : (pc : Int) + off = (t : Int)) (kt : x = y → pj_V E B l Y d mc ms t ls st h n ce sl Q) (kf : ¬ x = y → pj_V E B l Y d mc ms q ls st h n ce sl Q) : pj_V E B l Y d mc ms pc ls (.int y :: .int x :: st) h n ce sl Q := by
  subst hq
  intro p e s m args below meth c H locs la S hr hk hn hW hH hS hL
  exact lv_icmp_eq S.1 S.2.1 hd ht (fun z => kt z p e s m args below meth c H locs la S hr hk hn hW hH hS hL) (fun z => kf z p e s m args below meth c H locs la S hr hk hn hW hH hS hL)
theorem pj_if_eq {x : Int32} {t : Nat} {off : Int} (hd : decode Y.2.1 pc = .ok (.ifCond .eq off, 3)) (hq : pc + 3 = q) (ht : (pc : Int) + off = (t : Int)) (kt : x = 0 → pj_V E B l Y d mc ms t ls st h n ce sl Q) (kf : ¬ x = 0 → pj_V E B l Y d mc ms q ls st h n ce sl Q) : pj_V E B l Y d mc ms pc ls (.int x :: st) h n ce sl Q := by
  subst hq
  intro p e s m args below meth c H locs la S hr hk hn hW hH hS hL
  exact lv_if_eq S.1 S.2.1 hd ht (fun z => kt z p e s m args below meth c H locs la S hr hk hn hW hH hS hL) (fun z => kf z p e s m args below meth c H locs la S hr hk hn hW hH hS hL)
theorem pj_icmp_ne {x y : Int32} {t : Nat} {off : Int} (hd : decode Y.2.1 pc = .ok (.if_icmp .ne off, 3)) (hq : pc + 3 = q) (ht : (pc : Int) + off = (t : Int)) (kt : ¬ x = y → pj_V E B l Y d mc ms t ls st h n ce sl Q) (kf : x = y → pj_V E B l Y d mc ms q ls st h n ce sl Q) : pj_V E B l Y d mc ms pc ls (.int y :: .int x :: st) h n ce sl Q := by
  subst hq
  intro p e s m args below meth c H locs la S hr hk hn hW hH hS hL
  exact lv_icmp_ne S.1 S.2.1 hd ht (fun z => kt z p e s m args below meth c H locs la S hr hk hn hW hH hS hL) (fun z => kf z p e s m args below meth c H locs la S hr hk hn hW hH hS hL)
theorem pj_if_ne {x : Int32} {t : Nat} {off : Int} (hd : decode Y.2.1 pc = .ok (.ifCond .ne off, 3)) (hq : pc + 3 = q) (ht : (pc : Int) + off = (t : Int)) (kt : ¬ x = 0 → pj_V E B l Y d mc ms t ls st h n ce sl Q) (kf : x = 0 → pj_V E B l Y d mc ms q ls st h n ce sl Q) : pj_V E B l Y d mc ms pc ls (.int x :: st) h n ce sl Q := by
  subst hq
  intro p e s m args below meth c H locs la S hr hk hn hW hH hS hL
  exact lv_if_ne S.1 S.2.1 hd ht (fun z => kt z p e s m args below meth c H locs la S hr hk hn hW hH hS hL) (fun z => kf z p e s m args below meth c H locs la S hr hk hn hW hH hS hL)
theorem pj_icmp_lt {x y : Int32} {t : Nat} {off : Int} (hd : decode Y.2.1 pc = .ok (.if_icmp .lt off, 3)) (hq : pc + 3 = q) (ht : (pc : Int) + off = (t : Int)) (kt : x < y → pj_V E B l Y d mc ms t ls st h n ce sl Q) (kf : ¬ x < y → pj_V E B l Y d mc ms q ls st h n ce sl Q) : pj_V E B l Y d mc ms pc ls (.int y :: .int x :: st) h n ce sl Q := by
  subst hq
  intro p e s m args below meth c H locs la S hr hk hn hW hH hS hL
  exact lv_icmp_lt S.1 S.2.1 hd ht (fun z => kt z p e s m args below meth c H locs la S hr hk hn hW hH hS hL) (fun z => kf z p e s m args below meth c H locs la S hr hk hn hW hH hS hL)
theorem pj_if_lt {x : Int32} {t : Nat} {off : Int} (hd : decode Y.2.1 pc = .ok (.ifCond .lt off, 3)) (hq : pc + 3 = q) (ht : (pc : Int) + off = (t : Int)) (kt : x < 0 → pj_V E B l Y d mc ms t ls st h n ce sl Q) (kf : ¬ x < 0 → pj_V E B l Y d mc ms q ls st h n ce sl Q) : pj_V E B l Y d mc ms pc ls (.int x :: st) h n ce sl Q := by
  subst hq
  intro p e s m args below meth c H locs la S hr hk hn hW hH hS hL
  exact lv_if_lt S.1 S.2.1 hd ht (fun z => kt z p e s m args below meth c H locs la S hr hk hn hW hH hS hL) (fun z => kf z p e s m args below meth c H locs la S hr hk hn hW hH hS hL)
theorem pj_icmp_ge {x y : Int32} {t : Nat} {off : Int} (hd : decode Y.2.1 pc = .ok (.if_icmp .ge off, 3)) (hq : pc + 3 = q) (ht : (pc : Int) + off = (t : Int)) (kt : y ≤ x → pj_V E B l Y d mc ms t ls st h n ce sl Q) (kf : ¬ y ≤ x → pj_V E B l Y d mc ms q ls st h n ce sl Q) : pj_V E B l Y d mc ms pc ls (.int y :: .int x :: st) h n ce sl Q := by
  subst hq
  intro p e s m args below meth c H locs la S hr hk hn hW hH hS hL
  exact lv_icmp_ge S.1 S.2.1 hd ht (fun z => kt z p e s m args below meth c H locs la S hr hk hn hW hH hS hL) (fun z => kf z p e s m args below meth c H locs la S hr hk hn hW hH hS hL)
theorem pj_if_ge {x : Int32} {t : Nat} {off : Int} (hd : decode Y.2.1 pc = .ok (.ifCond .ge off, 3)) (hq : pc + 3 = q) (ht : (pc : Int) + off = (t : Int)) (kt : 0 ≤ x → pj_V E B l Y d mc ms t ls st h n ce sl Q) (kf : ¬ 0 ≤ x → pj_V E B l Y d mc ms q ls st h n ce sl Q) : pj_V E B l Y d mc ms pc ls (.int x :: st) h n ce sl Q := by
  subst hq
  intro p e s m args below meth c H locs la S hr hk hn hW hH hS hL
  exact lv_if_ge S.1 S.2.1 hd ht (fun z => kt z p e s m args below meth c H locs la S hr hk hn hW hH hS hL) (fun z => kf z p e s m args below meth c H locs la S hr hk hn hW hH hS hL)
theorem pj_icmp_gt {x y : Int32} {t : Nat} {off : Int} (hd : decode Y.2.1 pc = .ok (.if_icmp .gt off, 3)) (hq : pc + 3 = q) (ht : (pc : Int) + off = (t : Int)) (kt : y < x → pj_V E B l Y d mc ms t ls st h n ce sl Q) (kf : ¬ y < x → pj_V E B l Y d mc ms q ls st h n ce sl Q) : pj_V E B l Y d mc ms pc ls (.int y :: .int x :: st) h n ce sl Q := by
  subst hq
  intro p e s m args below meth c H locs la S hr hk hn hW hH hS hL
  exact lv_icmp_gt S.1 S.2.1 hd ht (fun z => kt z p e s m args below meth c H locs la S hr hk hn hW hH hS hL) (fun z => kf z p e s m args below meth c H locs la S hr hk hn hW hH hS hL)
theorem pj_if_gt {x : Int32} {t : Nat} {off : Int} (hd : decode Y.2.1 pc = .ok (.ifCond .gt off, 3)) (hq : pc + 3 = q) (ht : (pc : Int) + off = (t : Int)) (kt : 0 < x → pj_V E B l Y d mc ms t ls st h n ce sl Q) (kf : ¬ 0 < x → pj_V E B l Y d mc ms q ls st h n ce sl Q) : pj_V E B l Y d mc ms pc ls (.int x :: st) h n ce sl Q := by
  subst hq
  intro p e s m args below meth c H locs la S hr hk hn hW hH hS hL
  exact lv_if_gt S.1 S.2.1 hd ht (fun z => kt z p e s m args below meth c H locs la S hr hk hn hW hH hS hL) (fun z => kf z p e s m args below meth c H locs la S hr hk hn hW hH hS hL)
theorem pj_icmp_le {x y : Int32} {t : Nat} {off : Int} (hd : decode Y.2.1 pc = .ok (.if_icmp .le off, 3)) (hq : pc + 3 = q) (ht : (pc : Int) + off = (t : Int)) (kt : x ≤ y → pj_V E B l Y d mc ms t ls st h n ce sl Q) (kf : ¬ x ≤ y → pj_V E B l Y d mc ms q ls st h n ce sl Q) : pj_V E B l Y d mc ms pc ls (.int y :: .int x :: st) h n ce sl Q := by
  subst hq
  intro p e s m args below meth c H locs la S hr hk hn hW hH hS hL
  exact lv_icmp_le S.1 S.2.1 hd ht (fun z => kt z p e s m args below meth c H locs la S hr hk hn hW hH hS hL) (fun z => kf z p e s m args below meth c H locs la S hr hk hn hW hH hS hL)
theorem pj_if_le {x : Int32} {t : Nat} {off : Int} (hd : decode Y.2.1 pc = .ok (.ifCond .le off, 3)) (hq : pc + 3 = q) (ht : (pc : Int) + off = (t : Int)) (kt : x ≤ 0 → pj_V E B l Y d mc ms t ls st h n ce sl Q) (kf : ¬ x ≤ 0 → pj_V E B l Y d mc ms q ls st h n ce sl Q) : pj_V E B l Y d mc ms pc ls (.int x :: st) h n ce sl Q := by
  subst hq
  intro p e s m args below meth c H locs la S hr hk hn hW hH hS hL
  exact lv_if_le S.1 S.2.1 hd ht (fun z => kt z p e s m args below meth c H locs la S hr hk hn hW hH hS hL) (fun z => kf z p e s m args below meth c H locs la S hr hk hn hW hH hS hL)
theorem pj_goto {t : Nat} {off : Int} (hd : decode Y.2.1 pc = .ok (.goto off, 3)) (ht : (pc : Int) + off = (t : Int)) (kk : pj_V E B l Y d mc ms t ls st h n ce sl Q) : pj_V E B l Y d mc ms pc ls st h n ce sl Q := by
  intro p e s m args below meth c H locs la S hr hk hn hW hH hS hL
  exact lv_goto S.1 S.2.1 hd ht (kk p e s m args below meth c H locs la S hr hk hn hW hH hS hL)
theorem pj_ifnonnull {t a : Nat} {off : Int} (hd : decode Y.2.1 pc = .ok (.ifnonnull off, 3)) (ht : (pc : Int) + off = (t : Int)) (kk : pj_V E B l Y d mc ms t ls st h n ce sl Q) : pj_V E B l Y d mc ms pc ls (.ref a :: st) h n ce sl Q := by
  intro p e s m args below meth c H locs la S hr hk hn hW hH hS hL
  exact lv_ifnonnull S.1 S.2.1 hd ht (kk p e s m args below meth c H locs la S hr hk hn hW hH hS hL)
theorem pj_ifnonnullN {off : Int} (hd : decode Y.2.1 pc = .ok (.ifnonnull off, 3)) (hq : pc + 3 = q) (kk : pj_V E B l Y d mc ms q ls st h n ce sl Q) : pj_V E B l Y d mc ms pc ls (.null :: st) h n ce sl Q := by
  subst hq
  intro p e s m args below meth c H locs la S hr hk hn hW hH hS hL
  exact lv_ifnonnullN S.1 S.2.1 hd (kk p e s m args below meth c H locs la S hr hk hn hW hH hS hL)
theorem pj_ifnull {a : Nat} {off : Int} (hd : decode Y.2.1 pc = .ok (.ifnull off, 3)) (hq : pc + 3 = q) (kk : pj_V E B l Y d mc ms q ls st h n ce sl Q) : pj_V E B l Y d mc ms pc ls (.ref a :: st) h n ce sl Q := by
  subst hq
  intro p e s m args below meth c H locs la S hr hk hn hW hH hS hL
  exact lv_ifnull S.1 S.2.1 hd (kk p e s m args below meth c H locs la S hr hk hn hW hH hS hL)
theorem pj_ifnullN {t : Nat} {off : Int} (hd : decode Y.2.1 pc = .ok (.ifnull off, 3)) (ht : (pc : Int) + off = (t : Int)) (kk : pj_V E B l Y d mc ms t ls st h n ce sl Q) : pj_V E B l Y d mc ms pc ls (.null :: st) h n ce sl Q := by
  intro p e s m args below meth c H locs la S hr hk hn hW hH hS hL
  exact lv_ifnullN S.1 S.2.1 hd ht (kk p e s m args below meth c H locs la S hr hk hn hW hH hS hL)
theorem pj_tabOut {t len : Nat} {dflt lo hi : Int} {offs : Array Int} {x : Int32} (hd : decode Y.2.1 pc = .ok (.tableswitch dflt lo hi offs, len)) (hx : x.toInt < lo ∨ hi < x.toInt) (ht : (pc : Int) + dflt = (t : Int)) (kk : pj_V E B l Y d mc ms t ls st h n ce sl Q) : pj_V E B l Y d mc ms pc ls (.int x :: st) h n ce sl Q := by
  intro p e s m args below meth c H locs la S hr hk hn hW hH hS hL
  exact lv_tableOut S.1 S.2.1 hd hx ht (kk p e s m args below meth c H locs la S hr hk hn hW hH hS hL)
theorem pj_tabIn {t len : Nat} {dflt lo hi off : Int} {offs : Array Int} {x : Int32} (hd : decode Y.2.1 pc = .ok (.tableswitch dflt lo hi offs, len)) (h1 : ¬ x.toInt < lo) (h2 : ¬ hi < x.toInt) (ho : offs[(x.toInt - lo).toNat]? = some off) (ht : (pc : Int) + off = (t : Int)) (kk : pj_V E B l Y d mc ms t ls st h n ce sl Q) : pj_V E B l Y d mc ms pc ls (.int x :: st) h n ce sl Q := by
  intro p e s m args below meth c H locs la S hr hk hn hW hH hS hL
  exact lv_tableIn S.1 S.2.1 hd h1 h2 ho ht (kk p e s m args below meth c H locs la S hr hk hn hW hH hS hL)
theorem pj_lookup {t len : Nat} {dflt off : Int} {ps : Array (Int × Int)} {x : Int32} (hd : decode Y.2.1 pc = .ok (.lookupswitch dflt ps, len)) (hp : (ps.toList.zip (ps.toList.drop 1)).all (fun (a, next) => a.1 < next.1) = true) (ho : Op.lookupswitch.offset ps.toList dflt x.toInt = off) (ht : (pc : Int) + off = (t : Int)) (kk : pj_V E B l Y d mc ms t ls st h n ce sl Q) : pj_V E B l Y d mc ms pc ls (.int x :: st) h n ce sl Q := by
  intro p e s m args below meth c H locs la S hr hk hn hW hH hS hL
  exact lv_lookup S.1 S.2.1 hd hp ho ht (kk p e s m args below meth c H locs la S hr hk hn hW hH hS hL)
theorem pj_ild0 {tl : List (Option Value)} {x : Int32} (hd : decode Y.2.1 pc = .ok (.iload_n 0, 1)) (hq : pc + 1 = q) (kk : pj_V E B l Y d mc ms q (some (.int x) :: tl) (.int x :: st) h n ce sl Q) : pj_V E B l Y d mc ms pc (some (.int x) :: tl) st h n ce sl Q := by
  subst hq
  intro p e s m args below meth c H locs la S hr hk hn hW hH hS hL
  exact lv_iload_n S.1 S.2.1 hd rfl (hL.at rfl) (kk p e s m args below meth c H locs la S hr hk hn hW hH hS hL)
theorem pj_lld0 {tl : List (Option Value)} {x : Int64} (hd : decode Y.2.1 pc = .ok (.lload_n 0, 1)) (hq : pc + 1 = q) (kk : pj_V E B l Y d mc ms q (some (.long x) :: tl) (.long x :: st) h n ce sl Q) : pj_V E B l Y d mc ms pc (some (.long x) :: tl) st h n ce sl Q := by
  subst hq
  intro p e s m args below meth c H locs la S hr hk hn hW hH hS hL
  exact lv_lload_n S.1 S.2.1 hd rfl (hL.at rfl) (kk p e s m args below meth c H locs la S hr hk hn hW hH hS hL)
theorem pj_ald0 {tl : List (Option Value)} {x : Nat} (hd : decode Y.2.1 pc = .ok (.aload_n 0, 1)) (hq : pc + 1 = q) (kk : pj_V E B l Y d mc ms q (some (.ref x) :: tl) (.ref x :: st) h n ce sl Q) : pj_V E B l Y d mc ms pc (some (.ref x) :: tl) st h n ce sl Q := by
  subst hq
  intro p e s m args below meth c H locs la S hr hk hn hW hH hS hL
  exact lv_aload_n S.1 S.2.1 hd rfl (hL.at rfl) (kk p e s m args below meth c H locs la S hr hk hn hW hH hS hL)
theorem pj_aldN0 {tl : List (Option Value)} (hd : decode Y.2.1 pc = .ok (.aload_n 0, 1)) (hq : pc + 1 = q) (kk : pj_V E B l Y d mc ms q (some .null :: tl) (.null :: st) h n ce sl Q) : pj_V E B l Y d mc ms pc (some .null :: tl) st h n ce sl Q := by
  subst hq
  intro p e s m args below meth c H locs la S hr hk hn hW hH hS hL
  exact lv_aload_nN S.1 S.2.1 hd rfl (hL.at rfl) (kk p e s m args below meth c H locs la S hr hk hn hW hH hS hL)
theorem pj_ild1 {o0 : Option Value} {tl : List (Option Value)} {x : Int32} (hd : decode Y.2.1 pc = .ok (.iload_n 1, 1)) (hq : pc + 1 = q) (kk : pj_V E B l Y d mc ms q (o0 :: some (.int x) :: tl) (.int x :: st) h n ce sl Q) : pj_V E B l Y d mc ms pc (o0 :: some (.int x) :: tl) st h n ce sl Q := by
  subst hq
  intro p e s m args below meth c H locs la S hr hk hn hW hH hS hL
  exact lv_iload_n S.1 S.2.1 hd rfl (hL.at rfl) (kk p e s m args below meth c H locs la S hr hk hn hW hH hS hL)
theorem pj_lld1 {o0 : Option Value} {tl : List (Option Value)} {x : Int64} (hd : decode Y.2.1 pc = .ok (.lload_n 1, 1)) (hq : pc + 1 = q) (kk : pj_V E B l Y d mc ms q (o0 :: some (.long x) :: tl) (.long x :: st) h n ce sl Q) : pj_V E B l Y d mc ms pc (o0 :: some (.long x) :: tl) st h n ce sl Q := by
  subst hq
  intro p e s m args below meth c H locs la S hr hk hn hW hH hS hL
  exact lv_lload_n S.1 S.2.1 hd rfl (hL.at rfl) (kk p e s m args below meth c H locs la S hr hk hn hW hH hS hL)
theorem pj_ald1 {o0 : Option Value} {tl : List (Option Value)} {x : Nat} (hd : decode Y.2.1 pc = .ok (.aload_n 1, 1)) (hq : pc + 1 = q) (kk : pj_V E B l Y d mc ms q (o0 :: some (.ref x) :: tl) (.ref x :: st) h n ce sl Q) : pj_V E B l Y d mc ms pc (o0 :: some (.ref x) :: tl) st h n ce sl Q := by
  subst hq
  intro p e s m args below meth c H locs la S hr hk hn hW hH hS hL
  exact lv_aload_n S.1 S.2.1 hd rfl (hL.at rfl) (kk p e s m args below meth c H locs la S hr hk hn hW hH hS hL)
theorem pj_aldN1 {o0 : Option Value} {tl : List (Option Value)} (hd : decode Y.2.1 pc = .ok (.aload_n 1, 1)) (hq : pc + 1 = q) (kk : pj_V E B l Y d mc ms q (o0 :: some .null :: tl) (.null :: st) h n ce sl Q) : pj_V E B l Y d mc ms pc (o0 :: some .null :: tl) st h n ce sl Q := by
  subst hq
  intro p e s m args below meth c H locs la S hr hk hn hW hH hS hL
  exact lv_aload_nN S.1 S.2.1 hd rfl (hL.at rfl) (kk p e s m args below meth c H locs la S hr hk hn hW hH hS hL)
theorem pj_ild2 {o0 o1 : Option Value} {tl : List (Option Value)} {x : Int32} (hd : decode Y.2.1 pc = .ok (.iload_n 2, 1)) (hq : pc + 1 = q) (kk : pj_V E B l Y d mc ms q (o0 :: o1 :: some (.int x) :: tl) (.int x :: st) h n ce sl Q) : pj_V E B l Y d mc ms pc (o0 :: o1 :: some (.int x) :: tl) st h n ce sl Q := by
  subst hq
  intro p e s m args below meth c H locs la S hr hk hn hW hH hS hL
  exact lv_iload_n S.1 S.2.1 hd rfl (hL.at rfl) (kk p e s m args below meth c H locs la S hr hk hn hW hH hS hL)
theorem pj_lld2 {o0 o1 : Option Value} {tl : List (Option Value)} {x : Int64} (hd : decode Y.2.1 pc = .ok (.lload_n 2, 1)) (hq : pc + 1 = q) (kk : pj_V E B l Y d mc ms q (o0 :: o1 :: some (.long x) :: tl) (.long x :: st) h n ce sl Q) : pj_V E B l Y d mc ms pc (o0 :: o1 :: some (.long x) :: tl) st h n ce sl Q := by
  subst hq
  intro p e s m args below meth c H locs la S hr hk hn hW hH hS hL
  exact lv_lload_n S.1 S.2.1 hd rfl (hL.at rfl) (kk p e s m args below meth c H locs la S hr hk hn hW hH hS hL)
theorem pj_ald2 {o0 o1 : Option Value} {tl : List (Option Value)} {x : Nat} (hd : decode Y.2.1 pc = .ok (.aload_n 2, 1)) (hq : pc + 1 = q) (kk : pj_V E B l Y d mc ms q (o0 :: o1 :: some (.ref x) :: tl) (.ref x :: st) h n ce sl Q) : pj_V E B l Y d mc ms pc (o0 :: o1 :: some (.ref x) :: tl) st h n ce sl Q := by
  subst hq
  intro p e s m args below meth c H locs la S hr hk hn hW hH hS hL
  exact lv_aload_n S.1 S.2.1 hd rfl (hL.at rfl) (kk p e s m args below meth c H locs la S hr hk hn hW hH hS hL)
theorem pj_aldN2 {o0 o1 : Option Value} {tl : List (Option Value)} (hd : decode Y.2.1 pc = .ok (.aload_n 2, 1)) (hq : pc + 1 = q) (kk : pj_V E B l Y d mc ms q (o0 :: o1 :: some .null :: tl) (.null :: st) h n ce sl Q) : pj_V E B l Y d mc ms pc (o0 :: o1 :: some .null :: tl) st h n ce sl Q := by
  subst hq
  intro p e s m args below meth c H locs la S hr hk hn hW hH hS hL
  exact lv_aload_nN S.1 S.2.1 hd rfl (hL.at rfl) (kk p e s m args below meth c H locs la S hr hk hn hW hH hS hL)
theorem pj_ild3 {o0 o1 o2 : Option Value} {tl : List (Option Value)} {x : Int32} (hd : decode Y.2.1 pc = .ok (.iload_n 3, 1)) (hq : pc + 1 = q) (kk : pj_V E B l Y d mc ms q (o0 :: o1 :: o2 :: some (.int x) :: tl) (.int x :: st) h n ce sl Q) : pj_V E B l Y d mc ms pc (o0 :: o1 :: o2 :: some (.int x) :: tl) st h n ce sl Q := by
  subst hq
  intro p e s m args below meth c H locs la S hr hk hn hW hH hS hL
  exact lv_iload_n S.1 S.2.1 hd rfl (hL.at rfl) (kk p e s m args below meth c H locs la S hr hk hn hW hH hS hL)
theorem pj_lld3 {o0 o1 o2 : Option Value} {tl : List (Option Value)} {x : Int64} (hd : decode Y.2.1 pc = .ok (.lload_n 3, 1)) (hq : pc + 1 = q) (kk : pj_V E B l Y d mc ms q (o0 :: o1 :: o2 :: some (.long x) :: tl) (.long x :: st) h n ce sl Q) : pj_V E B l Y d mc ms pc (o0 :: o1 :: o2 :: some (.long x) :: tl) st h n ce sl Q := by
  subst hq
  intro p e s m args below meth c H locs la S hr hk hn hW hH hS hL
  exact lv_lload_n S.1 S.2.1 hd rfl (hL.at rfl) (kk p e s m args below meth c H locs la S hr hk hn hW hH hS hL)
theorem pj_ald3 {o0 o1 o2 : Option Value} {tl : List (Option Value)} {x : Nat} (hd : decode Y.2.1 pc = .ok (.aload_n 3, 1)) (hq : pc + 1 = q) (kk : pj_V E B l Y d mc ms q (o0 :: o1 :: o2 :: some (.ref x) :: tl) (.ref x :: st) h n ce sl Q) : pj_V E B l Y d mc ms pc (o0 :: o1 :: o2 :: some (.ref x) :: tl) st h n ce sl Q := by
  subst hq
  intro p e s m args below meth c H locs la S hr hk hn hW hH hS hL
  exact lv_aload_n S.1 S.2.1 hd rfl (hL.at rfl) (kk p e s m args below meth c H locs la S hr hk hn hW hH hS hL)
theorem pj_aldN3 {o0 o1 o2 : Option Value} {tl : List (Option Value)} (hd : decode Y.2.1 pc = .ok (.aload_n 3, 1)) (hq : pc + 1 = q) (kk : pj_V E B l Y d mc ms q (o0 :: o1 :: o2 :: some .null :: tl) (.null :: st) h n ce sl Q) : pj_V E B l Y d mc ms pc (o0 :: o1 :: o2 :: some .null :: tl) st h n ce sl Q := by
  subst hq
  intro p e s m args below meth c H locs la S hr hk hn hW hH hS hL
  exact lv_aload_nN S.1 S.2.1 hd rfl (hL.at rfl) (kk p e s m args below meth c H locs la S hr hk hn hW hH hS hL)
theorem pj_ild4 {o0 o1 o2 o3 : Option Value} {tl : List (Option Value)} {x : Int32} (hd : decode Y.2.1 pc = .ok (.iload 4, 2)) (hq : pc + 2 = q) (kk : pj_V E B l Y d mc ms q (o0 :: o1 :: o2 :: o3 :: some (.int x) :: tl) (.int x :: st) h n ce sl Q) : pj_V E B l Y d mc ms pc (o0 :: o1 :: o2 :: o3 :: some (.int x) :: tl) st h n ce sl Q := by
  subst hq
  intro p e s m args below meth c H locs la S hr hk hn hW hH hS hL
  exact lv_iload S.1 S.2.1 hd (hL.at rfl) (kk p e s m args below meth c H locs la S hr hk hn hW hH hS hL)
theorem pj_lld4 {o0 o1 o2 o3 : Option Value} {tl : List (Option Value)} {x : Int64} (hd : decode Y.2.1 pc = .ok (.lload 4, 2)) (hq : pc + 2 = q) (kk : pj_V E B l Y d mc ms q (o0 :: o1 :: o2 :: o3 :: some (.long x) :: tl) (.long x :: st) h n ce sl Q) : pj_V E B l Y d mc ms pc (o0 :: o1 :: o2 :: o3 :: some (.long x) :: tl) st h n ce sl Q := by
  subst hq
  intro p e s m args below meth c H locs la S hr hk hn hW hH hS hL
  exact lv_lload S.1 S.2.1 hd (hL.at rfl) (kk p e s m args below meth c H locs la S hr hk hn hW hH hS hL)
theorem pj_ald4 {o0 o1 o2 o3 : Option Value} {tl : List (Option Value)} {x : Nat} (hd : decode Y.2.1 pc = .ok (.aload 4, 2)) (hq : pc + 2 = q) (kk : pj_V E B l Y d mc ms q (o0 :: o1 :: o2 :: o3 :: some (.ref x) :: tl) (.ref x :: st) h n ce sl Q) : pj_V E B l Y d mc ms pc (o0 :: o1 :: o2 :: o3 :: some (.ref x) :: tl) st h n ce sl Q := by
  subst hq
  intro p e s m args below meth c H locs la S hr hk hn hW hH hS hL
  exact lv_aload S.1 S.2.1 hd (hL.at rfl) (kk p e s m args below meth c H locs la S hr hk hn hW hH hS hL)
theorem pj_ild5 {o0 o1 o2 o3 o4 : Option Value} {tl : List (Option Value)} {x : Int32} (hd : decode Y.2.1 pc = .ok (.iload 5, 2)) (hq : pc + 2 = q) (kk : pj_V E B l Y d mc ms q (o0 :: o1 :: o2 :: o3 :: o4 :: some (.int x) :: tl) (.int x :: st) h n ce sl Q) : pj_V E B l Y d mc ms pc (o0 :: o1 :: o2 :: o3 :: o4 :: some (.int x) :: tl) st h n ce sl Q := by
  subst hq
  intro p e s m args below meth c H locs la S hr hk hn hW hH hS hL
  exact lv_iload S.1 S.2.1 hd (hL.at rfl) (kk p e s m args below meth c H locs la S hr hk hn hW hH hS hL)
theorem pj_lld5 {o0 o1 o2 o3 o4 : Option Value} {tl : List (Option Value)} {x : Int64} (hd : decode Y.2.1 pc = .ok (.lload 5, 2)) (hq : pc + 2 = q) (kk : pj_V E B l Y d mc ms q (o0 :: o1 :: o2 :: o3 :: o4 :: some (.long x) :: tl) (.long x :: st) h n ce sl Q) : pj_V E B l Y d mc ms pc (o0 :: o1 :: o2 :: o3 :: o4 :: some (.long x) :: tl) st h n ce sl Q := by
  subst hq
  intro p e s m args below meth c H locs la S hr hk hn hW hH hS hL
  exact lv_lload S.1 S.2.1 hd (hL.at rfl) (kk p e s m args below meth c H locs la S hr hk hn hW hH hS hL)
theorem pj_ald5 {o0 o1 o2 o3 o4 : Option Value} {tl : List (Option Value)} {x : Nat} (hd : decode Y.2.1 pc = .ok (.aload 5, 2)) (hq : pc + 2 = q) (kk : pj_V E B l Y d mc ms q (o0 :: o1 :: o2 :: o3 :: o4 :: some (.ref x) :: tl) (.ref x :: st) h n ce sl Q) : pj_V E B l Y d mc ms pc (o0 :: o1 :: o2 :: o3 :: o4 :: some (.ref x) :: tl) st h n ce sl Q := by
  subst hq
  intro p e s m args below meth c H locs la S hr hk hn hW hH hS hL
  exact lv_aload S.1 S.2.1 hd (hL.at rfl) (kk p e s m args below meth c H locs la S hr hk hn hW hH hS hL)
theorem pj_ild6 {o0 o1 o2 o3 o4 o5 : Option Value} {tl : List (Option Value)} {x : Int32} (hd : decode Y.2.1 pc = .ok (.iload 6, 2)) (hq : pc + 2 = q) (kk : pj_V E B l Y d mc ms q (o0 :: o1 :: o2 :: o3 :: o4 :: o5 :: some (.int x) :: tl) (.int x :: st) h n ce sl Q) : pj_V E B l Y d mc ms pc (o0 :: o1 :: o2 :: o3 :: o4 :: o5 :: some (.int x) :: tl) st h n ce sl Q := by
  subst hq
  intro p e s m args below meth c H locs la S hr hk hn hW hH hS hL
  exact lv_iload S.1 S.2.1 hd (hL.at rfl) (kk p e s m args below meth c H locs la S hr hk hn hW hH hS hL)
theorem pj_lld6 {o0 o1 o2 o3 o4 o5 : Option Value} {tl : List (Option Value)} {x : Int64} (hd : decode Y.2.1 pc = .ok (.lload 6, 2)) (hq : pc + 2 = q) (kk : pj_V E B l Y d mc ms q (o0 :: o1 :: o2 :: o3 :: o4 :: o5 :: some (.long x) :: tl) (.long x :: st) h n ce sl Q) : pj_V E B l Y d mc ms pc (o0 :: o1 :: o2 :: o3 :: o4 :: o5 :: some (.long x) :: tl) st h n ce sl Q := by
  subst hq
  intro p e s m args below meth c H locs la S hr hk hn hW hH hS hL
  exact lv_lload S.1 S.2.1 hd (hL.at rfl) (kk p e s m args below meth c H locs la S hr hk hn hW hH hS hL)
theorem pj_ald6 {o0 o1 o2 o3 o4 o5 : Option Value} {tl : List (Option Value)} {x : Nat} (hd : decode Y.2.1 pc = .ok (.aload 6, 2)) (hq : pc + 2 = q) (kk : pj_V E B l Y d mc ms q (o0 :: o1 :: o2 :: o3 :: o4 :: o5 :: some (.ref x) :: tl) (.ref x :: st) h n ce sl Q) : pj_V E B l Y d mc ms pc (o0 :: o1 :: o2 :: o3 :: o4 :: o5 :: some (.ref x) :: tl) st h n ce sl Q := by
  subst hq
  intro p e s m args below meth c H locs la S hr hk hn hW hH hS hL
  exact lv_aload S.1 S.2.1 hd (hL.at rfl) (kk p e s m args below meth c H locs la S hr hk hn hW hH hS hL)
theorem pj_ild7 {o0 o1 o2 o3 o4 o5 o6 : Option Value} {tl : List (Option Value)} {x : Int32} (hd : decode Y.2.1 pc = .ok (.iload 7, 2)) (hq : pc + 2 = q) (kk : pj_V E B l Y d mc ms q (o0 :: o1 :: o2 :: o3 :: o4 :: o5 :: o6 :: some (.int x) :: tl) (.int x :: st) h n ce sl Q) : pj_V E B l Y d mc ms pc (o0 :: o1 :: o2 :: o3 :: o4 :: o5 :: o6 :: some (.int x) :: tl) st h n ce sl Q := by
  subst hq
  intro p e s m args below meth c H locs la S hr hk hn hW hH hS hL
  exact lv_iload S.1 S.2.1 hd (hL.at rfl) (kk p e s m args below meth c H locs la S hr hk hn hW hH hS hL)
theorem pj_lld7 {o0 o1 o2 o3 o4 o5 o6 : Option Value} {tl : List (Option Value)} {x : Int64} (hd : decode Y.2.1 pc = .ok (.lload 7, 2)) (hq : pc + 2 = q) (kk : pj_V E B l Y d mc ms q (o0 :: o1 :: o2 :: o3 :: o4 :: o5 :: o6 :: some (.long x) :: tl) (.long x :: st) h n ce sl Q) : pj_V E B l Y d mc ms pc (o0 :: o1 :: o2 :: o3 :: o4 :: o5 :: o6 :: some (.long x) :: tl) st h n ce sl Q := by
  subst hq
  intro p e s m args below meth c H locs la S hr hk hn hW hH hS hL
  exact lv_lload S.1 S.2.1 hd (hL.at rfl) (kk p e s m args below meth c H locs la S hr hk hn hW hH hS hL)
theorem pj_ald7 {o0 o1 o2 o3 o4 o5 o6 : Option Value} {tl : List (Option Value)} {x : Nat} (hd : decode Y.2.1 pc = .ok (.aload 7, 2)) (hq : pc + 2 = q) (kk : pj_V E B l Y d mc ms q (o0 :: o1 :: o2 :: o3 :: o4 :: o5 :: o6 :: some (.ref x) :: tl) (.ref x :: st) h n ce sl Q) : pj_V E B l Y d mc ms pc (o0 :: o1 :: o2 :: o3 :: o4 :: o5 :: o6 :: some (.ref x) :: tl) st h n ce sl Q := by
  subst hq
  intro p e s m args below meth c H locs la S hr hk hn hW hH hS hL
  exact lv_aload S.1 S.2.1 hd (hL.at rfl) (kk p e s m args below meth c H locs la S hr hk hn hW hH hS hL)
theorem pj_ild8 {o0 o1 o2 o3 o4 o5 o6 o7 : Option Value} {tl : List (Option Value)} {x : Int32} (hd : decode Y.2.1 pc = .ok (.iload 8, 2)) (hq : pc + 2 = q) (kk : pj_V E B l Y d mc ms q (o0 :: o1 :: o2 :: o3 :: o4 :: o5 :: o6 :: o7 :: some (.int x) :: tl) (.int x :: st) h n ce sl Q) : pj_V E B l Y d mc ms pc (o0 :: o1 :: o2 :: o3 :: o4 :: o5 :: o6 :: o7 :: some (.int x) :: tl) st h n ce sl Q := by
  subst hq
  intro p e s m args below meth c H locs la S hr hk hn hW hH hS hL
  exact lv_iload S.1 S.2.1 hd (hL.at rfl) (kk p e s m args below meth c H locs la S hr hk hn hW hH hS hL)
theorem pj_lld8 {o0 o1 o2 o3 o4 o5 o6 o7 : Option Value} {tl : List (Option Value)} {x : Int64} (hd : decode Y.2.1 pc = .ok (.lload 8, 2)) (hq : pc + 2 = q) (kk : pj_V E B l Y d mc ms q (o0 :: o1 :: o2 :: o3 :: o4 :: o5 :: o6 :: o7 :: some (.long x) :: tl) (.long x :: st) h n ce sl Q) : pj_V E B l Y d mc ms pc (o0 :: o1 :: o2 :: o3 :: o4 :: o5 :: o6 :: o7 :: some (.long x) :: tl) st h n ce sl Q := by
  subst hq
  intro p e s m args below meth c H locs la S hr hk hn hW hH hS hL
  exact lv_lload S.1 S.2.1 hd (hL.at rfl) (kk p e s m args below meth c H locs la S hr hk hn hW hH hS hL)
theorem pj_ald8 {o0 o1 o2 o3 o4 o5 o6 o7 : Option Value} {tl : List (Option Value)} {x : Nat} (hd : decode Y.2.1 pc = .ok (.aload 8, 2)) (hq : pc + 2 = q) (kk : pj_V E B l Y d mc ms q (o0 :: o1 :: o2 :: o3 :: o4 :: o5 :: o6 :: o7 :: some (.ref x) :: tl) (.ref x :: st) h n ce sl Q) : pj_V E B l Y d mc ms pc (o0 :: o1 :: o2 :: o3 :: o4 :: o5 :: o6 :: o7 :: some (.ref x) :: tl) st h n ce sl Q := by
  subst hq
  intro p e s m args below meth c H locs la S hr hk hn hW hH hS hL
  exact lv_aload S.1 S.2.1 hd (hL.at rfl) (kk p e s m args below meth c H locs la S hr hk hn hW hH hS hL)
theorem pj_ild9 {o0 o1 o2 o3 o4 o5 o6 o7 o8 : Option Value} {tl : List (Option Value)} {x : Int32} (hd : decode Y.2.1 pc = .ok (.iload 9, 2)) (hq : pc + 2 = q) (kk : pj_V E B l Y d mc ms q (o0 :: o1 :: o2 :: o3 :: o4 :: o5 :: o6 :: o7 :: o8 :: some (.int x) :: tl) (.int x :: st) h n ce sl Q) : pj_V E B l Y d mc ms pc (o0 :: o1 :: o2 :: o3 :: o4 :: o5 :: o6 :: o7 :: o8 :: some (.int x) :: tl) st h n ce sl Q := by
  subst hq
  intro p e s m args below meth c H locs la S hr hk hn hW hH hS hL
  exact lv_iload S.1 S.2.1 hd (hL.at rfl) (kk p e s m args below meth c H locs la S hr hk hn hW hH hS hL)
theorem pj_lld9 {o0 o1 o2 o3 o4 o5 o6 o7 o8 : Option Value} {tl : List (Option Value)} {x : Int64} (hd : decode Y.2.1 pc = .ok (.lload 9, 2)) (hq : pc + 2 = q) (kk : pj_V E B l Y d mc ms q (o0 :: o1 :: o2 :: o3 :: o4 :: o5 :: o6 :: o7 :: o8 :: some (.long x) :: tl) (.long x :: st) h n ce sl Q) : pj_V E B l Y d mc ms pc (o0 :: o1 :: o2 :: o3 :: o4 :: o5 :: o6 :: o7 :: o8 :: some (.long x) :: tl) st h n ce sl Q := by
  subst hq
  intro p e s m args below meth c H locs la S hr hk hn hW hH hS hL
  exact lv_lload S.1 S.2.1 hd (hL.at rfl) (kk p e s m args below meth c H locs la S hr hk hn hW hH hS hL)
theorem pj_ald9 {o0 o1 o2 o3 o4 o5 o6 o7 o8 : Option Value} {tl : List (Option Value)} {x : Nat} (hd : decode Y.2.1 pc = .ok (.aload 9, 2)) (hq : pc + 2 = q) (kk : pj_V E B l Y d mc ms q (o0 :: o1 :: o2 :: o3 :: o4 :: o5 :: o6 :: o7 :: o8 :: some (.ref x) :: tl) (.ref x :: st) h n ce sl Q) : pj_V E B l Y d mc ms pc (o0 :: o1 :: o2 :: o3 :: o4 :: o5 :: o6 :: o7 :: o8 :: some (.ref x) :: tl) st h n ce sl Q := by
  subst hq
  intro p e s m args below meth c H locs la S hr hk hn hW hH hS hL
  exact lv_aload S.1 S.2.1 hd (hL.at rfl) (kk p e s m args below meth c H locs la S hr hk hn hW hH hS hL)
theorem pj_ild10 {o0 o1 o2 o3 o4 o5 o6 o7 o8 o9 : Option Value} {tl : List (Option Value)} {x : Int32} (hd : decode Y.2.1 pc = .ok (.iload 10, 2)) (hq : pc + 2 = q) (kk : pj_V E B l Y d mc ms q (o0 :: o1 :: o2 :: o3 :: o4 :: o5 :: o6 :: o7 :: o8 :: o9 :: some (.int x) :: tl) (.int x :: st) h n ce sl Q) : pj_V E B l Y d mc ms pc (o0 :: o1 :: o2 :: o3 :: o4 :: o5 :: o6 :: o7 :: o8 :: o9 :: some (.int x) :: tl) st h n ce sl Q := by
  subst hq
  intro p e s m args below meth c H locs la S hr hk hn hW hH hS hL
  exact lv_iload S.1 S.2.1 hd (hL.at rfl) (kk p e s m args below meth c H locs la S hr hk hn hW hH hS hL)
theorem pj_lld10 {o0 o1 o2 o3 o4 o5 o6 o7 o8 o9 : Option Value} {tl : List (Option Value)} {x : Int64} (hd : decode Y.2.1 pc = .ok (.lload 10, 2)) (hq : pc + 2 = q) (kk : pj_V E B l Y d mc ms q (o0 :: o1 :: o2 :: o3 :: o4 :: o5 :: o6 :: o7 :: o8 :: o9 :: some (.long x) :: tl) (.long x :: st) h n ce sl Q) : pj_V E B l Y d mc ms pc (o0 :: o1 :: o2 :: o3 :: o4 :: o5 :: o6 :: o7 :: o8 :: o9 :: some (.long x) :: tl) st h n ce sl Q := by
  subst hq
  intro p e s m args below meth c H locs la S hr hk hn hW hH hS hL
  exact lv_lload S.1 S.2.1 hd (hL.at rfl) (kk p e s m args below meth c H locs la S hr hk hn hW hH hS hL)
theorem pj_ald10 {o0 o1 o2 o3 o4 o5 o6 o7 o8 o9 : Option Value} {tl : List (Option Value)} {x : Nat} (hd : decode Y.2.1 pc = .ok (.aload 10, 2)) (hq : pc + 2 = q) (kk : pj_V E B l Y d mc ms q (o0 :: o1 :: o2 :: o3 :: o4 :: o5 :: o6 :: o7 :: o8 :: o9 :: some (.ref x) :: tl) (.ref x :: st) h n ce sl Q) : pj_V E B l Y d mc ms pc (o0 :: o1 :: o2 :: o3 :: o4 :: o5 :: o6 :: o7 :: o8 :: o9 :: some (.ref x) :: tl) st h n ce sl Q := by
  subst hq
  intro p e s m args below meth c H locs la S hr hk hn hW hH hS hL
  exact lv_aload S.1 S.2.1 hd (hL.at rfl) (kk p e s m args below meth c H locs la S hr hk hn hW hH hS hL)
theorem pj_ild11 {o0 o1 o2 o3 o4 o5 o6 o7 o8 o9 o10 : Option Value} {tl : List (Option Value)} {x : Int32} (hd : decode Y.2.1 pc = .ok (.iload 11, 2)) (hq : pc + 2 = q) (kk : pj_V E B l Y d mc ms q (o0 :: o1 :: o2 :: o3 :: o4 :: o5 :: o6 :: o7 :: o8 :: o9 :: o10 :: some (.int x) :: tl) (.int x :: st) h n ce sl Q) : pj_V E B l Y d mc ms pc (o0 :: o1 :: o2 :: o3 :: o4 :: o5 :: o6 :: o7 :: o8 :: o9 :: o10 :: some (.int x) :: tl) st h n ce sl Q := by
  subst hq
  intro p e s m args below meth c H locs la S hr hk hn hW hH hS hL
  exact lv_iload S.1 S.2.1 hd (hL.at rfl) (kk p e s m args below meth c H locs la S hr hk hn hW hH hS hL)
theorem pj_lld11 {o0 o1 o2 o3 o4 o5 o6 o7 o8 o9 o10 : Option Value} {tl : List (Option Value)} {x : Int64} (hd : decode Y.2.1 pc = .ok (.lload 11, 2)) (hq : pc + 2 = q) (kk : pj_V E B l Y d mc ms q (o0 :: o1 :: o2 :: o3 :: o4 :: o5 :: o6 :: o7 :: o8 :: o9 :: o10 :: some (.long x) :: tl) (.long x :: st) h n ce sl Q) : pj_V E B l Y d mc ms pc (o0 :: o1 :: o2 :: o3 :: o4 :: o5 :: o6 :: o7 :: o8 :: o9 :: o10 :: some (.long x) :: tl) st h n ce sl Q := by
  subst hq
  intro p e s m args below meth c H locs la S hr hk hn hW hH hS hL
  exact lv_lload S.1 S.2.1 hd (hL.at rfl) (kk p e s m args below meth c H locs la S hr hk hn hW hH hS hL)
theorem pj_ald11 {o0 o1 o2 o3 o4 o5 o6 o7 o8 o9 o10 : Option Value} {tl : List (Option Value)} {x : Nat} (hd : decode Y.2.1 pc = .ok (.aload 11, 2)) (hq : pc + 2 = q) (kk : pj_V E B l Y d mc ms q (o0 :: o1 :: o2 :: o3 :: o4 :: o5 :: o6 :: o7 :: o8 :: o9 :: o10 :: some (.ref x) :: tl) (.ref x :: st) h n ce sl Q) : pj_V E B l Y d mc ms pc (o0 :: o1 :: o2 :: o3 :: o4 :: o5 :: o6 :: o7 :: o8 :: o9 :: o10 :: some (.ref x) :: tl) st h n ce sl Q := by
  subst hq
  intro p e s m args below meth c H locs la S hr hk hn hW hH hS hL
  exact lv_aload S.1 S.2.1 hd (hL.at rfl) (kk p e s m args below meth c H locs la S hr hk hn hW hH hS hL)
theorem pj_ild12 {o0 o1 o2 o3 o4 o5 o6 o7 o8 o9 o10 o11 : Option Value} {tl : List (Option Value)} {x : Int32} (hd : decode Y.2.1 pc = .ok (.iload 12, 2)) (hq : pc + 2 = q) (kk : pj_V E B l Y d mc ms q (o0 :: o1 :: o2 :: o3 :: o4 :: o5 :: o6 :: o7 :: o8 :: o9 :: o10 :: o11 :: some (.int x) :: tl) (.int x :: st) h n ce sl Q) : pj_V E B l Y d mc ms pc (o0 :: o1 :: o2 :: o3 :: o4 :: o5 :: o6 :: o7 :: o8 :: o9 :: o10 :: o11 :: some (.int x) :: tl) st h n ce sl Q := by
  subst hq
  intro p e s m args below meth c H locs la S hr hk hn hW hH hS hL
  exact lv_iload S.1 S.2.1 hd (hL.at rfl) (kk p e s m args below meth c H locs la S hr hk hn hW hH hS hL)
theorem pj_lld12 {o0 o1 o2 o3 o4 o5 o6 o7 o8 o9 o10 o11 : Option Value} {tl : List (Option Value)} {x : Int64} (hd : decode Y.2.1 pc = .ok (.lload 12, 2)) (hq : pc + 2 = q) (kk : pj_V E B l Y d mc ms q (o0 :: o1 :: o2 :: o3 :: o4 :: o5 :: o6 :: o7 :: o8 :: o9 :: o10 :: o11 :: some (.long x) :: tl) (.long x :: st) h n ce sl Q) : pj_V E B l Y d mc ms pc (o0 :: o1 :: o2 :: o3 :: o4 :: o5 :: o6 :: o7 :: o8 :: o9 :: o10 :: o11 :: some (.long x) :: tl) st h n ce sl Q := by
  subst hq
  intro p e s m args below meth c H locs la S hr hk hn hW hH hS hL
  exact lv_lload S.1 S.2.1 hd (hL.at rfl) (kk p e s m args below meth c H locs la S hr hk hn hW hH hS hL)
theorem pj_ald12 {o0 o1 o2 o3 o4 o5 o6 o7 o8 o9 o10 o11 : Option Value} {tl : List (Option Value)} {x : Nat} (hd : decode Y.2.1 pc = .ok (.aload 12, 2)) (hq : pc + 2 = q) (kk : pj_V E B l Y d mc ms q (o0 :: o1 :: o2 :: o3 :: o4 :: o5 :: o6 :: o7 :: o8 :: o9 :: o10 :: o11 :: some (.ref x) :: tl) (.ref x :: st) h n ce sl Q) : pj_V E B l Y d mc ms pc (o0 :: o1 :: o2 :: o3 :: o4 :: o5 :: o6 :: o7 :: o8 :: o9 :: o10 :: o11 :: some (.ref x) :: tl) st h n ce sl Q := by
  subst hq
  intro p e s m args below meth c H locs la S hr hk hn hW hH hS hL
  exact lv_aload S.1 S.2.1 hd (hL.at rfl) (kk p e s m args below meth c H locs la S hr hk hn hW hH hS hL)
theorem pj_ild13 {o0 o1 o2 o3 o4 o5 o6 o7 o8 o9 o10 o11 o12 : Option Value} {tl : List (Option Value)} {x : Int32} (hd : decode Y.2.1 pc = .ok (.iload 13, 2)) (hq : pc + 2 = q) (kk : pj_V E B l Y d mc ms q (o0 :: o1 :: o2 :: o3 :: o4 :: o5 :: o6 :: o7 :: o8 :: o9 :: o10 :: o11 :: o12 :: some (.int x) :: tl) (.int x :: st) h n ce sl Q) : pj_V E B l Y d mc ms pc (o0 :: o1 :: o2 :: o3 :: o4 :: o5 :: o6 :: o7 :: o8 :: o9 :: o10 :: o11 :: o12 :: some (.int x) :: tl) st h n ce sl Q := by
  subst hq
  intro p e s m args below meth c H locs la S hr hk hn hW hH hS hL
  exact lv_iload S.1 S.2.1 hd (hL.at rfl) (kk p e s m args below meth c H locs la S hr hk hn hW hH hS hL)
theorem pj_lld13 {o0 o1 o2 o3 o4 o5 o6 o7 o8 o9 o10 o11 o12 : Option Value} {tl : List (Option Value)} {x : Int64} (hd : decode Y.2.1 pc = .ok (.lload 13, 2)) (hq : pc + 2 = q) (kk : pj_V E B l Y d mc ms q (o0 :: o1 :: o2 :: o3 :: o4 :: o5 :: o6 :: o7 :: o8 :: o9 :: o10 :: o11 :: o12 :: some (.long x) :: tl) (.long x :: st) h n ce sl Q) : pj_V E B l Y d mc ms pc (o0 :: o1 :: o2 :: o3 :: o4 :: o5 :: o6 :: o7 :: o8 :: o9 :: o10 :: o11 :: o12 :: some (.long x) :: tl) st h n ce sl Q := by
  subst hq
  intro p e s m args below meth c H locs la S hr hk hn hW hH hS hL
  exact lv_lload S.1 S.2.1 hd (hL.at rfl) (kk p e s m args below meth c H locs la S hr hk hn hW hH hS hL)
theorem pj_ald13 {o0 o1 o2 o3 o4 o5 o6 o7 o8 o9 o10 o11 o12 : Option Value} {tl : List (Option Value)} {x : Nat} (hd : decode Y.2.1 pc = .ok (.aload 13, 2)) (hq : pc + 2 = q) (kk : pj_V E B l Y d mc ms q (o0 :: o1 :: o2 :: o3 :: o4 :: o5 :: o6 :: o7 :: o8 :: o9 :: o10 :: o11 :: o12 :: some (.ref x) :: tl) (.ref x :: st) h n ce sl Q) : pj_V E B l Y d mc ms pc (o0 :: o1 :: o2 :: o3 :: o4 :: o5 :: o6 :: o7 :: o8 :: o9 :: o10 :: o11 :: o12 :: some (.ref x) :: tl) st h n ce sl Q := by
  subst hq
  intro p e s m args below meth c H locs la S hr hk hn hW hH hS hL
  exact lv_aload S.1 S.2.1 hd (hL.at rfl) (kk p e s m args below meth c H locs la S hr hk hn hW hH hS hL)
theorem pj_ild14 {o0 o1 o2 o3 o4 o5 o6 o7 o8 o9 o10 o11 o12 o13 : Option Value} {tl : List (Option Value)} {x : Int32} (hd : decode Y.2.1 pc = .ok (.iload 14, 2)) (hq : pc + 2 = q) (kk : pj_V E B l Y d mc ms q (o0 :: o1 :: o2 :: o3 :: o4 :: o5 :: o6 :: o7 :: o8 :: o9 :: o10 :: o11 :: o12 :: o13 :: some (.int x) :: tl) (.int x :: st) h n ce sl Q) : pj_V E B l Y d mc ms pc (o0 :: o1 :: o2 :: o3 :: o4 :: o5 :: o6 :: o7 :: o8 :: o9 :: o10 :: o11 :: o12 :: o13 :: some (.int x) :: tl) st h n ce sl Q := by
  subst hq
  intro p e s m args below meth c H locs la S hr hk hn hW hH hS hL
  exact lv_iload S.1 S.2.1 hd (hL.at rfl) (kk p e s m args below meth c H locs la S hr hk hn hW hH hS hL)
theorem pj_lld14 {o0 o1 o2 o3 o4 o5 o6 o7 o8 o9 o10 o11 o12 o13 : Option Value} {tl : List (Option Value)} {x : Int64} (hd : decode Y.2.1 pc = .ok (.lload 14, 2)) (hq : pc + 2 = q) (kk : pj_V E B l Y d mc ms q (o0 :: o1 :: o2 :: o3 :: o4 :: o5 :: o6 :: o7 :: o8 :: o9 :: o10 :: o11 :: o12 :: o13 :: some (.long x) :: tl) (.long x :: st) h n ce sl Q) : pj_V E B l Y d mc ms pc (o0 :: o1 :: o2 :: o3 :: o4 :: o5 :: o6 :: o7 :: o8 :: o9 :: o10 :: o11 :: o12 :: o13 :: some (.long x) :: tl) st h n ce sl Q := by
  subst hq
  intro p e s m args below meth c H locs la S hr hk hn hW hH hS hL
  exact lv_lload S.1 S.2.1 hd (hL.at rfl) (kk p e s m args below meth c H locs la S hr hk hn hW hH hS hL)
theorem pj_ald14 {o0 o1 o2 o3 o4 o5 o6 o7 o8 o9 o10 o11 o12 o13 : Option Value} {tl : List (Option Value)} {x : Nat} (hd : decode Y.2.1 pc = .ok (.aload 14, 2)) (hq : pc + 2 = q) (kk : pj_V E B l Y d mc ms q (o0 :: o1 :: o2 :: o3 :: o4 :: o5 :: o6 :: o7 :: o8 :: o9 :: o10 :: o11 :: o12 :: o13 :: some (.ref x) :: tl) (.ref x :: st) h n ce sl Q) : pj_V E B l Y d mc ms pc (o0 :: o1 :: o2 :: o3 :: o4 :: o5 :: o6 :: o7 :: o8 :: o9 :: o10 :: o11 :: o12 :: o13 :: some (.ref x) :: tl) st h n ce sl Q := by
  subst hq
  intro p e s m args below meth c H locs la S hr hk hn hW hH hS hL
  exact lv_aload S.1 S.2.1 hd (hL.at rfl) (kk p e s m args below meth c H locs la S hr hk hn hW hH hS hL)
theorem pj_ild15 {o0 o1 o2 o3 o4 o5 o6 o7 o8 o9 o10 o11 o12 o13 o14 : Option Value} {tl : List (Option Value)} {x : Int32} (hd : decode Y.2.1 pc = .ok (.iload 15, 2)) (hq : pc + 2 = q) (kk : pj_V E B l Y d mc ms q (o0 :: o1 :: o2 :: o3 :: o4 :: o5 :: o6 :: o7 :: o8 :: o9 :: o10 :: o11 :: o12 :: o13 :: o14 :: some (.int x) :: tl) (.int x :: st) h n ce sl Q) : pj_V E B l Y d mc ms pc (o0 :: o1 :: o2 :: o3 :: o4 :: o5 :: o6 :: o7 :: o8 :: o9 :: o10 :: o11 :: o12 :: o13 :: o14 :: some (.int x) :: tl) st h n ce sl Q := by
  subst hq
  intro p e s m args below meth c H locs la S hr hk hn hW hH hS hL
  exact lv_iload S.1 S.2.1 hd (hL.at rfl) (kk p e s m args below meth c H locs la S hr hk hn hW hH hS hL)
theorem pj_lld15 {o0 o1 o2 o3 o4 o5 o6 o7 o8 o9 o10 o11 o12 o13 o14 : Option Value} {tl : List (Option Value)} {x : Int64} (hd : decode Y.2.1 pc = .ok (.lload 15, 2)) (hq : pc + 2 = q) (kk : pj_V E B l Y d mc ms q (o0 :: o1 :: o2 :: o3 :: o4 :: o5 :: o6 :: o7 :: o8 :: o9 :: o10 :: o11 :: o12 :: o13 :: o14 :: some (.long x) :: tl) (.long x :: st) h n ce sl Q) : pj_V E B l Y d mc ms pc (o0 :: o1 :: o2 :: o3 :: o4 :: o5 :: o6 :: o7 :: o8 :: o9 :: o10 :: o11 :: o12 :: o13 :: o14 :: some (.long x) :: tl) st h n ce sl Q := by
  subst hq
  intro p e s m args below meth c H locs la S hr hk hn hW hH hS hL
  exact lv_lload S.1 S.2.1 hd (hL.at rfl) (kk p e s m args below meth c H locs la S hr hk hn hW hH hS hL)
theorem pj_ald15 {o0 o1 o2 o3 o4 o5 o6 o7 o8 o9 o10 o11 o12 o13 o14 : Option Value} {tl : List (Option Value)} {x : Nat} (hd : decode Y.2.1 pc = .ok (.aload 15, 2)) (hq : pc + 2 = q) (kk : pj_V E B l Y d mc ms q (o0 :: o1 :: o2 :: o3 :: o4 :: o5 :: o6 :: o7 :: o8 :: o9 :: o10 :: o11 :: o12 :: o13 :: o14 :: some (.ref x) :: tl) (.ref x :: st) h n ce sl Q) : pj_V E B l Y d mc ms pc (o0 :: o1 :: o2 :: o3 :: o4 :: o5 :: o6 :: o7 :: o8 :: o9 :: o10 :: o11 :: o12 :: o13 :: o14 :: some (.ref x) :: tl) st h n ce sl Q := by
  subst hq
  intro p e s m args below meth c H locs la S hr hk hn hW hH hS hL
  exact lv_aload S.1 S.2.1 hd (hL.at rfl) (kk p e s m args below meth c H locs la S hr hk hn hW hH hS hL)
def pj_c1 (o : Option Value) : Bool := match o with
  | none => true
  | some v => v.category == 1
theorem pj_L.set1 {la la' : Array Slot} {nL i : Nat} {ls : List (Option Value)} {v : Value} (hL : pj_L la nL ls) (hi : i < nL) (hp : ∀ o, 0 < i → ls[i - 1]? = some o → pj_c1 o = true) (h' : lv_has la' nL ((i, v) :: (pj_as 0 ls).filter (fun q => !(q.1 == i) && !(q.1 + 1 == i && q.2.category == 2)))) : pj_L la' nL (ls.set i (some v)) := by
  refine ⟨⟨h'.1, h'.2.1, ?_⟩, by rw [List.length_set]; exact hL.2⟩
  rintro ⟨j, w⟩ hj
  obtain ⟨k, h1, h2⟩ := (pj_as_mem _ 0 j w).mp hj
  have hjk : j = k := by omega
  subst hjk
  by_cases hji : j = i
  · subst hji
    rw [List.getElem?_set_self (by rw [hL.2]; exact hi)] at h2
    have : w = v := by injection h2 with h2; injection h2 with h2; exact h2.symm
    subst this
    exact h'.2.2 _ List.mem_cons_self
  · rw [List.getElem?_set_ne (Ne.symm hji)] at h2
    refine h'.2.2 (j, w) (List.mem_cons_of_mem _ (List.mem_filter.mpr ⟨(pj_as_mem ls 0 j w).mpr ⟨j, by omega, h2⟩, ?_⟩))
    simp only [Bool.and_eq_true, Bool.not_eq_true', beq_eq_false_iff_ne, ne_eq, Bool.and_eq_false_iff]
    refine ⟨hji, ?_⟩
    by_cases hj1 : j + 1 = i
    · right
      have := hp (some w) (by omega) (by rw [← h2]; congr 1; omega)
      simp only [pj_c1, beq_iff_eq] at this
      omega
    · left; exact hj1
theorem pj_L.set2 {la la' : Array Slot} {nL i : Nat} {ls : List (Option Value)} {v : Value} (hL : pj_L la nL ls) (hi : i + 1 < nL) (hp : ∀ o, 0 < i → ls[i - 1]? = some o → pj_c1 o = true) (h' : lv_has la' nL ((i, v) :: (pj_as 0 ls).filter (fun q => !(q.1 == i) && (!(q.1 == i + 1) && !(q.1 + 1 == i && q.2.category == 2))))) : pj_L la' nL ((ls.set i (some v)).set (i + 1) none) := by
  refine ⟨⟨h'.1, h'.2.1, ?_⟩, by rw [List.length_set, List.length_set]; exact hL.2⟩
  rintro ⟨j, w⟩ hj
  obtain ⟨k, h1, h2⟩ := (pj_as_mem _ 0 j w).mp hj
  have hjk : j = k := by omega
  subst hjk
  by_cases hj2 : j = i + 1
  · subst hj2
    rw [List.getElem?_set_self (by rw [List.length_set, hL.2]; exact hi)] at h2
    cases h2
  · rw [List.getElem?_set_ne (Ne.symm hj2)] at h2
    by_cases hji : j = i
    · subst hji
      rw [List.getElem?_set_self (by rw [hL.2]; omega)] at h2
      have : w = v := by injection h2 with h2; injection h2 with h2; exact h2.symm
      subst this
      exact h'.2.2 _ List.mem_cons_self
    · rw [List.getElem?_set_ne (Ne.symm hji)] at h2
      refine h'.2.2 (j, w) (List.mem_cons_of_mem _ (List.mem_filter.mpr ⟨(pj_as_mem ls 0 j w).mpr ⟨j, by omega, h2⟩, ?_⟩))
      simp only [Bool.and_eq_true, Bool.not_eq_true', beq_eq_false_iff_ne, ne_eq, Bool.and_eq_false_iff]
      refine ⟨hji, hj2, ?_⟩
      by_cases hj1 : j + 1 = i
      · right
        have := hp (some w) (by omega) (by rw [← h2]; congr 1; omega)
        simp only [pj_c1, beq_iff_eq] at this
        omega
      · left; exact hj1

theorem pj_ist0 {o0 : Option Value} {tl : List (Option Value)} {x : Int32} (hd : decode Y.2.1 pc = .ok (.istore_n 0, 1)) (hq : pc + 1 = q) (kk : pj_V E B l Y d mc ms q (some (.int x) :: tl) st h n ce sl Q) : pj_V E B l Y d mc ms pc (o0 :: tl) (.int x :: st) h n ce sl Q := by
  subst hq
  intro p e s m args below meth c H locs la S hr hk hn hW hH hS hL
  have hi : 0 < Y.2.2.1 := by rw [← hL.2]; simp only [List.length_cons]; omega
  exact lv_istore_n S.1 S.2.1 hd rfl hL.1 hi rfl (fun la' h' => kk p e s m args below meth c H locs la' S hr hk hn hW hH hS (hL.set1 hi (fun o z _ => absurd z (Nat.lt_irrefl 0)) h'))
theorem pj_ast0 {o0 : Option Value} {tl : List (Option Value)} {x : Nat} (hd : decode Y.2.1 pc = .ok (.astore_n 0, 1)) (hq : pc + 1 = q) (kk : pj_V E B l Y d mc ms q (some (.ref x) :: tl) st h n ce sl Q) : pj_V E B l Y d mc ms pc (o0 :: tl) (.ref x :: st) h n ce sl Q := by
  subst hq
  intro p e s m args below meth c H locs la S hr hk hn hW hH hS hL
  have hi : 0 < Y.2.2.1 := by rw [← hL.2]; simp only [List.length_cons]; omega
  exact lv_astore_n S.1 S.2.1 hd rfl hL.1 hi rfl (fun la' h' => kk p e s m args below meth c H locs la' S hr hk hn hW hH hS (hL.set1 hi (fun o z _ => absurd z (Nat.lt_irrefl 0)) h'))
theorem pj_astN0 {o0 : Option Value} {tl : List (Option Value)} (hd : decode Y.2.1 pc = .ok (.astore_n 0, 1)) (hq : pc + 1 = q) (kk : pj_V E B l Y d mc ms q (some .null :: tl) st h n ce sl Q) : pj_V E B l Y d mc ms pc (o0 :: tl) (.null :: st) h n ce sl Q := by
  subst hq
  intro p e s m args below meth c H locs la S hr hk hn hW hH hS hL
  have hi : 0 < Y.2.2.1 := by rw [← hL.2]; simp only [List.length_cons]; omega
  exact lv_astore_nN S.1 S.2.1 hd rfl hL.1 hi rfl (fun la' h' => kk p e s m args below meth c H locs la' S hr hk hn hW hH hS (hL.set1 hi (fun o z _ => absurd z (Nat.lt_irrefl 0)) h'))
theorem pj_lst0 {o0 : Option Value} {o' : Option Value} {tl : List (Option Value)} {x : Int64} (hd : decode Y.2.1 pc = .ok (.lstore_n 0, 1)) (hq : pc + 1 = q) (kk : pj_V E B l Y d mc ms q (some (.long x) :: none :: tl) st h n ce sl Q) : pj_V E B l Y d mc ms pc (o0 :: o' :: tl) (.long x :: st) h n ce sl Q := by
  subst hq
  intro p e s m args below meth c H locs la S hr hk hn hW hH hS hL
  have hi : 0 + 1 < Y.2.2.1 := by rw [← hL.2]; simp only [List.length_cons]; omega
  exact lv_lstore_n S.1 S.2.1 hd rfl hL.1 hi rfl (fun la' h' => kk p e s m args below meth c H locs la' S hr hk hn hW hH hS (hL.set2 hi (fun o z _ => absurd z (Nat.lt_irrefl 0)) h'))
theorem pj_iinc0 {tl : List (Option Value)} {k : Int} {x v : Int32} (hd : decode Y.2.1 pc = .ok (.iinc 0 k, 3)) (hq : pc + 3 = q) (hv : Int32.ofInt k = v) (kk : pj_V E B l Y d mc ms q (some (.int (x + v)) :: tl) st h n ce sl Q) : pj_V E B l Y d mc ms pc (some (.int x) :: tl) st h n ce sl Q := by
  subst hq
  subst hv
  intro p e s m args below meth c H locs la S hr hk hn hW hH hS hL
  have hi : 0 < Y.2.2.1 := by rw [← hL.2]; simp only [List.length_cons]; omega
  obtain ⟨j, hj⟩ := List.getElem?_of_mem ((pj_as_mem (some (.int x) :: tl) 0 0 (.int x)).mpr ⟨0, by omega, rfl⟩)
  exact lv_iinc S.1 S.2.1 hd hL.1 hj rfl hi rfl (fun la' h' => kk p e s m args below meth c H locs la' S hr hk hn hW hH hS (hL.set1 hi (fun o z _ => absurd z (Nat.lt_irrefl 0)) h'))
theorem pj_ist1 {o0 o1 : Option Value} {tl : List (Option Value)} {x : Int32} (hd : decode Y.2.1 pc = .ok (.istore_n 1, 1)) (hq : pc + 1 = q) (hp : pj_c1 o0 = true) (kk : pj_V E B l Y d mc ms q (o0 :: some (.int x) :: tl) st h n ce sl Q) : pj_V E B l Y d mc ms pc (o0 :: o1 :: tl) (.int x :: st) h n ce sl Q := by
  subst hq
  intro p e s m args below meth c H locs la S hr hk hn hW hH hS hL
  have hi : 1 < Y.2.2.1 := by rw [← hL.2]; simp only [List.length_cons]; omega
  exact lv_istore_n S.1 S.2.1 hd rfl hL.1 hi rfl (fun la' h' => kk p e s m args below meth c H locs la' S hr hk hn hW hH hS (hL.set1 hi (fun o _ z => by cases z; exact hp) h'))
theorem pj_ast1 {o0 o1 : Option Value} {tl : List (Option Value)} {x : Nat} (hd : decode Y.2.1 pc = .ok (.astore_n 1, 1)) (hq : pc + 1 = q) (hp : pj_c1 o0 = true) (kk : pj_V E B l Y d mc ms q (o0 :: some (.ref x) :: tl) st h n ce sl Q) : pj_V E B l Y d mc ms pc (o0 :: o1 :: tl) (.ref x :: st) h n ce sl Q := by
  subst hq
  intro p e s m args below meth c H locs la S hr hk hn hW hH hS hL
  have hi : 1 < Y.2.2.1 := by rw [← hL.2]; simp only [List.length_cons]; omega
  exact lv_astore_n S.1 S.2.1 hd rfl hL.1 hi rfl (fun la' h' => kk p e s m args below meth c H locs la' S hr hk hn hW hH hS (hL.set1 hi (fun o _ z => by cases z; exact hp) h'))
theorem pj_astN1 {o0 o1 : Option Value} {tl : List (Option Value)} (hd : decode Y.2.1 pc = .ok (.astore_n 1, 1)) (hq : pc + 1 = q) (hp : pj_c1 o0 = true) (kk : pj_V E B l Y d mc ms q (o0 :: some .null :: tl) st h n ce sl Q) : pj_V E B l Y d mc ms pc (o0 :: o1 :: tl) (.null :: st) h n ce sl Q := by
  subst hq
  intro p e s m args below meth c H locs la S hr hk hn hW hH hS hL
  have hi : 1 < Y.2.2.1 := by rw [← hL.2]; simp only [List.length_cons]; omega
  exact lv_astore_nN S.1 S.2.1 hd rfl hL.1 hi rfl (fun la' h' => kk p e s m args below meth c H locs la' S hr hk hn hW hH hS (hL.set1 hi (fun o _ z => by cases z; exact hp) h'))
theorem pj_lst1 {o0 o1 : Option Value} {o' : Option Value} {tl : List (Option Value)} {x : Int64} (hd : decode Y.2.1 pc = .ok (.lstore_n 1, 1)) (hq : pc + 1 = q) (hp : pj_c1 o0 = true) (kk : pj_V E B l Y d mc ms q (o0 :: some (.long x) :: none :: tl) st h n ce sl Q) : pj_V E B l Y d mc ms pc (o0 :: o1 :: o' :: tl) (.long x :: st) h n ce sl Q := by
  subst hq
  intro p e s m args below meth c H locs la S hr hk hn hW hH hS hL
  have hi : 1 + 1 < Y.2.2.1 := by rw [← hL.2]; simp only [List.length_cons]; omega
  exact lv_lstore_n S.1 S.2.1 hd rfl hL.1 hi rfl (fun la' h' => kk p e s m args below meth c H locs la' S hr hk hn hW hH hS (hL.set2 hi (fun o _ z => by cases z; exact hp) h'))
theorem pj_iinc1 {o0 : Option Value} {tl : List (Option Value)} {k : Int} {x v : Int32} (hd : decode Y.2.1 pc = .ok (.iinc 1 k, 3)) (hq : pc + 3 = q) (hp : pj_c1 o0 = true) (hv : Int32.ofInt k = v) (kk : pj_V E B l Y d mc ms q (o0 :: some (.int (x + v)) :: tl) st h n ce sl Q) : pj_V E B l Y d mc ms pc (o0 :: some (.int x) :: tl) st h n ce sl Q := by
  subst hq
  subst hv
  intro p e s m args below meth c H locs la S hr hk hn hW hH hS hL
  have hi : 1 < Y.2.2.1 := by rw [← hL.2]; simp only [List.length_cons]; omega
  obtain ⟨j, hj⟩ := List.getElem?_of_mem ((pj_as_mem (o0 :: some (.int x) :: tl) 0 1 (.int x)).mpr ⟨1, by omega, rfl⟩)
  exact lv_iinc S.1 S.2.1 hd hL.1 hj rfl hi rfl (fun la' h' => kk p e s m args below meth c H locs la' S hr hk hn hW hH hS (hL.set1 hi (fun o _ z => by cases z; exact hp) h'))
theorem pj_ist2 {o0 o1 o2 : Option Value} {tl : List (Option Value)} {x : Int32} (hd : decode Y.2.1 pc = .ok (.istore_n 2, 1)) (hq : pc + 1 = q) (hp : pj_c1 o1 = true) (kk : pj_V E B l Y d mc ms q (o0 :: o1 :: some (.int x) :: tl) st h n ce sl Q) : pj_V E B l Y d mc ms pc (o0 :: o1 :: o2 :: tl) (.int x :: st) h n ce sl Q := by
  subst hq
  intro p e s m args below meth c H locs la S hr hk hn hW hH hS hL
  have hi : 2 < Y.2.2.1 := by rw [← hL.2]; simp only [List.length_cons]; omega
  exact lv_istore_n S.1 S.2.1 hd rfl hL.1 hi rfl (fun la' h' => kk p e s m args below meth c H locs la' S hr hk hn hW hH hS (hL.set1 hi (fun o _ z => by cases z; exact hp) h'))
theorem pj_ast2 {o0 o1 o2 : Option Value} {tl : List (Option Value)} {x : Nat} (hd : decode Y.2.1 pc = .ok (.astore_n 2, 1)) (hq : pc + 1 = q) (hp : pj_c1 o1 = true) (kk : pj_V E B l Y d mc ms q (o0 :: o1 :: some (.ref x) :: tl) st h n ce sl Q) : pj_V E B l Y d mc ms pc (o0 :: o1 :: o2 :: tl) (.ref x :: st) h n ce sl Q := by
  subst hq
  intro p e s m args below meth c H locs la S hr hk hn hW hH hS hL
  have hi : 2 < Y.2.2.1 := by rw [← hL.2]; simp only [List.length_cons]; omega
  exact lv_astore_n S.1 S.2.1 hd rfl hL.1 hi rfl (fun la' h' => kk p e s m args below meth c H locs la' S hr hk hn hW hH hS (hL.set1 hi (fun o _ z => by cases z; exact hp) h'))
theorem pj_astN2 {o0 o1 o2 : Option Value} {tl : List (Option Value)} (hd : decode Y.2.1 pc = .ok (.astore_n 2, 1)) (hq : pc + 1 = q) (hp : pj_c1 o1 = true) (kk : pj_V E B l Y d mc ms q (o0 :: o1 :: some .null :: tl) st h n ce sl Q) : pj_V E B l Y d mc ms pc (o0 :: o1 :: o2 :: tl) (.null :: st) h n ce sl Q := by
  subst hq
  intro p e s m args below meth c H locs la S hr hk hn hW hH hS hL
  have hi : 2 < Y.2.2.1 := by rw [← hL.2]; simp only [List.length_cons]; omega
  exact lv_astore_nN S.1 S.2.1 hd rfl hL.1 hi rfl (fun la' h' => kk p e s m args below meth c H locs la' S hr hk hn hW hH hS (hL.set1 hi (fun o _ z => by cases z; exact hp) h'))
theorem pj_lst2 {o0 o1 o2 : Option Value} {o' : Option Value} {tl : List (Option Value)} {x : Int64} (hd : decode Y.2.1 pc = .ok (.lstore_n 2, 1)) (hq : pc + 1 = q) (hp : pj_c1 o1 = true) (kk : pj_V E B l Y d mc ms q (o0 :: o1 :: some (.long x) :: none :: tl) st h n ce sl Q) : pj_V E B l Y d mc ms pc (o0 :: o1 :: o2 :: o' :: tl) (.long x :: st) h n ce sl Q := by
  subst hq
  intro p e s m args below meth c H locs la S hr hk hn hW hH hS hL
  have hi : 2 + 1 < Y.2.2.1 := by rw [← hL.2]; simp only [List.length_cons]; omega
  exact lv_lstore_n S.1 S.2.1 hd rfl hL.1 hi rfl (fun la' h' => kk p e s m args below meth c H locs la' S hr hk hn hW hH hS (hL.set2 hi (fun o _ z => by cases z; exact hp) h'))
theorem pj_iinc2 {o0 o1 : Option Value} {tl : List (Option Value)} {k : Int} {x v : Int32} (hd : decode Y.2.1 pc = .ok (.iinc 2 k, 3)) (hq : pc + 3 = q) (hp : pj_c1 o1 = true) (hv : Int32.ofInt k = v) (kk : pj_V E B l Y d mc ms q (o0 :: o1 :: some (.int (x + v)) :: tl) st h n ce sl Q) : pj_V E B l Y d mc ms pc (o0 :: o1 :: some (.int x) :: tl) st h n ce sl Q := by
  subst hq
  subst hv
  intro p e s m args below meth c H locs la S hr hk hn hW hH hS hL
  have hi : 2 < Y.2.2.1 := by rw [← hL.2]; simp only [List.length_cons]; omega
  obtain ⟨j, hj⟩ := List.getElem?_of_mem ((pj_as_mem (o0 :: o1 :: some (.int x) :: tl) 0 2 (.int x)).mpr ⟨2, by omega, rfl⟩)
  exact lv_iinc S.1 S.2.1 hd hL.1 hj rfl hi rfl (fun la' h' => kk p e s m args below meth c H locs la' S hr hk hn hW hH hS (hL.set1 hi (fun o _ z => by cases z; exact hp) h'))
theorem pj_ist3 {o0 o1 o2 o3 : Option Value} {tl : List (Option Value)} {x : Int32} (hd : decode Y.2.1 pc = .ok (.istore_n 3, 1)) (hq : pc + 1 = q) (hp : pj_c1 o2 = true) (kk : pj_V E B l Y d mc ms q (o0 :: o1 :: o2 :: some (.int x) :: tl) st h n ce sl Q) : pj_V E B l Y d mc ms pc (o0 :: o1 :: o2 :: o3 :: tl) (.int x :: st) h n ce sl Q := by
  subst hq
  intro p e s m args below meth c H locs la S hr hk hn hW hH hS hL
  have hi : 3 < Y.2.2.1 := by rw [← hL.2]; simp only [List.length_cons]; omega
  exact lv_istore_n S.1 S.2.1 hd rfl hL.1 hi rfl (fun la' h' => kk p e s m args below meth c H locs la' S hr hk hn hW hH hS (hL.set1 hi (fun o _ z => by cases z; exact hp) h'))
theorem pj_ast3 {o0 o1 o2 o3 : Option Value} {tl : List (Option Value)} {x : Nat} (hd : decode Y.2.1 pc = .ok (.astore_n 3, 1)) (hq : pc + 1 = q) (hp : pj_c1 o2 = true) (kk : pj_V E B l Y d mc ms q (o0 :: o1 :: o2 :: some (.ref x) :: tl) st h n ce sl Q) : pj_V E B l Y d mc ms pc (o0 :: o1 :: o2 :: o3 :: tl) (.ref x :: st) h n ce sl Q := by
  subst hq
  intro p e s m args below meth c H locs la S hr hk hn hW hH hS hL
  have hi : 3 < Y.2.2.1 := by rw [← hL.2]; simp only [List.length_cons]; omega
  exact lv_astore_n S.1 S.2.1 hd rfl hL.1 hi rfl (fun la' h' => kk p e s m args below meth c H locs la' S hr hk hn hW hH hS (hL.set1 hi (fun o _ z => by cases z; exact hp) h'))
theorem pj_astN3 {o0 o1 o2 o3 : Option Value} {tl : List (Option Value)} (hd : decode Y.2.1 pc = .ok (.astore_n 3, 1)) (hq : pc + 1 = q) (hp : pj_c1 o2 = true) (kk : pj_V E B l Y d mc ms q (o0 :: o1 :: o2 :: some .null :: tl) st h n ce sl Q) : pj_V E B l Y d mc ms pc (o0 :: o1 :: o2 :: o3 :: tl) (.null :: st) h n ce sl Q := by
  subst hq
  intro p e s m args below meth c H locs la S hr hk hn hW hH hS hL
  have hi : 3 < Y.2.2.1 := by rw [← hL.2]; simp only [List.length_cons]; omega
  exact lv_astore_nN S.1 S.2.1 hd rfl hL.1 hi rfl (fun la' h' => kk p e s m args below meth c H locs la' S hr hk hn hW hH hS (hL.set1 hi (fun o _ z => by cases z; exact hp) h'))
theorem pj_lst3 {o0 o1 o2 o3 : Option Value} {o' : Option Value} {tl : List (Option Value)} {x : Int64} (hd : decode Y.2.1 pc = .ok (.lstore_n 3, 1)) (hq : pc + 1 = q) (hp : pj_c1 o2 = true) (kk : pj_V E B l Y d mc ms q (o0 :: o1 :: o2 :: some (.long x) :: none :: tl) st h n ce sl Q) : pj_V E B l Y d mc ms pc (o0 :: o1 :: o2 :: o3 :: o' :: tl) (.long x :: st) h n ce sl Q := by
  subst hq
  intro p e s m args below meth c H locs la S hr hk hn hW hH hS hL
  have hi : 3 + 1 < Y.2.2.1 := by rw [← hL.2]; simp only [List.length_cons]; omega
  exact lv_lstore_n S.1 S.2.1 hd rfl hL.1 hi rfl (fun la' h' => kk p e s m args below meth c H locs la' S hr hk hn hW hH hS (hL.set2 hi (fun o _ z => by cases z; exact hp) h'))
theorem pj_iinc3 {o0 o1 o2 : Option Value} {tl : List (Option Value)} {k : Int} {x v : Int32} (hd : decode Y.2.1 pc = .ok (.iinc 3 k, 3)) (hq : pc + 3 = q) (hp : pj_c1 o2 = true) (hv : Int32.ofInt k = v) (kk : pj_V E B l Y d mc ms q (o0 :: o1 :: o2 :: some (.int (x + v)) :: tl) st h n ce sl Q) : pj_V E B l Y d mc ms pc (o0 :: o1 :: o2 :: some (.int x) :: tl) st h n ce sl Q := by
  subst hq
  subst hv
  intro p e s m args below meth c H locs la S hr hk hn hW hH hS hL
  have hi : 3 < Y.2.2.1 := by rw [← hL.2]; simp only [List.length_cons]; omega
  obtain ⟨j, hj⟩ := List.getElem?_of_mem ((pj_as_mem (o0 :: o1 :: o2 :: some (.int x) :: tl) 0 3 (.int x)).mpr ⟨3, by omega, rfl⟩)
  exact lv_iinc S.1 S.2.1 hd hL.1 hj rfl hi rfl (fun la' h' => kk p e s m args below meth c H locs la' S hr hk hn hW hH hS (hL.set1 hi (fun o _ z => by cases z; exact hp) h'))
theorem pj_ist4 {o0 o1 o2 o3 o4 : Option Value} {tl : List (Option Value)} {x : Int32} (hd : decode Y.2.1 pc = .ok (.istore 4, 2)) (hq : pc + 2 = q) (hp : pj_c1 o3 = true) (kk : pj_V E B l Y d mc ms q (o0 :: o1 :: o2 :: o3 :: some (.int x) :: tl) st h n ce sl Q) : pj_V E B l Y d mc ms pc (o0 :: o1 :: o2 :: o3 :: o4 :: tl) (.int x :: st) h n ce sl Q := by
  subst hq
  intro p e s m args below meth c H locs la S hr hk hn hW hH hS hL
  have hi : 4 < Y.2.2.1 := by rw [← hL.2]; simp only [List.length_cons]; omega
  exact lv_istore S.1 S.2.1 hd hL.1 hi rfl (fun la' h' => kk p e s m args below meth c H locs la' S hr hk hn hW hH hS (hL.set1 hi (fun o _ z => by cases z; exact hp) h'))
theorem pj_ast4 {o0 o1 o2 o3 o4 : Option Value} {tl : List (Option Value)} {x : Nat} (hd : decode Y.2.1 pc = .ok (.astore 4, 2)) (hq : pc + 2 = q) (hp : pj_c1 o3 = true) (kk : pj_V E B l Y d mc ms q (o0 :: o1 :: o2 :: o3 :: some (.ref x) :: tl) st h n ce sl Q) : pj_V E B l Y d mc ms pc (o0 :: o1 :: o2 :: o3 :: o4 :: tl) (.ref x :: st) h n ce sl Q := by
  subst hq
  intro p e s m args below meth c H locs la S hr hk hn hW hH hS hL
  have hi : 4 < Y.2.2.1 := by rw [← hL.2]; simp only [List.length_cons]; omega
  exact lv_astore S.1 S.2.1 hd hL.1 hi rfl (fun la' h' => kk p e s m args below meth c H locs la' S hr hk hn hW hH hS (hL.set1 hi (fun o _ z => by cases z; exact hp) h'))
theorem pj_lst4 {o0 o1 o2 o3 o4 : Option Value} {o' : Option Value} {tl : List (Option Value)} {x : Int64} (hd : decode Y.2.1 pc = .ok (.lstore 4, 2)) (hq : pc + 2 = q) (hp : pj_c1 o3 = true) (kk : pj_V E B l Y d mc ms q (o0 :: o1 :: o2 :: o3 :: some (.long x) :: none :: tl) st h n ce sl Q) : pj_V E B l Y d mc ms pc (o0 :: o1 :: o2 :: o3 :: o4 :: o' :: tl) (.long x :: st) h n ce sl Q := by
  subst hq
  intro p e s m args below meth c H locs la S hr hk hn hW hH hS hL
  have hi : 4 + 1 < Y.2.2.1 := by rw [← hL.2]; simp only [List.length_cons]; omega
  exact lv_lstore S.1 S.2.1 hd hL.1 hi rfl (fun la' h' => kk p e s m args below meth c H locs la' S hr hk hn hW hH hS (hL.set2 hi (fun o _ z => by cases z; exact hp) h'))
theorem pj_iinc4 {o0 o1 o2 o3 : Option Value} {tl : List (Option Value)} {k : Int} {x v : Int32} (hd : decode Y.2.1 pc = .ok (.iinc 4 k, 3)) (hq : pc + 3 = q) (hp : pj_c1 o3 = true) (hv : Int32.ofInt k = v) (kk : pj_V E B l Y d mc ms q (o0 :: o1 :: o2 :: o3 :: some (.int (x + v)) :: tl) st h n ce sl Q) : pj_V E B l Y d mc ms pc (o0 :: o1 :: o2 :: o3 :: some (.int x) :: tl) st h n ce sl Q := by
  subst hq
  subst hv
  intro p e s m args below meth c H locs la S hr hk hn hW hH hS hL
  have hi : 4 < Y.2.2.1 := by rw [← hL.2]; simp only [List.length_cons]; omega
  obtain ⟨j, hj⟩ := List.getElem?_of_mem ((pj_as_mem (o0 :: o1 :: o2 :: o3 :: some (.int x) :: tl) 0 4 (.int x)).mpr ⟨4, by omega, rfl⟩)
  exact lv_iinc S.1 S.2.1 hd hL.1 hj rfl hi rfl (fun la' h' => kk p e s m args below meth c H locs la' S hr hk hn hW hH hS (hL.set1 hi (fun o _ z => by cases z; exact hp) h'))
theorem pj_ist5 {o0 o1 o2 o3 o4 o5 : Option Value} {tl : List (Option Value)} {x : Int32} (hd : decode Y.2.1 pc = .ok (.istore 5, 2)) (hq : pc + 2 = q) (hp : pj_c1 o4 = true) (kk : pj_V E B l Y d mc ms q (o0 :: o1 :: o2 :: o3 :: o4 :: some (.int x) :: tl) st h n ce sl Q) : pj_V E B l Y d mc ms pc (o0 :: o1 :: o2 :: o3 :: o4 :: o5 :: tl) (.int x :: st) h n ce sl Q := by
  subst hq
  intro p e s m args below meth c H locs la S hr hk hn hW hH hS hL
  have hi : 5 < Y.2.2.1 := by rw [← hL.2]; simp only [List.length_cons]; omega
  exact lv_istore S.1 S.2.1 hd hL.1 hi rfl (fun la' h' => kk p e s m args below meth c H locs la' S hr hk hn hW hH hS (hL.set1 hi (fun o _ z => by cases z; exact hp) h'))
theorem pj_ast5 {o0 o1 o2 o3 o4 o5 : Option Value} {tl : List (Option Value)} {x : Nat} (hd : decode Y.2.1 pc = .ok (.astore 5, 2)) (hq : pc + 2 = q) (hp : pj_c1 o4 = true) (kk : pj_V E B l Y d mc ms q (o0 :: o1 :: o2 :: o3 :: o4 :: some (.ref x) :: tl) st h n ce sl Q) : pj_V E B l Y d mc ms pc (o0 :: o1 :: o2 :: o3 :: o4 :: o5 :: tl) (.ref x :: st) h n ce sl Q := by
  subst hq
  intro p e s m args below meth c H locs la S hr hk hn hW hH hS hL
  have hi : 5 < Y.2.2.1 := by rw [← hL.2]; simp only [List.length_cons]; omega
  exact lv_astore S.1 S.2.1 hd hL.1 hi rfl (fun la' h' => kk p e s m args below meth c H locs la' S hr hk hn hW hH hS (hL.set1 hi (fun o _ z => by cases z; exact hp) h'))
theorem pj_lst5 {o0 o1 o2 o3 o4 o5 : Option Value} {o' : Option Value} {tl : List (Option Value)} {x : Int64} (hd : decode Y.2.1 pc = .ok (.lstore 5, 2)) (hq : pc + 2 = q) (hp : pj_c1 o4 = true) (kk : pj_V E B l Y d mc ms q (o0 :: o1 :: o2 :: o3 :: o4 :: some (.long x) :: none :: tl) st h n ce sl Q) : pj_V E B l Y d mc ms pc (o0 :: o1 :: o2 :: o3 :: o4 :: o5 :: o' :: tl) (.long x :: st) h n ce sl Q := by
  subst hq
  intro p e s m args below meth c H locs la S hr hk hn hW hH hS hL
  have hi : 5 + 1 < Y.2.2.1 := by rw [← hL.2]; simp only [List.length_cons]; omega
  exact lv_lstore S.1 S.2.1 hd hL.1 hi rfl (fun la' h' => kk p e s m args below meth c H locs la' S hr hk hn hW hH hS (hL.set2 hi (fun o _ z => by cases z; exact hp) h'))
theorem pj_iinc5 {o0 o1 o2 o3 o4 : Option Value} {tl : List (Option Value)} {k : Int} {x v : Int32} (hd : decode Y.2.1 pc = .ok (.iinc 5 k, 3)) (hq : pc + 3 = q) (hp : pj_c1 o4 = true) (hv : Int32.ofInt k = v) (kk : pj_V E B l Y d mc ms q (o0 :: o1 :: o2 :: o3 :: o4 :: some (.int (x + v)) :: tl) st h n ce sl Q) : pj_V E B l Y d mc ms pc (o0 :: o1 :: o2 :: o3 :: o4 :: some (.int x) :: tl) st h n ce sl Q := by
  subst hq
  subst hv
  intro p e s m args below meth c H locs la S hr hk hn hW hH hS hL
  have hi : 5 < Y.2.2.1 := by rw [← hL.2]; simp only [List.length_cons]; omega
  obtain ⟨j, hj⟩ := List.getElem?_of_mem ((pj_as_mem (o0 :: o1 :: o2 :: o3 :: o4 :: some (.int x) :: tl) 0 5 (.int x)).mpr ⟨5, by omega, rfl⟩)
  exact lv_iinc S.1 S.2.1 hd hL.1 hj rfl hi rfl (fun la' h' => kk p e s m args below meth c H locs la' S hr hk hn hW hH hS (hL.set1 hi (fun o _ z => by cases z; exact hp) h'))
theorem pj_ist6 {o0 o1 o2 o3 o4 o5 o6 : Option Value} {tl : List (Option Value)} {x : Int32} (hd : decode Y.2.1 pc = .ok (.istore 6, 2)) (hq : pc + 2 = q) (hp : pj_c1 o5 = true) (kk : pj_V E B l Y d mc ms q (o0 :: o1 :: o2 :: o3 :: o4 :: o5 :: some (.int x) :: tl) st h n ce sl Q) : pj_V E B l Y d mc ms pc (o0 :: o1 :: o2 :: o3 :: o4 :: o5 :: o6 :: tl) (.int x :: st) h n ce sl Q := by
  subst hq
  intro p e s m args below meth c H locs la S hr hk hn hW hH hS hL
  have hi : 6 < Y.2.2.1 := by rw [← hL.2]; simp only [List.length_cons]; omega
  exact lv_istore S.1 S.2.1 hd hL.1 hi rfl (fun la' h' => kk p e s m args below meth c H locs la' S hr hk hn hW hH hS (hL.set1 hi (fun o _ z => by cases z; exact hp) h'))
theorem pj_ast6 {o0 o1 o2 o3 o4 o5 o6 : Option Value} {tl : List (Option Value)} {x : Nat} (hd : decode Y.2.1 pc = .ok (.astore 6, 2)) (hq : pc + 2 = q) (hp : pj_c1 o5 = true) (kk : pj_V E B l Y d mc ms q (o0 :: o1 :: o2 :: o3 :: o4 :: o5 :: some (.ref x) :: tl) st h n ce sl Q) : pj_V E B l Y d mc ms pc (o0 :: o1 :: o2 :: o3 :: o4 :: o5 :: o6 :: tl) (.ref x :: st) h n ce sl Q := by
  subst hq
  intro p e s m args below meth c H locs la S hr hk hn hW hH hS hL
  have hi : 6 < Y.2.2.1 := by rw [← hL.2]; simp only [List.length_cons]; omega
  exact lv_astore S.1 S.2.1 hd hL.1 hi rfl (fun la' h' => kk p e s m args below meth c H locs la' S hr hk hn hW hH hS (hL.set1 hi (fun o _ z => by cases z; exact hp) h'))
theorem pj_lst6 {o0 o1 o2 o3 o4 o5 o6 : Option Value} {o' : Option Value} {tl : List (Option Value)} {x : Int64} (hd : decode Y.2.1 pc = .ok (.lstore 6, 2)) (hq : pc + 2 = q) (hp : pj_c1 o5 = true) (kk : pj_V E B l Y d mc ms q (o0 :: o1 :: o2 :: o3 :: o4 :: o5 :: some (.long x) :: none :: tl) st h n ce sl Q) : pj_V E B l Y d mc ms pc (o0 :: o1 :: o2 :: o3 :: o4 :: o5 :: o6 :: o' :: tl) (.long x :: st) h n ce sl Q := by
  subst hq
  intro p e s m args below meth c H locs la S hr hk hn hW hH hS hL
  have hi : 6 + 1 < Y.2.2.1 := by rw [← hL.2]; simp only [List.length_cons]; omega
  exact lv_lstore S.1 S.2.1 hd hL.1 hi rfl (fun la' h' => kk p e s m args below meth c H locs la' S hr hk hn hW hH hS (hL.set2 hi (fun o _ z => by cases z; exact hp) h'))
theorem pj_iinc6 {o0 o1 o2 o3 o4 o5 : Option Value} {tl : List (Option Value)} {k : Int} {x v : Int32} (hd : decode Y.2.1 pc = .ok (.iinc 6 k, 3)) (hq : pc + 3 = q) (hp : pj_c1 o5 = true) (hv : Int32.ofInt k = v) (kk : pj_V E B l Y d mc ms q (o0 :: o1 :: o2 :: o3 :: o4 :: o5 :: some (.int (x + v)) :: tl) st h n ce sl Q) : pj_V E B l Y d mc ms pc (o0 :: o1 :: o2 :: o3 :: o4 :: o5 :: some (.int x) :: tl) st h n ce sl Q := by
  subst hq
  subst hv
  intro p e s m args below meth c H locs la S hr hk hn hW hH hS hL
  have hi : 6 < Y.2.2.1 := by rw [← hL.2]; simp only [List.length_cons]; omega
  obtain ⟨j, hj⟩ := List.getElem?_of_mem ((pj_as_mem (o0 :: o1 :: o2 :: o3 :: o4 :: o5 :: some (.int x) :: tl) 0 6 (.int x)).mpr ⟨6, by omega, rfl⟩)
  exact lv_iinc S.1 S.2.1 hd hL.1 hj rfl hi rfl (fun la' h' => kk p e s m args below meth c H locs la' S hr hk hn hW hH hS (hL.set1 hi (fun o _ z => by cases z; exact hp) h'))
theorem pj_ist7 {o0 o1 o2 o3 o4 o5 o6 o7 : Option Value} {tl : List (Option Value)} {x : Int32} (hd : decode Y.2.1 pc = .ok (.istore 7, 2)) (hq : pc + 2 = q) (hp : pj_c1 o6 = true) (kk : pj_V E B l Y d mc ms q (o0 :: o1 :: o2 :: o3 :: o4 :: o5 :: o6 :: some (.int x) :: tl) st h n ce sl Q) : pj_V E B l Y d mc ms pc (o0 :: o1 :: o2 :: o3 :: o4 :: o5 :: o6 :: o7 :: tl) (.int x :: st) h n ce sl Q := by
  subst hq
  intro p e s m args below meth c H locs la S hr hk hn hW hH hS hL
  have hi : 7 < Y.2.2.1 := by rw [← hL.2]; simp only [List.length_cons]; omega
  exact lv_istore S.1 S.2.1 hd hL.1 hi rfl (fun la' h' => kk p e s m args below meth c H locs la' S hr hk hn hW hH hS (hL.set1 hi (fun o _ z => by cases z; exact hp) h'))
theorem pj_ast7 {o0 o1 o2 o3 o4 o5 o6 o7 : Option Value} {tl : List (Option Value)} {x : Nat} (hd : decode Y.2.1 pc = .ok (.astore 7, 2)) (hq : pc + 2 = q) (hp : pj_c1 o6 = true) (kk : pj_V E B l Y d mc ms q (o0 :: o1 :: o2 :: o3 :: o4 :: o5 :: o6 :: some (.ref x) :: tl) st h n ce sl Q) : pj_V E B l Y d mc ms pc (o0 :: o1 :: o2 :: o3 :: o4 :: o5 :: o6 :: o7 :: tl) (.ref x :: st) h n ce sl Q := by
  subst hq
  intro p e s m args below meth c H locs la S hr hk hn hW hH hS hL
  have hi : 7 < Y.2.2.1 := by rw [← hL.2]; simp only [List.length_cons]; omega
  exact lv_astore S.1 S.2.1 hd hL.1 hi rfl (fun la' h' => kk p e s m args below meth c H locs la' S hr hk hn hW hH hS (hL.set1 hi (fun o _ z => by cases z; exact hp) h'))
theorem pj_lst7 {o0 o1 o2 o3 o4 o5 o6 o7 : Option Value} {o' : Option Value} {tl : List (Option Value)} {x : Int64} (hd : decode Y.2.1 pc = .ok (.lstore 7, 2)) (hq : pc + 2 = q) (hp : pj_c1 o6 = true) (kk : pj_V E B l Y d mc ms q (o0 :: o1 :: o2 :: o3 :: o4 :: o5 :: o6 :: some (.long x) :: none :: tl) st h n ce sl Q) : pj_V E B l Y d mc ms pc (o0 :: o1 :: o2 :: o3 :: o4 :: o5 :: o6 :: o7 :: o' :: tl) (.long x :: st) h n ce sl Q := by
  subst hq
  intro p e s m args below meth c H locs la S hr hk hn hW hH hS hL
  have hi : 7 + 1 < Y.2.2.1 := by rw [← hL.2]; simp only [List.length_cons]; omega
  exact lv_lstore S.1 S.2.1 hd hL.1 hi rfl (fun la' h' => kk p e s m args below meth c H locs la' S hr hk hn hW hH hS (hL.set2 hi (fun o _ z => by cases z; exact hp) h'))
theorem pj_iinc7 {o0 o1 o2 o3 o4 o5 o6 : Option Value} {tl : List (Option Value)} {k : Int} {x v : Int32} (hd : decode Y.2.1 pc = .ok (.iinc 7 k, 3)) (hq : pc + 3 = q) (hp : pj_c1 o6 = true) (hv : Int32.ofInt k = v) (kk : pj_V E B l Y d mc ms q (o0 :: o1 :: o2 :: o3 :: o4 :: o5 :: o6 :: some (.int (x + v)) :: tl) st h n ce sl Q) : pj_V E B l Y d mc ms pc (o0 :: o1 :: o2 :: o3 :: o4 :: o5 :: o6 :: some (.int x) :: tl) st h n ce sl Q := by
  subst hq
  subst hv
  intro p e s m args below meth c H locs la S hr hk hn hW hH hS hL
  have hi : 7 < Y.2.2.1 := by rw [← hL.2]; simp only [List.length_cons]; omega
  obtain ⟨j, hj⟩ := List.getElem?_of_mem ((pj_as_mem (o0 :: o1 :: o2 :: o3 :: o4 :: o5 :: o6 :: some (.int x) :: tl) 0 7 (.int x)).mpr ⟨7, by omega, rfl⟩)
  exact lv_iinc S.1 S.2.1 hd hL.1 hj rfl hi rfl (fun la' h' => kk p e s m args below meth c H locs la' S hr hk hn hW hH hS (hL.set1 hi (fun o _ z => by cases z; exact hp) h'))
theorem pj_ist8 {o0 o1 o2 o3 o4 o5 o6 o7 o8 : Option Value} {tl : List (Option Value)} {x : Int32} (hd : decode Y.2.1 pc = .ok (.istore 8, 2)) (hq : pc + 2 = q) (hp : pj_c1 o7 = true) (kk : pj_V E B l Y d mc ms q (o0 :: o1 :: o2 :: o3 :: o4 :: o5 :: o6 :: o7 :: some (.int x) :: tl) st h n ce sl Q) : pj_V E B l Y d mc ms pc (o0 :: o1 :: o2 :: o3 :: o4 :: o5 :: o6 :: o7 :: o8 :: tl) (.int x :: st) h n ce sl Q := by
  subst hq
  intro p e s m args below meth c H locs la S hr hk hn hW hH hS hL
  have hi : 8 < Y.2.2.1 := by rw [← hL.2]; simp only [List.length_cons]; omega
  exact lv_istore S.1 S.2.1 hd hL.1 hi rfl (fun la' h' => kk p e s m args below meth c H locs la' S hr hk hn hW hH hS (hL.set1 hi (fun o _ z => by cases z; exact hp) h'))
theorem pj_ast8 {o0 o1 o2 o3 o4 o5 o6 o7 o8 : Option Value} {tl : List (Option Value)} {x : Nat} (hd : decode Y.2.1 pc = .ok (.astore 8, 2)) (hq : pc + 2 = q) (hp : pj_c1 o7 = true) (kk : pj_V E B l Y d mc ms q (o0 :: o1 :: o2 :: o3 :: o4 :: o5 :: o6 :: o7 :: some (.ref x) :: tl) st h n ce sl Q) : pj_V E B l Y d mc ms pc (o0 :: o1 :: o2 :: o3 :: o4 :: o5 :: o6 :: o7 :: o8 :: tl) (.ref x :: st) h n ce sl Q := by
  subst hq
  intro p e s m args below meth c H locs la S hr hk hn hW hH hS hL
  have hi : 8 < Y.2.2.1 := by rw [← hL.2]; simp only [List.length_cons]; omega
  exact lv_astore S.1 S.2.1 hd hL.1 hi rfl (fun la' h' => kk p e s m args below meth c H locs la' S hr hk hn hW hH hS (hL.set1 hi (fun o _ z => by cases z; exact hp) h'))
theorem pj_lst8 {o0 o1 o2 o3 o4 o5 o6 o7 o8 : Option Value} {o' : Option Value} {tl : List (Option Value)} {x : Int64} (hd : decode Y.2.1 pc = .ok (.lstore 8, 2)) (hq : pc + 2 = q) (hp : pj_c1 o7 = true) (kk : pj_V E B l Y d mc ms q (o0 :: o1 :: o2 :: o3 :: o4 :: o5 :: o6 :: o7 :: some (.long x) :: none :: tl) st h n ce sl Q) : pj_V E B l Y d mc ms pc (o0 :: o1 :: o2 :: o3 :: o4 :: o5 :: o6 :: o7 :: o8 :: o' :: tl) (.long x :: st) h n ce sl Q := by
  subst hq
  intro p e s m args below meth c H locs la S hr hk hn hW hH hS hL
  have hi : 8 + 1 < Y.2.2.1 := by rw [← hL.2]; simp only [List.length_cons]; omega
  exact lv_lstore S.1 S.2.1 hd hL.1 hi rfl (fun la' h' => kk p e s m args below meth c H locs la' S hr hk hn hW hH hS (hL.set2 hi (fun o _ z => by cases z; exact hp) h'))
theorem pj_iinc8 {o0 o1 o2 o3 o4 o5 o6 o7 : Option Value} {tl : List (Option Value)} {k : Int} {x v : Int32} (hd : decode Y.2.1 pc = .ok (.iinc 8 k, 3)) (hq : pc + 3 = q) (hp : pj_c1 o7 = true) (hv : Int32.ofInt k = v) (kk : pj_V E B l Y d mc ms q (o0 :: o1 :: o2 :: o3 :: o4 :: o5 :: o6 :: o7 :: some (.int (x + v)) :: tl) st h n ce sl Q) : pj_V E B l Y d mc ms pc (o0 :: o1 :: o2 :: o3 :: o4 :: o5 :: o6 :: o7 :: some (.int x) :: tl) st h n ce sl Q := by
  subst hq
  subst hv
  intro p e s m args below meth c H locs la S hr hk hn hW hH hS hL
  have hi : 8 < Y.2.2.1 := by rw [← hL.2]; simp only [List.length_cons]; omega
  obtain ⟨j, hj⟩ := List.getElem?_of_mem ((pj_as_mem (o0 :: o1 :: o2 :: o3 :: o4 :: o5 :: o6 :: o7 :: some (.int x) :: tl) 0 8 (.int x)).mpr ⟨8, by omega, rfl⟩)
  exact lv_iinc S.1 S.2.1 hd hL.1 hj rfl hi rfl (fun la' h' => kk p e s m args below meth c H locs la' S hr hk hn hW hH hS (hL.set1 hi (fun o _ z => by cases z; exact hp) h'))
theorem pj_ist9 {o0 o1 o2 o3 o4 o5 o6 o7 o8 o9 : Option Value} {tl : List (Option Value)} {x : Int32} (hd : decode Y.2.1 pc = .ok (.istore 9, 2)) (hq : pc + 2 = q) (hp : pj_c1 o8 = true) (kk : pj_V E B l Y d mc ms q (o0 :: o1 :: o2 :: o3 :: o4 :: o5 :: o6 :: o7 :: o8 :: some (.int x) :: tl) st h n ce sl Q) : pj_V E B l Y d mc ms pc (o0 :: o1 :: o2 :: o3 :: o4 :: o5 :: o6 :: o7 :: o8 :: o9 :: tl) (.int x :: st) h n ce sl Q := by
  subst hq
  intro p e s m args below meth c H locs la S hr hk hn hW hH hS hL
  have hi : 9 < Y.2.2.1 := by rw [← hL.2]; simp only [List.length_cons]; omega
  exact lv_istore S.1 S.2.1 hd hL.1 hi rfl (fun la' h' => kk p e s m args below meth c H locs la' S hr hk hn hW hH hS (hL.set1 hi (fun o _ z => by cases z; exact hp) h'))
theorem pj_ast9 {o0 o1 o2 o3 o4 o5 o6 o7 o8 o9 : Option Value} {tl : List (Option Value)} {x : Nat} (hd : decode Y.2.1 pc = .ok (.astore 9, 2)) (hq : pc + 2 = q) (hp : pj_c1 o8 = true) (kk : pj_V E B l Y d mc ms q (o0 :: o1 :: o2 :: o3 :: o4 :: o5 :: o6 :: o7 :: o8 :: some (.ref x) :: tl) st h n ce sl Q) : pj_V E B l Y d mc ms pc (o0 :: o1 :: o2 :: o3 :: o4 :: o5 :: o6 :: o7 :: o8 :: o9 :: tl) (.ref x :: st) h n ce sl Q := by
  subst hq
  intro p e s m args below meth c H locs la S hr hk hn hW hH hS hL
  have hi : 9 < Y.2.2.1 := by rw [← hL.2]; simp only [List.length_cons]; omega
  exact lv_astore S.1 S.2.1 hd hL.1 hi rfl (fun la' h' => kk p e s m args below meth c H locs la' S hr hk hn hW hH hS (hL.set1 hi (fun o _ z => by cases z; exact hp) h'))
theorem pj_lst9 {o0 o1 o2 o3 o4 o5 o6 o7 o8 o9 : Option Value} {o' : Option Value} {tl : List (Option Value)} {x : Int64} (hd : decode Y.2.1 pc = .ok (.lstore 9, 2)) (hq : pc + 2 = q) (hp : pj_c1 o8 = true) (kk : pj_V E B l Y d mc ms q (o0 :: o1 :: o2 :: o3 :: o4 :: o5 :: o6 :: o7 :: o8 :: some (.long x) :: none :: tl) st h n ce sl Q) : pj_V E B l Y d mc ms pc (o0 :: o1 :: o2 :: o3 :: o4 :: o5 :: o6 :: o7 :: o8 :: o9 :: o' :: tl) (.long x :: st) h n ce sl Q := by
  subst hq
  intro p e s m args below meth c H locs la S hr hk hn hW hH hS hL
  have hi : 9 + 1 < Y.2.2.1 := by rw [← hL.2]; simp only [List.length_cons]; omega
  exact lv_lstore S.1 S.2.1 hd hL.1 hi rfl (fun la' h' => kk p e s m args below meth c H locs la' S hr hk hn hW hH hS (hL.set2 hi (fun o _ z => by cases z; exact hp) h'))
theorem pj_iinc9 {o0 o1 o2 o3 o4 o5 o6 o7 o8 : Option Value} {tl : List (Option Value)} {k : Int} {x v : Int32} (hd : decode Y.2.1 pc = .ok (.iinc 9 k, 3)) (hq : pc + 3 = q) (hp : pj_c1 o8 = true) (hv : Int32.ofInt k = v) (kk : pj_V E B l Y d mc ms q (o0 :: o1 :: o2 :: o3 :: o4 :: o5 :: o6 :: o7 :: o8 :: some (.int (x + v)) :: tl) st h n ce sl Q) : pj_V E B l Y d mc ms pc (o0 :: o1 :: o2 :: o3 :: o4 :: o5 :: o6 :: o7 :: o8 :: some (.int x) :: tl) st h n ce sl Q := by
  subst hq
  subst hv
  intro p e s m args below meth c H locs la S hr hk hn hW hH hS hL
  have hi : 9 < Y.2.2.1 := by rw [← hL.2]; simp only [List.length_cons]; omega
  obtain ⟨j, hj⟩ := List.getElem?_of_mem ((pj_as_mem (o0 :: o1 :: o2 :: o3 :: o4 :: o5 :: o6 :: o7 :: o8 :: some (.int x) :: tl) 0 9 (.int x)).mpr ⟨9, by omega, rfl⟩)
  exact lv_iinc S.1 S.2.1 hd hL.1 hj rfl hi rfl (fun la' h' => kk p e s m args below meth c H locs la' S hr hk hn hW hH hS (hL.set1 hi (fun o _ z => by cases z; exact hp) h'))
theorem pj_ist10 {o0 o1 o2 o3 o4 o5 o6 o7 o8 o9 o10 : Option Value} {tl : List (Option Value)} {x : Int32} (hd : decode Y.2.1 pc = .ok (.istore 10, 2)) (hq : pc + 2 = q) (hp : pj_c1 o9 = true) (kk : pj_V E B l Y d mc ms q (o0 :: o1 :: o2 :: o3 :: o4 :: o5 :: o6 :: o7 :: o8 :: o9 :: some (.int x) :: tl) st h n ce sl Q) : pj_V E B l Y d mc ms pc (o0 :: o1 :: o2 :: o3 :: o4 :: o5 :: o6 :: o7 :: o8 :: o9 :: o10 :: tl) (.int x :: st) h n ce sl Q := by
  subst hq
  intro p e s m args below meth c H locs la S hr hk hn hW hH hS hL
  have hi : 10 < Y.2.2.1 := by rw [← hL.2]; simp only [List.length_cons]; omega
  exact lv_istore S.1 S.2.1 hd hL.1 hi rfl (fun la' h' => kk p e s m args below meth c H locs la' S hr hk hn hW hH hS (hL.set1 hi (fun o _ z => by cases z; exact hp) h'))
theorem pj_ast10 {o0 o1 o2 o3 o4 o5 o6 o7 o8 o9 o10 : Option Value} {tl : List (Option Value)} {x : Nat} (hd : decode Y.2.1 pc = .ok (.astore 10, 2)) (hq : pc + 2 = q) (hp : pj_c1 o9 = true) (kk : pj_V E B l Y d mc ms q (o0 :: o1 :: o2 :: o3 :: o4 :: o5 :: o6 :: o7 :: o8 :: o9 :: some (.ref x) :: tl) st h n ce sl Q) : pj_V E B l Y d mc ms pc (o0 :: o1 :: o2 :: o3 :: o4 :: o5 :: o6 :: o7 :: o8 :: o9 :: o10 :: tl) (.ref x :: st) h n ce sl Q := by
  subst hq
  intro p e s m args below meth c H locs la S hr hk hn hW hH hS hL
  have hi : 10 < Y.2.2.1 := by rw [← hL.2]; simp only [List.length_cons]; omega
  exact lv_astore S.1 S.2.1 hd hL.1 hi rfl (fun la' h' => kk p e s m args below meth c H locs la' S hr hk hn hW hH hS (hL.set1 hi (fun o _ z => by cases z; exact hp) h'))
theorem pj_lst10 {o0 o1 o2 o3 o4 o5 o6 o7 o8 o9 o10 : Option Value} {o' : Option Value} {tl : List (Option Value)} {x : Int64} (hd : decode Y.2.1 pc = .ok (.lstore 10, 2)) (hq : pc + 2 = q) (hp : pj_c1 o9 = true) (kk : pj_V E B l Y d mc ms q (o0 :: o1 :: o2 :: o3 :: o4 :: o5 :: o6 :: o7 :: o8 :: o9 :: some (.long x) :: none :: tl) st h n ce sl Q) : pj_V E B l Y d mc ms pc (o0 :: o1 :: o2 :: o3 :: o4 :: o5 :: o6 :: o7 :: o8 :: o9 :: o10 :: o' :: tl) (.long x :: st) h n ce sl Q := by
  subst hq
  intro p e s m args below meth c H locs la S hr hk hn hW hH hS hL
  have hi : 10 + 1 < Y.2.2.1 := by rw [← hL.2]; simp only [List.length_cons]; omega
  exact lv_lstore S.1 S.2.1 hd hL.1 hi rfl (fun la' h' => kk p e s m args below meth c H locs la' S hr hk hn hW hH hS (hL.set2 hi (fun o _ z => by cases z; exact hp) h'))
theorem pj_iinc10 {o0 o1 o2 o3 o4 o5 o6 o7 o8 o9 : Option Value} {tl : List (Option Value)} {k : Int} {x v : Int32} (hd : decode Y.2.1 pc = .ok (.iinc 10 k, 3)) (hq : pc + 3 = q) (hp : pj_c1 o9 = true) (hv : Int32.ofInt k = v) (kk : pj_V E B l Y d mc ms q (o0 :: o1 :: o2 :: o3 :: o4 :: o5 :: o6 :: o7 :: o8 :: o9 :: some (.int (x + v)) :: tl) st h n ce sl Q) : pj_V E B l Y d mc ms pc (o0 :: o1 :: o2 :: o3 :: o4 :: o5 :: o6 :: o7 :: o8 :: o9 :: some (.int x) :: tl) st h n ce sl Q := by
  subst hq
  subst hv
  intro p e s m args below meth c H locs la S hr hk hn hW hH hS hL
  have hi : 10 < Y.2.2.1 := by rw [← hL.2]; simp only [List.length_cons]; omega
  obtain ⟨j, hj⟩ := List.getElem?_of_mem ((pj_as_mem (o0 :: o1 :: o2 :: o3 :: o4 :: o5 :: o6 :: o7 :: o8 :: o9 :: some (.int x) :: tl) 0 10 (.int x)).mpr ⟨10, by omega, rfl⟩)
  exact lv_iinc S.1 S.2.1 hd hL.1 hj rfl hi rfl (fun la' h' => kk p e s m args below meth c H locs la' S hr hk hn hW hH hS (hL.set1 hi (fun o _ z => by cases z; exact hp) h'))
theorem pj_ist11 {o0 o1 o2 o3 o4 o5 o6 o7 o8 o9 o10 o11 : Option Value} {tl : List (Option Value)} {x : Int32} (hd : decode Y.2.1 pc = .ok (.istore 11, 2)) (hq : pc + 2 = q) (hp : pj_c1 o10 = true) (kk : pj_V E B l Y d mc ms q (o0 :: o1 :: o2 :: o3 :: o4 :: o5 :: o6 :: o7 :: o8 :: o9 :: o10 :: some (.int x) :: tl) st h n ce sl Q) : pj_V E B l Y d mc ms pc (o0 :: o1 :: o2 :: o3 :: o4 :: o5 :: o6 :: o7 :: o8 :: o9 :: o10 :: o11 :: tl) (.int x :: st) h n ce sl Q := by
  subst hq
  intro p e s m args below meth c H locs la S hr hk hn hW hH hS hL
  have hi : 11 < Y.2.2.1 := by rw [← hL.2]; simp only [List.length_cons]; omega
  exact lv_istore S.1 S.2.1 hd hL.1 hi rfl (fun la' h' => kk p e s m args below meth c H locs la' S hr hk hn hW hH hS (hL.set1 hi (fun o _ z => by cases z; exact hp) h'))
theorem pj_ast11 {o0 o1 o2 o3 o4 o5 o6 o7 o8 o9 o10 o11 : Option Value} {tl : List (Option Value)} {x : Nat} (hd : decode Y.2.1 pc = .ok (.astore 11, 2)) (hq : pc + 2 = q) (hp : pj_c1 o10 = true) (kk : pj_V E B l Y d mc ms q (o0 :: o1 :: o2 :: o3 :: o4 :: o5 :: o6 :: o7 :: o8 :: o9 :: o10 :: some (.ref x) :: tl) st h n ce sl Q) : pj_V E B l Y d mc ms pc (o0 :: o1 :: o2 :: o3 :: o4 :: o5 :: o6 :: o7 :: o8 :: o9 :: o10 :: o11 :: tl) (.ref x :: st) h n ce sl Q := by
  subst hq
  intro p e s m args below meth c H locs la S hr hk hn hW hH hS hL
  have hi : 11 < Y.2.2.1 := by rw [← hL.2]; simp only [List.length_cons]; omega
  exact lv_astore S.1 S.2.1 hd hL.1 hi rfl (fun la' h' => kk p e s m args below meth c H locs la' S hr hk hn hW hH hS (hL.set1 hi (fun o _ z => by cases z; exact hp) h'))
theorem pj_lst11 {o0 o1 o2 o3 o4 o5 o6 o7 o8 o9 o10 o11 : Option Value} {o' : Option Value} {tl : List (Option Value)} {x : Int64} (hd : decode Y.2.1 pc = .ok (.lstore 11, 2)) (hq : pc + 2 = q) (hp : pj_c1 o10 = true) (kk : pj_V E B l Y d mc ms q (o0 :: o1 :: o2 :: o3 :: o4 :: o5 :: o6 :: o7 :: o8 :: o9 :: o10 :: some (.long x) :: none :: tl) st h n ce sl Q) : pj_V E B l Y d mc ms pc (o0 :: o1 :: o2 :: o3 :: o4 :: o5 :: o6 :: o7 :: o8 :: o9 :: o10 :: o11 :: o' :: tl) (.long x :: st) h n ce sl Q := by
  subst hq
  intro p e s m args below meth c H locs la S hr hk hn hW hH hS hL
  have hi : 11 + 1 < Y.2.2.1 := by rw [← hL.2]; simp only [List.length_cons]; omega
  exact lv_lstore S.1 S.2.1 hd hL.1 hi rfl (fun la' h' => kk p e s m args below meth c H locs la' S hr hk hn hW hH hS (hL.set2 hi (fun o _ z => by cases z; exact hp) h'))
theorem pj_iinc11 {o0 o1 o2 o3 o4 o5 o6 o7 o8 o9 o10 : Option Value} {tl : List (Option Value)} {k : Int} {x v : Int32} (hd : decode Y.2.1 pc = .ok (.iinc 11 k, 3)) (hq : pc + 3 = q) (hp : pj_c1 o10 = true) (hv : Int32.ofInt k = v) (kk : pj_V E B l Y d mc ms q (o0 :: o1 :: o2 :: o3 :: o4 :: o5 :: o6 :: o7 :: o8 :: o9 :: o10 :: some (.int (x + v)) :: tl) st h n ce sl Q) : pj_V E B l Y d mc ms pc (o0 :: o1 :: o2 :: o3 :: o4 :: o5 :: o6 :: o7 :: o8 :: o9 :: o10 :: some (.int x) :: tl) st h n ce sl Q := by
  subst hq
  subst hv
  intro p e s m args below meth c H locs la S hr hk hn hW hH hS hL
  have hi : 11 < Y.2.2.1 := by rw [← hL.2]; simp only [List.length_cons]; omega
  obtain ⟨j, hj⟩ := List.getElem?_of_mem ((pj_as_mem (o0 :: o1 :: o2 :: o3 :: o4 :: o5 :: o6 :: o7 :: o8 :: o9 :: o10 :: some (.int x) :: tl) 0 11 (.int x)).mpr ⟨11, by omega, rfl⟩)
  exact lv_iinc S.1 S.2.1 hd hL.1 hj rfl hi rfl (fun la' h' => kk p e s m args below meth c H locs la' S hr hk hn hW hH hS (hL.set1 hi (fun o _ z => by cases z; exact hp) h'))
theorem pj_ist12 {o0 o1 o2 o3 o4 o5 o6 o7 o8 o9 o10 o11 o12 : Option Value} {tl : List (Option Value)} {x : Int32} (hd : decode Y.2.1 pc = .ok (.istore 12, 2)) (hq : pc + 2 = q) (hp : pj_c1 o11 = true) (kk : pj_V E B l Y d mc ms q (o0 :: o1 :: o2 :: o3 :: o4 :: o5 :: o6 :: o7 :: o8 :: o9 :: o10 :: o11 :: some (.int x) :: tl) st h n ce sl Q) : pj_V E B l Y d mc ms pc (o0 :: o1 :: o2 :: o3 :: o4 :: o5 :: o6 :: o7 :: o8 :: o9 :: o10 :: o11 :: o12 :: tl) (.int x :: st) h n ce sl Q := by
  subst hq
  intro p e s m args below meth c H locs la S hr hk hn hW hH hS hL
  have hi : 12 < Y.2.2.1 := by rw [← hL.2]; simp only [List.length_cons]; omega
  exact lv_istore S.1 S.2.1 hd hL.1 hi rfl (fun la' h' => kk p e s m args below meth c H locs la' S hr hk hn hW hH hS (hL.set1 hi (fun o _ z => by cases z; exact hp) h'))
theorem pj_ast12 {o0 o1 o2 o3 o4 o5 o6 o7 o8 o9 o10 o11 o12 : Option Value} {tl : List (Option Value)} {x : Nat} (hd : decode Y.2.1 pc = .ok (.astore 12, 2)) (hq : pc + 2 = q) (hp : pj_c1 o11 = true) (kk : pj_V E B l Y d mc ms q (o0 :: o1 :: o2 :: o3 :: o4 :: o5 :: o6 :: o7 :: o8 :: o9 :: o10 :: o11 :: some (.ref x) :: tl) st h n ce sl Q) : pj_V E B l Y d mc ms pc (o0 :: o1 :: o2 :: o3 :: o4 :: o5 :: o6 :: o7 :: o8 :: o9 :: o10 :: o11 :: o12 :: tl) (.ref x :: st) h n ce sl Q := by
  subst hq
  intro p e s m args below meth c H locs la S hr hk hn hW hH hS hL
  have hi : 12 < Y.2.2.1 := by rw [← hL.2]; simp only [List.length_cons]; omega
  exact lv_astore S.1 S.2.1 hd hL.1 hi rfl (fun la' h' => kk p e s m args below meth c H locs la' S hr hk hn hW hH hS (hL.set1 hi (fun o _ z => by cases z; exact hp) h'))
theorem pj_lst12 {o0 o1 o2 o3 o4 o5 o6 o7 o8 o9 o10 o11 o12 : Option Value} {o' : Option Value} {tl : List (Option Value)} {x : Int64} (hd : decode Y.2.1 pc = .ok (.lstore 12, 2)) (hq : pc + 2 = q) (hp : pj_c1 o11 = true) (kk : pj_V E B l Y d mc ms q (o0 :: o1 :: o2 :: o3 :: o4 :: o5 :: o6 :: o7 :: o8 :: o9 :: o10 :: o11 :: some (.long x) :: none :: tl) st h n ce sl Q) : pj_V E B l Y d mc ms pc (o0 :: o1 :: o2 :: o3 :: o4 :: o5 :: o6 :: o7 :: o8 :: o9 :: o10 :: o11 :: o12 :: o' :: tl) (.long x :: st) h n ce sl Q := by
  subst hq
  intro p e s m args below meth c H locs la S hr hk hn hW hH hS hL
  have hi : 12 + 1 < Y.2.2.1 := by rw [← hL.2]; simp only [List.length_cons]; omega
  exact lv_lstore S.1 S.2.1 hd hL.1 hi rfl (fun la' h' => kk p e s m args below meth c H locs la' S hr hk hn hW hH hS (hL.set2 hi (fun o _ z => by cases z; exact hp) h'))
theorem pj_iinc12 {o0 o1 o2 o3 o4 o5 o6 o7 o8 o9 o10 o11 : Option Value} {tl : List (Option Value)} {k : Int} {x v : Int32} (hd : decode Y.2.1 pc = .ok (.iinc 12 k, 3)) (hq : pc + 3 = q) (hp : pj_c1 o11 = true) (hv : Int32.ofInt k = v) (kk : pj_V E B l Y d mc ms q (o0 :: o1 :: o2 :: o3 :: o4 :: o5 :: o6 :: o7 :: o8 :: o9 :: o10 :: o11 :: some (.int (x + v)) :: tl) st h n ce sl Q) : pj_V E B l Y d mc ms pc (o0 :: o1 :: o2 :: o3 :: o4 :: o5 :: o6 :: o7 :: o8 :: o9 :: o10 :: o11 :: some (.int x) :: tl) st h n ce sl Q := by
  subst hq
  subst hv
  intro p e s m args below meth c H locs la S hr hk hn hW hH hS hL
  have hi : 12 < Y.2.2.1 := by rw [← hL.2]; simp only [List.length_cons]; omega
  obtain ⟨j, hj⟩ := List.getElem?_of_mem ((pj_as_mem (o0 :: o1 :: o2 :: o3 :: o4 :: o5 :: o6 :: o7 :: o8 :: o9 :: o10 :: o11 :: some (.int x) :: tl) 0 12 (.int x)).mpr ⟨12, by omega, rfl⟩)
  exact lv_iinc S.1 S.2.1 hd hL.1 hj rfl hi rfl (fun la' h' => kk p e s m args below meth c H locs la' S hr hk hn hW hH hS (hL.set1 hi (fun o _ z => by cases z; exact hp) h'))
theorem pj_ist13 {o0 o1 o2 o3 o4 o5 o6 o7 o8 o9 o10 o11 o12 o13 : Option Value} {tl : List (Option Value)} {x : Int32} (hd : decode Y.2.1 pc = .ok (.istore 13, 2)) (hq : pc + 2 = q) (hp : pj_c1 o12 = true) (kk : pj_V E B l Y d mc ms q (o0 :: o1 :: o2 :: o3 :: o4 :: o5 :: o6 :: o7 :: o8 :: o9 :: o10 :: o11 :: o12 :: some (.int x) :: tl) st h n ce sl Q) : pj_V E B l Y d mc ms pc (o0 :: o1 :: o2 :: o3 :: o4 :: o5 :: o6 :: o7 :: o8 :: o9 :: o10 :: o11 :: o12 :: o13 :: tl) (.int x :: st) h n ce sl Q := by
  subst hq
  intro p e s m args below meth c H locs la S hr hk hn hW hH hS hL
  have hi : 13 < Y.2.2.1 := by rw [← hL.2]; simp only [List.length_cons]; omega
  exact lv_istore S.1 S.2.1 hd hL.1 hi rfl (fun la' h' => kk p e s m args below meth c H locs la' S hr hk hn hW hH hS (hL.set1 hi (fun o _ z => by cases z; exact hp) h'))
theorem pj_ast13 {o0 o1 o2 o3 o4 o5 o6 o7 o8 o9 o10 o11 o12 o13 : Option Value} {tl : List (Option Value)} {x : Nat} (hd : decode Y.2.1 pc = .ok (.astore 13, 2)) (hq : pc + 2 = q) (hp : pj_c1 o12 = true) (kk : pj_V E B l Y d mc ms q (o0 :: o1 :: o2 :: o3 :: o4 :: o5 :: o6 :: o7 :: o8 :: o9 :: o10 :: o11 :: o12 :: some (.ref x) :: tl) st h n ce sl Q) : pj_V E B l Y d mc ms pc (o0 :: o1 :: o2 :: o3 :: o4 :: o5 :: o6 :: o7 :: o8 :: o9 :: o10 :: o11 :: o12 :: o13 :: tl) (.ref x :: st) h n ce sl Q := by
  subst hq
  intro p e s m args below meth c H locs la S hr hk hn hW hH hS hL
  have hi : 13 < Y.2.2.1 := by rw [← hL.2]; simp only [List.length_cons]; omega
  exact lv_astore S.1 S.2.1 hd hL.1 hi rfl (fun la' h' => kk p e s m args below meth c H locs la' S hr hk hn hW hH hS (hL.set1 hi (fun o _ z => by cases z; exact hp) h'))
theorem pj_lst13 {o0 o1 o2 o3 o4 o5 o6 o7 o8 o9 o10 o11 o12 o13 : Option Value} {o' : Option Value} {tl : List (Option Value)} {x : Int64} (hd : decode Y.2.1 pc = .ok (.lstore 13, 2)) (hq : pc + 2 = q) (hp : pj_c1 o12 = true) (kk : pj_V E B l Y d mc ms q (o0 :: o1 :: o2 :: o3 :: o4 :: o5 :: o6 :: o7 :: o8 :: o9 :: o10 :: o11 :: o12 :: some (.long x) :: none :: tl) st h n ce sl Q) : pj_V E B l Y d mc ms pc (o0 :: o1 :: o2 :: o3 :: o4 :: o5 :: o6 :: o7 :: o8 :: o9 :: o10 :: o11 :: o12 :: o13 :: o' :: tl) (.long x :: st) h n ce sl Q := by
  subst hq
  intro p e s m args below meth c H locs la S hr hk hn hW hH hS hL
  have hi : 13 + 1 < Y.2.2.1 := by rw [← hL.2]; simp only [List.length_cons]; omega
  exact lv_lstore S.1 S.2.1 hd hL.1 hi rfl (fun la' h' => kk p e s m args below meth c H locs la' S hr hk hn hW hH hS (hL.set2 hi (fun o _ z => by cases z; exact hp) h'))
theorem pj_iinc13 {o0 o1 o2 o3 o4 o5 o6 o7 o8 o9 o10 o11 o12 : Option Value} {tl : List (Option Value)} {k : Int} {x v : Int32} (hd : decode Y.2.1 pc = .ok (.iinc 13 k, 3)) (hq : pc + 3 = q) (hp : pj_c1 o12 = true) (hv : Int32.ofInt k = v) (kk : pj_V E B l Y d mc ms q (o0 :: o1 :: o2 :: o3 :: o4 :: o5 :: o6 :: o7 :: o8 :: o9 :: o10 :: o11 :: o12 :: some (.int (x + v)) :: tl) st h n ce sl Q) : pj_V E B l Y d mc ms pc (o0 :: o1 :: o2 :: o3 :: o4 :: o5 :: o6 :: o7 :: o8 :: o9 :: o10 :: o11 :: o12 :: some (.int x) :: tl) st h n ce sl Q := by
  subst hq
  subst hv
  intro p e s m args below meth c H locs la S hr hk hn hW hH hS hL
  have hi : 13 < Y.2.2.1 := by rw [← hL.2]; simp only [List.length_cons]; omega
  obtain ⟨j, hj⟩ := List.getElem?_of_mem ((pj_as_mem (o0 :: o1 :: o2 :: o3 :: o4 :: o5 :: o6 :: o7 :: o8 :: o9 :: o10 :: o11 :: o12 :: some (.int x) :: tl) 0 13 (.int x)).mpr ⟨13, by omega, rfl⟩)
  exact lv_iinc S.1 S.2.1 hd hL.1 hj rfl hi rfl (fun la' h' => kk p e s m args below meth c H locs la' S hr hk hn hW hH hS (hL.set1 hi (fun o _ z => by cases z; exact hp) h'))
theorem pj_ist14 {o0 o1 o2 o3 o4 o5 o6 o7 o8 o9 o10 o11 o12 o13 o14 : Option Value} {tl : List (Option Value)} {x : Int32} (hd : decode Y.2.1 pc = .ok (.istore 14, 2)) (hq : pc + 2 = q) (hp : pj_c1 o13 = true) (kk : pj_V E B l Y d mc ms q (o0 :: o1 :: o2 :: o3 :: o4 :: o5 :: o6 :: o7 :: o8 :: o9 :: o10 :: o11 :: o12 :: o13 :: some (.int x) :: tl) st h n ce sl Q) : pj_V E B l Y d mc ms pc (o0 :: o1 :: o2 :: o3 :: o4 :: o5 :: o6 :: o7 :: o8 :: o9 :: o10 :: o11 :: o12 :: o13 :: o14 :: tl) (.int x :: st) h n ce sl Q := by
  subst hq
  intro p e s m args below meth c H locs la S hr hk hn hW hH hS hL
  have hi : 14 < Y.2.2.1 := by rw [← hL.2]; simp only [List.length_cons]; omega
  exact lv_istore S.1 S.2.1 hd hL.1 hi rfl (fun la' h' => kk p e s m args below meth c H locs la' S hr hk hn hW hH hS (hL.set1 hi (fun o _ z => by cases z; exact hp) h'))
theorem pj_ast14 {o0 o1 o2 o3 o4 o5 o6 o7 o8 o9 o10 o11 o12 o13 o14 : Option Value} {tl : List (Option Value)} {x : Nat} (hd : decode Y.2.1 pc = .ok (.astore 14, 2)) (hq : pc + 2 = q) (hp : pj_c1 o13 = true) (kk : pj_V E B l Y d mc ms q (o0 :: o1 :: o2 :: o3 :: o4 :: o5 :: o6 :: o7 :: o8 :: o9 :: o10 :: o11 :: o12 :: o13 :: some (.ref x) :: tl) st h n ce sl Q) : pj_V E B l Y d mc ms pc (o0 :: o1 :: o2 :: o3 :: o4 :: o5 :: o6 :: o7 :: o8 :: o9 :: o10 :: o11 :: o12 :: o13 :: o14 :: tl) (.ref x :: st) h n ce sl Q := by
  subst hq
  intro p e s m args below meth c H locs la S hr hk hn hW hH hS hL
  have hi : 14 < Y.2.2.1 := by rw [← hL.2]; simp only [List.length_cons]; omega
  exact lv_astore S.1 S.2.1 hd hL.1 hi rfl (fun la' h' => kk p e s m args below meth c H locs la' S hr hk hn hW hH hS (hL.set1 hi (fun o _ z => by cases z; exact hp) h'))
theorem pj_lst14 {o0 o1 o2 o3 o4 o5 o6 o7 o8 o9 o10 o11 o12 o13 o14 : Option Value} {o' : Option Value} {tl : List (Option Value)} {x : Int64} (hd : decode Y.2.1 pc = .ok (.lstore 14, 2)) (hq : pc + 2 = q) (hp : pj_c1 o13 = true) (kk : pj_V E B l Y d mc ms q (o0 :: o1 :: o2 :: o3 :: o4 :: o5 :: o6 :: o7 :: o8 :: o9 :: o10 :: o11 :: o12 :: o13 :: some (.long x) :: none :: tl) st h n ce sl Q) : pj_V E B l Y d mc ms pc (o0 :: o1 :: o2 :: o3 :: o4 :: o5 :: o6 :: o7 :: o8 :: o9 :: o10 :: o11 :: o12 :: o13 :: o14 :: o' :: tl) (.long x :: st) h n ce sl Q := by
  subst hq
  intro p e s m args below meth c H locs la S hr hk hn hW hH hS hL
  have hi : 14 + 1 < Y.2.2.1 := by rw [← hL.2]; simp only [List.length_cons]; omega
  exact lv_lstore S.1 S.2.1 hd hL.1 hi rfl (fun la' h' => kk p e s m args below meth c H locs la' S hr hk hn hW hH hS (hL.set2 hi (fun o _ z => by cases z; exact hp) h'))
theorem pj_iinc14 {o0 o1 o2 o3 o4 o5 o6 o7 o8 o9 o10 o11 o12 o13 : Option Value} {tl : List (Option Value)} {k : Int} {x v : Int32} (hd : decode Y.2.1 pc = .ok (.iinc 14 k, 3)) (hq : pc + 3 = q) (hp : pj_c1 o13 = true) (hv : Int32.ofInt k = v) (kk : pj_V E B l Y d mc ms q (o0 :: o1 :: o2 :: o3 :: o4 :: o5 :: o6 :: o7 :: o8 :: o9 :: o10 :: o11 :: o12 :: o13 :: some (.int (x + v)) :: tl) st h n ce sl Q) : pj_V E B l Y d mc ms pc (o0 :: o1 :: o2 :: o3 :: o4 :: o5 :: o6 :: o7 :: o8 :: o9 :: o10 :: o11 :: o12 :: o13 :: some (.int x) :: tl) st h n ce sl Q := by
  subst hq
  subst hv
  intro p e s m args below meth c H locs la S hr hk hn hW hH hS hL
  have hi : 14 < Y.2.2.1 := by rw [← hL.2]; simp only [List.length_cons]; omega
  obtain ⟨j, hj⟩ := List.getElem?_of_mem ((pj_as_mem (o0 :: o1 :: o2 :: o3 :: o4 :: o5 :: o6 :: o7 :: o8 :: o9 :: o10 :: o11 :: o12 :: o13 :: some (.int x) :: tl) 0 14 (.int x)).mpr ⟨14, by omega, rfl⟩)
  exact lv_iinc S.1 S.2.1 hd hL.1 hj rfl hi rfl (fun la' h' => kk p e s m args below meth c H locs la' S hr hk hn hW hH hS (hL.set1 hi (fun o _ z => by cases z; exact hp) h'))
theorem pj_ist15 {o0 o1 o2 o3 o4 o5 o6 o7 o8 o9 o10 o11 o12 o13 o14 o15 : Option Value} {tl : List (Option Value)} {x : Int32} (hd : decode Y.2.1 pc = .ok (.istore 15, 2)) (hq : pc + 2 = q) (hp : pj_c1 o14 = true) (kk : pj_V E B l Y d mc ms q (o0 :: o1 :: o2 :: o3 :: o4 :: o5 :: o6 :: o7 :: o8 :: o9 :: o10 :: o11 :: o12 :: o13 :: o14 :: some (.int x) :: tl) st h n ce sl Q) : pj_V E B l Y d mc ms pc (o0 :: o1 :: o2 :: o3 :: o4 :: o5 :: o6 :: o7 :: o8 :: o9 :: o10 :: o11 :: o12 :: o13 :: o14 :: o15 :: tl) (.int x :: st) h n ce sl Q := by
  subst hq
  intro p e s m args below meth c H locs la S hr hk hn hW hH hS hL
  have hi : 15 < Y.2.2.1 := by rw [← hL.2]; simp only [List.length_cons]; omega
  exact lv_istore S.1 S.2.1 hd hL.1 hi rfl (fun la' h' => kk p e s m args below meth c H locs la' S hr hk hn hW hH hS (hL.set1 hi (fun o _ z => by cases z; exact hp) h'))
theorem pj_ast15 {o0 o1 o2 o3 o4 o5 o6 o7 o8 o9 o10 o11 o12 o13 o14 o15 : Option Value} {tl : List (Option Value)} {x : Nat} (hd : decode Y.2.1 pc = .ok (.astore 15, 2)) (hq : pc + 2 = q) (hp : pj_c1 o14 = true) (kk : pj_V E B l Y d mc ms q (o0 :: o1 :: o2 :: o3 :: o4 :: o5 :: o6 :: o7 :: o8 :: o9 :: o10 :: o11 :: o12 :: o13 :: o14 :: some (.ref x) :: tl) st h n ce sl Q) : pj_V E B l Y d mc ms pc (o0 :: o1 :: o2 :: o3 :: o4 :: o5 :: o6 :: o7 :: o8 :: o9 :: o10 :: o11 :: o12 :: o13 :: o14 :: o15 :: tl) (.ref x :: st) h n ce sl Q := by
  subst hq
  intro p e s m args below meth c H locs la S hr hk hn hW hH hS hL
  have hi : 15 < Y.2.2.1 := by rw [← hL.2]; simp only [List.length_cons]; omega
  exact lv_astore S.1 S.2.1 hd hL.1 hi rfl (fun la' h' => kk p e s m args below meth c H locs la' S hr hk hn hW hH hS (hL.set1 hi (fun o _ z => by cases z; exact hp) h'))
theorem pj_lst15 {o0 o1 o2 o3 o4 o5 o6 o7 o8 o9 o10 o11 o12 o13 o14 o15 : Option Value} {o' : Option Value} {tl : List (Option Value)} {x : Int64} (hd : decode Y.2.1 pc = .ok (.lstore 15, 2)) (hq : pc + 2 = q) (hp : pj_c1 o14 = true) (kk : pj_V E B l Y d mc ms q (o0 :: o1 :: o2 :: o3 :: o4 :: o5 :: o6 :: o7 :: o8 :: o9 :: o10 :: o11 :: o12 :: o13 :: o14 :: some (.long x) :: none :: tl) st h n ce sl Q) : pj_V E B l Y d mc ms pc (o0 :: o1 :: o2 :: o3 :: o4 :: o5 :: o6 :: o7 :: o8 :: o9 :: o10 :: o11 :: o12 :: o13 :: o14 :: o15 :: o' :: tl) (.long x :: st) h n ce sl Q := by
  subst hq
  intro p e s m args below meth c H locs la S hr hk hn hW hH hS hL
  have hi : 15 + 1 < Y.2.2.1 := by rw [← hL.2]; simp only [List.length_cons]; omega
  exact lv_lstore S.1 S.2.1 hd hL.1 hi rfl (fun la' h' => kk p e s m args below meth c H locs la' S hr hk hn hW hH hS (hL.set2 hi (fun o _ z => by cases z; exact hp) h'))
theorem pj_iinc15 {o0 o1 o2 o3 o4 o5 o6 o7 o8 o9 o10 o11 o12 o13 o14 : Option Value} {tl : List (Option Value)} {k : Int} {x v : Int32} (hd : decode Y.2.1 pc = .ok (.iinc 15 k, 3)) (hq : pc + 3 = q) (hp : pj_c1 o14 = true) (hv : Int32.ofInt k = v) (kk : pj_V E B l Y d mc ms q (o0 :: o1 :: o2 :: o3 :: o4 :: o5 :: o6 :: o7 :: o8 :: o9 :: o10 :: o11 :: o12 :: o13 :: o14 :: some (.int (x + v)) :: tl) st h n ce sl Q) : pj_V E B l Y d mc ms pc (o0 :: o1 :: o2 :: o3 :: o4 :: o5 :: o6 :: o7 :: o8 :: o9 :: o10 :: o11 :: o12 :: o13 :: o14 :: some (.int x) :: tl) st h n ce sl Q := by
  subst hq
  subst hv
  intro p e s m args below meth c H locs la S hr hk hn hW hH hS hL
  have hi : 15 < Y.2.2.1 := by rw [← hL.2]; simp only [List.length_cons]; omega
  obtain ⟨j, hj⟩ := List.getElem?_of_mem ((pj_as_mem (o0 :: o1 :: o2 :: o3 :: o4 :: o5 :: o6 :: o7 :: o8 :: o9 :: o10 :: o11 :: o12 :: o13 :: o14 :: some (.int x) :: tl) 0 15 (.int x)).mpr ⟨15, by omega, rfl⟩)
  exact lv_iinc S.1 S.2.1 hd hL.1 hj rfl hi rfl (fun la' h' => kk p e s m args below meth c H locs la' S hr hk hn hW hH hS (hL.set1 hi (fun o _ z => by cases z; exact hp) h'))
theorem pj_ret_go {s : State} {args : Array Value} {H : Heap} {locs : List Loc} {r : Option Value} (hH : pj_HR E B h n H) (hS : va_S (fun q => B ≤ q) s.heap H locs) (hQ : Q r h n) : ∀ t : State, t.heap = H → s.WarmedH t.vm → pj_Qc E B Q args s (.returned r) t := fun t ht _ => ⟨⟨r, h, n, rfl, hQ, by rw [ht]; exact hH⟩, hS.F ht⟩
theorem pj_iret {x : Int32} (hy : Y.2.2.2 = some .int) (hd : decode Y.2.1 pc = .ok (.ireturn, 1)) (hce : ce ≤ mc) (hsl : sl ≤ ms) (hQ : Q (some (.int x)) h n) : pj_V E B l Y d mc ms pc ls [.int x] h n ce sl Q := by
  intro p e s m args below meth c H locs la S hr hk hn hW hH hS hL
  refine W.widen hce hsl ?_
  exact W.iret S.1 S.2.1 (hr.trans hy) (pj_ret_go hH hS hQ) hS.2.2 hd hk
theorem pj_zret {x : Int32} (hy : Y.2.2.2 = some .boolean) (hx : narrow .boolean (.int x) = .int x) (hd : decode Y.2.1 pc = .ok (.ireturn, 1)) (hce : ce ≤ mc) (hsl : sl ≤ ms) (hQ : Q (some (.int x)) h n) : pj_V E B l Y d mc ms pc ls [.int x] h n ce sl Q := by
  intro p e s m args below meth c H locs la S hr hk hn hW hH hS hL
  refine W.widen hce hsl ?_
  exact W.zret S.1 S.2.1 (hr.trans hy) hx (pj_ret_go hH hS hQ) hS.2.2 hd hk
theorem pj_lret {x : Int64} (hy : Y.2.2.2 = some .long) (hd : decode Y.2.1 pc = .ok (.lreturn, 1)) (hce : ce ≤ mc) (hsl : sl ≤ ms) (hQ : Q (some (.long x)) h n) : pj_V E B l Y d mc ms pc ls [.long x] h n ce sl Q := by
  intro p e s m args below meth c H locs la S hr hk hn hW hH hS hL
  refine W.widen hce hsl ?_
  exact W.lret S.1 S.2.1 (hr.trans hy) (pj_ret_go hH hS hQ) hS.2.2 hd hk
theorem pj_vret (hy : Y.2.2.2 = none) (hd : decode Y.2.1 pc = .ok (.return_, 1)) (hce : ce ≤ mc) (hsl : sl ≤ ms) (hQ : Q none h n) : pj_V E B l Y d mc ms pc ls [] h n ce sl Q := by
  intro p e s m args below meth c H locs la S hr hk hn hW hH hS hL
  refine W.widen hce hsl ?_
  exact W.vret S.1 S.2.1 (hr.trans hy) (pj_ret_go hH hS hQ) hS.2.2 hd hk
theorem pj_aret {x : Nat} {C : String} (hy : Y.2.2.2 = some (.object C)) (hd : decode Y.2.1 pc = .ok (.areturn, 1)) (hce : ce ≤ mc) (hsl : sl ≤ ms) (hQ : Q (some (.ref x)) h n) : pj_V E B l Y d mc ms pc ls [.ref x] h n ce sl Q := by
  intro p e s m args below meth c H locs la S hr hk hn hW hH hS hL
  refine W.widen hce hsl ?_
  exact W.aret S.1 S.2.1 (hr.trans hy) (Or.inl ⟨_, rfl⟩) (Or.inr ⟨_, rfl⟩) (pj_ret_go hH hS hQ) hS.2.2 hd hk
theorem pj_aretN {C : String} (hy : Y.2.2.2 = some (.object C)) (hd : decode Y.2.1 pc = .ok (.areturn, 1)) (hce : ce ≤ mc) (hsl : sl ≤ ms) (hQ : Q (some .null) h n) : pj_V E B l Y d mc ms pc ls [.null] h n ce sl Q := by
  intro p e s m args below meth c H locs la S hr hk hn hW hH hS hL
  refine W.widen hce hsl ?_
  exact W.aret S.1 S.2.1 (hr.trans hy) (Or.inl ⟨_, rfl⟩) (Or.inl rfl) (pj_ret_go hH hS hQ) hS.2.2 hd hk
end PJR
end
section
/-! ===== the pure layer: cells ===== -/
theorem pj_HR.lt {E : pj_E} {B : Nat} {h : pj_H} {n : Nat} {H : Heap} (hH : pj_HR E B h n H) {a : Nat} {c : pj_C} (ha : h a = some c) : a < n := by
  have := (hH.2 a c ha).2.lt
  rw [← hH.1]; exact this
theorem pj_HR.up {E : pj_E} {B : Nat} {h : pj_H} {n : Nat} {H H1 : Heap} {a : Nat} {c0 c : pj_C} (hH : pj_HR E B h n H) (ha : h a = some c0) (hc : va_at E.1 vwCl (a, pj_e E c) H1) (hz : H1.size = H.size) (oq : ∀ q : Nat, q ≠ a → H1[q]? = H[q]?) : pj_HR E B (pj_up h a c) n H1 := by
  refine ⟨hz.trans hH.1, fun b d hb => ?_⟩
  by_cases hba : b = a
  · subst hba
    rw [pj_up_s] at hb
    cases hb
    exact ⟨(hH.2 b c0 ha).1, hc⟩
  · rw [pj_up_n hba] at hb
    exact ⟨(hH.2 b d hb).1, (hH.2 b d hb).2.kept (oq b hba)⟩
theorem pj_HR.push {E : pj_E} {B : Nat} {h : pj_H} {n : Nat} {H H1 : Heap} {c : pj_C} (hH : pj_HR E B h n H) (hB : B ≤ n) (hc : va_at E.1 vwCl (n, pj_e E c) H1) (hz : H1.size = n + 1) (oq : ∀ q : Nat, q < n → H1[q]? = H[q]?) : pj_HR E B (pj_up h n c) (n + 1) H1 := by
  refine ⟨hz, fun b d hb => ?_⟩
  by_cases hba : b = n
  · subst hba
    rw [pj_up_s] at hb
    cases hb
    exact ⟨hB, hc⟩
  · rw [pj_up_n hba] at hb
    exact ⟨(hH.2 b d hb).1, (hH.2 b d hb).2.kept (oq b (hH.lt hb))⟩
theorem pj_S_put {B : Nat} {H0 H H1 : Heap} {locs : List Loc} {a i : Nat} (hS : va_S (fun q => B ≤ q) H0 H locs) (hz : H1.size = H.size) (oq : ∀ q : Nat, q ≠ a → H1[q]? = H[q]?) (ha : B ≤ a) : va_S (fun q => B ≤ q) H0 H1 (locs ++ [⟨a, i⟩]) := hS.put hz oq ha
theorem pj_S_push {B n : Nat} {H0 H H1 : Heap} {locs : List Loc} (hS : va_S (fun q => B ≤ q) H0 H locs) (hn : H.size = n) (hz : n ≤ H1.size) (oq : ∀ q : Nat, q < n → H1[q]? = H[q]?) : va_S (fun q => B ≤ q) H0 H1 locs := by
  subst hn
  exact ⟨Nat.le_trans hS.1 hz, fun q h1 h2 => (oq q (Nat.lt_of_lt_of_le h1 hS.1)).trans (hS.2.1 q h1 h2), hS.2.2⟩
theorem pj_ty {E : pj_E} {s : State} (hW : pj_WF E s) {t : Nat} {ty : FieldType} (ht : (pj_tys E)[t]? = some (E.2 t, ty)) : ArrOfT s (E.2 t) ty ∧ va_RA s (E.2 t) ty := hW.1.2 t _ ht
/-- the k-th field of the class of that number: class that declares it, name, descriptor, whether final -/
def pj_fld (ci k : Nat) : Option (String × String × String × Bool) := match vwCl[ci]? with
  | some r => if k < r.2.2 then some (r.2.1 k) else none
  | none => none
theorem pj_fld_spec {ci k : Nat} {F : String × String × String × Bool} (h : pj_fld ci k = some F) : ∃ (C : String) (T : u_T) (N : Nat), vwCl[ci]? = some (C, T, N) ∧ k < N ∧ T k = F := by
  unfold pj_fld at h
  cases hv : vwCl[ci]? with
  | none => rw [hv] at h; cases h
  | some r =>
    rw [hv] at h
    obtain ⟨C, T, N⟩ := r
    by_cases hk : k < N
    · simp only [hk, if_true] at h
      cases h
      exact ⟨C, T, N, rfl, hk, rfl⟩
    · simp only [hk, if_false] at h
      cases h
/-- what the tables say of each class -/
def pj_clok (C : String) (T : u_T) (N : Nat) : Prop := (∀ w ∈ u_ws C T N, w ∈ lw_tbl) ∧ (∃ ty : Nat → FieldType, ∀ k, k < N → parseFieldDescriptor (T k).2.2.1 = some (ty k)) ∧ (∀ a, a < N → ∀ b, b < N → a ≠ b → (T a).2.1 ≠ (T b).2.1)
theorem pj_cls {ci : Nat} {C : String} {T : u_T} {N : Nat} (h : vwCl[ci]? = some (C, T, N)) : pj_clok C T N := by
  match ci, h with
  | 0, h => cases h; exact ⟨pj_inX0, ⟨tyX0, tyX0_ok⟩, nmX0⟩
  | 1, h => cases h; exact ⟨pj_inX1, ⟨tyX1, tyX1_ok⟩, nmX1⟩
  | 2, h => cases h; exact ⟨pj_inX2, ⟨tyX2, tyX2_ok⟩, nmX2⟩
  | 3, h => cases h; exact ⟨pj_inX3, ⟨tyX3, tyX3_ok⟩, nmX3⟩
  | 4, h => cases h; exact ⟨pj_inX4, ⟨tyX4, tyX4_ok⟩, nmX4⟩
  | 5, h => cases h; exact ⟨pj_inX5, ⟨tyX5, tyX5_ok⟩, nmX5⟩
  | 6, h => cases h; exact ⟨pj_inX6, ⟨tyX6, tyX6_ok⟩, nmX6⟩
  | 7, h => cases h; exact ⟨pj_inX7, ⟨tyX7, tyX7_ok⟩, nmX7⟩
  | 8, h => cases h; exact ⟨pj_inX9, ⟨tyX9, tyX9_ok⟩, nmX9⟩
  | 9, h => cases h; exact ⟨pj_inX10, ⟨tyX10, tyX10_ok⟩, nmX10⟩
  | 10, h => cases h; exact ⟨pj_inX11, ⟨tyX11, tyX11_ok⟩, nmX11⟩
  | 11, h => cases h; exact ⟨pj_inX12, ⟨tyX12, tyX12_ok⟩, nmX12⟩
  | k + 12, h => simp [vwCl] at h
section PJC
variable {E : pj_E} {B : Nat} {l : Launch} {Y : pj_Y} {d mc ms pc q : Nat} {ls : List (Option Value)} {st : List Value} {h : pj_H} {n ce sl : Nat} {Q : Option Value → pj_H → Nat → Prop}
theorem pj_getf {i k a ci : Nat} {fs : List Value} {v : Value} {F : String × String × String × Bool} (hd : decode Y.2.1 pc = .ok (.getfield i, 3)) (hq : pc + 3 = q) (hl : Cond.fieldLink Y.1.cls i F.1 F.2.1 F.2.2.1 ∈ lw_tbl) (ha : h a = some (.inr (ci, fs))) (hF : pj_fld ci k = some F) (hv : fs[k]? = some v) (kk : pj_V E B l Y d mc ms q ls (v :: st) h n ce sl Q) : pj_V E B l Y d mc ms pc ls (.ref a :: st) h n ce sl Q := by
  subst hq
  intro p e s m args below meth c H locs la S hr hk hn hW hH hS hL
  obtain ⟨C, T, N, h1, h2, h3⟩ := pj_fld_spec hF
  subst h3
  have hP : va_P E.1 vwCl [(a, .inr (ci, fs))] H := fun k' q' hk' => by
    cases k' with
    | zero => cases hk'; exact (hH.2 a _ ha).2
    | succ k' => simp at hk'
  exact va_get S.1 S.2.1 S.2.2.2.2 (pj_cls h1).1 S.2.2.2.1 hW.1 hP 0 rfl h1 k h2 (S.2.2.2.2 _ hl) (fun x hx => hx) hv hd (kk p e s m args below meth c H locs la S hr hk hn hW hH hS hL)
theorem pj_putf {i k a ci : Nat} {fs : List Value} {v : Value} {F : String × String × String × Bool} {ty : FieldType} (hd : decode Y.2.1 pc = .ok (.putfield i, 3)) (hq : pc + 3 = q) (hl : Cond.fieldLink Y.1.cls i F.1 F.2.1 F.2.2.1 ∈ lw_tbl) (ha : h a = some (.inr (ci, fs))) (hF : pj_fld ci k = some F) (hfin : F.2.2.2 = false ∨ (Y.1.name = "<init>" ∧ F.1 = Y.1.cls)) (hty : parseFieldDescriptor F.2.2.1 = some ty) (hnr : narrow ty v = v) (hft : fits ty v = true) (hlen : k < fs.length) (kk : pj_V E B l Y d mc ms q ls st (pj_up h a (.inr (ci, fs.set k v))) n ce sl Q) : pj_V E B l Y d mc ms pc ls (v :: .ref a :: st) h n ce sl Q := by
  subst hq
  intro p e s m args below meth c H locs la S hr hk hn hW hH hS hL
  obtain ⟨C, T, N, h1, h2, h3⟩ := pj_fld_spec hF
  subst h3
  obtain ⟨hin, ⟨ty0, hty0⟩, hnm⟩ := pj_cls h1
  have hap := va_apart (own := Y.1.cls) S.2.2.2.2 hin ty0 hty0 hnm hW.1 h1
  obtain ⟨hBa, r, h1', cell, q1, q2, q3, q4⟩ := hH.2 a _ ha
  have hre : r = (C, T, N) := Option.some.inj (h1'.symm.trans h1)
  subst hre
  obtain ⟨hSl, hfc, kC, hkC, hkind⟩ := hW.1.1 ci _ h1
  obtain ⟨cf, kf, fi, f, hi, hsl⟩ := hSl k h2
  have hlay := S.2.2.2.2 _ (hin _ (u_in_lay h2))
  unfold u_lay at hlay
  have hst := (u_facts hfc hkC (u_lays S.2.2.2.2 hin h2) hi).1
  have fin : ∀ H' : Heap, H'[a]? = some (cell.setSlot f.slot v) → H'.size = H.size → (∀ q, q ≠ a → H'[q]? = H[q]?) → W p l e (pj_rm d mc ms) s m args below meth c H' (locs ++ [⟨a, f.slot⟩]) ce sl (MQ below (pj_Qc E B Q) args s mc ms (fun q => B ≤ q)) (F0 m (pc + 3) la st) := by
    intro H' e1 e2 e3
    rw [hsl] at e1
    exact kk p e s m args below meth c H' _ la S hr hk hn hW (hH.up ha ⟨_, h1, t_OB.to (V := updV (vp_V fs) k v) ⟨_, e1, q2, q3, t_set q4 hap h2 v⟩ (fun j _ => vp_updV_set hlen v j)⟩ e2 e3) (pj_S_put hS e2 e3 hBa) hL
  have hslot : f.slot < cell.slots.size := by rw [hsl]; exact k2_hasslot (q4 k h2)
  by_cases hff : (T k).2.2.2 = false
  · rw [if_neg (by rw [hff]; decide)] at hlay
    have h6 := u_store hfc hkC hkind hlay hi hty hnr hft
    exact W.putK S.1 S.2.1 (f := f) ⟨S.2.2.2.1, S.2.2.2.2 _ hl, ⟨_, _, _, hi⟩, hst⟩ (by rw [q2]; exact h6) q1 q3 hslot rfl rfl hd fin
  · obtain ⟨hin2, hdecl⟩ := hfin.resolve_left hff
    rw [if_pos (by simpa using hff)] at hlay
    have hcf : m.cls = cf := by
      obtain ⟨_, _, c', _, _, _, -, -, hf', -, -, -, hown2, -⟩ := Cond.laysFinal_spec hlay
      have e1 : c' = cf := by have := hi.symm.trans hf'; simp at this; exact this.1.symm
      rw [hdecl] at hown2
      rw [← e1]; exact Option.some.inj (S.2.2.2.1.symm.trans hown2)
    have h6 := u_fits hfc hkC hkind (Or.inr hlay) hi hty hnr hft
    exact W.putFinK S.1 S.2.1 S.2.2.2.1 (S.2.2.2.2 _ hl) hi hst hcf (hn.trans hin2) (by rw [q2]; exact h6) q1 q3 hslot rfl rfl hd fin
theorem pj_len {t a N : Nat} {x : (Nat → Int32) ⊕ (Nat → Int64) ⊕ (Nat → UInt32) ⊕ (Nat → UInt64) ⊕ (Nat → Option Nat)} {ty : FieldType} {v : Int32} (ht : (pj_tys E)[t]? = some (E.2 t, ty)) (hd : decode Y.2.1 pc = .ok (.arraylength, 1)) (hq : pc + 1 = q) (ha : h a = some (.inl (t, N, x))) (hv : Int32.ofNat N = v) (kk : pj_V E B l Y d mc ms q ls (.int v :: st) h n ce sl Q) : pj_V E B l Y d mc ms pc ls (.ref a :: st) h n ce sl Q := by
  subst hq
  intro p e s m args below meth c H locs la S hr hk hn hW hH hS hL
  have hP : va_P E.1 vwCl [(a, .inl (E.2 t, N, x))] H := fun k' q' hk' => by
    cases k' with
    | zero => cases hk'; exact (hH.2 a _ ha).2
    | succ k' => simp at hk'
  exact va_alen S.1 S.2.1 hW.1 hP 0 t rfl ht hv hd (kk p e s m args below meth c H locs la S hr hk hn hW hH hS hL)
theorem pj_iald {a N : Nat} {f : Nat → Int32} {i : Int32} (hd : decode Y.2.1 pc = .ok (.iaload, 1)) (hq : pc + 1 = q) (ha : h a = some (.inl (0, N, .inl f))) (hin : vp_in i N) (kk : pj_V E B l Y d mc ms q ls (.int (f i.toNatClampNeg) :: st) h n ce sl Q) : pj_V E B l Y d mc ms pc ls (.int i :: .ref a :: st) h n ce sl Q := by
  subst hq
  intro p e s m args below meth c H locs la S hr hk hn hW hH hS hL
  have hP : va_P E.1 vwCl [(a, .inl (E.2 0, N, .inl f))] H := fun k' q' hk' => by
    cases k' with
    | zero => cases hk'; exact (hH.2 a _ ha).2
    | succ k' => simp at hk'
  exact va_iald S.1 S.2.1 hW.1 hP 0 0 rfl rfl hin hd (kk p e s m args below meth c H locs la S hr hk hn hW hH hS hL)
theorem pj_ialdN {a N j : Nat} {f : Nat → Int32} {i : Int32} (hd : decode Y.2.1 pc = .ok (.iaload, 1)) (hq : pc + 1 = q) (ha : h a = some (.inl (0, N, .inl f))) (hi : i = nI j) (hj : j < N) (hN : N ≤ 2147483647) (kk : pj_V E B l Y d mc ms q ls (.int (f j) :: st) h n ce sl Q) : pj_V E B l Y d mc ms pc ls (.int i :: .ref a :: st) h n ce sl Q := by
  subst hi
  refine pj_iald hd hq ha (vp_in_nI hj (by omega)) ?_
  rw [nI_clamp (by omega)]
  exact kk
theorem pj_zald {a N j : Nat} {f : Nat → Int32} {i : Int32} (hd : decode Y.2.1 pc = .ok (.baload, 1)) (hq : pc + 1 = q) (ha : h a = some (.inl (1, N, .inl f))) (hi : i = nI j) (hj : j < N) (hN : N ≤ 2147483647) (kk : pj_V E B l Y d mc ms q ls (.int (f j) :: st) h n ce sl Q) : pj_V E B l Y d mc ms pc ls (.int i :: .ref a :: st) h n ce sl Q := by
  subst hq
  subst hi
  intro p e s m args below meth c H locs la S hr hk hn hW hH hS hL
  have hP : va_P E.1 vwCl [(a, .inl (E.2 1, N, .inl f))] H := fun k' q' hk' => by
    cases k' with
    | zero => cases hk'; exact (hH.2 a _ ha).2
    | succ k' => simp at hk'
  refine va_zald S.1 S.2.1 hW.1 hP 0 1 rfl rfl (vp_in_nI hj (by omega)) hd ?_
  rw [nI_clamp (by omega)]
  exact kk p e s m args below meth c H locs la S hr hk hn hW hH hS hL
theorem pj_aald {t a N j : Nat} {f : Nat → Option Nat} {i : Int32} {ty : FieldType} (ht : (pj_tys E)[t]? = some (E.2 t, ty)) (hty : ty.isReference = true) (hd : decode Y.2.1 pc = .ok (.aaload, 1)) (hq : pc + 1 = q) (ha : h a = some (.inl (t, N, .inr (.inr (.inr (.inr f)))))) (hi : i = nI j) (hj : j < N) (hN : N ≤ 2147483647) (kk : pj_V E B l Y d mc ms q ls (va_rf (f j) :: st) h n ce sl Q) : pj_V E B l Y d mc ms pc ls (.int i :: .ref a :: st) h n ce sl Q := by
  subst hq
  subst hi
  intro p e s m args below meth c H locs la S hr hk hn hW hH hS hL
  have hin : vp_in (nI j) N := vp_in_nI hj (by omega)
  have hlt : (nI j).toNatClampNeg < N := by rw [nI_clamp (by omega)]; exact hj
  refine W.aald (v := va_rf (f (nI j).toNatClampNeg)) (ty := ty) S.1 S.2.1 (hH.2 a _ ha).2 ((pj_ty hW ht).1 N (fun j => va_rf (f j))) hty (fun q => by cases q) (by show ¬ (_ < 0 ∨ (arrV _ _ _).slots.size ≤ _); rw [arrV_size]; exact hin) (by show (arrV _ _ _).slots[_]? = _; rw [arrV_read _ _ hlt]) rfl rfl hd ?_
  rw [nI_clamp (by omega)]
  exact kk p e s m args below meth c H locs la S hr hk hn hW hH hS hL
theorem pj_iast {a N j : Nat} {f : Nat → Int32} {i x : Int32} (hd : decode Y.2.1 pc = .ok (.iastore, 1)) (hq : pc + 1 = q) (ha : h a = some (.inl (0, N, .inl f))) (hi : i = nI j) (hj : j < N) (hN : N ≤ 2147483647) (kk : pj_V E B l Y d mc ms q ls st (pj_up h a (.inl (0, N, .inl (upd f j x)))) n ce sl Q) : pj_V E B l Y d mc ms pc ls (.int x :: .int i :: .ref a :: st) h n ce sl Q := by
  subst hq
  subst hi
  intro p e s m args below meth c H locs la S hr hk hn hW hH hS hL
  have hin : vp_in (nI j) N := vp_in_nI hj (by omega)
  refine W.iast S.1 S.2.1 (hH.2 a _ ha).2 ((pj_ty hW (t := 0) rfl).1 N (fun j => .int (f j))) (fun q => by cases q) (by show ¬ (_ < 0 ∨ (arrV _ _ _).slots.size ≤ _); rw [arrV_size]; exact hin) rfl rfl hd fun H1 e1 z1 oq => ?_
  rw [nI_clamp (by omega)] at e1
  refine kk p e s m args below meth c H1 _ la S hr hk hn hW (hH.up ha ?_ z1 oq) (pj_S_put hS z1 oq (hH.2 a _ ha).1) hL
  show H1[a]? = some (vp_cell _ _)
  rw [e1]
  show some ((vp_cell (E.2 0) (N, .inl f)).setSlot j _) = _
  rw [vp_cell_i, vp_cell_i, arrV_store]
  congr 2
  funext z
  by_cases hz : z = j
  · subst hz; simp [updV, upd]
  · simp [updV, upd, hz]
theorem pj_zast {a N j : Nat} {f : Nat → Int32} {i x : Int32} (hx : narrow .boolean (.int x) = .int x) (hd : decode Y.2.1 pc = .ok (.bastore, 1)) (hq : pc + 1 = q) (ha : h a = some (.inl (1, N, .inl f))) (hi : i = nI j) (hj : j < N) (hN : N ≤ 2147483647) (kk : pj_V E B l Y d mc ms q ls st (pj_up h a (.inl (1, N, .inl (upd f j x)))) n ce sl Q) : pj_V E B l Y d mc ms pc ls (.int x :: .int i :: .ref a :: st) h n ce sl Q := by
  subst hq
  subst hi
  intro p e s m args below meth c H locs la S hr hk hn hW hH hS hL
  have hin : vp_in (nI j) N := vp_in_nI hj (by omega)
  refine W.zast S.1 S.2.1 (hH.2 a _ ha).2 ((pj_ty hW (t := 1) rfl).1 N (fun j => .int (f j))) (fun q => by cases q) (by show ¬ (_ < 0 ∨ (arrV _ _ _).slots.size ≤ _); rw [arrV_size]; exact hin) rfl rfl hd fun H1 e1 z1 oq => ?_
  rw [nI_clamp (by omega)] at e1
  refine kk p e s m args below meth c H1 _ la S hr hk hn hW (hH.up ha ?_ z1 oq) (pj_S_put hS z1 oq (hH.2 a _ ha).1) hL
  show H1[a]? = some (vp_cell _ _)
  rw [e1]
  show some ((vp_cell (E.2 1) (N, .inl f)).setSlot j _) = _
  rw [vp_cell_i, vp_cell_i, arrV_store]
  congr 2
  funext z
  by_cases hz : z = j
  · subst hz; simp [updV, upd, hx]
  · simp [updV, upd, hz]
end PJC
end
section
/-! ===== the pure layer: new cells, copies, instanceof, entry, calls ===== -/
theorem pj_assign {args : Array Value} {s : State} {C T : String} {c t : ClassId} (h : (Cond.castable C T).before args s = true) (hc : s.vm.findClass C = some c) (ht : s.vm.findClass T = some t) : s.vm.assignable c t = true := by
  obtain ⟨c0, t0, f1, f2, f3⟩ := Cond.castable_spec h
  cases f1.symm.trans hc
  cases f2.symm.trans ht
  exact f3
section PJN
variable {E : pj_E} {B : Nat} {l : Launch} {Y : pj_Y} {d mc ms pc q : Nat} {ls : List (Option Value)} {st : List Value} {h : pj_H} {n ce sl : Nat} {Q : Option Value → pj_H → Nat → Prop}
theorem pj_new {i ci N : Nat} {C : String} {T : u_T} {fs : List Value} (hd : decode Y.2.1 pc = .ok (.new i, 3)) (hq : pc + 3 = q) (hl : Cond.classLink Y.1.cls i C ∈ lw_tbl) (hi : Cond.instantiable C N ∈ lw_tbl) (hz : Cond.initialized C ∈ lw_tbl) (hc : vwCl[ci]? = some (C, T, N)) (ty : Nat → FieldType) (hty : ∀ k, k < N → parseFieldDescriptor (T k).2.2.1 = some (ty k)) (hfs : ∀ j, j < N → defaultValue (ty j) = vp_V fs j) (hB : B ≤ n) (hce : ce + 1 ≤ mc) (hsl : sl + N ≤ ms) (kk : pj_V E B l Y d mc ms q ls (.ref n :: st) (pj_up h n (.inr (ci, fs))) (n + 1) (ce + 1) (sl + N) Q) : pj_V E B l Y d mc ms pc ls st h n ce sl Q := by
  subst hq
  intro p e s m args below meth c H locs la S hr hk hn hW hH hS hL
  have hKn := hW.1.1 ci _ hc
  refine W.newcK S.1 S.2.1 S.2.2.2.1 (S.2.2.2.2 _ hl) (S.2.2.2.2 _ hi) (S.2.2.2.2 _ hz) rfl hd hce hsl hKn.2.1 hH.1 fun H1 kC hkC e1 z1 o1 => ?_
  refine kk p e s m args below meth c H1 locs la S hr hk hn hW (hH.push hB ⟨_, hc, (u_born ty S.2.2.2.2 (pj_cls hc).1 hKn hkC e1 hty).to hfs⟩ z1 o1) (pj_S_push hS hH.1 (by omega) o1) hL
theorem pj_newi {N : Nat} {i : Int32} (hl : Cond.arrayClass .int ∈ lw_tbl) (hd : decode Y.2.1 pc = .ok (.newarray .int, 2)) (hq : pc + 2 = q) (hi : i = nI N) (hN : N ≤ 100000) (hB : B ≤ n) (hce : ce + 1 ≤ mc) (hsl : sl + N ≤ ms) (kk : pj_V E B l Y d mc ms q ls (.ref n :: st) (pj_up h n (.inl (0, N, .inl (fun _ => 0)))) (n + 1) (ce + 1) (sl + N) Q) : pj_V E B l Y d mc ms pc ls (.int i :: st) h n ce sl Q := by
  subst hq
  subst hi
  intro p e s m args below meth c H locs la S hr hk hn hW hH hS hL
  refine va_newaK (atype := .int) (N := N) S.1 S.2.1 (S.2.2.2.2 _ hl) rfl hd rfl (nI_pos (by omega)) (nI_clamp (by omega)) (by show N * 4 ≤ _; omega) hce hsl hH.1 fun H1 cA e1 z1 o1 hAr hNm => ?_
  have hcA : cA = E.2 0 := Option.some.inj (hNm.symm.trans (pj_ty hW (t := 0) rfl).2)
  subst hcA
  exact kk p e s m args below meth c H1 locs la S hr hk hn hW (hH.push hB e1 z1 o1) (pj_S_push hS hH.1 (by omega) o1) hL
theorem pj_newz {N : Nat} {i : Int32} (hl : Cond.arrayClass .boolean ∈ lw_tbl) (hd : decode Y.2.1 pc = .ok (.newarray .boolean, 2)) (hq : pc + 2 = q) (hi : i = nI N) (hN : N ≤ 100000) (hB : B ≤ n) (hce : ce + 1 ≤ mc) (hsl : sl + N ≤ ms) (kk : pj_V E B l Y d mc ms q ls (.ref n :: st) (pj_up h n (.inl (1, N, .inl (fun _ => 0)))) (n + 1) (ce + 1) (sl + N) Q) : pj_V E B l Y d mc ms pc ls (.int i :: st) h n ce sl Q := by
  subst hq
  subst hi
  intro p e s m args below meth c H locs la S hr hk hn hW hH hS hL
  refine va_newaK (atype := .boolean) (N := N) S.1 S.2.1 (S.2.2.2.2 _ hl) rfl hd rfl (nI_pos (by omega)) (nI_clamp (by omega)) (by show N * 1 ≤ _; omega) hce hsl hH.1 fun H1 cA e1 z1 o1 hAr hNm => ?_
  have hcA : cA = E.2 1 := Option.some.inj (hNm.symm.trans (pj_ty hW (t := 1) rfl).2)
  subst hcA
  exact kk p e s m args below meth c H1 locs la S hr hk hn hW (hH.push hB e1 z1 o1) (pj_S_push hS hH.1 (by omega) o1) hL
theorem pj_newr {t j N : Nat} {i : Int32} {C : String} (ht : (pj_tys E)[t]? = some (E.2 t, .object C)) (hl : Cond.classLink Y.1.cls j C ∈ lw_tbl) (ho : Cond.arrayOver (.object C) ∈ lw_tbl) (hd : decode Y.2.1 pc = .ok (.anewarray j, 3)) (hq : pc + 3 = q) (hi : i = nI N) (hN : N ≤ 100000) (hB : B ≤ n) (hce : ce + 1 ≤ mc) (hsl : sl + N ≤ ms) (kk : pj_V E B l Y d mc ms q ls (.ref n :: st) (pj_up h n (.inl (t, N, .inr (.inr (.inr (.inr (fun _ => none))))))) (n + 1) (ce + 1) (sl + N) Q) : pj_V E B l Y d mc ms pc ls (.int i :: st) h n ce sl Q := by
  subst hq
  subst hi
  intro p e s m args below meth c H locs la S hr hk hn hW hH hS hL
  have hcl : (nI N).toNatClampNeg = N := nI_clamp (by omega)
  refine W.anew S.1 S.2.1 S.2.2.2.1 (S.2.2.2.2 _ hl) (S.2.2.2.2 _ ho) rfl hd rfl (nI_pos (by omega)) (by rw [hcl]; omega) hce (by rw [hcl]; exact hsl) fun cA kA comp f1 f2 f3 f4 => ?_
  rw [hcl]
  generalize hH1 : H.push ({ cls := cA, slots := Array.replicate N .null, vm := .none } : Cell) = H1
  have z1 : H1.size = n + 1 := by rw [← hH1, Array.size_push, hH.1]
  have e1 : H1[n]? = some (arrV cA N (fun _ => .null)) := by rw [← hH1, ← hH.1, Array.getElem?_push_size, ← arrV_new]
  have o1 : ∀ q : Nat, q < n → H1[q]? = H[q]? := fun q hq => by rw [← hH1, Array.getElem?_push, if_neg (by rw [hH.1]; omega)]
  obtain ⟨kA', comp', g1, g2, g3, g4⟩ := (pj_ty hW ht).2
  have hcA : cA = E.2 t := Option.some.inj (f1.symm.trans g4)
  subst hcA
  rw [hH.1]
  exact kk p e s m args below meth c H1 locs la S hr hk hn hW (hH.push hB e1 z1 o1) (pj_S_push hS hH.1 (by omega) o1) hL
theorem pj_aast {t a N j v ci : Nat} {f : Nat → Option Nat} {vs : List Value} {i : Int32} {C : String} {r : vw_C} (ht : (pj_tys E)[t]? = some (E.2 t, .object C)) (hca : C = r.1 ∨ Cond.castable r.1 C ∈ lw_tbl) (hc : vwCl[ci]? = some r) (hd : decode Y.2.1 pc = .ok (.aastore, 1)) (hq : pc + 1 = q) (ha : h a = some (.inl (t, N, .inr (.inr (.inr (.inr f)))))) (hv : h v = some (.inr (ci, vs))) (hi : i = nI j) (hj : j < N) (hN : N ≤ 2147483647) (kk : pj_V E B l Y d mc ms q ls st (pj_up h a (.inl (t, N, .inr (.inr (.inr (.inr (va_up f j (some v)))))))) n ce sl Q) : pj_V E B l Y d mc ms pc ls (.ref v :: .int i :: .ref a :: st) h n ce sl Q := by
  subst hq
  subst hi
  intro p e s m args below meth c H locs la S hr hk hn hW hH hS hL
  have hin : vp_in (nI j) N := vp_in_nI hj (by omega)
  have hcl : (nI j).toNatClampNeg = j := nI_clamp (by omega)
  have hlt : (nI j).toNatClampNeg < N := by rw [hcl]; exact hj
  have h0 : ¬ nI j < 0 := fun q => hin (Or.inl q)
  obtain ⟨kA, comp, k1, k2, k3, -⟩ := (pj_ty hW ht).2
  obtain ⟨kE, hkE, -⟩ := Vm.findClass_spec k3
  obtain ⟨-, r', hr', cellV, g1, g2, g3, -⟩ := hH.2 v _ hv
  have hcls := (hW.1.1 ci r hc).2
  obtain ⟨kC, hkC, -⟩ := hcls.2
  have hasg : s.vm.assignable (E.1.1 ci) comp = true := by
    rcases hca with e0 | hca
    · subst e0
      have hcomp : comp = E.1.1 ci := Option.some.inj (k3.symm.trans hcls.1)
      rw [hcomp]
      exact va_assign hcls
    · exact pj_assign (S.2.2.2.2 _ hca) hcls.1 k3
  refine W.aast S.1 S.2.1 (hH.2 a _ ha).2 (fun q h => by cases h) (fun h => by cases h) k1 k2 rfl hkE ⟨h0, by show _ < (arrV _ _ _).slots.size; rw [arrV_size]; exact hlt⟩ g1 (fun q h => by rw [g3] at h; cases h) (by rw [g2]; exact hkC) (by rw [g2]; exact hasg) rfl rfl hd fun H1 e1 z1 oq => ?_
  rw [hcl] at e1
  refine kk p e s m args below meth c H1 _ la S hr hk hn hW (hH.up ha ?_ z1 oq) (pj_S_put hS z1 oq (hH.2 a _ ha).1) hL
  show H1[a]? = some (vp_cell _ _)
  rw [e1]
  show some ((vp_cell (E.2 t) (N, .inr (.inr (.inr (.inr f))))).setSlot j _) = _
  rw [vp_cell_q, vp_cell_q, arrV_store]
  congr 2
  funext z
  by_cases hz : z = j
  · subst hz; simp [updV, va_up, va_rf]
  · simp [updV, va_up, hz]
theorem pj_recv {p : Nat → Prop} {s : State} {H : Heap} {a ci : Nat} {fs : List Value} {r : vw_C} (hW : pj_WF E s) (hH : pj_HR E B h n H) (hc : vwCl[ci]? = some r) (ha : h a = some (.inr (ci, fs))) : ∃ cell : Cell, H[a]? = some cell ∧ cell.vm.isStatics = false ∧ s.vm.findClass r.1 = some cell.cls := by
  obtain ⟨-, r', h1, cell, g1, g2, g3, -⟩ := hH.2 a _ ha
  exact ⟨cell, g1, by rw [g3]; rfl, by rw [g2]; exact (hW.1.1 ci r hc).2.1⟩
theorem pj_instY {i a ci : Nat} {fs : List Value} {r : vw_C} {T : String} (hd : decode Y.2.1 pc = .ok (.instanceof i, 3)) (hq : pc + 3 = q) (hl : Cond.classLink Y.1.cls i T ∈ lw_tbl) (hc : vwCl[ci]? = some r) (ha : h a = some (.inr (ci, fs))) (hy : r.1 = T ∨ Cond.castable r.1 T ∈ lw_tbl) (kk : pj_V E B l Y d mc ms q ls (.int 1 :: st) h n ce sl Q) : pj_V E B l Y d mc ms pc ls (.ref a :: st) h n ce sl Q := by
  subst hq
  intro p e s m args below meth c H locs la S hr hk hn hW hH hS hL
  have hrec := pj_recv (p := fun _ => True) hW hH hc ha
  rcases hy with hy | hy
  · obtain ⟨cell, g1, g2, g3⟩ := hrec
    exact va_instS (cC := E.1.1 ci) S.1 S.2.1 S.2.2.2.1 (S.2.2.2.2 _ hl) (by rw [← hy]; exact (hW.1.1 ci r hc).2) ⟨cell, g1, g2, by rw [← hy]; exact g3⟩ hd (kk p e s m args below meth c H locs la S hr hk hn hW hH hS hL)
  · exact va_instY (C := r.1) S.1 S.2.1 S.2.2.2.1 (S.2.2.2.2 _ hl) (va_Nw.of rfl (S.2.2.2.2 _ hy)) hrec hd (kk p e s m args below meth c H locs la S hr hk hn hW hH hS hL)
theorem pj_instN {i a ci : Nat} {fs : List Value} {r : vw_C} {T : String} (hd : decode Y.2.1 pc = .ok (.instanceof i, 3)) (hq : pc + 3 = q) (hl : Cond.classLink Y.1.cls i T ∈ lw_tbl) (hc : vwCl[ci]? = some r) (ha : h a = some (.inr (ci, fs))) (hy : (r.1, T) ∈ pj_ncs) (kk : pj_V E B l Y d mc ms q ls (.int 0 :: st) h n ce sl Q) : pj_V E B l Y d mc ms pc ls (.ref a :: st) h n ce sl Q := by
  subst hq
  intro p e s m args below meth c H locs la S hr hk hn hW hH hS hL
  exact va_instNo (C := r.1) S.1 S.2.1 S.2.2.2.1 (S.2.2.2.2 _ hl) (hW.2 _ hy) (pj_recv (p := fun _ => True) hW hH hc ha) hd (kk p e s m args below meth c H locs la S hr hk hn hW hH hS hL)
/-! entry -/
def pj_la : List Value → List (Option Value)
  | [] => []
  | v :: l => if v.category = 2 then some v :: none :: pj_la l else some v :: pj_la l
theorem pj_la_sl : ∀ (vs : List Value), (pj_la vs).length = (lg_sl vs).length ∧ ∀ (i : Nat) (v : Value), (pj_la vs)[i]? = some (some v) → (lg_sl vs)[i]? = some (.val v)
  | [] => ⟨rfl, fun i v hh => by simp [pj_la] at hh⟩
  | u :: l => by
    obtain ⟨h1, h2⟩ := pj_la_sl l
    by_cases hu : u.category = 2
    · have e1 : pj_la (u :: l) = some u :: none :: pj_la l := by simp [pj_la, hu]
      have e2 : lg_sl (u :: l) = .val u :: .second :: lg_sl l := by simp [lg_sl, hu]
      rw [e1, e2]
      refine ⟨by simp [h1], fun i v hh => ?_⟩
      match i, hh with
      | 0, hh => simp at hh; simp [hh]
      | 1, hh => simp at hh
      | i + 2, hh => simp at hh ⊢; exact h2 i v hh
    · have e1 : pj_la (u :: l) = some u :: pj_la l := by simp [pj_la, hu]
      have e2 : lg_sl (u :: l) = .val u :: lg_sl l := by simp [lg_sl, hu]
      rw [e1, e2]
      refine ⟨by simp [h1], fun i v hh => ?_⟩
      match i, hh with
      | 0, hh => simp at hh; simp [hh]
      | i + 1, hh => simp at hh ⊢; exact h2 i v hh
theorem pj_in {av : List Value} (hy : plainName Y.1.cls = true) (hls : pj_la av ++ List.replicate (Y.2.2.1 - (pj_la av).length) none = ls) (hle : (pj_la av).length ≤ Y.2.2.1) (kk : pj_V E B l Y d mc ms 0 ls [] h n 0 0 Q) : pj_Ct E B l Y d mc ms av h n Q := by
  unfold pj_Ct
  refine Met.ofW (cc := Y.2.1) (maxL := Y.2.2.1) (ret := Y.2.2.2) hy rfl ?_
  intro p e s m args below meth c s₁ Bd hml hv
  obtain ⟨rfl, hW, hH⟩ := hv
  have hts := atoms_spec (ws := Cond.code Y.1 Y.2.1 Y.2.2.1 Y.2.2.2 :: lw_tbl) Bd.pre
  have hown : s.vm.findClass Y.1.cls = some m.cls := findClass_of_methodNamed Bd.named
  rw [lg_entry_eq]
  obtain ⟨g1, g2⟩ := pj_la_sl av
  have hl := lv_entry av (n := Y.2.2.1) (by rw [← g1]; exact hle)
  refine kk p e s m _ below meth c s.heap [] _ ⟨Bd.exec, Bd.bytes, hml, hown, fun w hw => hts w (List.mem_cons_of_mem _ hw)⟩ Bd.returns Bd.notSynchronized (name_of_methodNamed Bd.named Bd.method).1 hW hH va_S.rf ⟨⟨hl.1, hl.2.1, ?_⟩, ?_⟩
  · rintro ⟨j, v⟩ hj
    obtain ⟨k, e1, e2⟩ := (pj_as_mem ls 0 j v).mp hj
    have hjk : j = k := by omega
    subst hjk
    rw [← hls] at e2
    have hlt : j < (pj_la av).length := by
      rcases Nat.lt_or_ge j (pj_la av).length with q | q
      · exact q
      · rw [List.getElem?_append_right q] at e2
        have := List.mem_of_getElem? e2
        simp at this
    rw [List.getElem?_append_left hlt] at e2
    show ((lg_sl av ++ List.replicate _ Slot.unset).toArray)[j]? = _
    rw [List.getElem?_toArray, List.getElem?_append_left (by rw [← g1]; exact hlt)]
    exact g2 j v e2
  · rw [← hls, List.length_append, List.length_replicate]
    omega
end PJN
end
section
/-! ===== the pure layer: calls ===== -/
/-- what the tables say of a method: its code, that its class is initialised, how many parameters -/
def pj_ok (Y : pj_Y) (np : Nat) : Prop := Cond.code Y.1 Y.2.1 Y.2.2.1 Y.2.2.2 ∈ lw_tbl ∧ Cond.initialized Y.1.cls ∈ lw_tbl ∧ (Y.1.cls ≠ "java/lang/invoke/MethodHandle" ∧ Y.1.cls ≠ "java/lang/invoke/VarHandle") ∧ (parseMethodDescriptor Y.1.desc).map (fun d => d.parameters.length) = some np ∧ Y.2.2.1 ≤ 45
def pj_okV (Y : pj_Y) (np : Nat) : Prop := pj_ok Y np ∧ Cond.instanceMethod Y.1 ∈ lw_tbl ∧ Cond.selects Y.1.cls Y.1 Y.1 ∈ lw_tbl
def pj_okS (Y : pj_Y) (np : Nat) : Prop := pj_ok Y np ∧ Cond.static Y.1 ∈ lw_tbl
def pj_okI (Y : pj_Y) (np : Nat) : Prop := pj_ok Y np ∧ Y.1.name = "<init>" ∧ Cond.instanceMethod Y.1 ∈ lw_tbl ∧ Y.2.2.2 = none
/-- a call through the method x, declared by 'owner', of an object of the class C: Y is chosen -/
def pj_okU (own : String) (i : Nat) (C : String) (x : MethodName) (owner : String) (Y : pj_Y) (np : Nat) : Prop := pj_ok Y np ∧ Cond.methodLink own i x ∈ lw_tbl ∧ Cond.sameMethod x.cls owner x.name x.desc ∈ lw_tbl ∧ (Cond.declares ⟨owner, x.name, x.desc⟩ ∈ lw_tbl ∨ (Cond.instanceMethod ⟨owner, x.name, x.desc⟩ ∈ lw_tbl ∧ ∃ (b : ByteArray) (m : Nat) (r : Option FieldType), Cond.code ⟨owner, x.name, x.desc⟩ b m r ∈ lw_tbl)) ∧ Cond.selects C x Y.1 ∈ lw_tbl ∧ Cond.instanceMethod Y.1 ∈ lw_tbl ∧ (owner ≠ "java/lang/invoke/MethodHandle" ∧ owner ≠ "java/lang/invoke/VarHandle") ∧ (parseMethodDescriptor x.desc).map (fun d => d.parameters.length) = some np
/-- a call of the superclass's own -/
def pj_okX (own : String) (i : Nat) (Y : pj_Y) (np : Nat) : Prop := pj_ok Y np ∧ Cond.methodLink own i Y.1 ∈ lw_tbl ∧ Cond.sameMethod Y.1.cls Y.1.cls Y.1.name Y.1.desc ∈ lw_tbl ∧ Cond.superclass own Y.1.cls ∈ lw_tbl ∧ Cond.instanceMethod Y.1 ∈ lw_tbl ∧ Y.1.name ≠ "<init>"
theorem pj_np {ds : String} {np : Nat} (h : (parseMethodDescriptor ds).map (fun d => d.parameters.length) = some np) : ∀ sig, parseMethodDescriptor ds = some sig → np = sig.parameters.length := by
  intro sig hs
  rw [hs] at h
  exact (Option.some.inj h).symm
def pj_Run (E : pj_E) (B : Nat) (l : Launch) (Y : pj_Y) (d mc ms pc q : Nat) (st rest : List Value) (h : pj_H) (n mc' ms' : Nat) (P : Option Value → pj_H → Nat → Prop) : Prop :=
  ∀ (ls : List (Option Value)) (ce sl : Nat) (Q : Option Value → pj_H → Nat → Prop), ce + mc' ≤ mc → sl + ms' ≤ ms → (∀ r h' n', P r h' n' → pj_V E B l Y d mc ms q ls (r.toList ++ rest) h' n' (ce + mc') (sl + ms') Q) → pj_V E B l Y d mc ms pc ls st h n ce sl Q
theorem pj_go {p : Program} {l : Launch} {e : Env} {s : State} {m : MethodId} {args a : Array Value} {below : List Frame} {meth : Method} {c : Code} {H : Heap} {locs : List Loc} {la : Array Slot} {E : pj_E} {B : Nat} {Y : pj_Y} {d mc ms pc mc' ms' : Nat} {ls : List (Option Value)} {st rest : List Value} {ce sl : Nat} {Q P : Option Value → pj_H → Nat → Prop}
    (hrun : va_Run p l e (pj_rm d mc ms) s m args below meth c H locs ce sl mc' ms' (F0 m pc la st) rest (pj_Qc E B P a) (fun q => B ≤ q))
    (S : CallFix p m c Y.2.1 Y.2.2.1 s args lw_tbl Y.1.cls) (hr : meth.sig.returnType = Y.2.2.2) (hk : meth.locks = false) (hn : meth.name = Y.1.name) (hW : pj_WF E s) (hS : va_S (fun q => B ≤ q) s.heap H locs) (hL : pj_L la Y.2.2.1 ls)
    (kk : ∀ r h' n', P r h' n' → pj_V E B l Y d mc ms (pc + 3) ls (r.toList ++ rest) h' n' (ce + mc') (sl + ms') Q) : W p l e (pj_rm d mc ms) s m args below meth c H locs ce sl (MQ below (pj_Qc E B Q) args s mc ms (fun q => B ≤ q)) (F0 m pc la st) := by
  intro T hT X
  obtain ⟨v, st₀, t, T', L, h0, X', hLc, e1, e2, ⟨⟨r, h', n', hv, hP, hH'⟩, hz, hkp⟩, stp⟩ := hrun T hT X
  cases hv
  rw [h0] at hz hkp
  obtain ⟨t2, a1, b1⟩ := kk v h' n' hP p e s m args below meth c T'.heap (locs ++ L) la S hr hk hn hW (by rw [e1]; exact hH')
    ⟨Nat.le_trans hS.1 (by rw [e1]; exact hz), fun q h1 h2 => by rw [e1, hkp q (Nat.lt_of_lt_of_le h1 hS.1) h2]; exact hS.2.1 q h1 h2, fun q hq => by
      rcases List.mem_append.mp hq with h | h
      · exact hS.2.2 q h
      · exact hLc q h⟩ hL T' rfl X'
  exact ⟨t2, stp t2 a1, b1⟩
section PJK
variable {E : pj_E} {B : Nat} {l : Launch} {Y Y' : pj_Y} {d mc ms pc q : Nat} {st rest As : List Value} {h : pj_H} {n d' mc' ms' np : Nat} {P : Option Value → pj_H → Nat → Prop}
theorem pj_cb {s : State} {args : Array Value} (hts : ∀ w ∈ lw_tbl, w.before args s = true) (ho : pj_ok Y' np) (hdd : d' < d) : ((pj_rm d' mc' ms').cells = mc' ∧ (pj_rm d' mc' ms').slots = ms' ∧ (pj_rm d' mc' ms').frames + 1 ≤ (pj_rm d mc ms).frames ∧ 8 + (Y'.2.2.1 + 11) + (pj_rm d' mc' ms').locals ≤ (pj_rm d mc ms).locals ∧ (∀ w ∈ (Cond.code Y'.1 Y'.2.1 Y'.2.2.1 Y'.2.2.2 :: lw_tbl), ∀ (a' : Array Value) (U : State), s.WarmedH U.vm → w.before a' U = true) ∧ Cond.code Y'.1 Y'.2.1 Y'.2.2.1 Y'.2.2.2 ∈ (Cond.code Y'.1 Y'.2.1 Y'.2.2.1 Y'.2.2.2 :: lw_tbl)) := by
  refine ⟨rfl, rfl, by show d' + 1 ≤ d; omega, ?_, pj_words hts ho.1, List.mem_cons_self⟩
  show 8 + (Y'.2.2.1 + 11) + 64 * d' ≤ 64 * d
  have := ho.2.2.2.2
  omega
theorem pj_rV {i b ci : Nat} {fs : List Value} {r : vw_C} (hC : pj_Ct E B l Y' d' mc' ms' (.ref b :: As) h n P) (hd : decode Y.2.1 pc = .ok (.invokevirtual i, 3)) (hq : pc + 3 = q) (hl : Cond.methodLink Y.1.cls i Y'.1 ∈ lw_tbl) (ho : pj_okV Y' np) (hb : h b = some (.inr (ci, fs))) (hc : vwCl[ci]? = some r) (hrc : r.1 = Y'.1.cls) (hst : st = As.reverse ++ .ref b :: rest) (hn : As.length = np) (hw : (rest.map fun v => v.category).sum ≤ 8) (hdd : d' < d) : pj_Run E B l Y d mc ms pc q st rest h n mc' ms' P := by
  subst hq
  intro ls ce sl Q hce hsl kk p e s m args below meth c H locs la S hr hk hnm hW hH hS hL
  obtain ⟨o1, o2, o3⟩ := ho
  obtain ⟨g1, g2, g3, g4, g5, g6⟩ := pj_cb (mc := mc) (ms := ms) (mc' := mc') (ms' := ms') S.2.2.2.2 o1 hdd
  refine pj_go (va_runV (C := r.1) (b := b) (As := As) (rest := rest) S hC ⟨⟨g1, g2, g3, g4, g5, g6, S.2.2.2.2 _ o1.1, S.2.2.2.2 _ o1.2.1, o1.2.2.1, pj_np o1.2.2.2.1, S.2.2.2.2 _ hl⟩, S.2.2.2.2 _ o2, by rw [hrc]; exact S.2.2.2.2 _ o3⟩ ⟨pj_Pc_blind E B _ h n, pj_recv (p := fun _ => True) hW hH hc hb, fun U hU hWm => ⟨rfl, hW.moved hWm.alike, by rw [hU]; exact hH⟩⟩ rfl hn hL.1.1 hst (lv_room hw) hd ⟨hce, hsl⟩) S hr hk hnm hW hS hL kk
theorem pj_rS {i : Nat} (hC : pj_Ct E B l Y' d' mc' ms' As h n P) (hd : decode Y.2.1 pc = .ok (.invokestatic i, 3)) (hq : pc + 3 = q) (hl : Cond.methodLink Y.1.cls i Y'.1 ∈ lw_tbl) (ho : pj_okS Y' np) (hst : st = As.reverse ++ rest) (hn : As.length = np) (hw : (rest.map fun v => v.category).sum ≤ 8) (hdd : d' < d) : pj_Run E B l Y d mc ms pc q st rest h n mc' ms' P := by
  subst hq
  intro ls ce sl Q hce hsl kk p e s m args below meth c H locs la S hr hk hnm hW hH hS hL
  obtain ⟨o1, o2⟩ := ho
  obtain ⟨g1, g2, g3, g4, g5, g6⟩ := pj_cb (mc := mc) (ms := ms) (mc' := mc') (ms' := ms') S.2.2.2.2 o1 hdd
  refine pj_go (va_runS (As := As) (rest := rest) S hC ⟨⟨g1, g2, g3, g4, g5, g6, S.2.2.2.2 _ o1.1, S.2.2.2.2 _ o1.2.1, o1.2.2.1, pj_np o1.2.2.2.1, S.2.2.2.2 _ hl⟩, S.2.2.2.2 _ o2⟩ ⟨pj_Pc_blind E B _ h n, fun U hU hWm => ⟨rfl, hW.moved hWm.alike, by rw [hU]; exact hH⟩⟩ rfl hn hL.1.1 hst (lv_room hw) hd ⟨hce, hsl⟩) S hr hk hnm hW hS hL kk
theorem pj_rI {i b : Nat} (hC : pj_Ct E B l Y' d' mc' ms' (.ref b :: As) h n P) (hd : decode Y.2.1 pc = .ok (.invokespecial i, 3)) (hq : pc + 3 = q) (hl : Cond.methodLink Y.1.cls i Y'.1 ∈ lw_tbl) (ho : pj_okI Y' np) (hst : st = As.reverse ++ .ref b :: rest) (hn : As.length = np) (hw : (rest.map fun v => v.category).sum ≤ 8) (hdd : d' < d) : pj_Run E B l Y d mc ms pc q st rest h n mc' ms' P := by
  subst hq
  intro ls ce sl Q hce hsl kk p e s m args below meth c H locs la S hr hk hnm hW hH hS hL
  obtain ⟨o1, o2, o3, o4⟩ := ho
  obtain ⟨g1, g2, g3, g4, g5, g6⟩ := pj_cb (mc := mc) (ms := ms) (mc' := mc') (ms' := ms') S.2.2.2.2 o1 hdd
  refine pj_go (va_runI (b := b) (As := As) (rest := rest) (bytes := Y'.2.1) (maxL := Y'.2.2.1) S hC ⟨⟨g1, g2, g3, g4, g5, by rw [← o4]; exact g6, by rw [← o4]; exact S.2.2.2.2 _ o1.1, S.2.2.2.2 _ o1.2.1, o1.2.2.1, pj_np o1.2.2.2.1, S.2.2.2.2 _ hl⟩, o2, S.2.2.2.2 _ o3⟩ ⟨pj_Pc_blind E B _ h n, fun U hU hWm => ⟨rfl, hW.moved hWm.alike, by rw [hU]; exact hH⟩⟩ rfl hn hL.1.1 hst (lv_room hw) hd ⟨hce, hsl⟩) S hr hk hnm hW hS hL kk
theorem pj_rIN {i b : Nat} {host : String} (hC : pj_Ct E B l Y' d' mc' ms' (.ref b :: As) h n P) (hd : decode Y.2.1 pc = .ok (.invokespecial i, 3)) (hq : pc + 3 = q) (hl : Cond.methodLinkNest Y.1.cls i Y'.1 host ∈ lw_tbl) (ho : pj_okI Y' np) (hst : st = As.reverse ++ .ref b :: rest) (hn : As.length = np) (hw : (rest.map fun v => v.category).sum ≤ 8) (hdd : d' < d) : pj_Run E B l Y d mc ms pc q st rest h n mc' ms' P := by
  subst hq
  intro ls ce sl Q hce hsl kk p e s m args below meth c H locs la S hr hk hnm hW hH hS hL
  obtain ⟨o1, o2, o3, o4⟩ := ho
  obtain ⟨g1, g2, g3, g4, g5, g6⟩ := pj_cb (mc := mc) (ms := ms) (mc' := mc') (ms' := ms') S.2.2.2.2 o1 hdd
  refine pj_go (va_runIN (host := host) (b := b) (As := As) (rest := rest) (bytes := Y'.2.1) (maxL := Y'.2.2.1) S hC ⟨⟨⟨g1, g2, g3, g4, g5, by rw [← o4]; exact g6⟩, by rw [← o4]; exact S.2.2.2.2 _ o1.1, S.2.2.2.2 _ o1.2.1, o1.2.2.1, pj_np o1.2.2.2.1, S.2.2.2.2 _ hl⟩, o2, S.2.2.2.2 _ o3⟩ ⟨pj_Pc_blind E B _ h n, fun U hU hWm => ⟨rfl, hW.moved hWm.alike, by rw [hU]; exact hH⟩⟩ rfl hn hL.1.1 hst (lv_room hw) hd ⟨hce, hsl⟩) S hr hk hnm hW hS hL kk
theorem pj_rU {i b ci : Nat} {fs : List Value} {r : vw_C} {x : MethodName} {owner : String} (hC : pj_Ct E B l Y' d' mc' ms' (.ref b :: As) h n P) (hd : decode Y.2.1 pc = .ok (.invokevirtual i, 3)) (hq : pc + 3 = q) (ho : pj_okU Y.1.cls i r.1 x owner Y' np) (hb : h b = some (.inr (ci, fs))) (hc : vwCl[ci]? = some r) (hst : st = As.reverse ++ .ref b :: rest) (hn : As.length = np) (hw : (rest.map fun v => v.category).sum ≤ 8) (hdd : d' < d) : pj_Run E B l Y d mc ms pc q st rest h n mc' ms' P := by
  subst hq
  intro ls ce sl Q hce hsl kk p e s m args below meth c H locs la S hr hk hnm hW hH hS hL
  obtain ⟨o1, o2, o3, o4, o5, o6, o7, o8⟩ := ho
  have hdecl : va_Decl s ⟨owner, x.name, x.desc⟩ := by
    rcases o4 with o4 | ⟨o4, b0, m0, r0, o9⟩
    · exact va_Decl.abs (va_Nw.of rfl (S.2.2.2.2 _ o4))
    · exact va_Decl.of (S.2.2.2.2 _ o4) (S.2.2.2.2 _ o9)
  refine pj_go (va_runU (C := r.1) (b := b) (As := As) (rest := rest) S hC ⟨pj_cb (mc := mc) (ms := ms) (mc' := mc') (ms' := ms') S.2.2.2.2 o1 hdd, S.2.2.2.2 _ o1.1, S.2.2.2.2 _ o1.2.1, o7, pj_np o8, S.2.2.2.2 _ o2, S.2.2.2.2 _ o3, hdecl, S.2.2.2.2 _ o5, S.2.2.2.2 _ o6⟩ ⟨pj_Pc_blind E B _ h n, pj_recv (p := fun _ => True) hW hH hc hb, fun U hU hWm => ⟨rfl, hW.moved hWm.alike, by rw [hU]; exact hH⟩⟩ rfl hn hL.1.1 hst (lv_room hw) hd ⟨hce, hsl⟩) S hr hk hnm hW hS hL kk
theorem pj_rX {i b ci : Nat} {fs : List Value} {r : vw_C} (hC : pj_Ct E B l Y' d' mc' ms' (.ref b :: As) h n P) (hd : decode Y.2.1 pc = .ok (.invokespecial i, 3)) (hq : pc + 3 = q) (ho : pj_okX Y.1.cls i Y' np) (hb : h b = some (.inr (ci, fs))) (hc : vwCl[ci]? = some r) (hst : st = As.reverse ++ .ref b :: rest) (hn : As.length = np) (hw : (rest.map fun v => v.category).sum ≤ 8) (hdd : d' < d) : pj_Run E B l Y d mc ms pc q st rest h n mc' ms' P := by
  subst hq
  intro ls ce sl Q hce hsl kk p e s m args below meth c H locs la S hr hk hnm hW hH hS hL
  obtain ⟨o1, o2, o3, o4, o5, o6⟩ := ho
  refine pj_go (va_runSU (C := r.1) (cC := E.1.1 ci) (b := b) (As := As) (rest := rest) (hW.1.1 ci r hc).2 S hC ⟨pj_cb (mc := mc) (ms := ms) (mc' := mc') (ms' := ms') S.2.2.2.2 o1 hdd, S.2.2.2.2 _ o2, S.2.2.2.2 _ o3, S.2.2.2.2 _ o4, S.2.2.2.2 _ o5, S.2.2.2.2 _ o1.2.1, S.2.2.2.2 _ o1.1, o6, pj_np o1.2.2.2.1⟩ ⟨pj_Pc_blind E B _ h n, pj_recv (p := fun _ => True) hW hH hc hb, fun U hU hWm => ⟨rfl, hW.moved hWm.alike, by rw [hU]; exact hH⟩⟩ rfl hn hL.1.1 hst (lv_room hw) hd ⟨hce, hsl⟩) S hr hk hnm hW hS hL kk
/-- an answer, and nothing changes -/
def pj_is (v : Option Value) (h : pj_H) (n : Nat) : Option Value → pj_H → Nat → Prop := fun r h' n' => r = v ∧ h' = h ∧ n' = n
variable {ls : List (Option Value)} {ce sl : Nat} {Q : Option Value → pj_H → Nat → Prop}
theorem pj_cp {v : Value} (hr : pj_Run E B l Y d mc ms pc q st rest h n 0 0 (pj_is (some v) h n)) (hce : ce ≤ mc) (hsl : sl ≤ ms) (kk : pj_V E B l Y d mc ms q ls (v :: rest) h n ce sl Q) : pj_V E B l Y d mc ms pc ls st h n ce sl Q := hr ls ce sl Q hce hsl (fun r h' n' hp => by
  obtain ⟨rfl, rfl, rfl⟩ := hp
  exact kk)
theorem pj_cv (hr : pj_Run E B l Y d mc ms pc q st rest h n mc' ms' P) (hce : ce + mc' ≤ mc) (hsl : sl + ms' ≤ ms) (kk : ∀ r h' n', P r h' n' → pj_V E B l Y d mc ms q ls (r.toList ++ rest) h' n' (ce + mc') (sl + ms') Q) : pj_V E B l Y d mc ms pc ls st h n ce sl Q := hr ls ce sl Q hce hsl kk
/-- Object's constructor -/
theorem pj_objinit {i a : Nat} (hd : decode Y.2.1 pc = .ok (.invokespecial i, 3)) (hq : pc + 3 = q) (hl : Cond.methodLink Y.1.cls i objectInit ∈ lw_tbl) (h1 : Cond.instanceMethod objectInit ∈ lw_tbl) (h2 : Cond.code objectInit ⟨#[0xb1]⟩ 1 none ∈ lw_tbl) (hdd : 0 < d) (hw : (rest.map fun v => v.category).sum ≤ 8) (kk : pj_V E B l Y d mc ms q ls rest h n ce sl Q) : pj_V E B l Y d mc ms pc ls (.ref a :: rest) h n ce sl Q := by
  subst hq
  intro p e s m args below meth c H locs la S hr hk hnm hW hH hS hL
  have := lv_room (m := m) (pc := pc) (ls := la) (rest := .ref a :: rest) hw
  exact W.objInit S.1 S.2.1 S.2.2.2.1 (S.2.2.2.2 _ hl) (S.2.2.2.2 _ h1) (S.2.2.2.2 _ h2) rfl (hL.1.1.trans S.2.2.1.symm) rfl hd (by show 1 ≤ d; omega) (by show _ ≤ 64 * d; omega) (kk p e s m args below meth c H locs la S hr hk hnm hW hH hS hL)
end PJK
end
