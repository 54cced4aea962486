section
-- ===== PART A: goes FIRST, ahead of the names: the tables' words, and 'selects' of the private methods out of them =====
/-- a private method of a class that the tables say can be made, by its rows of tables_1 -/
def lw_okq (q : MethodName × Nat) : Prop := (q.1.cls ≠ "java/lang/invoke/MethodHandle" ∧ q.1.cls ≠ "java/lang/invoke/VarHandle") ∧ Cond.instantiable q.1.cls q.2 ∈ tables_1 ∧ Cond.privateMethod q.1 ∈ tables_1 ∧ Cond.instanceMethod q.1 ∈ tables_1
theorem lw_p0 : lw_okq (⟨"GreyDays", "finds", "(I)Z"⟩, 8) := ⟨⟨by decide +kernel, by decide +kernel⟩, List.mem_of_getElem? (i := 18) (by decide +kernel), List.mem_of_getElem? (i := 137) (by decide +kernel), List.mem_of_getElem? (i := 138) (by decide +kernel)⟩
theorem lw_p1 : lw_okq (⟨"GreyDays", "finding", "()I"⟩, 8) := ⟨⟨by decide +kernel, by decide +kernel⟩, List.mem_of_getElem? (i := 18) (by decide +kernel), List.mem_of_getElem? (i := 141) (by decide +kernel), List.mem_of_getElem? (i := 142) (by decide +kernel)⟩
theorem lw_p2 : lw_okq (⟨"GreyDays", "findingOfPlaces", "(III)I"⟩, 8) := ⟨⟨by decide +kernel, by decide +kernel⟩, List.mem_of_getElem? (i := 18) (by decide +kernel), List.mem_of_getElem? (i := 155) (by decide +kernel), List.mem_of_getElem? (i := 156) (by decide +kernel)⟩
theorem lw_p3 : lw_okq (⟨"GreyDays", "findingOfMove", "(IIIII)I"⟩, 8) := ⟨⟨by decide +kernel, by decide +kernel⟩, List.mem_of_getElem? (i := 18) (by decide +kernel), List.mem_of_getElem? (i := 180) (by decide +kernel), List.mem_of_getElem? (i := 181) (by decide +kernel)⟩
theorem lw_p4 : lw_okq (⟨"GreyDays$Tape", "readLaw", "(LGreyDays$Town;)V"⟩, 5) := ⟨⟨by decide +kernel, by decide +kernel⟩, List.mem_of_getElem? (i := 48) (by decide +kernel), List.mem_of_getElem? (i := 269) (by decide +kernel), List.mem_of_getElem? (i := 270) (by decide +kernel)⟩
theorem lw_p5 : lw_okq (⟨"GreyDays$Tape", "takeByte", "(I)V"⟩, 5) := ⟨⟨by decide +kernel, by decide +kernel⟩, List.mem_of_getElem? (i := 48) (by decide +kernel), List.mem_of_getElem? (i := 273) (by decide +kernel), List.mem_of_getElem? (i := 274) (by decide +kernel)⟩
theorem lw_p6 : lw_okq (⟨"GreyDays$Tape", "isSound", "()Z"⟩, 5) := ⟨⟨by decide +kernel, by decide +kernel⟩, List.mem_of_getElem? (i := 48) (by decide +kernel), List.mem_of_getElem? (i := 277) (by decide +kernel), List.mem_of_getElem? (i := 278) (by decide +kernel)⟩
theorem lw_p7 : lw_okq (⟨"GreyDays$Tape", "byteHere", "()I"⟩, 5) := ⟨⟨by decide +kernel, by decide +kernel⟩, List.mem_of_getElem? (i := 48) (by decide +kernel), List.mem_of_getElem? (i := 281) (by decide +kernel), List.mem_of_getElem? (i := 282) (by decide +kernel)⟩
theorem lw_p8 : lw_okq (⟨"GreyDays$Tape", "faultAt", "(II)V"⟩, 5) := ⟨⟨by decide +kernel, by decide +kernel⟩, List.mem_of_getElem? (i := 48) (by decide +kernel), List.mem_of_getElem? (i := 285) (by decide +kernel), List.mem_of_getElem? (i := 286) (by decide +kernel)⟩
theorem lw_p9 : lw_okq (⟨"GreyDays$Tape", "takeNumber", "(II)I"⟩, 5) := ⟨⟨by decide +kernel, by decide +kernel⟩, List.mem_of_getElem? (i := 48) (by decide +kernel), List.mem_of_getElem? (i := 289) (by decide +kernel), List.mem_of_getElem? (i := 290) (by decide +kernel)⟩
theorem lw_p10 : lw_okq (⟨"GreyDays$Tape", "figuresHere", "()I"⟩, 5) := ⟨⟨by decide +kernel, by decide +kernel⟩, List.mem_of_getElem? (i := 48) (by decide +kernel), List.mem_of_getElem? (i := 293) (by decide +kernel), List.mem_of_getElem? (i := 294) (by decide +kernel)⟩
theorem lw_p11 : lw_okq (⟨"GreyDays$Tape", "readThings", "(LGreyDays$Town;)V"⟩, 5) := ⟨⟨by decide +kernel, by decide +kernel⟩, List.mem_of_getElem? (i := 48) (by decide +kernel), List.mem_of_getElem? (i := 301) (by decide +kernel), List.mem_of_getElem? (i := 302) (by decide +kernel)⟩
theorem lw_p12 : lw_okq (⟨"GreyDays$Tape", "readThing", "(LGreyDays$Town;I)V"⟩, 5) := ⟨⟨by decide +kernel, by decide +kernel⟩, List.mem_of_getElem? (i := 48) (by decide +kernel), List.mem_of_getElem? (i := 308) (by decide +kernel), List.mem_of_getElem? (i := 309) (by decide +kernel)⟩
theorem lw_p13 : lw_okq (⟨"GreyDays$Tape", "readPairs", "(LGreyDays$Town;)V"⟩, 5) := ⟨⟨by decide +kernel, by decide +kernel⟩, List.mem_of_getElem? (i := 48) (by decide +kernel), List.mem_of_getElem? (i := 378) (by decide +kernel), List.mem_of_getElem? (i := 379) (by decide +kernel)⟩
theorem lw_p14 : lw_okq (⟨"GreyDays$Tape", "readPair", "(LGreyDays$Town;)V"⟩, 5) := ⟨⟨by decide +kernel, by decide +kernel⟩, List.mem_of_getElem? (i := 48) (by decide +kernel), List.mem_of_getElem? (i := 382) (by decide +kernel), List.mem_of_getElem? (i := 383) (by decide +kernel)⟩
theorem lw_p15 : lw_okq (⟨"GreyDays$Town", "isOfPair", "(II)Z"⟩, 12) := ⟨⟨by decide +kernel, by decide +kernel⟩, List.mem_of_getElem? (i := 224) (by decide +kernel), List.mem_of_getElem? (i := 394) (by decide +kernel), List.mem_of_getElem? (i := 395) (by decide +kernel)⟩
def lw_privs_1 : List (MethodName × Nat) := [(⟨"GreyDays", "finds", "(I)Z"⟩, 8), (⟨"GreyDays", "finding", "()I"⟩, 8), (⟨"GreyDays", "findingOfPlaces", "(III)I"⟩, 8), (⟨"GreyDays", "findingOfMove", "(IIIII)I"⟩, 8), (⟨"GreyDays$Tape", "readLaw", "(LGreyDays$Town;)V"⟩, 5), (⟨"GreyDays$Tape", "takeByte", "(I)V"⟩, 5), (⟨"GreyDays$Tape", "isSound", "()Z"⟩, 5), (⟨"GreyDays$Tape", "byteHere", "()I"⟩, 5), (⟨"GreyDays$Tape", "faultAt", "(II)V"⟩, 5), (⟨"GreyDays$Tape", "takeNumber", "(II)I"⟩, 5), (⟨"GreyDays$Tape", "figuresHere", "()I"⟩, 5), (⟨"GreyDays$Tape", "readThings", "(LGreyDays$Town;)V"⟩, 5), (⟨"GreyDays$Tape", "readThing", "(LGreyDays$Town;I)V"⟩, 5), (⟨"GreyDays$Tape", "readPairs", "(LGreyDays$Town;)V"⟩, 5), (⟨"GreyDays$Tape", "readPair", "(LGreyDays$Town;)V"⟩, 5), (⟨"GreyDays$Town", "isOfPair", "(II)Z"⟩, 12)]
theorem lw_r1 : ∀ q ∈ lw_privs_1, lw_okq q := List.forall_mem_cons.mpr ⟨lw_p0, List.forall_mem_cons.mpr ⟨lw_p1, List.forall_mem_cons.mpr ⟨lw_p2, List.forall_mem_cons.mpr ⟨lw_p3, List.forall_mem_cons.mpr ⟨lw_p4, List.forall_mem_cons.mpr ⟨lw_p5, List.forall_mem_cons.mpr ⟨lw_p6, List.forall_mem_cons.mpr ⟨lw_p7, List.forall_mem_cons.mpr ⟨lw_p8, List.forall_mem_cons.mpr ⟨lw_p9, List.forall_mem_cons.mpr ⟨lw_p10, List.forall_mem_cons.mpr ⟨lw_p11, List.forall_mem_cons.mpr ⟨lw_p12, List.forall_mem_cons.mpr ⟨lw_p13, List.forall_mem_cons.mpr ⟨lw_p14, List.forall_mem_cons.mpr ⟨lw_p15, fun _ h => absurd h List.not_mem_nil⟩⟩⟩⟩⟩⟩⟩⟩⟩⟩⟩⟩⟩⟩⟩⟩
theorem lw_p16 : lw_okq (⟨"GreyDays$Town", "keepAct", "(III)V"⟩, 12) := ⟨⟨by decide +kernel, by decide +kernel⟩, List.mem_of_getElem? (i := 224) (by decide +kernel), List.mem_of_getElem? (i := 455) (by decide +kernel), List.mem_of_getElem? (i := 456) (by decide +kernel)⟩
theorem lw_p17 : lw_okq (⟨"GreyDays$Town", "forgetOldestAct", "()V"⟩, 12) := ⟨⟨by decide +kernel, by decide +kernel⟩, List.mem_of_getElem? (i := 224) (by decide +kernel), List.mem_of_getElem? (i := 459) (by decide +kernel), List.mem_of_getElem? (i := 460) (by decide +kernel)⟩
theorem lw_p18 : lw_okq (⟨"GreyDays", "isThing", "(I)Z"⟩, 8) := ⟨⟨by decide +kernel, by decide +kernel⟩, List.mem_of_getElem? (i := 18) (by decide +kernel), List.mem_of_getElem? (i := 468) (by decide +kernel), List.mem_of_getElem? (i := 469) (by decide +kernel)⟩
theorem lw_p19 : lw_okq (⟨"GreyDays", "areTwo", "(II)Z"⟩, 8) := ⟨⟨by decide +kernel, by decide +kernel⟩, List.mem_of_getElem? (i := 18) (by decide +kernel), List.mem_of_getElem? (i := 587) (by decide +kernel), List.mem_of_getElem? (i := 588) (by decide +kernel)⟩
theorem lw_p20 : lw_okq (⟨"GreyDays$Foretold", "lookAt", "(LGreyDays$Town;I)V"⟩, 3) := ⟨⟨by decide +kernel, by decide +kernel⟩, List.mem_of_getElem? (i := 70) (by decide +kernel), List.mem_of_getElem? (i := 617) (by decide +kernel), List.mem_of_getElem? (i := 618) (by decide +kernel)⟩
theorem lw_p21 : lw_okq (⟨"GreyDays$Foretold", "fillDyes", "(LGreyDays$Town;II)Z"⟩, 3) := ⟨⟨by decide +kernel, by decide +kernel⟩, List.mem_of_getElem? (i := 70) (by decide +kernel), List.mem_of_getElem? (i := 702) (by decide +kernel), List.mem_of_getElem? (i := 703) (by decide +kernel)⟩
theorem lw_p22 : lw_okq (⟨"GreyDays$Foretold", "isApartFromRow", "(LGreyDays$Town;II)Z"⟩, 3) := ⟨⟨by decide +kernel, by decide +kernel⟩, List.mem_of_getElem? (i := 70) (by decide +kernel), List.mem_of_getElem? (i := 706) (by decide +kernel), List.mem_of_getElem? (i := 707) (by decide +kernel)⟩
theorem lw_p23 : lw_okq (⟨"GreyDays$Foretold", "countEndings", "(LGreyDays$Town;I)V"⟩, 3) := ⟨⟨by decide +kernel, by decide +kernel⟩, List.mem_of_getElem? (i := 70) (by decide +kernel), List.mem_of_getElem? (i := 744) (by decide +kernel), List.mem_of_getElem? (i := 745) (by decide +kernel)⟩
theorem lw_p24 : lw_okq (⟨"GreyDays$Foretold", "waysOn", "(LGreyDays$Town;II)I"⟩, 3) := ⟨⟨by decide +kernel, by decide +kernel⟩, List.mem_of_getElem? (i := 70) (by decide +kernel), List.mem_of_getElem? (i := 751) (by decide +kernel), List.mem_of_getElem? (i := 752) (by decide +kernel)⟩
theorem lw_p25 : lw_okq (⟨"GreyDays$Foretold", "canFollow", "(III)Z"⟩, 3) := ⟨⟨by decide +kernel, by decide +kernel⟩, List.mem_of_getElem? (i := 70) (by decide +kernel), List.mem_of_getElem? (i := 755) (by decide +kernel), List.mem_of_getElem? (i := 756) (by decide +kernel)⟩
theorem lw_p26 : lw_okq (⟨"GreyDays$Foretold", "nextOnShelf", "(LGreyDays$Town;II)I"⟩, 3) := ⟨⟨by decide +kernel, by decide +kernel⟩, List.mem_of_getElem? (i := 70) (by decide +kernel), List.mem_of_getElem? (i := 763) (by decide +kernel), List.mem_of_getElem? (i := 764) (by decide +kernel)⟩
theorem lw_p27 : lw_okq (⟨"GreyDays$Foretold", "countTold", "(LGreyDays$Town;ZZ)I"⟩, 3) := ⟨⟨by decide +kernel, by decide +kernel⟩, List.mem_of_getElem? (i := 70) (by decide +kernel), List.mem_of_getElem? (i := 802) (by decide +kernel), List.mem_of_getElem? (i := 803) (by decide +kernel)⟩
theorem lw_p28 : lw_okq (⟨"GreyDays$Foretold", "isTold", "(LGreyDays$Town;IZZ)Z"⟩, 3) := ⟨⟨by decide +kernel, by decide +kernel⟩, List.mem_of_getElem? (i := 70) (by decide +kernel), List.mem_of_getElem? (i := 806) (by decide +kernel), List.mem_of_getElem? (i := 807) (by decide +kernel)⟩
theorem lw_p29 : lw_okq (⟨"GreyDays", "countOfTown", "(I)I"⟩, 8) := ⟨⟨by decide +kernel, by decide +kernel⟩, List.mem_of_getElem? (i := 18) (by decide +kernel), List.mem_of_getElem? (i := 980) (by decide +kernel), List.mem_of_getElem? (i := 981) (by decide +kernel)⟩
theorem lw_p30 : lw_okq (⟨"GreyDaysModel", "finding", "(I)I"⟩, 24) := ⟨⟨by decide +kernel, by decide +kernel⟩, List.mem_of_getElem? (i := 992) (by decide +kernel), List.mem_of_getElem? (i := 1085) (by decide +kernel), List.mem_of_getElem? (i := 1086) (by decide +kernel)⟩
theorem lw_p31 : lw_okq (⟨"GreyDaysModel", "begin", "()V"⟩, 24) := ⟨⟨by decide +kernel, by decide +kernel⟩, List.mem_of_getElem? (i := 992) (by decide +kernel), List.mem_of_getElem? (i := 1116) (by decide +kernel), List.mem_of_getElem? (i := 1117) (by decide +kernel)⟩
def lw_privs_2 : List (MethodName × Nat) := [(⟨"GreyDays$Town", "keepAct", "(III)V"⟩, 12), (⟨"GreyDays$Town", "forgetOldestAct", "()V"⟩, 12), (⟨"GreyDays", "isThing", "(I)Z"⟩, 8), (⟨"GreyDays", "areTwo", "(II)Z"⟩, 8), (⟨"GreyDays$Foretold", "lookAt", "(LGreyDays$Town;I)V"⟩, 3), (⟨"GreyDays$Foretold", "fillDyes", "(LGreyDays$Town;II)Z"⟩, 3), (⟨"GreyDays$Foretold", "isApartFromRow", "(LGreyDays$Town;II)Z"⟩, 3), (⟨"GreyDays$Foretold", "countEndings", "(LGreyDays$Town;I)V"⟩, 3), (⟨"GreyDays$Foretold", "waysOn", "(LGreyDays$Town;II)I"⟩, 3), (⟨"GreyDays$Foretold", "canFollow", "(III)Z"⟩, 3), (⟨"GreyDays$Foretold", "nextOnShelf", "(LGreyDays$Town;II)I"⟩, 3), (⟨"GreyDays$Foretold", "countTold", "(LGreyDays$Town;ZZ)I"⟩, 3), (⟨"GreyDays$Foretold", "isTold", "(LGreyDays$Town;IZZ)Z"⟩, 3), (⟨"GreyDays", "countOfTown", "(I)I"⟩, 8), (⟨"GreyDaysModel", "finding", "(I)I"⟩, 24), (⟨"GreyDaysModel", "begin", "()V"⟩, 24)]
theorem lw_r2 : ∀ q ∈ lw_privs_2, lw_okq q := List.forall_mem_cons.mpr ⟨lw_p16, List.forall_mem_cons.mpr ⟨lw_p17, List.forall_mem_cons.mpr ⟨lw_p18, List.forall_mem_cons.mpr ⟨lw_p19, List.forall_mem_cons.mpr ⟨lw_p20, List.forall_mem_cons.mpr ⟨lw_p21, List.forall_mem_cons.mpr ⟨lw_p22, List.forall_mem_cons.mpr ⟨lw_p23, List.forall_mem_cons.mpr ⟨lw_p24, List.forall_mem_cons.mpr ⟨lw_p25, List.forall_mem_cons.mpr ⟨lw_p26, List.forall_mem_cons.mpr ⟨lw_p27, List.forall_mem_cons.mpr ⟨lw_p28, List.forall_mem_cons.mpr ⟨lw_p29, List.forall_mem_cons.mpr ⟨lw_p30, List.forall_mem_cons.mpr ⟨lw_p31, fun _ h => absurd h List.not_mem_nil⟩⟩⟩⟩⟩⟩⟩⟩⟩⟩⟩⟩⟩⟩⟩⟩
theorem lw_p32 : lw_okq (⟨"GreyDaysModel", "nextToken", "()V"⟩, 24) := ⟨⟨by decide +kernel, by decide +kernel⟩, List.mem_of_getElem? (i := 992) (by decide +kernel), List.mem_of_getElem? (i := 1120) (by decide +kernel), List.mem_of_getElem? (i := 1121) (by decide +kernel)⟩
theorem lw_p33 : lw_okq (⟨"GreyDaysModel", "isLetter", "(I)Z"⟩, 24) := ⟨⟨by decide +kernel, by decide +kernel⟩, List.mem_of_getElem? (i := 992) (by decide +kernel), List.mem_of_getElem? (i := 1129) (by decide +kernel), List.mem_of_getElem? (i := 1130) (by decide +kernel)⟩
theorem lw_p34 : lw_okq (⟨"GreyDaysModel", "must", "(Z)V"⟩, 24) := ⟨⟨by decide +kernel, by decide +kernel⟩, List.mem_of_getElem? (i := 992) (by decide +kernel), List.mem_of_getElem? (i := 1133) (by decide +kernel), List.mem_of_getElem? (i := 1134) (by decide +kernel)⟩
theorem lw_p35 : lw_okq (⟨"GreyDaysModel", "bad", "(I)V"⟩, 24) := ⟨⟨by decide +kernel, by decide +kernel⟩, List.mem_of_getElem? (i := 992) (by decide +kernel), List.mem_of_getElem? (i := 1137) (by decide +kernel), List.mem_of_getElem? (i := 1138) (by decide +kernel)⟩
theorem lw_p36 : lw_okq (⟨"GreyDaysModel", "number", "(II)I"⟩, 24) := ⟨⟨by decide +kernel, by decide +kernel⟩, List.mem_of_getElem? (i := 992) (by decide +kernel), List.mem_of_getElem? (i := 1141) (by decide +kernel), List.mem_of_getElem? (i := 1142) (by decide +kernel)⟩
theorem lw_p37 : lw_okq (⟨"GreyDaysModel", "mustSign", "(I)V"⟩, 24) := ⟨⟨by decide +kernel, by decide +kernel⟩, List.mem_of_getElem? (i := 992) (by decide +kernel), List.mem_of_getElem? (i := 1145) (by decide +kernel), List.mem_of_getElem? (i := 1146) (by decide +kernel)⟩
theorem lw_p38 : lw_okq (⟨"GreyDaysModel", "readThing", "()V"⟩, 24) := ⟨⟨by decide +kernel, by decide +kernel⟩, List.mem_of_getElem? (i := 992) (by decide +kernel), List.mem_of_getElem? (i := 1152) (by decide +kernel), List.mem_of_getElem? (i := 1153) (by decide +kernel)⟩
theorem lw_p39 : lw_okq (⟨"GreyDaysModel", "readPair", "()V"⟩, 24) := ⟨⟨by decide +kernel, by decide +kernel⟩, List.mem_of_getElem? (i := 992) (by decide +kernel), List.mem_of_getElem? (i := 1156) (by decide +kernel), List.mem_of_getElem? (i := 1157) (by decide +kernel)⟩
theorem lw_p40 : lw_okq (⟨"GreyDaysModel", "failed", "()Z"⟩, 24) := ⟨⟨by decide +kernel, by decide +kernel⟩, List.mem_of_getElem? (i := 992) (by decide +kernel), List.mem_of_getElem? (i := 1163) (by decide +kernel), List.mem_of_getElem? (i := 1164) (by decide +kernel)⟩
theorem lw_p41 : lw_okq (⟨"GreyDaysModel", "isThere", "()Z"⟩, 24) := ⟨⟨by decide +kernel, by decide +kernel⟩, List.mem_of_getElem? (i := 992) (by decide +kernel), List.mem_of_getElem? (i := 1172) (by decide +kernel), List.mem_of_getElem? (i := 1173) (by decide +kernel)⟩
theorem lw_p42 : lw_okq (⟨"GreyDaysModel", "keep", "()V"⟩, 24) := ⟨⟨by decide +kernel, by decide +kernel⟩, List.mem_of_getElem? (i := 992) (by decide +kernel), List.mem_of_getElem? (i := 1178) (by decide +kernel), List.mem_of_getElem? (i := 1179) (by decide +kernel)⟩
theorem lw_p43 : lw_okq (⟨"GreyDaysModel", "isThing", "(I)Z"⟩, 24) := ⟨⟨by decide +kernel, by decide +kernel⟩, List.mem_of_getElem? (i := 992) (by decide +kernel), List.mem_of_getElem? (i := 1186) (by decide +kernel), List.mem_of_getElem? (i := 1187) (by decide +kernel)⟩
theorem lw_p44 : lw_okq (⟨"GreyDaysModel", "of", "(II)I"⟩, 24) := ⟨⟨by decide +kernel, by decide +kernel⟩, List.mem_of_getElem? (i := 992) (by decide +kernel), List.mem_of_getElem? (i := 1191) (by decide +kernel), List.mem_of_getElem? (i := 1192) (by decide +kernel)⟩
theorem lw_p45 : lw_okq (⟨"GreyDaysModel", "missingOn", "(I)I"⟩, 24) := ⟨⟨by decide +kernel, by decide +kernel⟩, List.mem_of_getElem? (i := 992) (by decide +kernel), List.mem_of_getElem? (i := 1209) (by decide +kernel), List.mem_of_getElem? (i := 1210) (by decide +kernel)⟩
theorem lw_p46 : lw_okq (⟨"GreyDaysModel", "lookOf", "(II)I"⟩, 24) := ⟨⟨by decide +kernel, by decide +kernel⟩, List.mem_of_getElem? (i := 992) (by decide +kernel), List.mem_of_getElem? (i := 1216) (by decide +kernel), List.mem_of_getElem? (i := 1217) (by decide +kernel)⟩
theorem lw_p47 : lw_okq (⟨"GreyDaysModel", "areTwo", "(II)Z"⟩, 24) := ⟨⟨by decide +kernel, by decide +kernel⟩, List.mem_of_getElem? (i := 992) (by decide +kernel), List.mem_of_getElem? (i := 1231) (by decide +kernel), List.mem_of_getElem? (i := 1232) (by decide +kernel)⟩
def lw_privs_3 : List (MethodName × Nat) := [(⟨"GreyDaysModel", "nextToken", "()V"⟩, 24), (⟨"GreyDaysModel", "isLetter", "(I)Z"⟩, 24), (⟨"GreyDaysModel", "must", "(Z)V"⟩, 24), (⟨"GreyDaysModel", "bad", "(I)V"⟩, 24), (⟨"GreyDaysModel", "number", "(II)I"⟩, 24), (⟨"GreyDaysModel", "mustSign", "(I)V"⟩, 24), (⟨"GreyDaysModel", "readThing", "()V"⟩, 24), (⟨"GreyDaysModel", "readPair", "()V"⟩, 24), (⟨"GreyDaysModel", "failed", "()Z"⟩, 24), (⟨"GreyDaysModel", "isThere", "()Z"⟩, 24), (⟨"GreyDaysModel", "keep", "()V"⟩, 24), (⟨"GreyDaysModel", "isThing", "(I)Z"⟩, 24), (⟨"GreyDaysModel", "of", "(II)I"⟩, 24), (⟨"GreyDaysModel", "missingOn", "(I)I"⟩, 24), (⟨"GreyDaysModel", "lookOf", "(II)I"⟩, 24), (⟨"GreyDaysModel", "areTwo", "(II)Z"⟩, 24)]
theorem lw_r3 : ∀ q ∈ lw_privs_3, lw_okq q := List.forall_mem_cons.mpr ⟨lw_p32, List.forall_mem_cons.mpr ⟨lw_p33, List.forall_mem_cons.mpr ⟨lw_p34, List.forall_mem_cons.mpr ⟨lw_p35, List.forall_mem_cons.mpr ⟨lw_p36, List.forall_mem_cons.mpr ⟨lw_p37, List.forall_mem_cons.mpr ⟨lw_p38, List.forall_mem_cons.mpr ⟨lw_p39, List.forall_mem_cons.mpr ⟨lw_p40, List.forall_mem_cons.mpr ⟨lw_p41, List.forall_mem_cons.mpr ⟨lw_p42, List.forall_mem_cons.mpr ⟨lw_p43, List.forall_mem_cons.mpr ⟨lw_p44, List.forall_mem_cons.mpr ⟨lw_p45, List.forall_mem_cons.mpr ⟨lw_p46, List.forall_mem_cons.mpr ⟨lw_p47, fun _ h => absurd h List.not_mem_nil⟩⟩⟩⟩⟩⟩⟩⟩⟩⟩⟩⟩⟩⟩⟩⟩
theorem lw_p48 : lw_okq (⟨"GreyDaysModel", "areAlike", "(III)Z"⟩, 24) := ⟨⟨by decide +kernel, by decide +kernel⟩, List.mem_of_getElem? (i := 992) (by decide +kernel), List.mem_of_getElem? (i := 1247) (by decide +kernel), List.mem_of_getElem? (i := 1248) (by decide +kernel)⟩
theorem lw_p49 : lw_okq (⟨"GreyDaysModel", "likeBy", "(II)I"⟩, 24) := ⟨⟨by decide +kernel, by decide +kernel⟩, List.mem_of_getElem? (i := 992) (by decide +kernel), List.mem_of_getElem? (i := 1255) (by decide +kernel), List.mem_of_getElem? (i := 1256) (by decide +kernel)⟩
theorem lw_p50 : lw_okq (⟨"GreyDaysModel", "harmBy", "(I)I"⟩, 24) := ⟨⟨by decide +kernel, by decide +kernel⟩, List.mem_of_getElem? (i := 992) (by decide +kernel), List.mem_of_getElem? (i := 1267) (by decide +kernel), List.mem_of_getElem? (i := 1268) (by decide +kernel)⟩
theorem lw_p51 : lw_okq (⟨"GreyDaysModel", "harmsOf", "(I)I"⟩, 24) := ⟨⟨by decide +kernel, by decide +kernel⟩, List.mem_of_getElem? (i := 992) (by decide +kernel), List.mem_of_getElem? (i := 1275) (by decide +kernel), List.mem_of_getElem? (i := 1276) (by decide +kernel)⟩
theorem lw_p52 : lw_okq (⟨"GreyDaysModel", "areMixes", "(I)Z"⟩, 24) := ⟨⟨by decide +kernel, by decide +kernel⟩, List.mem_of_getElem? (i := 992) (by decide +kernel), List.mem_of_getElem? (i := 1292) (by decide +kernel), List.mem_of_getElem? (i := 1293) (by decide +kernel)⟩
theorem lw_p53 : lw_okq (⟨"GreyDaysModel", "areApart", "(II)Z"⟩, 24) := ⟨⟨by decide +kernel, by decide +kernel⟩, List.mem_of_getElem? (i := 992) (by decide +kernel), List.mem_of_getElem? (i := 1296) (by decide +kernel), List.mem_of_getElem? (i := 1297) (by decide +kernel)⟩
theorem lw_p54 : lw_okq (⟨"GreyDaysModel", "follow", "(III)I"⟩, 24) := ⟨⟨by decide +kernel, by decide +kernel⟩, List.mem_of_getElem? (i := 992) (by decide +kernel), List.mem_of_getElem? (i := 1312) (by decide +kernel), List.mem_of_getElem? (i := 1313) (by decide +kernel)⟩
theorem lw_p55 : lw_okq (⟨"GreyDaysModel", "toldBy", "(II)I"⟩, 24) := ⟨⟨by decide +kernel, by decide +kernel⟩, List.mem_of_getElem? (i := 992) (by decide +kernel), List.mem_of_getElem? (i := 1329) (by decide +kernel), List.mem_of_getElem? (i := 1330) (by decide +kernel)⟩
theorem lw_p56 : lw_okq (⟨"GreyDaysModel", "sizeOf", "(I)I"⟩, 24) := ⟨⟨by decide +kernel, by decide +kernel⟩, List.mem_of_getElem? (i := 992) (by decide +kernel), List.mem_of_getElem? (i := 1371) (by decide +kernel), List.mem_of_getElem? (i := 1372) (by decide +kernel)⟩
theorem lw_p57 : lw_okq (⟨"GreyDaysModel", "inkSize", "(I)I"⟩, 24) := ⟨⟨by decide +kernel, by decide +kernel⟩, List.mem_of_getElem? (i := 992) (by decide +kernel), List.mem_of_getElem? (i := 1375) (by decide +kernel), List.mem_of_getElem? (i := 1376) (by decide +kernel)⟩
theorem lw_p58 : lw_okq (⟨"GreyDaysModel", "began", "(I)V"⟩, 24) := ⟨⟨by decide +kernel, by decide +kernel⟩, List.mem_of_getElem? (i := 992) (by decide +kernel), List.mem_of_getElem? (i := 1379) (by decide +kernel), List.mem_of_getElem? (i := 1380) (by decide +kernel)⟩
theorem lw_p59 : lw_okq (⟨"GreyDaysModel", "plainSize", "(I)I"⟩, 24) := ⟨⟨by decide +kernel, by decide +kernel⟩, List.mem_of_getElem? (i := 992) (by decide +kernel), List.mem_of_getElem? (i := 1383) (by decide +kernel), List.mem_of_getElem? (i := 1384) (by decide +kernel)⟩
theorem lw_p60 : lw_okq (⟨"GreyDaysModel", "markOf", "(I)I"⟩, 24) := ⟨⟨by decide +kernel, by decide +kernel⟩, List.mem_of_getElem? (i := 992) (by decide +kernel), List.mem_of_getElem? (i := 1387) (by decide +kernel), List.mem_of_getElem? (i := 1388) (by decide +kernel)⟩
def lw_privs_4 : List (MethodName × Nat) := [(⟨"GreyDaysModel", "areAlike", "(III)Z"⟩, 24), (⟨"GreyDaysModel", "likeBy", "(II)I"⟩, 24), (⟨"GreyDaysModel", "harmBy", "(I)I"⟩, 24), (⟨"GreyDaysModel", "harmsOf", "(I)I"⟩, 24), (⟨"GreyDaysModel", "areMixes", "(I)Z"⟩, 24), (⟨"GreyDaysModel", "areApart", "(II)Z"⟩, 24), (⟨"GreyDaysModel", "follow", "(III)I"⟩, 24), (⟨"GreyDaysModel", "toldBy", "(II)I"⟩, 24), (⟨"GreyDaysModel", "sizeOf", "(I)I"⟩, 24), (⟨"GreyDaysModel", "inkSize", "(I)I"⟩, 24), (⟨"GreyDaysModel", "began", "(I)V"⟩, 24), (⟨"GreyDaysModel", "plainSize", "(I)I"⟩, 24), (⟨"GreyDaysModel", "markOf", "(I)I"⟩, 24)]
theorem lw_r4 : ∀ q ∈ lw_privs_4, lw_okq q := List.forall_mem_cons.mpr ⟨lw_p48, List.forall_mem_cons.mpr ⟨lw_p49, List.forall_mem_cons.mpr ⟨lw_p50, List.forall_mem_cons.mpr ⟨lw_p51, List.forall_mem_cons.mpr ⟨lw_p52, List.forall_mem_cons.mpr ⟨lw_p53, List.forall_mem_cons.mpr ⟨lw_p54, List.forall_mem_cons.mpr ⟨lw_p55, List.forall_mem_cons.mpr ⟨lw_p56, List.forall_mem_cons.mpr ⟨lw_p57, List.forall_mem_cons.mpr ⟨lw_p58, List.forall_mem_cons.mpr ⟨lw_p59, List.forall_mem_cons.mpr ⟨lw_p60, fun _ h => absurd h List.not_mem_nil⟩⟩⟩⟩⟩⟩⟩⟩⟩⟩⟩⟩⟩
def lw_privs : List (MethodName × Nat) := lw_privs_1 ++ (lw_privs_2 ++ (lw_privs_3 ++ (lw_privs_4)))
def lw_tbl : List Cond := k2_sels lw_privs ++ tables_1
theorem lw_privs_ok : ∀ q ∈ lw_privs, lw_okq q := by
  show ∀ q ∈ lw_privs_1 ++ (lw_privs_2 ++ (lw_privs_3 ++ (lw_privs_4))), lw_okq q
  exact List.forall_mem_append.mpr ⟨lw_r1, List.forall_mem_append.mpr ⟨lw_r2, List.forall_mem_append.mpr ⟨lw_r3, lw_r4⟩⟩⟩

def RX0 : String := "GreyDays$Asking"
def TX0 : u_T := fun k => match k with
  | 0 => ("GreyDays$Asking", "bodies", "[I", true)
  | 1 => ("GreyDays$Asking", "begun", "I", false)
  | _ => ("GreyDays$Asking", "missingToday", "I", false)
def tyX0 : Nat → FieldType := fun k => match k with
  | 0 => .array .int
  | 1 => .int
  | _ => .int
abbrev wsX00 : List Cond := u_ws RX0 TX0 3
theorem nmX0 : ∀ a, a < 3 → ∀ b, b < 3 → a ≠ b → (TX0 a).2.1 ≠ (TX0 b).2.1 := by decide +kernel
theorem tyX0_ok : ∀ k, k < 3 → parseFieldDescriptor (TX0 k).2.2.1 = some (tyX0 k) := by decide +kernel
abbrev cX0_init : ByteArray := prog_2_method_1_code
def yX0_init : MethodName := ⟨RX0, "<init>", "()V"⟩
abbrev cX0_start : ByteArray := prog_2_method_2_code
def yX0_start : MethodName := ⟨RX0, "start", "(I)V"⟩
abbrev cX0_begin : ByteArray := prog_2_method_3_code
def yX0_begin : MethodName := ⟨RX0, "begin", "(I)V"⟩
abbrev cX0_missingToday : ByteArray := prog_2_method_4_code
def yX0_missingToday : MethodName := ⟨RX0, "missingToday", "()I"⟩
abbrev cX0_left : ByteArray := prog_2_method_5_code
def yX0_left : MethodName := ⟨RX0, "left", "(I)I"⟩
def RX1 : String := "GreyDays$Dyed"
def TX1 : u_T := fun k => match k with
  | 0 => ("GreyDays$Thing", "number", "I", true)
  | 1 => ("GreyDays$Thing", "shape", "I", true)
  | _ => ("GreyDays$Thing", "mix", "I", false)
def tyX1 : Nat → FieldType := fun k => match k with
  | 0 => .int
  | 1 => .int
  | _ => .int
abbrev wsX10 : List Cond := u_ws RX1 TX1 3
theorem nmX1 : ∀ a, a < 3 → ∀ b, b < 3 → a ≠ b → (TX1 a).2.1 ≠ (TX1 b).2.1 := by decide +kernel
theorem tyX1_ok : ∀ k, k < 3 → parseFieldDescriptor (TX1 k).2.2.1 = some (tyX1 k) := by decide +kernel
abbrev cX1_init : ByteArray := prog_3_method_1_code
def yX1_init : MethodName := ⟨RX1, "<init>", "(III)V"⟩
abbrev cX1_kindTold : ByteArray := prog_3_method_2_code
def yX1_kindTold : MethodName := ⟨RX1, "kindTold", "()I"⟩
abbrev cX1_lookOf : ByteArray := prog_3_method_3_code
def yX1_lookOf : MethodName := ⟨RX1, "lookOf", "(II)I"⟩
abbrev cX1_sizeAsked : ByteArray := prog_3_method_4_code
def yX1_sizeAsked : MethodName := ⟨RX1, "sizeAsked", "(LGreyDays$Asking;)I"⟩
abbrev cX1_markAsked : ByteArray := prog_3_method_5_code
def yX1_markAsked : MethodName := ⟨RX1, "markAsked", "(LGreyDays$Asking;)I"⟩
def RX2 : String := "GreyDays$Faded"
def TX2 : u_T := fun k => match k with
  | 0 => ("GreyDays$Thing", "number", "I", true)
  | 1 => ("GreyDays$Thing", "shape", "I", true)
  | _ => ("GreyDays$Thing", "mix", "I", false)
def tyX2 : Nat → FieldType := fun k => match k with
  | 0 => .int
  | 1 => .int
  | _ => .int
abbrev wsX20 : List Cond := u_ws RX2 TX2 3
theorem nmX2 : ∀ a, a < 3 → ∀ b, b < 3 → a ≠ b → (TX2 a).2.1 ≠ (TX2 b).2.1 := by decide +kernel
theorem tyX2_ok : ∀ k, k < 3 → parseFieldDescriptor (TX2 k).2.2.1 = some (tyX2 k) := by decide +kernel
abbrev cX2_init : ByteArray := prog_4_method_1_code
def yX2_init : MethodName := ⟨RX2, "<init>", "(III)V"⟩
abbrev cX2_kindTold : ByteArray := prog_4_method_2_code
def yX2_kindTold : MethodName := ⟨RX2, "kindTold", "()I"⟩
abbrev cX2_lookOf : ByteArray := prog_4_method_3_code
def yX2_lookOf : MethodName := ⟨RX2, "lookOf", "(II)I"⟩
abbrev cX2_sizeAsked : ByteArray := prog_4_method_4_code
def yX2_sizeAsked : MethodName := ⟨RX2, "sizeAsked", "(LGreyDays$Asking;)I"⟩
def RX3 : String := "GreyDays$Foretold"
def TX3 : u_T := fun k => match k with
  | 0 => ("GreyDays$Foretold", "looksThen", "[I", true)
  | 1 => ("GreyDays$Foretold", "dyeRow", "[I", true)
  | _ => ("GreyDays$Foretold", "endings", "[I", true)
def tyX3 : Nat → FieldType := fun k => match k with
  | 0 => .array .int
  | 1 => .array .int
  | _ => .array .int
abbrev wsX30 : List Cond := u_ws RX3 TX3 3
theorem nmX3 : ∀ a, a < 3 → ∀ b, b < 3 → a ≠ b → (TX3 a).2.1 ≠ (TX3 b).2.1 := by decide +kernel
theorem tyX3_ok : ∀ k, k < 3 → parseFieldDescriptor (TX3 k).2.2.1 = some (tyX3 k) := by decide +kernel
abbrev cX3_init : ByteArray := prog_5_method_1_code
def yX3_init : MethodName := ⟨RX3, "<init>", "()V"⟩
abbrev cX3_lookAt : ByteArray := prog_5_method_2_code
def yX3_lookAt : MethodName := ⟨RX3, "lookAt", "(LGreyDays$Town;I)V"⟩
abbrev cX3_alikeWith : ByteArray := prog_5_method_3_code
def yX3_alikeWith : MethodName := ⟨RX3, "alikeWith", "(LGreyDays$Town;II)I"⟩
abbrev cX3_unlikeLooks : ByteArray := prog_5_method_4_code
def yX3_unlikeLooks : MethodName := ⟨RX3, "unlikeLooks", "(LGreyDays$Town;I)I"⟩
abbrev cX3_harmOfDays : ByteArray := prog_5_method_5_code
def yX3_harmOfDays : MethodName := ⟨RX3, "harmOfDays", "(LGreyDays$Town;I)I"⟩
abbrev cX3_clearDays : ByteArray := prog_5_method_6_code
def yX3_clearDays : MethodName := ⟨RX3, "clearDays", "(LGreyDays$Town;)I"⟩
abbrev cX3_worstDay : ByteArray := prog_5_method_7_code
def yX3_worstDay : MethodName := ⟨RX3, "worstDay", "(LGreyDays$Town;)I"⟩
abbrev cX3_leastHarmPaint : ByteArray := prog_5_method_8_code
def yX3_leastHarmPaint : MethodName := ⟨RX3, "leastHarmPaint", "(LGreyDays$Town;I)I"⟩
abbrev cX3_weekHarmWith : ByteArray := prog_5_method_9_code
def yX3_weekHarmWith : MethodName := ⟨RX3, "weekHarmWith", "(LGreyDays$Town;II)I"⟩
abbrev cX3_daysAlike : ByteArray := prog_5_method_10_code
def yX3_daysAlike : MethodName := ⟨RX3, "daysAlike", "(LGreyDays$Town;III)I"⟩
abbrev cX3_countDyePairs : ByteArray := prog_5_method_11_code
def yX3_countDyePairs : MethodName := ⟨RX3, "countDyePairs", "(LGreyDays$Town;)I"⟩
abbrev cX3_dyeOfFirstRow : ByteArray := prog_5_method_12_code
def yX3_dyeOfFirstRow : MethodName := ⟨RX3, "dyeOfFirstRow", "(LGreyDays$Town;II)I"⟩
abbrev cX3_fillDyes : ByteArray := prog_5_method_13_code
def yX3_fillDyes : MethodName := ⟨RX3, "fillDyes", "(LGreyDays$Town;II)Z"⟩
abbrev cX3_isApartFromRow : ByteArray := prog_5_method_14_code
def yX3_isApartFromRow : MethodName := ⟨RX3, "isApartFromRow", "(LGreyDays$Town;II)Z"⟩
abbrev cX3_areApart : ByteArray := prog_5_method_15_code
def yX3_areApart : MethodName := ⟨RX3, "areApart", "(LGreyDays$Town;II)Z"⟩
abbrev cX3_bestHiding : ByteArray := prog_5_method_16_code
def yX3_bestHiding : MethodName := ⟨RX3, "bestHiding", "(LGreyDays$Town;I)I"⟩
abbrev cX3_weekdaysSeen : ByteArray := prog_5_method_17_code
def yX3_weekdaysSeen : MethodName := ⟨RX3, "weekdaysSeen", "(LGreyDays$Town;LGreyDays$Rows;II)I"⟩
abbrev cX3_countOrders : ByteArray := prog_5_method_18_code
def yX3_countOrders : MethodName := ⟨RX3, "countOrders", "(LGreyDays$Town;I)I"⟩
abbrev cX3_placeOfFirstOrder : ByteArray := prog_5_method_19_code
def yX3_placeOfFirstOrder : MethodName := ⟨RX3, "placeOfFirstOrder", "(LGreyDays$Town;II)I"⟩
abbrev cX3_countEndings : ByteArray := prog_5_method_20_code
def yX3_countEndings : MethodName := ⟨RX3, "countEndings", "(LGreyDays$Town;I)V"⟩
abbrev cX3_waysOn : ByteArray := prog_5_method_21_code
def yX3_waysOn : MethodName := ⟨RX3, "waysOn", "(LGreyDays$Town;II)I"⟩
abbrev cX3_nextOnShelf : ByteArray := prog_5_method_22_code
def yX3_nextOnShelf : MethodName := ⟨RX3, "nextOnShelf", "(LGreyDays$Town;II)I"⟩
abbrev cX3_canFollow : ByteArray := prog_5_method_23_code
def yX3_canFollow : MethodName := ⟨RX3, "canFollow", "(III)Z"⟩
abbrev cX3_placeOfEnding : ByteArray := prog_5_method_24_code
def yX3_placeOfEnding : MethodName := ⟨RX3, "placeOfEnding", "(II)I"⟩
abbrev cX3_countParting : ByteArray := prog_5_method_25_code
def yX3_countParting : MethodName := ⟨RX3, "countParting", "(LGreyDays$Town;II)I"⟩
abbrev cX3_firstParting : ByteArray := prog_5_method_26_code
def yX3_firstParting : MethodName := ⟨RX3, "firstParting", "(LGreyDays$Town;II)I"⟩
abbrev cX3_partsBy : ByteArray := prog_5_method_27_code
def yX3_partsBy : MethodName := ⟨RX3, "partsBy", "(LGreyDays$Town;IIII)Z"⟩
abbrev cX3_fewestMissing : ByteArray := prog_5_method_28_code
def yX3_fewestMissing : MethodName := ⟨RX3, "fewestMissing", "(LGreyDays$Town;II)I"⟩
abbrev cX3_bestTest : ByteArray := prog_5_method_29_code
def yX3_bestTest : MethodName := ⟨RX3, "bestTest", "(LGreyDays$Town;IIII)I"⟩
abbrev cX3_countTold : ByteArray := prog_5_method_30_code
def yX3_countTold : MethodName := ⟨RX3, "countTold", "(LGreyDays$Town;ZZ)I"⟩
abbrev cX3_isTold : ByteArray := prog_5_method_31_code
def yX3_isTold : MethodName := ⟨RX3, "isTold", "(LGreyDays$Town;IZZ)Z"⟩
abbrev cX3_likelihood : ByteArray := prog_5_method_32_code
def yX3_likelihood : MethodName := ⟨RX3, "likelihood", "(III)J"⟩
abbrev cX3_ways : ByteArray := prog_5_method_33_code
def yX3_ways : MethodName := ⟨RX3, "ways", "(II)J"⟩
abbrev cX3_power : ByteArray := prog_5_method_34_code
def yX3_power : MethodName := ⟨RX3, "power", "(JI)J"⟩
abbrev cX3_greatestShared : ByteArray := prog_5_method_35_code
def yX3_greatestShared : MethodName := ⟨RX3, "greatestShared", "(JJ)J"⟩
abbrev cX3_drawnYear : ByteArray := prog_5_method_36_code
def yX3_drawnYear : MethodName := ⟨RX3, "drawnYear", "(LGreyDays$Town;III)I"⟩
def RX4 : String := "GreyDays$Ink"
def TX4 : u_T := fun k => match k with
  | 0 => ("GreyDays$Thing", "number", "I", true)
  | 1 => ("GreyDays$Thing", "shape", "I", true)
  | _ => ("GreyDays$Thing", "mix", "I", false)
def tyX4 : Nat → FieldType := fun k => match k with
  | 0 => .int
  | 1 => .int
  | _ => .int
abbrev wsX40 : List Cond := u_ws RX4 TX4 3
theorem nmX4 : ∀ a, a < 3 → ∀ b, b < 3 → a ≠ b → (TX4 a).2.1 ≠ (TX4 b).2.1 := by decide +kernel
theorem tyX4_ok : ∀ k, k < 3 → parseFieldDescriptor (TX4 k).2.2.1 = some (tyX4 k) := by decide +kernel
abbrev cX4_init : ByteArray := prog_6_method_1_code
def yX4_init : MethodName := ⟨RX4, "<init>", "(III)V"⟩
abbrev cX4_kindTold : ByteArray := prog_6_method_2_code
def yX4_kindTold : MethodName := ⟨RX4, "kindTold", "()I"⟩
abbrev cX4_lookOf : ByteArray := prog_6_method_3_code
def yX4_lookOf : MethodName := ⟨RX4, "lookOf", "(II)I"⟩
abbrev cX4_sizeAsked : ByteArray := prog_6_method_4_code
def yX4_sizeAsked : MethodName := ⟨RX4, "sizeAsked", "(LGreyDays$Asking;)I"⟩
abbrev cX4_markAsked : ByteArray := prog_6_method_5_code
def yX4_markAsked : MethodName := ⟨RX4, "markAsked", "(LGreyDays$Asking;)I"⟩
def RX5 : String := "GreyDays$Rows"
def TX5 : u_T := fun k => match k with
  | 0 => ("GreyDays$Rows", "items", "[[I", true)
  | 1 => ("GreyDays$Rows", "lanes", "[I", true)
  | _ => ("GreyDays$Rows", "lengths", "[I", true)
def tyX5 : Nat → FieldType := fun k => match k with
  | 0 => .array (.array .int)
  | 1 => .array .int
  | _ => .array .int
abbrev wsX50 : List Cond := u_ws RX5 TX5 3
theorem nmX5 : ∀ a, a < 3 → ∀ b, b < 3 → a ≠ b → (TX5 a).2.1 ≠ (TX5 b).2.1 := by decide +kernel
theorem tyX5_ok : ∀ k, k < 3 → parseFieldDescriptor (TX5 k).2.2.1 = some (tyX5 k) := by decide +kernel
abbrev cX5_init : ByteArray := prog_7_method_1_code
def yX5_init : MethodName := ⟨RX5, "<init>", "()V"⟩
abbrev cX5_isNumber : ByteArray := prog_7_method_2_code
def yX5_isNumber : MethodName := ⟨RX5, "isNumber", "(I)Z"⟩
abbrev cX5_isThere : ByteArray := prog_7_method_3_code
def yX5_isThere : MethodName := ⟨RX5, "isThere", "(I)Z"⟩
abbrev cX5_haveOneLane : ByteArray := prog_7_method_4_code
def yX5_haveOneLane : MethodName := ⟨RX5, "haveOneLane", "(II)Z"⟩
abbrev cX5_hasPlaces : ByteArray := prog_7_method_5_code
def yX5_hasPlaces : MethodName := ⟨RX5, "hasPlaces", "(III)Z"⟩
abbrev cX5_make : ByteArray := prog_7_method_6_code
def yX5_make : MethodName := ⟨RX5, "make", "(III)V"⟩
abbrev cX5_put : ByteArray := prog_7_method_7_code
def yX5_put : MethodName := ⟨RX5, "put", "(III)I"⟩
abbrev cX5_itemAt : ByteArray := prog_7_method_8_code
def yX5_itemAt : MethodName := ⟨RX5, "itemAt", "(II)I"⟩
abbrev cX5_move : ByteArray := prog_7_method_9_code
def yX5_move : MethodName := ⟨RX5, "move", "(IIIII)V"⟩
abbrev cX5_remove : ByteArray := prog_7_method_10_code
def yX5_remove : MethodName := ⟨RX5, "remove", "(I)I"⟩
abbrev cX5_present : ByteArray := prog_7_method_11_code
def yX5_present : MethodName := ⟨RX5, "present", "()I"⟩
abbrev cX5_cut : ByteArray := prog_7_method_12_code
def yX5_cut : MethodName := ⟨RX5, "cut", "(II)I"⟩
def RX6 : String := "GreyDays$Shining"
def TX6 : u_T := fun k => match k with
  | 0 => ("GreyDays$Thing", "number", "I", true)
  | 1 => ("GreyDays$Thing", "shape", "I", true)
  | _ => ("GreyDays$Thing", "mix", "I", false)
def tyX6 : Nat → FieldType := fun k => match k with
  | 0 => .int
  | 1 => .int
  | _ => .int
abbrev wsX60 : List Cond := u_ws RX6 TX6 3
theorem nmX6 : ∀ a, a < 3 → ∀ b, b < 3 → a ≠ b → (TX6 a).2.1 ≠ (TX6 b).2.1 := by decide +kernel
theorem tyX6_ok : ∀ k, k < 3 → parseFieldDescriptor (TX6 k).2.2.1 = some (tyX6 k) := by decide +kernel
abbrev cX6_init : ByteArray := prog_8_method_1_code
def yX6_init : MethodName := ⟨RX6, "<init>", "(III)V"⟩
abbrev cX6_kindTold : ByteArray := prog_8_method_2_code
def yX6_kindTold : MethodName := ⟨RX6, "kindTold", "()I"⟩
abbrev cX6_lookOf : ByteArray := prog_8_method_3_code
def yX6_lookOf : MethodName := ⟨RX6, "lookOf", "(II)I"⟩
abbrev cX6_markAsked : ByteArray := prog_8_method_4_code
def yX6_markAsked : MethodName := ⟨RX6, "markAsked", "(LGreyDays$Asking;)I"⟩
def RX7 : String := "GreyDays$Tape"
def TX7 : u_T := fun k => match k with
  | 0 => ("GreyDays$Tape", "bytes", "[I", true)
  | 1 => ("GreyDays$Tape", "length", "I", false)
  | 2 => ("GreyDays$Tape", "place", "I", false)
  | 3 => ("GreyDays$Tape", "faultNumber", "I", false)
  | _ => ("GreyDays$Tape", "faultPlace", "I", false)
def tyX7 : Nat → FieldType := fun k => match k with
  | 0 => .array .int
  | 1 => .int
  | 2 => .int
  | 3 => .int
  | _ => .int
abbrev wsX70 : List Cond := u_ws RX7 TX7 5
theorem nmX7 : ∀ a, a < 5 → ∀ b, b < 5 → a ≠ b → (TX7 a).2.1 ≠ (TX7 b).2.1 := by decide +kernel
theorem tyX7_ok : ∀ k, k < 5 → parseFieldDescriptor (TX7 k).2.2.1 = some (tyX7 k) := by decide +kernel
abbrev cX7_init : ByteArray := prog_9_method_1_code
def yX7_init : MethodName := ⟨RX7, "<init>", "()V"⟩
abbrev cX7_put : ByteArray := prog_9_method_2_code
def yX7_put : MethodName := ⟨RX7, "put", "(I)Z"⟩
abbrev cX7_length : ByteArray := prog_9_method_3_code
def yX7_length : MethodName := ⟨RX7, "length", "()I"⟩
abbrev cX7_faultNumber : ByteArray := prog_9_method_4_code
def yX7_faultNumber : MethodName := ⟨RX7, "faultNumber", "()I"⟩
abbrev cX7_faultPlace : ByteArray := prog_9_method_5_code
def yX7_faultPlace : MethodName := ⟨RX7, "faultPlace", "()I"⟩
abbrev cX7_read : ByteArray := prog_9_method_6_code
def yX7_read : MethodName := ⟨RX7, "read", "()LGreyDays$Town;"⟩
abbrev cX7_readLaw : ByteArray := prog_9_method_7_code
def yX7_readLaw : MethodName := ⟨RX7, "readLaw", "(LGreyDays$Town;)V"⟩
abbrev cX7_readThings : ByteArray := prog_9_method_8_code
def yX7_readThings : MethodName := ⟨RX7, "readThings", "(LGreyDays$Town;)V"⟩
abbrev cX7_readThing : ByteArray := prog_9_method_9_code
def yX7_readThing : MethodName := ⟨RX7, "readThing", "(LGreyDays$Town;I)V"⟩
abbrev cX7_readPairs : ByteArray := prog_9_method_10_code
def yX7_readPairs : MethodName := ⟨RX7, "readPairs", "(LGreyDays$Town;)V"⟩
abbrev cX7_readPair : ByteArray := prog_9_method_11_code
def yX7_readPair : MethodName := ⟨RX7, "readPair", "(LGreyDays$Town;)V"⟩
abbrev cX7_takeByte : ByteArray := prog_9_method_12_code
def yX7_takeByte : MethodName := ⟨RX7, "takeByte", "(I)V"⟩
abbrev cX7_takeNumber : ByteArray := prog_9_method_13_code
def yX7_takeNumber : MethodName := ⟨RX7, "takeNumber", "(II)I"⟩
abbrev cX7_figuresHere : ByteArray := prog_9_method_14_code
def yX7_figuresHere : MethodName := ⟨RX7, "figuresHere", "()I"⟩
abbrev cX7_byteHere : ByteArray := prog_9_method_15_code
def yX7_byteHere : MethodName := ⟨RX7, "byteHere", "()I"⟩
abbrev cX7_isSound : ByteArray := prog_9_method_16_code
def yX7_isSound : MethodName := ⟨RX7, "isSound", "()Z"⟩
abbrev cX7_faultAt : ByteArray := prog_9_method_17_code
def yX7_faultAt : MethodName := ⟨RX7, "faultAt", "(II)V"⟩
abbrev cX7_kindOfSort : ByteArray := prog_9_method_18_code
def yX7_kindOfSort : MethodName := ⟨RX7, "kindOfSort", "(I)I"⟩
def RX8 : String := "GreyDays$Thing"
def TX8 : u_T := fun k => match k with
  | _ => ("", "", "", false)
def tyX8 : Nat → FieldType := fun k => match k with
  | _ => .int
abbrev wsX80 : List Cond := u_ws RX8 TX8 0
theorem nmX8 : ∀ a, a < 0 → ∀ b, b < 0 → a ≠ b → (TX8 a).2.1 ≠ (TX8 b).2.1 := by decide +kernel
theorem tyX8_ok : ∀ k, k < 0 → parseFieldDescriptor (TX8 k).2.2.1 = some (tyX8 k) := by decide +kernel
abbrev cX8_init : ByteArray := prog_10_method_1_code
def yX8_init : MethodName := ⟨RX8, "<init>", "(III)V"⟩
abbrev cX8_takesPaint : ByteArray := prog_10_method_4_code
def yX8_takesPaint : MethodName := ⟨RX8, "takesPaint", "()Z"⟩
abbrev cX8_mixed : ByteArray := prog_10_method_5_code
def yX8_mixed : MethodName := ⟨RX8, "mixed", "()I"⟩
abbrev cX8_shaped : ByteArray := prog_10_method_6_code
def yX8_shaped : MethodName := ⟨RX8, "shaped", "()I"⟩
abbrev cX8_mixAnew : ByteArray := prog_10_method_7_code
def yX8_mixAnew : MethodName := ⟨RX8, "mixAnew", "(I)V"⟩
abbrev cX8_lookWithout : ByteArray := prog_10_method_8_code
def yX8_lookWithout : MethodName := ⟨RX8, "lookWithout", "(I)I"⟩
abbrev cX8_sizeAsked : ByteArray := prog_10_method_9_code
def yX8_sizeAsked : MethodName := ⟨RX8, "sizeAsked", "(LGreyDays$Asking;)I"⟩
abbrev cX8_markAsked : ByteArray := prog_10_method_10_code
def yX8_markAsked : MethodName := ⟨RX8, "markAsked", "(LGreyDays$Asking;)I"⟩
def RX9 : String := "GreyDays$Town"
def TX9 : u_T := fun k => match k with
  | 0 => ("GreyDays$Town", "colours", "[I", true)
  | 1 => ("GreyDays$Town", "things", "[LGreyDays$Thing;", true)
  | 2 => ("GreyDays$Town", "thingCount", "I", false)
  | 3 => ("GreyDays$Town", "firsts", "[I", true)
  | 4 => ("GreyDays$Town", "seconds", "[I", true)
  | 5 => ("GreyDays$Town", "harms", "[I", true)
  | 6 => ("GreyDays$Town", "pairCount", "I", false)
  | 7 => ("GreyDays$Town", "day", "I", false)
  | 8 => ("GreyDays$Town", "actSorts", "[I", true)
  | 9 => ("GreyDays$Town", "actPlaces", "[I", true)
  | 10 => ("GreyDays$Town", "actBefores", "[I", true)
  | _ => ("GreyDays$Town", "actCount", "I", false)
def tyX9 : Nat → FieldType := fun k => match k with
  | 0 => .array .int
  | 1 => .array (.object "GreyDays$Thing")
  | 2 => .int
  | 3 => .array .int
  | 4 => .array .int
  | 5 => .array .int
  | 6 => .int
  | 7 => .int
  | 8 => .array .int
  | 9 => .array .int
  | 10 => .array .int
  | _ => .int
abbrev wsX90 : List Cond := u_ws RX9 TX9 12
theorem nmX9 : ∀ a, a < 12 → ∀ b, b < 12 → a ≠ b → (TX9 a).2.1 ≠ (TX9 b).2.1 := by decide +kernel
theorem tyX9_ok : ∀ k, k < 12 → parseFieldDescriptor (TX9 k).2.2.1 = some (tyX9 k) := by decide +kernel
abbrev cX9_init : ByteArray := prog_11_method_1_code
def yX9_init : MethodName := ⟨RX9, "<init>", "()V"⟩
abbrev cX9_duplicate : ByteArray := prog_11_method_2_code
def yX9_duplicate : MethodName := ⟨RX9, "duplicate", "()LGreyDays$Town;"⟩
abbrev cX9_setColourOn : ByteArray := prog_11_method_3_code
def yX9_setColourOn : MethodName := ⟨RX9, "setColourOn", "(II)V"⟩
abbrev cX9_addThing : ByteArray := prog_11_method_4_code
def yX9_addThing : MethodName := ⟨RX9, "addThing", "(III)V"⟩
abbrev cX9_addPair : ByteArray := prog_11_method_5_code
def yX9_addPair : MethodName := ⟨RX9, "addPair", "(III)V"⟩
abbrev cX9_newThing : ByteArray := prog_11_method_6_code
def yX9_newThing : MethodName := ⟨RX9, "newThing", "(IIII)LGreyDays$Thing;"⟩
abbrev cX9_hasThing : ByteArray := prog_11_method_7_code
def yX9_hasThing : MethodName := ⟨RX9, "hasThing", "(I)Z"⟩
abbrev cX9_thingAt : ByteArray := prog_11_method_8_code
def yX9_thingAt : MethodName := ⟨RX9, "thingAt", "(I)LGreyDays$Thing;"⟩
abbrev cX9_thingCount : ByteArray := prog_11_method_9_code
def yX9_thingCount : MethodName := ⟨RX9, "thingCount", "()I"⟩
abbrev cX9_pairCount : ByteArray := prog_11_method_10_code
def yX9_pairCount : MethodName := ⟨RX9, "pairCount", "()I"⟩
abbrev cX9_actCount : ByteArray := prog_11_method_11_code
def yX9_actCount : MethodName := ⟨RX9, "actCount", "()I"⟩
abbrev cX9_today : ByteArray := prog_11_method_12_code
def yX9_today : MethodName := ⟨RX9, "today", "()I"⟩
abbrev cX9_colourOn : ByteArray := prog_11_method_13_code
def yX9_colourOn : MethodName := ⟨RX9, "colourOn", "(I)I"⟩
abbrev cX9_missingIn : ByteArray := prog_11_method_14_code
def yX9_missingIn : MethodName := ⟨RX9, "missingIn", "(I)I"⟩
abbrev cX9_missingOn : ByteArray := prog_11_method_15_code
def yX9_missingOn : MethodName := ⟨RX9, "missingOn", "(I)I"⟩
abbrev cX9_setOf : ByteArray := prog_11_method_16_code
def yX9_setOf : MethodName := ⟨RX9, "setOf", "(I)I"⟩
abbrev cX9_areAlike : ByteArray := prog_11_method_17_code
def yX9_areAlike : MethodName := ⟨RX9, "areAlike", "(III)Z"⟩
abbrev cX9_harmWithout : ByteArray := prog_11_method_18_code
def yX9_harmWithout : MethodName := ⟨RX9, "harmWithout", "(I)I"⟩
abbrev cX9_harmOfPair : ByteArray := prog_11_method_19_code
def yX9_harmOfPair : MethodName := ⟨RX9, "harmOfPair", "(II)I"⟩
abbrev cX9_harmOfPairsWith : ByteArray := prog_11_method_20_code
def yX9_harmOfPairsWith : MethodName := ⟨RX9, "harmOfPairsWith", "(I)I"⟩
abbrev cX9_isOfPair : ByteArray := prog_11_method_21_code
def yX9_isOfPair : MethodName := ⟨RX9, "isOfPair", "(II)Z"⟩
abbrev cX9_passDays : ByteArray := prog_11_method_22_code
def yX9_passDays : MethodName := ⟨RX9, "passDays", "(I)V"⟩
abbrev cX9_repaint : ByteArray := prog_11_method_23_code
def yX9_repaint : MethodName := ⟨RX9, "repaint", "(II)I"⟩
abbrev cX9_changeWeek : ByteArray := prog_11_method_24_code
def yX9_changeWeek : MethodName := ⟨RX9, "changeWeek", "(II)I"⟩
abbrev cX9_keepAct : ByteArray := prog_11_method_25_code
def yX9_keepAct : MethodName := ⟨RX9, "keepAct", "(III)V"⟩
abbrev cX9_forgetOldestAct : ByteArray := prog_11_method_26_code
def yX9_forgetOldestAct : MethodName := ⟨RX9, "forgetOldestAct", "()V"⟩
abbrev cX9_undoLatest : ByteArray := prog_11_method_27_code
def yX9_undoLatest : MethodName := ⟨RX9, "undoLatest", "()V"⟩
def RX10 : String := "GreyDays$Twin"
def TX10 : u_T := fun k => match k with
  | 0 => ("GreyDays$Thing", "number", "I", true)
  | 1 => ("GreyDays$Thing", "shape", "I", true)
  | _ => ("GreyDays$Thing", "mix", "I", false)
def tyX10 : Nat → FieldType := fun k => match k with
  | 0 => .int
  | 1 => .int
  | _ => .int
abbrev wsX100 : List Cond := u_ws RX10 TX10 3
theorem nmX10 : ∀ a, a < 3 → ∀ b, b < 3 → a ≠ b → (TX10 a).2.1 ≠ (TX10 b).2.1 := by decide +kernel
theorem tyX10_ok : ∀ k, k < 3 → parseFieldDescriptor (TX10 k).2.2.1 = some (tyX10 k) := by decide +kernel
abbrev cX10_init : ByteArray := prog_12_method_1_code
def yX10_init : MethodName := ⟨RX10, "<init>", "(III)V"⟩
abbrev cX10_kindTold : ByteArray := prog_12_method_2_code
def yX10_kindTold : MethodName := ⟨RX10, "kindTold", "()I"⟩
abbrev cX10_lookOf : ByteArray := prog_12_method_3_code
def yX10_lookOf : MethodName := ⟨RX10, "lookOf", "(II)I"⟩
abbrev cX10_sizeAsked : ByteArray := prog_12_method_4_code
def yX10_sizeAsked : MethodName := ⟨RX10, "sizeAsked", "(LGreyDays$Asking;)I"⟩
abbrev cX10_markAsked : ByteArray := prog_12_method_5_code
def yX10_markAsked : MethodName := ⟨RX10, "markAsked", "(LGreyDays$Asking;)I"⟩
def RX11 : String := "GreyDays"
def TX11 : u_T := fun k => match k with
  | 0 => ("GreyDays", "rows", "LGreyDays$Rows;", true)
  | 1 => ("GreyDays", "tape", "LGreyDays$Tape;", true)
  | 2 => ("GreyDays", "foretold", "LGreyDays$Foretold;", true)
  | 3 => ("GreyDays", "asking", "LGreyDays$Asking;", true)
  | 4 => ("GreyDays", "images", "[LGreyDays$Town;", true)
  | 5 => ("GreyDays", "present", "LGreyDays$Town;", false)
  | 6 => ("GreyDays", "latestFault", "I", false)
  | _ => ("GreyDays", "latestFinding", "I", false)
def tyX11 : Nat → FieldType := fun k => match k with
  | 0 => .object "GreyDays$Rows"
  | 1 => .object "GreyDays$Tape"
  | 2 => .object "GreyDays$Foretold"
  | 3 => .object "GreyDays$Asking"
  | 4 => .array (.object "GreyDays$Town")
  | 5 => .object "GreyDays$Town"
  | 6 => .int
  | _ => .int
abbrev wsX110 : List Cond := u_ws RX11 TX11 8
theorem nmX11 : ∀ a, a < 8 → ∀ b, b < 8 → a ≠ b → (TX11 a).2.1 ≠ (TX11 b).2.1 := by decide +kernel
theorem tyX11_ok : ∀ k, k < 8 → parseFieldDescriptor (TX11 k).2.2.1 = some (tyX11 k) := by decide +kernel
abbrev cX11_init : ByteArray := prog_1_method_1_code
def yX11_init : MethodName := ⟨RX11, "<init>", "()V"⟩
abbrev cX11_row : ByteArray := prog_1_method_2_code
def yX11_row : MethodName := ⟨RX11, "row", "(III)I"⟩
abbrev cX11_set : ByteArray := prog_1_method_3_code
def yX11_set : MethodName := ⟨RX11, "set", "(III)I"⟩
abbrev cX11_copy : ByteArray := prog_1_method_4_code
def yX11_copy : MethodName := ⟨RX11, "copy", "(IIIII)I"⟩
abbrev cX11_drop : ByteArray := prog_1_method_5_code
def yX11_drop : MethodName := ⟨RX11, "drop", "(I)I"⟩
abbrev cX11_feed : ByteArray := prog_1_method_6_code
def yX11_feed : MethodName := ⟨RX11, "feed", "(I)I"⟩
abbrev cX11_town : ByteArray := prog_1_method_7_code
def yX11_town : MethodName := ⟨RX11, "town", "()I"⟩
abbrev cX11_fault : ByteArray := prog_1_method_8_code
def yX11_fault : MethodName := ⟨RX11, "fault", "()I"⟩
abbrev cX11_undo : ByteArray := prog_1_method_9_code
def yX11_undo : MethodName := ⟨RX11, "undo", "()I"⟩
abbrev cX11_days : ByteArray := prog_1_method_10_code
def yX11_days : MethodName := ⟨RX11, "days", "(I)I"⟩
abbrev cX11_paint : ByteArray := prog_1_method_11_code
def yX11_paint : MethodName := ⟨RX11, "paint", "(II)I"⟩
abbrev cX11_miss : ByteArray := prog_1_method_12_code
def yX11_miss : MethodName := ⟨RX11, "miss", "(II)I"⟩
abbrev cX11_thing : ByteArray := prog_1_method_13_code
def yX11_thing : MethodName := ⟨RX11, "thing", "(II)I"⟩
abbrev cX11_missing : ByteArray := prog_1_method_14_code
def yX11_missing : MethodName := ⟨RX11, "missing", "(I)I"⟩
abbrev cX11_pair : ByteArray := prog_1_method_15_code
def yX11_pair : MethodName := ⟨RX11, "pair", "(II)I"⟩
abbrev cX11_look : ByteArray := prog_1_method_16_code
def yX11_look : MethodName := ⟨RX11, "look", "(II)I"⟩
abbrev cX11_alike : ByteArray := prog_1_method_17_code
def yX11_alike : MethodName := ⟨RX11, "alike", "(III)I"⟩
abbrev cX11_like : ByteArray := prog_1_method_18_code
def yX11_like : MethodName := ⟨RX11, "like", "(II)I"⟩
abbrev cX11_looks : ByteArray := prog_1_method_19_code
def yX11_looks : MethodName := ⟨RX11, "looks", "(I)I"⟩
abbrev cX11_harm : ByteArray := prog_1_method_20_code
def yX11_harm : MethodName := ⟨RX11, "harm", "(I)I"⟩
abbrev cX11_harms : ByteArray := prog_1_method_21_code
def yX11_harms : MethodName := ⟨RX11, "harms", "(I)I"⟩
abbrev cX11_week : ByteArray := prog_1_method_22_code
def yX11_week : MethodName := ⟨RX11, "week", "(I)I"⟩
abbrev cX11_bestPaint : ByteArray := prog_1_method_23_code
def yX11_bestPaint : MethodName := ⟨RX11, "bestPaint", "(I)I"⟩
abbrev cX11_dyes : ByteArray := prog_1_method_24_code
def yX11_dyes : MethodName := ⟨RX11, "dyes", "(II)I"⟩
abbrev cX11_thief : ByteArray := prog_1_method_25_code
def yX11_thief : MethodName := ⟨RX11, "thief", "(I)I"⟩
abbrev cX11_seen : ByteArray := prog_1_method_26_code
def yX11_seen : MethodName := ⟨RX11, "seen", "(II)I"⟩
abbrev cX11_shelf : ByteArray := prog_1_method_27_code
def yX11_shelf : MethodName := ⟨RX11, "shelf", "(II)I"⟩
abbrev cX11_parted : ByteArray := prog_1_method_28_code
def yX11_parted : MethodName := ⟨RX11, "parted", "(III)I"⟩
abbrev cX11_merged : ByteArray := prog_1_method_29_code
def yX11_merged : MethodName := ⟨RX11, "merged", "(II)I"⟩
abbrev cX11_tests : ByteArray := prog_1_method_30_code
def yX11_tests : MethodName := ⟨RX11, "tests", "(IIII)I"⟩
abbrev cX11_bet : ByteArray := prog_1_method_31_code
def yX11_bet : MethodName := ⟨RX11, "bet", "(III)J"⟩
abbrev cX11_year : ByteArray := prog_1_method_32_code
def yX11_year : MethodName := ⟨RX11, "year", "(III)I"⟩
abbrev cX11_image : ByteArray := prog_1_method_33_code
def yX11_image : MethodName := ⟨RX11, "image", "(I)I"⟩
abbrev cX11_restore : ByteArray := prog_1_method_34_code
def yX11_restore : MethodName := ⟨RX11, "restore", "(I)I"⟩
abbrev cX11_kind : ByteArray := prog_1_method_35_code
def yX11_kind : MethodName := ⟨RX11, "kind", "(I)I"⟩
abbrev cX11_as : ByteArray := prog_1_method_36_code
def yX11_as : MethodName := ⟨RX11, "as", "(II)I"⟩
abbrev cX11_ask : ByteArray := prog_1_method_37_code
def yX11_ask : MethodName := ⟨RX11, "ask", "(II)I"⟩
abbrev cX11_trace : ByteArray := prog_1_method_38_code
def yX11_trace : MethodName := ⟨RX11, "trace", "(I)I"⟩
abbrev cX11_count : ByteArray := prog_1_method_39_code
def yX11_count : MethodName := ⟨RX11, "count", "(I)I"⟩
abbrev cX11_status : ByteArray := prog_1_method_40_code
def yX11_status : MethodName := ⟨RX11, "status", "()I"⟩
abbrev cX11_countOfTown : ByteArray := prog_1_method_41_code
def yX11_countOfTown : MethodName := ⟨RX11, "countOfTown", "(I)I"⟩
abbrev cX11_finds : ByteArray := prog_1_method_42_code
def yX11_finds : MethodName := ⟨RX11, "finds", "(I)Z"⟩
abbrev cX11_finding : ByteArray := prog_1_method_43_code
def yX11_finding : MethodName := ⟨RX11, "finding", "()I"⟩
abbrev cX11_findingOfPlaces : ByteArray := prog_1_method_44_code
def yX11_findingOfPlaces : MethodName := ⟨RX11, "findingOfPlaces", "(III)I"⟩
abbrev cX11_findingOfMove : ByteArray := prog_1_method_45_code
def yX11_findingOfMove : MethodName := ⟨RX11, "findingOfMove", "(IIIII)I"⟩
abbrev cX11_isThing : ByteArray := prog_1_method_46_code
def yX11_isThing : MethodName := ⟨RX11, "isThing", "(I)Z"⟩
abbrev cX11_areTwo : ByteArray := prog_1_method_47_code
def yX11_areTwo : MethodName := ⟨RX11, "areTwo", "(II)Z"⟩
abbrev cX11_isOfKind : ByteArray := prog_1_method_48_code
def yX11_isOfKind : MethodName := ⟨RX11, "isOfKind", "(LGreyDays$Thing;I)Z"⟩
abbrev cX11_isSet : ByteArray := prog_1_method_49_code
def yX11_isSet : MethodName := ⟨RX11, "isSet", "(I)Z"⟩
abbrev cX11_isWeekday : ByteArray := prog_1_method_50_code
def yX11_isWeekday : MethodName := ⟨RX11, "isWeekday", "(I)Z"⟩
abbrev cX11_isAhead : ByteArray := prog_1_method_51_code
def yX11_isAhead : MethodName := ⟨RX11, "isAhead", "(I)Z"⟩
abbrev cX11_isChoice : ByteArray := prog_1_method_52_code
def yX11_isChoice : MethodName := ⟨RX11, "isChoice", "(I)Z"⟩
abbrev cX11_isCost : ByteArray := prog_1_method_53_code
def yX11_isCost : MethodName := ⟨RX11, "isCost", "(I)Z"⟩
def RX12 : String := "GreyDaysModel"
def TX12 : u_T := fun k => match k with
  | 0 => ("GreyDaysModel", "thrown", "I", false)
  | 1 => ("GreyDaysModel", "status", "I", false)
  | 2 => ("GreyDaysModel", "lane", "[I", true)
  | 3 => ("GreyDaysModel", "many", "[I", true)
  | 4 => ("GreyDaysModel", "item", "[I", true)
  | 5 => ("GreyDaysModel", "town", "[I", true)
  | 6 => ("GreyDaysModel", "fresh", "[I", true)
  | 7 => ("GreyDaysModel", "was", "[I", true)
  | 8 => ("GreyDaysModel", "acts", "I", false)
  | 9 => ("GreyDaysModel", "tape", "[I", true)
  | 10 => ("GreyDaysModel", "taped", "I", false)
  | 11 => ("GreyDaysModel", "cursor", "I", false)
  | 12 => ("GreyDaysModel", "start", "I", false)
  | 13 => ("GreyDaysModel", "token", "I", false)
  | 14 => ("GreyDaysModel", "value", "I", false)
  | 15 => ("GreyDaysModel", "fault", "I", false)
  | 16 => ("GreyDaysModel", "faultAt", "I", false)
  | 17 => ("GreyDaysModel", "latest", "I", false)
  | 18 => ("GreyDaysModel", "mixes", "[I", true)
  | 19 => ("GreyDaysModel", "orders", "[I", true)
  | 20 => ("GreyDaysModel", "isKept", "[Z", true)
  | 21 => ("GreyDaysModel", "kept", "[I", true)
  | 22 => ("GreyDaysModel", "trace", "[I", true)
  | _ => ("GreyDaysModel", "traced", "I", false)
def tyX12 : Nat → FieldType := fun k => match k with
  | 0 => .int
  | 1 => .int
  | 2 => .array .int
  | 3 => .array .int
  | 4 => .array .int
  | 5 => .array .int
  | 6 => .array .int
  | 7 => .array .int
  | 8 => .int
  | 9 => .array .int
  | 10 => .int
  | 11 => .int
  | 12 => .int
  | 13 => .int
  | 14 => .int
  | 15 => .int
  | 16 => .int
  | 17 => .int
  | 18 => .array .int
  | 19 => .array .int
  | 20 => .array .boolean
  | 21 => .array .int
  | 22 => .array .int
  | _ => .int
abbrev wsX120 : List Cond := u_ws RX12 TX12 24
theorem nmX12 : ∀ a, a < 24 → ∀ b, b < 24 → a ≠ b → (TX12 a).2.1 ≠ (TX12 b).2.1 := by decide +kernel
theorem tyX12_ok : ∀ k, k < 24 → parseFieldDescriptor (TX12 k).2.2.1 = some (tyX12 k) := by decide +kernel
abbrev cX12_init : ByteArray := prog_14_method_1_code
def yX12_init : MethodName := ⟨RX12, "<init>", "()V"⟩
abbrev cX12_in : ByteArray := prog_14_method_3_code
def yX12_in : MethodName := ⟨RX12, "in", "(JJJ)Z"⟩
abbrev cX12_finding : ByteArray := prog_14_method_4_code
def yX12_finding : MethodName := ⟨RX12, "finding", "(I)I"⟩
abbrev cX12_isRow : ByteArray := prog_14_method_5_code
def yX12_isRow : MethodName := ⟨RX12, "isRow", "(I)Z"⟩
abbrev cX12_row : ByteArray := prog_14_method_6_code
def yX12_row : MethodName := ⟨RX12, "row", "(III)I"⟩
abbrev cX12_set : ByteArray := prog_14_method_7_code
def yX12_set : MethodName := ⟨RX12, "set", "(III)I"⟩
abbrev cX12_copy : ByteArray := prog_14_method_8_code
def yX12_copy : MethodName := ⟨RX12, "copy", "(IIIII)I"⟩
abbrev cX12_drop : ByteArray := prog_14_method_9_code
def yX12_drop : MethodName := ⟨RX12, "drop", "(I)I"⟩
abbrev cX12_feed : ByteArray := prog_14_method_10_code
def yX12_feed : MethodName := ⟨RX12, "feed", "(I)I"⟩
abbrev cX12_bad : ByteArray := prog_14_method_11_code
def yX12_bad : MethodName := ⟨RX12, "bad", "(I)V"⟩
abbrev cX12_nextToken : ByteArray := prog_14_method_12_code
def yX12_nextToken : MethodName := ⟨RX12, "nextToken", "()V"⟩
abbrev cX12_must : ByteArray := prog_14_method_13_code
def yX12_must : MethodName := ⟨RX12, "must", "(Z)V"⟩
abbrev cX12_isLetter : ByteArray := prog_14_method_14_code
def yX12_isLetter : MethodName := ⟨RX12, "isLetter", "(I)Z"⟩
abbrev cX12_number : ByteArray := prog_14_method_15_code
def yX12_number : MethodName := ⟨RX12, "number", "(II)I"⟩
abbrev cX12_mustSign : ByteArray := prog_14_method_16_code
def yX12_mustSign : MethodName := ⟨RX12, "mustSign", "(I)V"⟩
abbrev cX12_begin : ByteArray := prog_14_method_17_code
def yX12_begin : MethodName := ⟨RX12, "begin", "()V"⟩
abbrev cX12_failed : ByteArray := prog_14_method_18_code
def yX12_failed : MethodName := ⟨RX12, "failed", "()Z"⟩
abbrev cX12_fault : ByteArray := prog_14_method_19_code
def yX12_fault : MethodName := ⟨RX12, "fault", "()I"⟩
abbrev cX12_kindBy : ByteArray := prog_14_method_20_code
def yX12_kindBy : MethodName := ⟨RX12, "kindBy", "(I)I"⟩
abbrev cX12_readThing : ByteArray := prog_14_method_21_code
def yX12_readThing : MethodName := ⟨RX12, "readThing", "()V"⟩
abbrev cX12_isTold : ByteArray := prog_14_method_22_code
def yX12_isTold : MethodName := ⟨RX12, "isTold", "([III)Z"⟩
abbrev cX12_readPair : ByteArray := prog_14_method_23_code
def yX12_readPair : MethodName := ⟨RX12, "readPair", "()V"⟩
abbrev cX12_town : ByteArray := prog_14_method_24_code
def yX12_town : MethodName := ⟨RX12, "town", "()I"⟩
abbrev cX12_isThere : ByteArray := prog_14_method_25_code
def yX12_isThere : MethodName := ⟨RX12, "isThere", "()Z"⟩
abbrev cX12_isThing : ByteArray := prog_14_method_26_code
def yX12_isThing : MethodName := ⟨RX12, "isThing", "(I)Z"⟩
abbrev cX12_areTwo : ByteArray := prog_14_method_27_code
def yX12_areTwo : MethodName := ⟨RX12, "areTwo", "(II)Z"⟩
abbrev cX12_of : ByteArray := prog_14_method_28_code
def yX12_of : MethodName := ⟨RX12, "of", "(II)I"⟩
abbrev cX12_isFar : ByteArray := prog_14_method_29_code
def yX12_isFar : MethodName := ⟨RX12, "isFar", "(I)Z"⟩
abbrev cX12_bits : ByteArray := prog_14_method_30_code
def yX12_bits : MethodName := ⟨RX12, "bits", "(I)I"⟩
abbrev cX12_lookOf : ByteArray := prog_14_method_31_code
def yX12_lookOf : MethodName := ⟨RX12, "lookOf", "(II)I"⟩
abbrev cX12_setOf : ByteArray := prog_14_method_32_code
def yX12_setOf : MethodName := ⟨RX12, "setOf", "(I)I"⟩
abbrev cX12_missingOn : ByteArray := prog_14_method_33_code
def yX12_missingOn : MethodName := ⟨RX12, "missingOn", "(I)I"⟩
abbrev cX12_harmBy : ByteArray := prog_14_method_34_code
def yX12_harmBy : MethodName := ⟨RX12, "harmBy", "(I)I"⟩
abbrev cX12_harmsOf : ByteArray := prog_14_method_35_code
def yX12_harmsOf : MethodName := ⟨RX12, "harmsOf", "(I)I"⟩
abbrev cX12_likeBy : ByteArray := prog_14_method_36_code
def yX12_likeBy : MethodName := ⟨RX12, "likeBy", "(II)I"⟩
abbrev cX12_keep : ByteArray := prog_14_method_37_code
def yX12_keep : MethodName := ⟨RX12, "keep", "()V"⟩
abbrev cX12_days : ByteArray := prog_14_method_38_code
def yX12_days : MethodName := ⟨RX12, "days", "(I)I"⟩
abbrev cX12_paint : ByteArray := prog_14_method_39_code
def yX12_paint : MethodName := ⟨RX12, "paint", "(II)I"⟩
abbrev cX12_miss : ByteArray := prog_14_method_40_code
def yX12_miss : MethodName := ⟨RX12, "miss", "(II)I"⟩
abbrev cX12_undo : ByteArray := prog_14_method_41_code
def yX12_undo : MethodName := ⟨RX12, "undo", "()I"⟩
abbrev cX12_thing : ByteArray := prog_14_method_42_code
def yX12_thing : MethodName := ⟨RX12, "thing", "(II)I"⟩
abbrev cX12_missing : ByteArray := prog_14_method_43_code
def yX12_missing : MethodName := ⟨RX12, "missing", "(I)I"⟩
abbrev cX12_pair : ByteArray := prog_14_method_44_code
def yX12_pair : MethodName := ⟨RX12, "pair", "(II)I"⟩
abbrev cX12_look : ByteArray := prog_14_method_45_code
def yX12_look : MethodName := ⟨RX12, "look", "(II)I"⟩
abbrev cX12_areAlike : ByteArray := prog_14_method_46_code
def yX12_areAlike : MethodName := ⟨RX12, "areAlike", "(III)Z"⟩
abbrev cX12_alike : ByteArray := prog_14_method_47_code
def yX12_alike : MethodName := ⟨RX12, "alike", "(III)I"⟩
abbrev cX12_like : ByteArray := prog_14_method_48_code
def yX12_like : MethodName := ⟨RX12, "like", "(II)I"⟩
abbrev cX12_looks : ByteArray := prog_14_method_49_code
def yX12_looks : MethodName := ⟨RX12, "looks", "(I)I"⟩
abbrev cX12_harm : ByteArray := prog_14_method_50_code
def yX12_harm : MethodName := ⟨RX12, "harm", "(I)I"⟩
abbrev cX12_harms : ByteArray := prog_14_method_51_code
def yX12_harms : MethodName := ⟨RX12, "harms", "(I)I"⟩
abbrev cX12_week : ByteArray := prog_14_method_52_code
def yX12_week : MethodName := ⟨RX12, "week", "(I)I"⟩
abbrev cX12_bestPaint : ByteArray := prog_14_method_53_code
def yX12_bestPaint : MethodName := ⟨RX12, "bestPaint", "(I)I"⟩
abbrev cX12_areApart : ByteArray := prog_14_method_54_code
def yX12_areApart : MethodName := ⟨RX12, "areApart", "(II)Z"⟩
abbrev cX12_areMixes : ByteArray := prog_14_method_55_code
def yX12_areMixes : MethodName := ⟨RX12, "areMixes", "(I)Z"⟩
abbrev cX12_dyes : ByteArray := prog_14_method_56_code
def yX12_dyes : MethodName := ⟨RX12, "dyes", "(II)I"⟩
abbrev cX12_thief : ByteArray := prog_14_method_57_code
def yX12_thief : MethodName := ⟨RX12, "thief", "(I)I"⟩
abbrev cX12_seen : ByteArray := prog_14_method_58_code
def yX12_seen : MethodName := ⟨RX12, "seen", "(II)I"⟩
abbrev cX12_follow : ByteArray := prog_14_method_59_code
def yX12_follow : MethodName := ⟨RX12, "follow", "(III)I"⟩
abbrev cX12_shelf : ByteArray := prog_14_method_60_code
def yX12_shelf : MethodName := ⟨RX12, "shelf", "(II)I"⟩
abbrev cX12_parted : ByteArray := prog_14_method_61_code
def yX12_parted : MethodName := ⟨RX12, "parted", "(III)I"⟩
abbrev cX12_merged : ByteArray := prog_14_method_62_code
def yX12_merged : MethodName := ⟨RX12, "merged", "(II)I"⟩
abbrev cX12_toldBy : ByteArray := prog_14_method_63_code
def yX12_toldBy : MethodName := ⟨RX12, "toldBy", "(II)I"⟩
abbrev cX12_tests : ByteArray := prog_14_method_64_code
def yX12_tests : MethodName := ⟨RX12, "tests", "(IIII)I"⟩
abbrev cX12_bet : ByteArray := prog_14_method_65_code
def yX12_bet : MethodName := ⟨RX12, "bet", "(III)J"⟩
abbrev cX12_year : ByteArray := prog_14_method_66_code
def yX12_year : MethodName := ⟨RX12, "year", "(III)I"⟩
abbrev cX12_image : ByteArray := prog_14_method_67_code
def yX12_image : MethodName := ⟨RX12, "image", "(I)I"⟩
abbrev cX12_restore : ByteArray := prog_14_method_68_code
def yX12_restore : MethodName := ⟨RX12, "restore", "(I)I"⟩
abbrev cX12_isOf : ByteArray := prog_14_method_69_code
def yX12_isOf : MethodName := ⟨RX12, "isOf", "(II)Z"⟩
abbrev cX12_kind : ByteArray := prog_14_method_70_code
def yX12_kind : MethodName := ⟨RX12, "kind", "(I)I"⟩
abbrev cX12_as : ByteArray := prog_14_method_71_code
def yX12_as : MethodName := ⟨RX12, "as", "(II)I"⟩
abbrev cX12_began : ByteArray := prog_14_method_72_code
def yX12_began : MethodName := ⟨RX12, "began", "(I)V"⟩
abbrev cX12_plainSize : ByteArray := prog_14_method_73_code
def yX12_plainSize : MethodName := ⟨RX12, "plainSize", "(I)I"⟩
abbrev cX12_inkSize : ByteArray := prog_14_method_74_code
def yX12_inkSize : MethodName := ⟨RX12, "inkSize", "(I)I"⟩
abbrev cX12_markOf : ByteArray := prog_14_method_75_code
def yX12_markOf : MethodName := ⟨RX12, "markOf", "(I)I"⟩
abbrev cX12_sizeOf : ByteArray := prog_14_method_76_code
def yX12_sizeOf : MethodName := ⟨RX12, "sizeOf", "(I)I"⟩
abbrev cX12_ask : ByteArray := prog_14_method_77_code
def yX12_ask : MethodName := ⟨RX12, "ask", "(II)I"⟩
abbrev cX12_trace : ByteArray := prog_14_method_78_code
def yX12_trace : MethodName := ⟨RX12, "trace", "(I)I"⟩
abbrev cX12_count : ByteArray := prog_14_method_79_code
def yX12_count : MethodName := ⟨RX12, "count", "(I)I"⟩
abbrev cX12_status : ByteArray := prog_14_method_80_code
def yX12_status : MethodName := ⟨RX12, "status", "()I"⟩
def RJ6 : String := "java/lang/Integer"
def TJ6 : u_T := fun k => match k with
  | _ => ("", "", "", false)
def tyJ6 : Nat → FieldType := fun k => match k with
  | _ => .int
abbrev wsJ60 : List Cond := u_ws RJ6 TJ6 0
theorem nmJ6 : ∀ a, a < 0 → ∀ b, b < 0 → a ≠ b → (TJ6 a).2.1 ≠ (TJ6 b).2.1 := by decide +kernel
theorem tyJ6_ok : ∀ k, k < 0 → parseFieldDescriptor (TJ6 k).2.2.1 = some (tyJ6 k) := by decide +kernel
abbrev cJ6_bitCount_0f7a4 : ByteArray := prog_15_method_49_code
def yJ6_bitCount_0f7a4 : MethodName := ⟨RJ6, "bitCount", "(I)I"⟩
def RJ10 : String := "java/lang/System"
def TJ10 : u_T := fun k => match k with
  | _ => ("", "", "", false)
def tyJ10 : Nat → FieldType := fun k => match k with
  | _ => .int
abbrev wsJ100 : List Cond := u_ws RJ10 TJ10 0
theorem nmJ10 : ∀ a, a < 0 → ∀ b, b < 0 → a ≠ b → (TJ10 a).2.1 ≠ (TJ10 b).2.1 := by decide +kernel
theorem tyJ10_ok : ∀ k, k < 0 → parseFieldDescriptor (TJ10 k).2.2.1 = some (tyJ10 k) := by decide +kernel
def RJ7 : String := "java/util/Arrays"
def TJ7 : u_T := fun k => match k with
  | _ => ("", "", "", false)
def tyJ7 : Nat → FieldType := fun k => match k with
  | _ => .int
abbrev wsJ70 : List Cond := u_ws RJ7 TJ7 0
theorem nmJ7 : ∀ a, a < 0 → ∀ b, b < 0 → a ≠ b → (TJ7 a).2.1 ≠ (TJ7 b).2.1 := by decide +kernel
theorem tyJ7_ok : ∀ k, k < 0 → parseFieldDescriptor (TJ7 k).2.2.1 = some (tyJ7 k) := by decide +kernel
abbrev cJ7_fill_53178 : ByteArray := prog_17_method_103_code
def yJ7_fill_53178 : MethodName := ⟨RJ7, "fill", "([II)V"⟩
def RL : String := "GreyDaysLaw"
abbrev cL_law : ByteArray := code
def yL_law : MethodName := ⟨RL, "law", "([I)Z"⟩
abbrev vwCl : List vw_C := [(RX0, TX0, 3), (RX1, TX1, 3), (RX2, TX2, 3), (RX3, TX3, 3), (RX4, TX4, 3), (RX5, TX5, 3), (RX6, TX6, 3), (RX7, TX7, 5), (RX9, TX9, 12), (RX10, TX10, 3), (RX11, TX11, 8), (RX12, TX12, 24)]
theorem pj_mem {ws : List Cond} (ps : List Nat) (hp : ws = ps.filterMap (fun i => lw_tbl[i]?)) : ∀ w ∈ ws, w ∈ lw_tbl := by
  intro w hw
  rw [hp] at hw
  obtain ⟨i, -, hi⟩ := List.mem_filterMap.mp hw
  exact List.mem_of_getElem? hi
theorem pj_inX0 : ∀ w ∈ u_ws RX0 TX0 3, w ∈ lw_tbl := pj_mem [155, 157, 159] (by decide +kernel)
theorem pj_inX1 : ∀ w ∈ u_ws RX1 TX1 3, w ∈ lw_tbl := pj_mem [434, 435, 436] (by decide +kernel)
theorem pj_inX2 : ∀ w ∈ u_ws RX2 TX2 3, w ∈ lw_tbl := pj_mem [427, 428, 429] (by decide +kernel)
theorem pj_inX3 : ∀ w ∈ u_ws RX3 TX3 3, w ∈ lw_tbl := pj_mem [139, 141, 143] (by decide +kernel)
theorem pj_inX4 : ∀ w ∈ u_ws RX4 TX4 3, w ∈ lw_tbl := pj_mem [417, 418, 419] (by decide +kernel)
theorem pj_inX5 : ∀ w ∈ u_ws RX5 TX5 3, w ∈ lw_tbl := pj_mem [100, 102, 104] (by decide +kernel)
theorem pj_inX6 : ∀ w ∈ u_ws RX6 TX6 3, w ∈ lw_tbl := pj_mem [407, 408, 409] (by decide +kernel)
theorem pj_inX7 : ∀ w ∈ u_ws RX7 TX7 5, w ∈ lw_tbl := pj_mem [119, 121, 123, 125, 127] (by decide +kernel)
theorem pj_inX9 : ∀ w ∈ u_ws RX9 TX9 12, w ∈ lw_tbl := pj_mem [304, 306, 308, 310, 312, 314, 316, 318, 320, 322, 324, 326] (by decide +kernel)
theorem pj_inX10 : ∀ w ∈ u_ws RX10 TX10 3, w ∈ lw_tbl := pj_mem [394, 396, 398] (by decide +kernel)
theorem pj_inX11 : ∀ w ∈ u_ws RX11 TX11 8, w ∈ lw_tbl := pj_mem [172, 174, 176, 178, 180, 182, 184, 186] (by decide +kernel)
theorem pj_inX12 : ∀ w ∈ u_ws RX12 TX12 24, w ∈ lw_tbl := pj_mem [1082, 1084, 1086, 1088, 1090, 1092, 1094, 1096, 1098, 1100, 1102, 1104, 1106, 1108, 1110, 1112, 1114, 1116, 1118, 1120, 1122, 1124, 1126, 1128] (by decide +kernel)
end
section
/-! ===== the pure layer: a heap is a function from addresses to cells; V: from this point the method ends with Q; Ct: a method's contract ===== -/
abbrev pj_C : Type := (Nat × vp_A) ⊕ (Nat × List Value)
abbrev pj_H : Type := Nat → Option pj_C
abbrev pj_E : Type := va_G × (Nat → ClassId)
abbrev pj_Y : Type := MethodName × ByteArray × Nat × Option FieldType
def pj_e (E : pj_E) (c : pj_C) : va_E := match c with
  | .inl q => .inl (E.2 q.1, q.2)
  | .inr x => .inr x
def pj_tys (E : pj_E) : List (ClassId × FieldType) := [(E.2 0, .int), (E.2 1, .boolean), (E.2 2, .object "GreyDays$Thing"), (E.2 3, .object "GreyDays$Town"), (E.2 4, .array .int)]
def pj_ncs : List (String × String) := [("GreyDays$Twin", "GreyDays$Ink"), ("GreyDays$Shining", "GreyDays$Ink"), ("GreyDays$Dyed", "GreyDays$Ink"), ("GreyDays$Ink", "GreyDays$Dyed"), ("GreyDays$Faded", "GreyDays$Dyed"), ("GreyDays$Shining", "GreyDays$Twin"), ("GreyDays$Ink", "GreyDays$Twin"), ("GreyDays$Faded", "GreyDays$Twin"), ("GreyDays$Dyed", "GreyDays$Twin"), ("GreyDays$Twin", "GreyDays$Shining"), ("GreyDays$Ink", "GreyDays$Shining"), ("GreyDays$Faded", "GreyDays$Shining"), ("GreyDays$Dyed", "GreyDays$Shining"), ("GreyDays$Twin", "GreyDays$Faded"), ("GreyDays$Shining", "GreyDays$Faded"), ("GreyDays$Ink", "GreyDays$Faded"), ("GreyDays$Dyed", "GreyDays$Faded")]
def pj_WF (E : pj_E) (U : State) : Prop := va_K E.1 vwCl (pj_tys E) U ∧ ∀ q ∈ pj_ncs, va_Nc q.1 q.2 U
def pj_HR (E : pj_E) (B : Nat) (h : pj_H) (n : Nat) (H : Heap) : Prop := H.size = n ∧ ∀ (a : Nat) (c : pj_C), h a = some c → B ≤ a ∧ va_at E.1 vwCl (a, pj_e E c) H
def pj_up (h : pj_H) (a : Nat) (c : pj_C) : pj_H := fun q => if q = a then some c else h q
theorem pj_up_s {h : pj_H} {a : Nat} {c : pj_C} : pj_up h a c a = some c := if_pos rfl
theorem pj_up_n {h : pj_H} {a q : Nat} {c : pj_C} (hq : q ≠ a) : pj_up h a c q = h q := if_neg hq
def pj_rm (d mc ms : Nat) : Room := { frames := d, cells := mc, slots := ms, locals := 64 * d }
def pj_Qc (E : pj_E) (B : Nat) (Q : Option Value → pj_H → Nat → Prop) : Array Value → State → Outcome → State → Prop := fun _ st oc t =>
  (∃ (r : Option Value) (h : pj_H) (n : Nat), oc = .returned r ∧ Q r h n ∧ pj_HR E B h n t.heap) ∧ va_F (fun q => B ≤ q) st t
def pj_Pc (E : pj_E) (B : Nat) (av : List Value) (h : pj_H) (n : Nat) : Array Value → State → Prop := fun v U => v = av.toArray ∧ pj_WF E U ∧ pj_HR E B h n U.heap
def pj_Ct (E : pj_E) (B : Nat) (l : Launch) (Y : pj_Y) (d mc ms : Nat) (av : List Value) (h : pj_H) (n : Nat) (Q : Option Value → pj_H → Nat → Prop) : Prop :=
  Met l Y.1 (Cond.code Y.1 Y.2.1 Y.2.2.1 Y.2.2.2 :: lw_tbl) (pj_rm d mc ms) (pj_Pc E B av h n) (pj_Qc E B Q) mc ms (fun q => B ≤ q)
def pj_as : Nat → List (Option Value) → List (Nat × Value)
  | _, [] => []
  | i, some v :: l => (i, v) :: pj_as (i + 1) l
  | i, none :: l => pj_as (i + 1) l
theorem pj_as_mem : ∀ (l : List (Option Value)) (i j : Nat) (v : Value), (j, v) ∈ pj_as i l ↔ ∃ k, j = i + k ∧ l[k]? = some (some v)
  | [], i, j, v => by simp [pj_as]
  | some u :: l, i, j, v => by
    rw [pj_as, List.mem_cons, pj_as_mem l (i + 1) j v]
    constructor
    · rintro (h | ⟨k, h1, h2⟩)
      · cases h
        exact ⟨0, by omega, by simp⟩
      · exact ⟨k + 1, by omega, by simpa using h2⟩
    · rintro ⟨k, h1, h2⟩
      cases k with
      | zero => left; simp at h2; subst h2; simp at h1; rw [h1]
      | succ k => right; exact ⟨k, by omega, by simpa using h2⟩
  | none :: l, i, j, v => by
    rw [pj_as, pj_as_mem l (i + 1) j v]
    constructor
    · rintro ⟨k, h1, h2⟩
      exact ⟨k + 1, by omega, by simpa using h2⟩
    · rintro ⟨k, h1, h2⟩
      cases k with
      | zero => simp at h2
      | succ k => exact ⟨k, by omega, by simpa using h2⟩
def pj_L (la : Array Slot) (nL : Nat) (ls : List (Option Value)) : Prop := lv_has la nL (pj_as 0 ls) ∧ ls.length = nL
theorem pj_L.at {la : Array Slot} {nL : Nat} {ls : List (Option Value)} (h : pj_L la nL ls) {i : Nat} {v : Value} (hi : ls[i]? = some (some v)) : la[i]? = some (.val v) := h.1.2.2 (i, v) ((pj_as_mem ls 0 i v).mpr ⟨i, by omega, hi⟩)
def pj_V (E : pj_E) (B : Nat) (l : Launch) (Y : pj_Y) (d mc ms pc : Nat) (ls : List (Option Value)) (st : List Value) (h : pj_H) (n ce sl : Nat) (Q : Option Value → pj_H → Nat → Prop) : Prop :=
  ∀ (p : Program) (e : Env) (s : State) (m : MethodId) (args : Array Value) (below : List Frame) (meth : Method) (c : Code) (H : Heap) (locs : List Loc) (la : Array Slot),
    CallFix p m c Y.2.1 Y.2.2.1 s args lw_tbl Y.1.cls → meth.sig.returnType = Y.2.2.2 → meth.locks = false → meth.name = Y.1.name → pj_WF E s → pj_HR E B h n H → va_S (fun q => B ≤ q) s.heap H locs → pj_L la Y.2.2.1 ls →
    W p l e (pj_rm d mc ms) s m args below meth c H locs ce sl (MQ below (pj_Qc E B Q) args s mc ms (fun q => B ≤ q)) (F0 m pc la st)
theorem pj_WF.moved {E : pj_E} {u U : State} (hvm : u.vm.Alike U.vm) (h : pj_WF E u) : pj_WF E U := ⟨h.1.moved hvm, fun q hq => (h.2 q hq).moved hvm⟩
theorem pj_Pc_blind (E : pj_E) (B : Nat) (av : List Value) (h : pj_H) (n : Nat) : FrameBlind (pj_Pc E B av h n) := by
  intro a U g mk q
  obtain ⟨q0, q1, q2⟩ := q
  exact ⟨q0, pj_WF.moved (u := U) (U := U.calling g mk a) (Vm.Alike.refl U.vm) q1, q2⟩

/-! words that keep -/
theorem pj_aoA {t : FieldType} {u U : State} {A A' : Array Value} (hvm : u.vm.Alike U.vm) (h : (Cond.arrayOver (.array t)).before A u = true) : (Cond.arrayOver (.array t)).before A' U = true := by
  obtain ⟨comp, c, k, h1, h2, h3, h4, h5⟩ := arrayOverA_spec h
  obtain ⟨k', hk', he⟩ := hvm.2.2 _ _ h3
  have hi : (U.vm.classes.findIdx? fun (x : Class) => match x.kind with | .array component _ => component == comp | _ => false) = some c := by
    have e1 := va_idx_bare U.vm comp
    have e2 := va_idx_bare u.vm comp
    have e3 : U.vm.bare = u.vm.bare := by first | exact hvm.bare_eq | exact hvm.bare_eq.symm
    rw [e3] at e1
    exact e1.symm.trans (e2.trans h2)
  have hkind : k'.kind = .array comp (.array t) := by rw [he]; exact h4
  have f1 : U.vm.findClass (FieldType.array t).toString = some comp := by rw [hvm.findClass]; exact h1
  have f2 : U.vm.findClass ("[" ++ (FieldType.array t).toString) = some c := by rw [hvm.findClass]; exact h5
  unfold Cond.before Cond.holds
  simp only [Cond.value]
  rw [f1, Option.bind_some]
  refine (congrArg (fun o : Option Nat => (o.bind (fun c => (U.vm.classes[c]?).map fun (k : Class) => match k.kind with | .array _ ty => decide (ty = FieldType.array t) && decide (U.vm.findClass ("[" ++ (FieldType.array t).toString) = some c) | _ => false) == some true)) hi).trans ?_
  simp [hk', hkind, f2]
def pj_good : Cond → Bool
  | .methodLinkNest .. => true
  | .arrayOver (.object _) => true
  | .arrayOver (.array _) => true
  | w => goodWord w || (w.faceAtom && w.onTables)
theorem pj_warm {args a' : Array Value} {s U : State} (hW : s.WarmedH U.vm) {w : Cond} (hg : pj_good w = true) (h : w.before args s = true) : w.before a' U = true := by
  have key : (goodWord w || (w.faceAtom && w.onTables)) = true → w.before a' U = true := by
    intro hk
    rcases Bool.or_eq_true_iff.mp hk with hk | hk
    · exact word_at hW (good_of_word hk) h
    · rw [Bool.and_eq_true] at hk
      exact va_tabs (u := s.setVm U.vm) hk.2 rfl (Cond.faceAtom_setVm hW.alike w hk.1 h)
  cases w with
  | methodLinkNest a i x hh => exact va_tabs (u := s.setVm U.vm) rfl rfl (Cond.methodLinkNest_warmed (args := args) hW h)
  | arrayOver ty =>
    cases ty with
    | object C => exact va_AO.use (va_AO.moved hW.alike (va_AO.of h))
    | array t => exact pj_aoA hW.alike h
    | _ => exact key hg
  | _ => exact key hg
theorem pj_all : lw_tbl.all pj_good = true := by decide +kernel
theorem pj_words {Y : pj_Y} {args : Array Value} {s : State} (hts : ∀ w ∈ lw_tbl, w.before args s = true) (hc : Cond.code Y.1 Y.2.1 Y.2.2.1 Y.2.2.2 ∈ lw_tbl) : ∀ w ∈ (Cond.code Y.1 Y.2.1 Y.2.2.1 Y.2.2.2 :: lw_tbl), ∀ (a' : Array Value) (U : State), s.WarmedH U.vm → w.before a' U = true := by
  intro w hw a' U hW
  have hm : w ∈ lw_tbl := by
    rcases List.mem_cons.mp hw with rfl | h
    · exact hc
    · exact h
  exact pj_warm hW (List.all_eq_true.mp pj_all w hm) (hts w hm)
/-! ===== the method's table of instructions ===== -/
def pj_tab (cc : ByteArray) (P : List (Nat × Instr × Nat)) : Bool := P.all fun q => decide (decode cc q.1 = .ok (q.2.1, q.2.2))
theorem pj_d {cc : ByteArray} {P : List (Nat × Instr × Nat)} (h : pj_tab cc P = true) (i : Nat) {pc len : Nat} {ins : Instr} (hi : P[i]? = some (pc, ins, len)) : decode cc pc = .ok (ins, len) := by
  have := List.all_eq_true.mp h _ (List.mem_of_getElem? hi)
  exact of_decide_eq_true this
section PJR
variable {E : pj_E} {B : Nat} {l : Launch} {Y : pj_Y} {d mc ms pc q : Nat} {ls : List (Option Value)} {st : List Value} {h : pj_H} {n ce sl : Nat} {Q : Option Value → pj_H → Nat → Prop}

theorem pj_iadd {x y : Int32} (hd : decode Y.2.1 pc = .ok (.iadd, 1)) (hq : pc + 1 = q)  (kk : pj_V E B l Y d mc ms q ls (.int (x + y) :: st) h n ce sl Q) : pj_V E B l Y d mc ms pc ls (.int y :: .int x :: st) h n ce sl Q := by
  subst hq
  intro p e s m args below meth c H locs la S hr hk hn hW hH hS hL
  exact lv_iadd S.1 S.2.1 hd  (kk p e s m args below meth c H locs la S hr hk hn hW hH hS hL)
theorem pj_isub {x y : Int32} (hd : decode Y.2.1 pc = .ok (.isub, 1)) (hq : pc + 1 = q)  (kk : pj_V E B l Y d mc ms q ls (.int (x - y) :: st) h n ce sl Q) : pj_V E B l Y d mc ms pc ls (.int y :: .int x :: st) h n ce sl Q := by
  subst hq
  intro p e s m args below meth c H locs la S hr hk hn hW hH hS hL
  exact lv_isub S.1 S.2.1 hd  (kk p e s m args below meth c H locs la S hr hk hn hW hH hS hL)
theorem pj_imul {x y : Int32} (hd : decode Y.2.1 pc = .ok (.imul, 1)) (hq : pc + 1 = q)  (kk : pj_V E B l Y d mc ms q ls (.int (x * y) :: st) h n ce sl Q) : pj_V E B l Y d mc ms pc ls (.int y :: .int x :: st) h n ce sl Q := by
  subst hq
  intro p e s m args below meth c H locs la S hr hk hn hW hH hS hL
  exact lv_imul S.1 S.2.1 hd  (kk p e s m args below meth c H locs la S hr hk hn hW hH hS hL)
theorem pj_iand {x y : Int32} (hd : decode Y.2.1 pc = .ok (.iand, 1)) (hq : pc + 1 = q)  (kk : pj_V E B l Y d mc ms q ls (.int (x &&& y) :: st) h n ce sl Q) : pj_V E B l Y d mc ms pc ls (.int y :: .int x :: st) h n ce sl Q := by
  subst hq
  intro p e s m args below meth c H locs la S hr hk hn hW hH hS hL
  exact lv_iand S.1 S.2.1 hd  (kk p e s m args below meth c H locs la S hr hk hn hW hH hS hL)
theorem pj_ior {x y : Int32} (hd : decode Y.2.1 pc = .ok (.ior, 1)) (hq : pc + 1 = q)  (kk : pj_V E B l Y d mc ms q ls (.int (x ||| y) :: st) h n ce sl Q) : pj_V E B l Y d mc ms pc ls (.int y :: .int x :: st) h n ce sl Q := by
  subst hq
  intro p e s m args below meth c H locs la S hr hk hn hW hH hS hL
  exact lv_ior S.1 S.2.1 hd  (kk p e s m args below meth c H locs la S hr hk hn hW hH hS hL)
theorem pj_ixor {x y : Int32} (hd : decode Y.2.1 pc = .ok (.ixor, 1)) (hq : pc + 1 = q)  (kk : pj_V E B l Y d mc ms q ls (.int (x ^^^ y) :: st) h n ce sl Q) : pj_V E B l Y d mc ms pc ls (.int y :: .int x :: st) h n ce sl Q := by
  subst hq
  intro p e s m args below meth c H locs la S hr hk hn hW hH hS hL
  exact lv_ixor S.1 S.2.1 hd  (kk p e s m args below meth c H locs la S hr hk hn hW hH hS hL)
theorem pj_ishl {x y : Int32} (hd : decode Y.2.1 pc = .ok (.ishl, 1)) (hq : pc + 1 = q)  (kk : pj_V E B l Y d mc ms q ls (.int (x <<< (y &&& 31)) :: st) h n ce sl Q) : pj_V E B l Y d mc ms pc ls (.int y :: .int x :: st) h n ce sl Q := by
  subst hq
  intro p e s m args below meth c H locs la S hr hk hn hW hH hS hL
  exact lv_ishl S.1 S.2.1 hd  (kk p e s m args below meth c H locs la S hr hk hn hW hH hS hL)
theorem pj_ishr {x y : Int32} (hd : decode Y.2.1 pc = .ok (.ishr, 1)) (hq : pc + 1 = q)  (kk : pj_V E B l Y d mc ms q ls (.int (x >>> (y &&& 31)) :: st) h n ce sl Q) : pj_V E B l Y d mc ms pc ls (.int y :: .int x :: st) h n ce sl Q := by
  subst hq
  intro p e s m args below meth c H locs la S hr hk hn hW hH hS hL
  exact lv_ishr S.1 S.2.1 hd  (kk p e s m args below meth c H locs la S hr hk hn hW hH hS hL)
theorem pj_iushr {x y : Int32} (hd : decode Y.2.1 pc = .ok (.iushr, 1)) (hq : pc + 1 = q)  (kk : pj_V E B l Y d mc ms q ls (.int (x.toUInt32 >>> (y.toUInt32 &&& Int32.toUInt32 31)).toInt32 :: st) h n ce sl Q) : pj_V E B l Y d mc ms pc ls (.int y :: .int x :: st) h n ce sl Q := by
  subst hq
  intro p e s m args below meth c H locs la S hr hk hn hW hH hS hL
  exact lv_iushr S.1 S.2.1 hd rfl (kk p e s m args below meth c H locs la S hr hk hn hW hH hS hL)
theorem pj_ladd {x y : Int64} (hd : decode Y.2.1 pc = .ok (.ladd, 1)) (hq : pc + 1 = q)  (kk : pj_V E B l Y d mc ms q ls (.long (x + y) :: st) h n ce sl Q) : pj_V E B l Y d mc ms pc ls (.long y :: .long x :: st) h n ce sl Q := by
  subst hq
  intro p e s m args below meth c H locs la S hr hk hn hW hH hS hL
  exact lv_ladd S.1 S.2.1 hd  (kk p e s m args below meth c H locs la S hr hk hn hW hH hS hL)
theorem pj_lsub {x y : Int64} (hd : decode Y.2.1 pc = .ok (.lsub, 1)) (hq : pc + 1 = q)  (kk : pj_V E B l Y d mc ms q ls (.long (x - y) :: st) h n ce sl Q) : pj_V E B l Y d mc ms pc ls (.long y :: .long x :: st) h n ce sl Q := by
  subst hq
  intro p e s m args below meth c H locs la S hr hk hn hW hH hS hL
  exact lv_lsub S.1 S.2.1 hd  (kk p e s m args below meth c H locs la S hr hk hn hW hH hS hL)
theorem pj_lmul {x y : Int64} (hd : decode Y.2.1 pc = .ok (.lmul, 1)) (hq : pc + 1 = q)  (kk : pj_V E B l Y d mc ms q ls (.long (x * y) :: st) h n ce sl Q) : pj_V E B l Y d mc ms pc ls (.long y :: .long x :: st) h n ce sl Q := by
  subst hq
  intro p e s m args below meth c H locs la S hr hk hn hW hH hS hL
  exact lv_lmul S.1 S.2.1 hd  (kk p e s m args below meth c H locs la S hr hk hn hW hH hS hL)
theorem pj_ineg {x : Int32} (hd : decode Y.2.1 pc = .ok (.ineg, 1)) (hq : pc + 1 = q)  (kk : pj_V E B l Y d mc ms q ls (.int (-x) :: st) h n ce sl Q) : pj_V E B l Y d mc ms pc ls (.int x :: st) h n ce sl Q := by
  subst hq
  intro p e s m args below meth c H locs la S hr hk hn hW hH hS hL
  exact lv_ineg S.1 S.2.1 hd  (kk p e s m args below meth c H locs la S hr hk hn hW hH hS hL)
theorem pj_irem {x y : Int32} (hd : decode Y.2.1 pc = .ok (.irem, 1)) (hq : pc + 1 = q) (h0 : ¬ y = 0) (kk : pj_V E B l Y d mc ms q ls (.int (x - x / y * y) :: st) h n ce sl Q) : pj_V E B l Y d mc ms pc ls (.int y :: .int x :: st) h n ce sl Q := by
  subst hq
  intro p e s m args below meth c H locs la S hr hk hn hW hH hS hL
  exact lv_irem S.1 S.2.1 hd h0 (kk p e s m args below meth c H locs la S hr hk hn hW hH hS hL)
theorem pj_ldiv {x y : Int64} (hd : decode Y.2.1 pc = .ok (.ldiv, 1)) (hq : pc + 1 = q) (h0 : ¬ y = 0) (kk : pj_V E B l Y d mc ms q ls (.long (x / y) :: st) h n ce sl Q) : pj_V E B l Y d mc ms pc ls (.long y :: .long x :: st) h n ce sl Q := by
  subst hq
  intro p e s m args below meth c H locs la S hr hk hn hW hH hS hL
  exact lv_ldiv S.1 S.2.1 hd h0 (kk p e s m args below meth c H locs la S hr hk hn hW hH hS hL)
theorem pj_lrem {x y : Int64} (hd : decode Y.2.1 pc = .ok (.lrem, 1)) (hq : pc + 1 = q) (h0 : ¬ y = 0) (kk : pj_V E B l Y d mc ms q ls (.long (x - x / y * y) :: st) h n ce sl Q) : pj_V E B l Y d mc ms pc ls (.long y :: .long x :: st) h n ce sl Q := by
  subst hq
  intro p e s m args below meth c H locs la S hr hk hn hW hH hS hL
  exact lv_lrem S.1 S.2.1 hd h0 (kk p e s m args below meth c H locs la S hr hk hn hW hH hS hL)
theorem pj_lcmp {x y : Int64} (hd : decode Y.2.1 pc = .ok (.lcmp, 1)) (hq : pc + 1 = q)  (kk : pj_V E B l Y d mc ms q ls (.int (lg_cmp x y) :: st) h n ce sl Q) : pj_V E B l Y d mc ms pc ls (.long y :: .long x :: st) h n ce sl Q := by
  subst hq
  intro p e s m args below meth c H locs la S hr hk hn hW hH hS hL
  exact W.lcmp S.1 S.2.1 hd  (kk p e s m args below meth c H locs la S hr hk hn hW hH hS hL)
theorem pj_i2l {x : Int32} (hd : decode Y.2.1 pc = .ok (.i2l, 1)) (hq : pc + 1 = q)  (kk : pj_V E B l Y d mc ms q ls (.long x.toInt64 :: st) h n ce sl Q) : pj_V E B l Y d mc ms pc ls (.int x :: st) h n ce sl Q := by
  subst hq
  intro p e s m args below meth c H locs la S hr hk hn hW hH hS hL
  exact lv_i2l S.1 S.2.1 hd rfl (kk p e s m args below meth c H locs la S hr hk hn hW hH hS hL)
theorem pj_l2i {x : Int64} (hd : decode Y.2.1 pc = .ok (.l2i, 1)) (hq : pc + 1 = q)  (kk : pj_V E B l Y d mc ms q ls (.int x.toInt32 :: st) h n ce sl Q) : pj_V E B l Y d mc ms pc ls (.long x :: st) h n ce sl Q := by
  subst hq
  intro p e s m args below meth c H locs la S hr hk hn hW hH hS hL
  exact lv_l2i S.1 S.2.1 hd rfl (kk p e s m args below meth c H locs la S hr hk hn hW hH hS hL)
theorem pj_i2b {x : Int32} (hd : decode Y.2.1 pc = .ok (.i2b, 1)) (hq : pc + 1 = q)  (kk : pj_V E B l Y d mc ms q ls (.int x.toInt8.toInt32 :: st) h n ce sl Q) : pj_V E B l Y d mc ms pc ls (.int x :: st) h n ce sl Q := by
  subst hq
  intro p e s m args below meth c H locs la S hr hk hn hW hH hS hL
  exact lv_i2b S.1 S.2.1 hd rfl (kk p e s m args below meth c H locs la S hr hk hn hW hH hS hL)
theorem pj_i2s {x : Int32} (hd : decode Y.2.1 pc = .ok (.i2s, 1)) (hq : pc + 1 = q)  (kk : pj_V E B l Y d mc ms q ls (.int x.toInt16.toInt32 :: st) h n ce sl Q) : pj_V E B l Y d mc ms pc ls (.int x :: st) h n ce sl Q := by
  subst hq
  intro p e s m args below meth c H locs la S hr hk hn hW hH hS hL
  exact lv_i2s S.1 S.2.1 hd rfl (kk p e s m args below meth c H locs la S hr hk hn hW hH hS hL)
theorem pj_iconst {k : Int} {v : Int32} (hd : decode Y.2.1 pc = .ok (.iconst k, 1)) (hq : pc + 1 = q) (hv : Int32.ofInt k = v) (kk : pj_V E B l Y d mc ms q ls (.int v :: st) h n ce sl Q) : pj_V E B l Y d mc ms pc ls st h n ce sl Q := by
  subst hq
  intro p e s m args below meth c H locs la S hr hk hn hW hH hS hL
  exact lv_iconst S.1 S.2.1 hd hv (kk p e s m args below meth c H locs la S hr hk hn hW hH hS hL)
theorem pj_bipush {k : Int} {v : Int32} (hd : decode Y.2.1 pc = .ok (.bipush k, 2)) (hq : pc + 2 = q) (hv : (Int8.ofInt k).toInt32 = v) (kk : pj_V E B l Y d mc ms q ls (.int v :: st) h n ce sl Q) : pj_V E B l Y d mc ms pc ls st h n ce sl Q := by
  subst hq
  intro p e s m args below meth c H locs la S hr hk hn hW hH hS hL
  exact lv_bipush S.1 S.2.1 hd hv (kk p e s m args below meth c H locs la S hr hk hn hW hH hS hL)
theorem pj_sipush {k : Int} {v : Int32} (hd : decode Y.2.1 pc = .ok (.sipush k, 3)) (hq : pc + 3 = q) (hv : (Int16.ofInt k).toInt32 = v) (kk : pj_V E B l Y d mc ms q ls (.int v :: st) h n ce sl Q) : pj_V E B l Y d mc ms pc ls st h n ce sl Q := by
  subst hq
  intro p e s m args below meth c H locs la S hr hk hn hW hH hS hL
  exact lv_sipush S.1 S.2.1 hd hv (kk p e s m args below meth c H locs la S hr hk hn hW hH hS hL)
theorem pj_lconst {k : Fin 2} {v : Int64} (hd : decode Y.2.1 pc = .ok (.lconst k, 1)) (hq : pc + 1 = q) (hv : Int64.ofNat (k : Nat) = v) (kk : pj_V E B l Y d mc ms q ls (.long v :: st) h n ce sl Q) : pj_V E B l Y d mc ms pc ls st h n ce sl Q := by
  subst hq
  intro p e s m args below meth c H locs la S hr hk hn hW hH hS hL
  exact lv_lconst S.1 S.2.1 hd hv (kk p e s m args below meth c H locs la S hr hk hn hW hH hS hL)
theorem pj_dup {v : Value} (hd : decode Y.2.1 pc = .ok (.dup, 1)) (hq : pc + 1 = q) (hv : v.category = 1) (kk : pj_V E B l Y d mc ms q ls (v :: v :: st) h n ce sl Q) : pj_V E B l Y d mc ms pc ls (v :: st) h n ce sl Q := by
  subst hq
  intro p e s m args below meth c H locs la S hr hk hn hW hH hS hL
  exact lv_dup S.1 S.2.1 hd hv (kk p e s m args below meth c H locs la S hr hk hn hW hH hS hL)
theorem pj_null  (hd : decode Y.2.1 pc = .ok (.aconst_null, 1)) (hq : pc + 1 = q)  (kk : pj_V E B l Y d mc ms q ls (.null :: st) h n ce sl Q) : pj_V E B l Y d mc ms pc ls st h n ce sl Q := by
  subst hq
  intro p e s m args below meth c H locs la S hr hk hn hW hH hS hL
  exact lv_null S.1 S.2.1 hd  (kk p e s m args below meth c H locs la S hr hk hn hW hH hS hL)
theorem pj_dup2 {v u : Value} (hd : decode Y.2.1 pc = .ok (.dup2, 1)) (hq : pc + 1 = q) (hv : v.category = 1) (hu : u.category = 1) (kk : pj_V E B l Y d mc ms q ls (v :: u :: v :: u :: st) h n ce sl Q) : pj_V E B l Y d mc ms pc ls (v :: u :: st) h n ce sl Q := by
  subst hq
  intro p e s m args below meth c H locs la S hr hk hn hW hH hS hL
  exact lv_dup2_11 S.1 S.2.1 hd hv hu (kk p e s m args below meth c H locs la S hr hk hn hW hH hS hL)
theorem pj_ldc {i : Nat} {v : Int32} (hd : decode Y.2.1 pc = .ok (.ldc i, 2)) (hq : pc + 2 = q) (hc : Cond.constant Y.1.cls i v ∈ lw_tbl) (kk : pj_V E B l Y d mc ms q ls (.int v :: st) h n ce sl Q) : pj_V E B l Y d mc ms pc ls st h n ce sl Q := by
  subst hq
  intro p e s m args below meth c H locs la S hr hk hn hW hH hS hL
  exact lv_ldc S.1 S.2.1 S.2.2.2.1 (S.2.2.2.2 _ hc) hd (kk p e s m args below meth c H locs la S hr hk hn hW hH hS hL)
theorem pj_ldcw {i : Nat} {v : Int32} (hd : decode Y.2.1 pc = .ok (.ldc_w i, 3)) (hq : pc + 3 = q) (hc : Cond.constant Y.1.cls i v ∈ lw_tbl) (kk : pj_V E B l Y d mc ms q ls (.int v :: st) h n ce sl Q) : pj_V E B l Y d mc ms pc ls st h n ce sl Q := by
  subst hq
  intro p e s m args below meth c H locs la S hr hk hn hW hH hS hL
  exact lv_ldcw S.1 S.2.1 S.2.2.2.1 (S.2.2.2.2 _ hc) hd (kk p e s m args below meth c H locs la S hr hk hn hW hH hS hL)
theorem pj_ldc2 {i : Nat} {v : Int64} (hd : decode Y.2.1 pc = .ok (.ldc2_w i, 3)) (hq : pc + 3 = q) (hc : Cond.constantLong Y.1.cls i v ∈ lw_tbl) (kk : pj_V E B l Y d mc ms q ls (.long v :: st) h n ce sl Q) : pj_V E B l Y d mc ms pc ls st h n ce sl Q := by
  subst hq
  intro p e s m args below meth c H locs la S hr hk hn hW hH hS hL
  exact lv_ldc2 S.1 S.2.1 S.2.2.2.1 (S.2.2.2.2 _ hc) hd (kk p e s m args below meth c H locs la S hr hk hn hW hH hS hL)
theorem pj_icmp_eq {x y : Int32} {t : Nat} {off : Int} (hd : decode Y.2.1 pc = .ok (.if_icmp .eq off, 3)) (hq : pc + 3 = q) (ht : (pc : Int) + off = (t : Int)) (kt : x = y → pj_V E B l Y d mc ms t ls st h n ce sl Q) (kf : ¬ x = y → pj_V E B l Y d mc ms q ls st h n ce sl Q) : pj_V E B l Y d mc ms pc ls (.int y :: .int x :: st) h n ce sl Q := by
  subst hq
  intro p e s m args below meth c H locs la S hr hk hn hW hH hS hL
  exact lv_icmp_eq S.1 S.2.1 hd ht (fun z => kt z p e s m args below meth c H locs la S hr hk hn hW hH hS hL) (fun z => kf z p e s m args below meth c H locs la S hr hk hn hW hH hS hL)
theorem pj_if_eq {x : Int32} {t : Nat} {off : Int} (hd : decode Y.2.1 pc = .ok (.ifCond .eq off, 3)) (hq : pc + 3 = q) (ht : (pc : Int) + off = (t : Int)) (kt : x = 0 → pj_V E B l Y d mc ms t ls st h n ce sl Q) (kf : ¬ x = 0 → pj_V E B l Y d mc ms q ls st h n ce sl Q) : pj_V E B l Y d mc ms pc ls (.int x :: st) h n ce sl Q := by
  subst hq
  intro p e s m args below meth c H locs la S hr hk hn hW hH hS hL
  exact lv_if_eq S.1 S.2.1 hd ht (fun z => kt z p e s m args below meth c H locs la S hr hk hn hW hH hS hL) (fun z => kf z p e s m args below meth c H locs la S hr hk hn hW hH hS hL)
theorem pj_icmp_ne {x y : Int32} {t : Nat} {off : Int} (hd : decode Y.2.1 pc = .ok (.if_icmp .ne off, 3)) (hq : pc + 3 = q) (ht : (pc : Int) + off = (t : Int)) (kt : ¬ x = y → pj_V E B l Y d mc ms t ls st h n ce sl Q) (kf : x = y → pj_V E B l Y d mc ms q ls st h n ce sl Q) : pj_V E B l Y d mc ms pc ls (.int y :: .int x :: st) h n ce sl Q := by
  subst hq
  intro p e s m args below meth c H locs la S hr hk hn hW hH hS hL
  exact lv_icmp_ne S.1 S.2.1 hd ht (fun z => kt z p e s m args below meth c H locs la S hr hk hn hW hH hS hL) (fun z => kf z p e s m args below meth c H locs la S hr hk hn hW hH hS hL)
theorem pj_if_ne {x : Int32} {t : Nat} {off : Int} (hd : decode Y.2.1 pc = .ok (.ifCond .ne off, 3)) (hq : pc + 3 = q) (ht : (pc : Int) + off = (t : Int)) (kt : ¬ x = 0 → pj_V E B l Y d mc ms t ls st h n ce sl Q) (kf : x = 0 → pj_V E B l Y d mc ms q ls st h n ce sl Q) : pj_V E B l Y d mc ms pc ls (.int x :: st) h n ce sl Q := by
  subst hq
  intro p e s m args below meth c H locs la S hr hk hn hW hH hS hL
  exact lv_if_ne S.1 S.2.1 hd ht (fun z => kt z p e s m args below meth c H locs la S hr hk hn hW hH hS hL) (fun z => kf z p e s m args below meth c H locs la S hr hk hn hW hH hS hL)
theorem pj_icmp_lt {x y : Int32} {t : Nat} {off : Int} (hd : decode Y.2.1 pc = .ok (.if_icmp .lt off, 3)) (hq : pc + 3 = q) (ht : (pc : Int) + off = (t : Int)) (kt : x < y → pj_V E B l Y d mc ms t ls st h n ce sl Q) (kf : ¬ x < y → pj_V E B l Y d mc ms q ls st h n ce sl Q) : pj_V E B l Y d mc ms pc ls (.int y :: .int x :: st) h n ce sl Q := by
  subst hq
  intro p e s m args below meth c H locs la S hr hk hn hW hH hS hL
  exact lv_icmp_lt S.1 S.2.1 hd ht (fun z => kt z p e s m args below meth c H locs la S hr hk hn hW hH hS hL) (fun z => kf z p e s m args below meth c H locs la S hr hk hn hW hH hS hL)
theorem pj_if_lt {x : Int32} {t : Nat} {off : Int} (hd : decode Y.2.1 pc = .ok (.ifCond .lt off, 3)) (hq : pc + 3 = q) (ht : (pc : Int) + off = (t : Int)) (kt : x < 0 → pj_V E B l Y d mc ms t ls st h n ce sl Q) (kf : ¬ x < 0 → pj_V E B l Y d mc ms q ls st h n ce sl Q) : pj_V E B l Y d mc ms pc ls (.int x :: st) h n ce sl Q := by
  subst hq
  intro p e s m args below meth c H locs la S hr hk hn hW hH hS hL
  exact lv_if_lt S.1 S.2.1 hd ht (fun z => kt z p e s m args below meth c H locs la S hr hk hn hW hH hS hL) (fun z => kf z p e s m args below meth c H locs la S hr hk hn hW hH hS hL)
theorem pj_icmp_ge {x y : Int32} {t : Nat} {off : Int} (hd : decode Y.2.1 pc = .ok (.if_icmp .ge off, 3)) (hq : pc + 3 = q) (ht : (pc : Int) + off = (t : Int)) (kt : y ≤ x → pj_V E B l Y d mc ms t ls st h n ce sl Q) (kf : ¬ y ≤ x → pj_V E B l Y d mc ms q ls st h n ce sl Q) : pj_V E B l Y d mc ms pc ls (.int y :: .int x :: st) h n ce sl Q := by
  subst hq
  intro p e s m args below meth c H locs la S hr hk hn hW hH hS hL
  exact lv_icmp_ge S.1 S.2.1 hd ht (fun z => kt z p e s m args below meth c H locs la S hr hk hn hW hH hS hL) (fun z => kf z p e s m args below meth c H locs la S hr hk hn hW hH hS hL)
theorem pj_if_ge {x : Int32} {t : Nat} {off : Int} (hd : decode Y.2.1 pc = .ok (.ifCond .ge off, 3)) (hq : pc + 3 = q) (ht : (pc : Int) + off = (t : Int)) (kt : 0 ≤ x → pj_V E B l Y d mc ms t ls st h n ce sl Q) (kf : ¬ 0 ≤ x → pj_V E B l Y d mc ms q ls st h n ce sl Q) : pj_V E B l Y d mc ms pc ls (.int x :: st) h n ce sl Q := by
  subst hq
  intro p e s m args below meth c H locs la S hr hk hn hW hH hS hL
  exact lv_if_ge S.1 S.2.1 hd ht (fun z => kt z p e s m args below meth c H locs la S hr hk hn hW hH hS hL) (fun z => kf z p e s m args below meth c H locs la S hr hk hn hW hH hS hL)
theorem pj_icmp_gt {x y : Int32} {t : Nat} {off : Int} (hd : decode Y.2.1 pc = .ok (.if_icmp .gt off, 3)) (hq : pc + 3 = q) (ht : (pc : Int) + off = (t : Int)) (kt : y < x → pj_V E B l Y d mc ms t ls st h n ce sl Q) (kf : ¬ y < x → pj_V E B l Y d mc ms q ls st h n ce sl Q) : pj_V E B l Y d mc ms pc ls (.int y :: .int x :: st) h n ce sl Q := by
  subst hq
  intro p e s m args below meth c H locs la S hr hk hn hW hH hS hL
  exact lv_icmp_gt S.1 S.2.1 hd ht (fun z => kt z p e s m args below meth c H locs la S hr hk hn hW hH hS hL) (fun z => kf z p e s m args below meth c H locs la S hr hk hn hW hH hS hL)
theorem pj_if_gt {x : Int32} {t : Nat} {off : Int} (hd : decode Y.2.1 pc = .ok (.ifCond .gt off, 3)) (hq : pc + 3 = q) (ht : (pc : Int) + off = (t : Int)) (kt : 0 < x → pj_V E B l Y d mc ms t ls st h n ce sl Q) (kf : ¬ 0 < x → pj_V E B l Y d mc ms q ls st h n ce sl Q) : pj_V E B l Y d mc ms pc ls (.int x :: st) h n ce sl Q := by
  subst hq
  intro p e s m args below meth c H locs la S hr hk hn hW hH hS hL
  exact lv_if_gt S.1 S.2.1 hd ht (fun z => kt z p e s m args below meth c H locs la S hr hk hn hW hH hS hL) (fun z => kf z p e s m args below meth c H locs la S hr hk hn hW hH hS hL)
theorem pj_icmp_le {x y : Int32} {t : Nat} {off : Int} (hd : decode Y.2.1 pc = .ok (.if_icmp .le off, 3)) (hq : pc + 3 = q) (ht : (pc : Int) + off = (t : Int)) (kt : x ≤ y → pj_V E B l Y d mc ms t ls st h n ce sl Q) (kf : ¬ x ≤ y → pj_V E B l Y d mc ms q ls st h n ce sl Q) : pj_V E B l Y d mc ms pc ls (.int y :: .int x :: st) h n ce sl Q := by
  subst hq
  intro p e s m args below meth c H locs la S hr hk hn hW hH hS hL
  exact lv_icmp_le S.1 S.2.1 hd ht (fun z => kt z p e s m args below meth c H locs la S hr hk hn hW hH hS hL) (fun z => kf z p e s m args below meth c H locs la S hr hk hn hW hH hS hL)
theorem pj_if_le {x : Int32} {t : Nat} {off : Int} (hd : decode Y.2.1 pc = .ok (.ifCond .le off, 3)) (hq : pc + 3 = q) (ht : (pc : Int) + off = (t : Int)) (kt : x ≤ 0 → pj_V E B l Y d mc ms t ls st h n ce sl Q) (kf : ¬ x ≤ 0 → pj_V E B l Y d mc ms q ls st h n ce sl Q) : pj_V E B l Y d mc ms pc ls (.int x :: st) h n ce sl Q := by
  subst hq
  intro p e s m args below meth c H locs la S hr hk hn hW hH hS hL
  exact lv_if_le S.1 S.2.1 hd ht (fun z => kt z p e s m args below meth c H locs la S hr hk hn hW hH hS hL) (fun z => kf z p e s m args below meth c H locs la S hr hk hn hW hH hS hL)
theorem pj_goto {t : Nat} {off : Int} (hd : decode Y.2.1 pc = .ok (.goto off, 3)) (ht : (pc : Int) + off = (t : Int)) (kk : pj_V E B l Y d mc ms t ls st h n ce sl Q) : pj_V E B l Y d mc ms pc ls st h n ce sl Q := by
  intro p e s m args below meth c H locs la S hr hk hn hW hH hS hL
  exact lv_goto S.1 S.2.1 hd ht (kk p e s m args below meth c H locs la S hr hk hn hW hH hS hL)
theorem pj_ifnonnull {t a : Nat} {off : Int} (hd : decode Y.2.1 pc = .ok (.ifnonnull off, 3)) (ht : (pc : Int) + off = (t : Int)) (kk : pj_V E B l Y d mc ms t ls st h n ce sl Q) : pj_V E B l Y d mc ms pc ls (.ref a :: st) h n ce sl Q := by
  intro p e s m args below meth c H locs la S hr hk hn hW hH hS hL
  exact lv_ifnonnull S.1 S.2.1 hd ht (kk p e s m args below meth c H locs la S hr hk hn hW hH hS hL)
theorem pj_ifnonnullN {off : Int} (hd : decode Y.2.1 pc = .ok (.ifnonnull off, 3)) (hq : pc + 3 = q) (kk : pj_V E B l Y d mc ms q ls st h n ce sl Q) : pj_V E B l Y d mc ms pc ls (.null :: st) h n ce sl Q := by
  subst hq
  intro p e s m args below meth c H locs la S hr hk hn hW hH hS hL
  exact lv_ifnonnullN S.1 S.2.1 hd (kk p e s m args below meth c H locs la S hr hk hn hW hH hS hL)
theorem pj_ifnull {a : Nat} {off : Int} (hd : decode Y.2.1 pc = .ok (.ifnull off, 3)) (hq : pc + 3 = q) (kk : pj_V E B l Y d mc ms q ls st h n ce sl Q) : pj_V E B l Y d mc ms pc ls (.ref a :: st) h n ce sl Q := by
  subst hq
  intro p e s m args below meth c H locs la S hr hk hn hW hH hS hL
  exact lv_ifnull S.1 S.2.1 hd (kk p e s m args below meth c H locs la S hr hk hn hW hH hS hL)
theorem pj_ifnullN {t : Nat} {off : Int} (hd : decode Y.2.1 pc = .ok (.ifnull off, 3)) (ht : (pc : Int) + off = (t : Int)) (kk : pj_V E B l Y d mc ms t ls st h n ce sl Q) : pj_V E B l Y d mc ms pc ls (.null :: st) h n ce sl Q := by
  intro p e s m args below meth c H locs la S hr hk hn hW hH hS hL
  exact lv_ifnullN S.1 S.2.1 hd ht (kk p e s m args below meth c H locs la S hr hk hn hW hH hS hL)
theorem pj_tabOut {t len : Nat} {dflt lo hi : Int} {offs : Array Int} {x : Int32} (hd : decode Y.2.1 pc = .ok (.tableswitch dflt lo hi offs, len)) (hx : x.toInt < lo ∨ hi < x.toInt) (ht : (pc : Int) + dflt = (t : Int)) (kk : pj_V E B l Y d mc ms t ls st h n ce sl Q) : pj_V E B l Y d mc ms pc ls (.int x :: st) h n ce sl Q := by
  intro p e s m args below meth c H locs la S hr hk hn hW hH hS hL
  exact lv_tableOut S.1 S.2.1 hd hx ht (kk p e s m args below meth c H locs la S hr hk hn hW hH hS hL)
theorem pj_tabIn {t len : Nat} {dflt lo hi off : Int} {offs : Array Int} {x : Int32} (hd : decode Y.2.1 pc = .ok (.tableswitch dflt lo hi offs, len)) (h1 : ¬ x.toInt < lo) (h2 : ¬ hi < x.toInt) (ho : offs[(x.toInt - lo).toNat]? = some off) (ht : (pc : Int) + off = (t : Int)) (kk : pj_V E B l Y d mc ms t ls st h n ce sl Q) : pj_V E B l Y d mc ms pc ls (.int x :: st) h n ce sl Q := by
  intro p e s m args below meth c H locs la S hr hk hn hW hH hS hL
  exact lv_tableIn S.1 S.2.1 hd h1 h2 ho ht (kk p e s m args below meth c H locs la S hr hk hn hW hH hS hL)
theorem pj_lookup {t len : Nat} {dflt off : Int} {ps : Array (Int × Int)} {x : Int32} (hd : decode Y.2.1 pc = .ok (.lookupswitch dflt ps, len)) (hp : (ps.toList.zip (ps.toList.drop 1)).all (fun (a, next) => a.1 < next.1) = true) (ho : Op.lookupswitch.offset ps.toList dflt x.toInt = off) (ht : (pc : Int) + off = (t : Int)) (kk : pj_V E B l Y d mc ms t ls st h n ce sl Q) : pj_V E B l Y d mc ms pc ls (.int x :: st) h n ce sl Q := by
  intro p e s m args below meth c H locs la S hr hk hn hW hH hS hL
  exact lv_lookup S.1 S.2.1 hd hp ho ht (kk p e s m args below meth c H locs la S hr hk hn hW hH hS hL)
theorem pj_ild0 {tl : List (Option Value)} {x : Int32} (hd : decode Y.2.1 pc = .ok (.iload_n 0, 1)) (hq : pc + 1 = q) (kk : pj_V E B l Y d mc ms q (some (.int x) :: tl) (.int x :: st) h n ce sl Q) : pj_V E B l Y d mc ms pc (some (.int x) :: tl) st h n ce sl Q := by
  subst hq
  intro p e s m args below meth c H locs la S hr hk hn hW hH hS hL
  exact lv_iload_n S.1 S.2.1 hd rfl (hL.at rfl) (kk p e s m args below meth c H locs la S hr hk hn hW hH hS hL)
theorem pj_lld0 {tl : List (Option Value)} {x : Int64} (hd : decode Y.2.1 pc = .ok (.lload_n 0, 1)) (hq : pc + 1 = q) (kk : pj_V E B l Y d mc ms q (some (.long x) :: tl) (.long x :: st) h n ce sl Q) : pj_V E B l Y d mc ms pc (some (.long x) :: tl) st h n ce sl Q := by
  subst hq
  intro p e s m args below meth c H locs la S hr hk hn hW hH hS hL
  exact lv_lload_n S.1 S.2.1 hd rfl (hL.at rfl) (kk p e s m args below meth c H locs la S hr hk hn hW hH hS hL)
theorem pj_ald0 {tl : List (Option Value)} {x : Nat} (hd : decode Y.2.1 pc = .ok (.aload_n 0, 1)) (hq : pc + 1 = q) (kk : pj_V E B l Y d mc ms q (some (.ref x) :: tl) (.ref x :: st) h n ce sl Q) : pj_V E B l Y d mc ms pc (some (.ref x) :: tl) st h n ce sl Q := by
  subst hq
  intro p e s m args below meth c H locs la S hr hk hn hW hH hS hL
  exact lv_aload_n S.1 S.2.1 hd rfl (hL.at rfl) (kk p e s m args below meth c H locs la S hr hk hn hW hH hS hL)
theorem pj_aldN0 {tl : List (Option Value)} (hd : decode Y.2.1 pc = .ok (.aload_n 0, 1)) (hq : pc + 1 = q) (kk : pj_V E B l Y d mc ms q (some .null :: tl) (.null :: st) h n ce sl Q) : pj_V E B l Y d mc ms pc (some .null :: tl) st h n ce sl Q := by
  subst hq
  intro p e s m args below meth c H locs la S hr hk hn hW hH hS hL
  exact lv_aload_nN S.1 S.2.1 hd rfl (hL.at rfl) (kk p e s m args below meth c H locs la S hr hk hn hW hH hS hL)
theorem pj_ild1 {o0 : Option Value} {tl : List (Option Value)} {x : Int32} (hd : decode Y.2.1 pc = .ok (.iload_n 1, 1)) (hq : pc + 1 = q) (kk : pj_V E B l Y d mc ms q (o0 :: some (.int x) :: tl) (.int x :: st) h n ce sl Q) : pj_V E B l Y d mc ms pc (o0 :: some (.int x) :: tl) st h n ce sl Q := by
  subst hq
  intro p e s m args below meth c H locs la S hr hk hn hW hH hS hL
  exact lv_iload_n S.1 S.2.1 hd rfl (hL.at rfl) (kk p e s m args below meth c H locs la S hr hk hn hW hH hS hL)
theorem pj_lld1 {o0 : Option Value} {tl : List (Option Value)} {x : Int64} (hd : decode Y.2.1 pc = .ok (.lload_n 1, 1)) (hq : pc + 1 = q) (kk : pj_V E B l Y d mc ms q (o0 :: some (.long x) :: tl) (.long x :: st) h n ce sl Q) : pj_V E B l Y d mc ms pc (o0 :: some (.long x) :: tl) st h n ce sl Q := by
  subst hq
  intro p e s m args below meth c H locs la S hr hk hn hW hH hS hL
  exact lv_lload_n S.1 S.2.1 hd rfl (hL.at rfl) (kk p e s m args below meth c H locs la S hr hk hn hW hH hS hL)
theorem pj_ald1 {o0 : Option Value} {tl : List (Option Value)} {x : Nat} (hd : decode Y.2.1 pc = .ok (.aload_n 1, 1)) (hq : pc + 1 = q) (kk : pj_V E B l Y d mc ms q (o0 :: some (.ref x) :: tl) (.ref x :: st) h n ce sl Q) : pj_V E B l Y d mc ms pc (o0 :: some (.ref x) :: tl) st h n ce sl Q := by
  subst hq
  intro p e s m args below meth c H locs la S hr hk hn hW hH hS hL
  exact lv_aload_n S.1 S.2.1 hd rfl (hL.at rfl) (kk p e s m args below meth c H locs la S hr hk hn hW hH hS hL)
theorem pj_aldN1 {o0 : Option Value} {tl : List (Option Value)} (hd : decode Y.2.1 pc = .ok (.aload_n 1, 1)) (hq : pc + 1 = q) (kk : pj_V E B l Y d mc ms q (o0 :: some .null :: tl) (.null :: st) h n ce sl Q) : pj_V E B l Y d mc ms pc (o0 :: some .null :: tl) st h n ce sl Q := by
  subst hq
  intro p e s m args below meth c H locs la S hr hk hn hW hH hS hL
  exact lv_aload_nN S.1 S.2.1 hd rfl (hL.at rfl) (kk p e s m args below meth c H locs la S hr hk hn hW hH hS hL)
theorem pj_ild2 {o0 o1 : Option Value} {tl : List (Option Value)} {x : Int32} (hd : decode Y.2.1 pc = .ok (.iload_n 2, 1)) (hq : pc + 1 = q) (kk : pj_V E B l Y d mc ms q (o0 :: o1 :: some (.int x) :: tl) (.int x :: st) h n ce sl Q) : pj_V E B l Y d mc ms pc (o0 :: o1 :: some (.int x) :: tl) st h n ce sl Q := by
  subst hq
  intro p e s m args below meth c H locs la S hr hk hn hW hH hS hL
  exact lv_iload_n S.1 S.2.1 hd rfl (hL.at rfl) (kk p e s m args below meth c H locs la S hr hk hn hW hH hS hL)
theorem pj_lld2 {o0 o1 : Option Value} {tl : List (Option Value)} {x : Int64} (hd : decode Y.2.1 pc = .ok (.lload_n 2, 1)) (hq : pc + 1 = q) (kk : pj_V E B l Y d mc ms q (o0 :: o1 :: some (.long x) :: tl) (.long x :: st) h n ce sl Q) : pj_V E B l Y d mc ms pc (o0 :: o1 :: some (.long x) :: tl) st h n ce sl Q := by
  subst hq
  intro p e s m args below meth c H locs la S hr hk hn hW hH hS hL
  exact lv_lload_n S.1 S.2.1 hd rfl (hL.at rfl) (kk p e s m args below meth c H locs la S hr hk hn hW hH hS hL)
theorem pj_ald2 {o0 o1 : Option Value} {tl : List (Option Value)} {x : Nat} (hd : decode Y.2.1 pc = .ok (.aload_n 2, 1)) (hq : pc + 1 = q) (kk : pj_V E B l Y d mc ms q (o0 :: o1 :: some (.ref x) :: tl) (.ref x :: st) h n ce sl Q) : pj_V E B l Y d mc ms pc (o0 :: o1 :: some (.ref x) :: tl) st h n ce sl Q := by
  subst hq
  intro p e s m args below meth c H locs la S hr hk hn hW hH hS hL
  exact lv_aload_n S.1 S.2.1 hd rfl (hL.at rfl) (kk p e s m args below meth c H locs la S hr hk hn hW hH hS hL)
theorem pj_aldN2 {o0 o1 : Option Value} {tl : List (Option Value)} (hd : decode Y.2.1 pc = .ok (.aload_n 2, 1)) (hq : pc + 1 = q) (kk : pj_V E B l Y d mc ms q (o0 :: o1 :: some .null :: tl) (.null :: st) h n ce sl Q) : pj_V E B l Y d mc ms pc (o0 :: o1 :: some .null :: tl) st h n ce sl Q := by
  subst hq
  intro p e s m args below meth c H locs la S hr hk hn hW hH hS hL
  exact lv_aload_nN S.1 S.2.1 hd rfl (hL.at rfl) (kk p e s m args below meth c H locs la S hr hk hn hW hH hS hL)
theorem pj_ild3 {o0 o1 o2 : Option Value} {tl : List (Option Value)} {x : Int32} (hd : decode Y.2.1 pc = .ok (.iload_n 3, 1)) (hq : pc + 1 = q) (kk : pj_V E B l Y d mc ms q (o0 :: o1 :: o2 :: some (.int x) :: tl) (.int x :: st) h n ce sl Q) : pj_V E B l Y d mc ms pc (o0 :: o1 :: o2 :: some (.int x) :: tl) st h n ce sl Q := by
  subst hq
  intro p e s m args below meth c H locs la S hr hk hn hW hH hS hL
  exact lv_iload_n S.1 S.2.1 hd rfl (hL.at rfl) (kk p e s m args below meth c H locs la S hr hk hn hW hH hS hL)
theorem pj_lld3 {o0 o1 o2 : Option Value} {tl : List (Option Value)} {x : Int64} (hd : decode Y.2.1 pc = .ok (.lload_n 3, 1)) (hq : pc + 1 = q) (kk : pj_V E B l Y d mc ms q (o0 :: o1 :: o2 :: some (.long x) :: tl) (.long x :: st) h n ce sl Q) : pj_V E B l Y d mc ms pc (o0 :: o1 :: o2 :: some (.long x) :: tl) st h n ce sl Q := by
  subst hq
  intro p e s m args below meth c H locs la S hr hk hn hW hH hS hL
  exact lv_lload_n S.1 S.2.1 hd rfl (hL.at rfl) (kk p e s m args below meth c H locs la S hr hk hn hW hH hS hL)
theorem pj_ald3 {o0 o1 o2 : Option Value} {tl : List (Option Value)} {x : Nat} (hd : decode Y.2.1 pc = .ok (.aload_n 3, 1)) (hq : pc + 1 = q) (kk : pj_V E B l Y d mc ms q (o0 :: o1 :: o2 :: some (.ref x) :: tl) (.ref x :: st) h n ce sl Q) : pj_V E B l Y d mc ms pc (o0 :: o1 :: o2 :: some (.ref x) :: tl) st h n ce sl Q := by
  subst hq
  intro p e s m args below meth c H locs la S hr hk hn hW hH hS hL
  exact lv_aload_n S.1 S.2.1 hd rfl (hL.at rfl) (kk p e s m args below meth c H locs la S hr hk hn hW hH hS hL)
theorem pj_aldN3 {o0 o1 o2 : Option Value} {tl : List (Option Value)} (hd : decode Y.2.1 pc = .ok (.aload_n 3, 1)) (hq : pc + 1 = q) (kk : pj_V E B l Y d mc ms q (o0 :: o1 :: o2 :: some .null :: tl) (.null :: st) h n ce sl Q) : pj_V E B l Y d mc ms pc (o0 :: o1 :: o2 :: some .null :: tl) st h n ce sl Q := by
  subst hq
  intro p e s m args below meth c H locs la S hr hk hn hW hH hS hL
  exact lv_aload_nN S.1 S.2.1 hd rfl (hL.at rfl) (kk p e s m args below meth c H locs la S hr hk hn hW hH hS hL)
theorem pj_ild4 {o0 o1 o2 o3 : Option Value} {tl : List (Option Value)} {x : Int32} (hd : decode Y.2.1 pc = .ok (.iload 4, 2)) (hq : pc + 2 = q) (kk : pj_V E B l Y d mc ms q (o0 :: o1 :: o2 :: o3 :: some (.int x) :: tl) (.int x :: st) h n ce sl Q) : pj_V E B l Y d mc ms pc (o0 :: o1 :: o2 :: o3 :: some (.int x) :: tl) st h n ce sl Q := by
  subst hq
  intro p e s m args below meth c H locs la S hr hk hn hW hH hS hL
  exact lv_iload S.1 S.2.1 hd (hL.at rfl) (kk p e s m args below meth c H locs la S hr hk hn hW hH hS hL)
theorem pj_lld4 {o0 o1 o2 o3 : Option Value} {tl : List (Option Value)} {x : Int64} (hd : decode Y.2.1 pc = .ok (.lload 4, 2)) (hq : pc + 2 = q) (kk : pj_V E B l Y d mc ms q (o0 :: o1 :: o2 :: o3 :: some (.long x) :: tl) (.long x :: st) h n ce sl Q) : pj_V E B l Y d mc ms pc (o0 :: o1 :: o2 :: o3 :: some (.long x) :: tl) st h n ce sl Q := by
  subst hq
  intro p e s m args below meth c H locs la S hr hk hn hW hH hS hL
  exact lv_lload S.1 S.2.1 hd (hL.at rfl) (kk p e s m args below meth c H locs la S hr hk hn hW hH hS hL)
theorem pj_ald4 {o0 o1 o2 o3 : Option Value} {tl : List (Option Value)} {x : Nat} (hd : decode Y.2.1 pc = .ok (.aload 4, 2)) (hq : pc + 2 = q) (kk : pj_V E B l Y d mc ms q (o0 :: o1 :: o2 :: o3 :: some (.ref x) :: tl) (.ref x :: st) h n ce sl Q) : pj_V E B l Y d mc ms pc (o0 :: o1 :: o2 :: o3 :: some (.ref x) :: tl) st h n ce sl Q := by
  subst hq
  intro p e s m args below meth c H locs la S hr hk hn hW hH hS hL
  exact lv_aload S.1 S.2.1 hd (hL.at rfl) (kk p e s m args below meth c H locs la S hr hk hn hW hH hS hL)
theorem pj_ild5 {o0 o1 o2 o3 o4 : Option Value} {tl : List (Option Value)} {x : Int32} (hd : decode Y.2.1 pc = .ok (.iload 5, 2)) (hq : pc + 2 = q) (kk : pj_V E B l Y d mc ms q (o0 :: o1 :: o2 :: o3 :: o4 :: some (.int x) :: tl) (.int x :: st) h n ce sl Q) : pj_V E B l Y d mc ms pc (o0 :: o1 :: o2 :: o3 :: o4 :: some (.int x) :: tl) st h n ce sl Q := by
  subst hq
  intro p e s m args below meth c H locs la S hr hk hn hW hH hS hL
  exact lv_iload S.1 S.2.1 hd (hL.at rfl) (kk p e s m args below meth c H locs la S hr hk hn hW hH hS hL)
theorem pj_lld5 {o0 o1 o2 o3 o4 : Option Value} {tl : List (Option Value)} {x : Int64} (hd : decode Y.2.1 pc = .ok (.lload 5, 2)) (hq : pc + 2 = q) (kk : pj_V E B l Y d mc ms q (o0 :: o1 :: o2 :: o3 :: o4 :: some (.long x) :: tl) (.long x :: st) h n ce sl Q) : pj_V E B l Y d mc ms pc (o0 :: o1 :: o2 :: o3 :: o4 :: some (.long x) :: tl) st h n ce sl Q := by
  subst hq
  intro p e s m args below meth c H locs la S hr hk hn hW hH hS hL
  exact lv_lload S.1 S.2.1 hd (hL.at rfl) (kk p e s m args below meth c H locs la S hr hk hn hW hH hS hL)
theorem pj_ald5 {o0 o1 o2 o3 o4 : Option Value} {tl : List (Option Value)} {x : Nat} (hd : decode Y.2.1 pc = .ok (.aload 5, 2)) (hq : pc + 2 = q) (kk : pj_V E B l Y d mc ms q (o0 :: o1 :: o2 :: o3 :: o4 :: some (.ref x) :: tl) (.ref x :: st) h n ce sl Q) : pj_V E B l Y d mc ms pc (o0 :: o1 :: o2 :: o3 :: o4 :: some (.ref x) :: tl) st h n ce sl Q := by
  subst hq
  intro p e s m args below meth c H locs la S hr hk hn hW hH hS hL
  exact lv_aload S.1 S.2.1 hd (hL.at rfl) (kk p e s m args below meth c H locs la S hr hk hn hW hH hS hL)
theorem pj_ild6 {o0 o1 o2 o3 o4 o5 : Option Value} {tl : List (Option Value)} {x : Int32} (hd : decode Y.2.1 pc = .ok (.iload 6, 2)) (hq : pc + 2 = q) (kk : pj_V E B l Y d mc ms q (o0 :: o1 :: o2 :: o3 :: o4 :: o5 :: some (.int x) :: tl) (.int x :: st) h n ce sl Q) : pj_V E B l Y d mc ms pc (o0 :: o1 :: o2 :: o3 :: o4 :: o5 :: some (.int x) :: tl) st h n ce sl Q := by
  subst hq
  intro p e s m args below meth c H locs la S hr hk hn hW hH hS hL
  exact lv_iload S.1 S.2.1 hd (hL.at rfl) (kk p e s m args below meth c H locs la S hr hk hn hW hH hS hL)
theorem pj_lld6 {o0 o1 o2 o3 o4 o5 : Option Value} {tl : List (Option Value)} {x : Int64} (hd : decode Y.2.1 pc = .ok (.lload 6, 2)) (hq : pc + 2 = q) (kk : pj_V E B l Y d mc ms q (o0 :: o1 :: o2 :: o3 :: o4 :: o5 :: some (.long x) :: tl) (.long x :: st) h n ce sl Q) : pj_V E B l Y d mc ms pc (o0 :: o1 :: o2 :: o3 :: o4 :: o5 :: some (.long x) :: tl) st h n ce sl Q := by
  subst hq
  intro p e s m args below meth c H locs la S hr hk hn hW hH hS hL
  exact lv_lload S.1 S.2.1 hd (hL.at rfl) (kk p e s m args below meth c H locs la S hr hk hn hW hH hS hL)
theorem pj_ald6 {o0 o1 o2 o3 o4 o5 : Option Value} {tl : List (Option Value)} {x : Nat} (hd : decode Y.2.1 pc = .ok (.aload 6, 2)) (hq : pc + 2 = q) (kk : pj_V E B l Y d mc ms q (o0 :: o1 :: o2 :: o3 :: o4 :: o5 :: some (.ref x) :: tl) (.ref x :: st) h n ce sl Q) : pj_V E B l Y d mc ms pc (o0 :: o1 :: o2 :: o3 :: o4 :: o5 :: some (.ref x) :: tl) st h n ce sl Q := by
  subst hq
  intro p e s m args below meth c H locs la S hr hk hn hW hH hS hL
  exact lv_aload S.1 S.2.1 hd (hL.at rfl) (kk p e s m args below meth c H locs la S hr hk hn hW hH hS hL)
theorem pj_ild7 {o0 o1 o2 o3 o4 o5 o6 : Option Value} {tl : List (Option Value)} {x : Int32} (hd : decode Y.2.1 pc = .ok (.iload 7, 2)) (hq : pc + 2 = q) (kk : pj_V E B l Y d mc ms q (o0 :: o1 :: o2 :: o3 :: o4 :: o5 :: o6 :: some (.int x) :: tl) (.int x :: st) h n ce sl Q) : pj_V E B l Y d mc ms pc (o0 :: o1 :: o2 :: o3 :: o4 :: o5 :: o6 :: some (.int x) :: tl) st h n ce sl Q := by
  subst hq
  intro p e s m args below meth c H locs la S hr hk hn hW hH hS hL
  exact lv_iload S.1 S.2.1 hd (hL.at rfl) (kk p e s m args below meth c H locs la S hr hk hn hW hH hS hL)
theorem pj_lld7 {o0 o1 o2 o3 o4 o5 o6 : Option Value} {tl : List (Option Value)} {x : Int64} (hd : decode Y.2.1 pc = .ok (.lload 7, 2)) (hq : pc + 2 = q) (kk : pj_V E B l Y d mc ms q (o0 :: o1 :: o2 :: o3 :: o4 :: o5 :: o6 :: some (.long x) :: tl) (.long x :: st) h n ce sl Q) : pj_V E B l Y d mc ms pc (o0 :: o1 :: o2 :: o3 :: o4 :: o5 :: o6 :: some (.long x) :: tl) st h n ce sl Q := by
  subst hq
  intro p e s m args below meth c H locs la S hr hk hn hW hH hS hL
  exact lv_lload S.1 S.2.1 hd (hL.at rfl) (kk p e s m args below meth c H locs la S hr hk hn hW hH hS hL)
theorem pj_ald7 {o0 o1 o2 o3 o4 o5 o6 : Option Value} {tl : List (Option Value)} {x : Nat} (hd : decode Y.2.1 pc = .ok (.aload 7, 2)) (hq : pc + 2 = q) (kk : pj_V E B l Y d mc ms q (o0 :: o1 :: o2 :: o3 :: o4 :: o5 :: o6 :: some (.ref x) :: tl) (.ref x :: st) h n ce sl Q) : pj_V E B l Y d mc ms pc (o0 :: o1 :: o2 :: o3 :: o4 :: o5 :: o6 :: some (.ref x) :: tl) st h n ce sl Q := by
  subst hq
  intro p e s m args below meth c H locs la S hr hk hn hW hH hS hL
  exact lv_aload S.1 S.2.1 hd (hL.at rfl) (kk p e s m args below meth c H locs la S hr hk hn hW hH hS hL)
theorem pj_ild8 {o0 o1 o2 o3 o4 o5 o6 o7 : Option Value} {tl : List (Option Value)} {x : Int32} (hd : decode Y.2.1 pc = .ok (.iload 8, 2)) (hq : pc + 2 = q) (kk : pj_V E B l Y d mc ms q (o0 :: o1 :: o2 :: o3 :: o4 :: o5 :: o6 :: o7 :: some (.int x) :: tl) (.int x :: st) h n ce sl Q) : pj_V E B l Y d mc ms pc (o0 :: o1 :: o2 :: o3 :: o4 :: o5 :: o6 :: o7 :: some (.int x) :: tl) st h n ce sl Q := by
  subst hq
  intro p e s m args below meth c H locs la S hr hk hn hW hH hS hL
  exact lv_iload S.1 S.2.1 hd (hL.at rfl) (kk p e s m args below meth c H locs la S hr hk hn hW hH hS hL)
theorem pj_lld8 {o0 o1 o2 o3 o4 o5 o6 o7 : Option Value} {tl : List (Option Value)} {x : Int64} (hd : decode Y.2.1 pc = .ok (.lload 8, 2)) (hq : pc + 2 = q) (kk : pj_V E B l Y d mc ms q (o0 :: o1 :: o2 :: o3 :: o4 :: o5 :: o6 :: o7 :: some (.long x) :: tl) (.long x :: st) h n ce sl Q) : pj_V E B l Y d mc ms pc (o0 :: o1 :: o2 :: o3 :: o4 :: o5 :: o6 :: o7 :: some (.long x) :: tl) st h n ce sl Q := by
  subst hq
  intro p e s m args below meth c H locs la S hr hk hn hW hH hS hL
  exact lv_lload S.1 S.2.1 hd (hL.at rfl) (kk p e s m args below meth c H locs la S hr hk hn hW hH hS hL)
theorem pj_ald8 {o0 o1 o2 o3 o4 o5 o6 o7 : Option Value} {tl : List (Option Value)} {x : Nat} (hd : decode Y.2.1 pc = .ok (.aload 8, 2)) (hq : pc + 2 = q) (kk : pj_V E B l Y d mc ms q (o0 :: o1 :: o2 :: o3 :: o4 :: o5 :: o6 :: o7 :: some (.ref x) :: tl) (.ref x :: st) h n ce sl Q) : pj_V E B l Y d mc ms pc (o0 :: o1 :: o2 :: o3 :: o4 :: o5 :: o6 :: o7 :: some (.ref x) :: tl) st h n ce sl Q := by
  subst hq
  intro p e s m args below meth c H locs la S hr hk hn hW hH hS hL
  exact lv_aload S.1 S.2.1 hd (hL.at rfl) (kk p e s m args below meth c H locs la S hr hk hn hW hH hS hL)
theorem pj_ild9 {o0 o1 o2 o3 o4 o5 o6 o7 o8 : Option Value} {tl : List (Option Value)} {x : Int32} (hd : decode Y.2.1 pc = .ok (.iload 9, 2)) (hq : pc + 2 = q) (kk : pj_V E B l Y d mc ms q (o0 :: o1 :: o2 :: o3 :: o4 :: o5 :: o6 :: o7 :: o8 :: some (.int x) :: tl) (.int x :: st) h n ce sl Q) : pj_V E B l Y d mc ms pc (o0 :: o1 :: o2 :: o3 :: o4 :: o5 :: o6 :: o7 :: o8 :: some (.int x) :: tl) st h n ce sl Q := by
  subst hq
  intro p e s m args below meth c H locs la S hr hk hn hW hH hS hL
  exact lv_iload S.1 S.2.1 hd (hL.at rfl) (kk p e s m args below meth c H locs la S hr hk hn hW hH hS hL)
theorem pj_lld9 {o0 o1 o2 o3 o4 o5 o6 o7 o8 : Option Value} {tl : List (Option Value)} {x : Int64} (hd : decode Y.2.1 pc = .ok (.lload 9, 2)) (hq : pc + 2 = q) (kk : pj_V E B l Y d mc ms q (o0 :: o1 :: o2 :: o3 :: o4 :: o5 :: o6 :: o7 :: o8 :: some (.long x) :: tl) (.long x :: st) h n ce sl Q) : pj_V E B l Y d mc ms pc (o0 :: o1 :: o2 :: o3 :: o4 :: o5 :: o6 :: o7 :: o8 :: some (.long x) :: tl) st h n ce sl Q := by
  subst hq
  intro p e s m args below meth c H locs la S hr hk hn hW hH hS hL
  exact lv_lload S.1 S.2.1 hd (hL.at rfl) (kk p e s m args below meth c H locs la S hr hk hn hW hH hS hL)
theorem pj_ald9 {o0 o1 o2 o3 o4 o5 o6 o7 o8 : Option Value} {tl : List (Option Value)} {x : Nat} (hd : decode Y.2.1 pc = .ok (.aload 9, 2)) (hq : pc + 2 = q) (kk : pj_V E B l Y d mc ms q (o0 :: o1 :: o2 :: o3 :: o4 :: o5 :: o6 :: o7 :: o8 :: some (.ref x) :: tl) (.ref x :: st) h n ce sl Q) : pj_V E B l Y d mc ms pc (o0 :: o1 :: o2 :: o3 :: o4 :: o5 :: o6 :: o7 :: o8 :: some (.ref x) :: tl) st h n ce sl Q := by
  subst hq
  intro p e s m args below meth c H locs la S hr hk hn hW hH hS hL
  exact lv_aload S.1 S.2.1 hd (hL.at rfl) (kk p e s m args below meth c H locs la S hr hk hn hW hH hS hL)
theorem pj_ild10 {o0 o1 o2 o3 o4 o5 o6 o7 o8 o9 : Option Value} {tl : List (Option Value)} {x : Int32} (hd : decode Y.2.1 pc = .ok (.iload 10, 2)) (hq : pc + 2 = q) (kk : pj_V E B l Y d mc ms q (o0 :: o1 :: o2 :: o3 :: o4 :: o5 :: o6 :: o7 :: o8 :: o9 :: some (.int x) :: tl) (.int x :: st) h n ce sl Q) : pj_V E B l Y d mc ms pc (o0 :: o1 :: o2 :: o3 :: o4 :: o5 :: o6 :: o7 :: o8 :: o9 :: some (.int x) :: tl) st h n ce sl Q := by
  subst hq
  intro p e s m args below meth c H locs la S hr hk hn hW hH hS hL
  exact lv_iload S.1 S.2.1 hd (hL.at rfl) (kk p e s m args below meth c H locs la S hr hk hn hW hH hS hL)
theorem pj_lld10 {o0 o1 o2 o3 o4 o5 o6 o7 o8 o9 : Option Value} {tl : List (Option Value)} {x : Int64} (hd : decode Y.2.1 pc = .ok (.lload 10, 2)) (hq : pc + 2 = q) (kk : pj_V E B l Y d mc ms q (o0 :: o1 :: o2 :: o3 :: o4 :: o5 :: o6 :: o7 :: o8 :: o9 :: some (.long x) :: tl) (.long x :: st) h n ce sl Q) : pj_V E B l Y d mc ms pc (o0 :: o1 :: o2 :: o3 :: o4 :: o5 :: o6 :: o7 :: o8 :: o9 :: some (.long x) :: tl) st h n ce sl Q := by
  subst hq
  intro p e s m args below meth c H locs la S hr hk hn hW hH hS hL
  exact lv_lload S.1 S.2.1 hd (hL.at rfl) (kk p e s m args below meth c H locs la S hr hk hn hW hH hS hL)
theorem pj_ald10 {o0 o1 o2 o3 o4 o5 o6 o7 o8 o9 : Option Value} {tl : List (Option Value)} {x : Nat} (hd : decode Y.2.1 pc = .ok (.aload 10, 2)) (hq : pc + 2 = q) (kk : pj_V E B l Y d mc ms q (o0 :: o1 :: o2 :: o3 :: o4 :: o5 :: o6 :: o7 :: o8 :: o9 :: some (.ref x) :: tl) (.ref x :: st) h n ce sl Q) : pj_V E B l Y d mc ms pc (o0 :: o1 :: o2 :: o3 :: o4 :: o5 :: o6 :: o7 :: o8 :: o9 :: some (.ref x) :: tl) st h n ce sl Q := by
  subst hq
  intro p e s m args below meth c H locs la S hr hk hn hW hH hS hL
  exact lv_aload S.1 S.2.1 hd (hL.at rfl) (kk p e s m args below meth c H locs la S hr hk hn hW hH hS hL)
theorem pj_ild11 {o0 o1 o2 o3 o4 o5 o6 o7 o8 o9 o10 : Option Value} {tl : List (Option Value)} {x : Int32} (hd : decode Y.2.1 pc = .ok (.iload 11, 2)) (hq : pc + 2 = q) (kk : pj_V E B l Y d mc ms q (o0 :: o1 :: o2 :: o3 :: o4 :: o5 :: o6 :: o7 :: o8 :: o9 :: o10 :: some (.int x) :: tl) (.int x :: st) h n ce sl Q) : pj_V E B l Y d mc ms pc (o0 :: o1 :: o2 :: o3 :: o4 :: o5 :: o6 :: o7 :: o8 :: o9 :: o10 :: some (.int x) :: tl) st h n ce sl Q := by
  subst hq
  intro p e s m args below meth c H locs la S hr hk hn hW hH hS hL
  exact lv_iload S.1 S.2.1 hd (hL.at rfl) (kk p e s m args below meth c H locs la S hr hk hn hW hH hS hL)
theorem pj_lld11 {o0 o1 o2 o3 o4 o5 o6 o7 o8 o9 o10 : Option Value} {tl : List (Option Value)} {x : Int64} (hd : decode Y.2.1 pc = .ok (.lload 11, 2)) (hq : pc + 2 = q) (kk : pj_V E B l Y d mc ms q (o0 :: o1 :: o2 :: o3 :: o4 :: o5 :: o6 :: o7 :: o8 :: o9 :: o10 :: some (.long x) :: tl) (.long x :: st) h n ce sl Q) : pj_V E B l Y d mc ms pc (o0 :: o1 :: o2 :: o3 :: o4 :: o5 :: o6 :: o7 :: o8 :: o9 :: o10 :: some (.long x) :: tl) st h n ce sl Q := by
  subst hq
  intro p e s m args below meth c H locs la S hr hk hn hW hH hS hL
  exact lv_lload S.1 S.2.1 hd (hL.at rfl) (kk p e s m args below meth c H locs la S hr hk hn hW hH hS hL)
theorem pj_ald11 {o0 o1 o2 o3 o4 o5 o6 o7 o8 o9 o10 : Option Value} {tl : List (Option Value)} {x : Nat} (hd : decode Y.2.1 pc = .ok (.aload 11, 2)) (hq : pc + 2 = q) (kk : pj_V E B l Y d mc ms q (o0 :: o1 :: o2 :: o3 :: o4 :: o5 :: o6 :: o7 :: o8 :: o9 :: o10 :: some (.ref x) :: tl) (.ref x :: st) h n ce sl Q) : pj_V E B l Y d mc ms pc (o0 :: o1 :: o2 :: o3 :: o4 :: o5 :: o6 :: o7 :: o8 :: o9 :: o10 :: some (.ref x) :: tl) st h n ce sl Q := by
  subst hq
  intro p e s m args below meth c H locs la S hr hk hn hW hH hS hL
  exact lv_aload S.1 S.2.1 hd (hL.at rfl) (kk p e s m args below meth c H locs la S hr hk hn hW hH hS hL)
theorem pj_ild12 {o0 o1 o2 o3 o4 o5 o6 o7 o8 o9 o10 o11 : Option Value} {tl : List (Option Value)} {x : Int32} (hd : decode Y.2.1 pc = .ok (.iload 12, 2)) (hq : pc + 2 = q) (kk : pj_V E B l Y d mc ms q (o0 :: o1 :: o2 :: o3 :: o4 :: o5 :: o6 :: o7 :: o8 :: o9 :: o10 :: o11 :: some (.int x) :: tl) (.int x :: st) h n ce sl Q) : pj_V E B l Y d mc ms pc (o0 :: o1 :: o2 :: o3 :: o4 :: o5 :: o6 :: o7 :: o8 :: o9 :: o10 :: o11 :: some (.int x) :: tl) st h n ce sl Q := by
  subst hq
  intro p e s m args below meth c H locs la S hr hk hn hW hH hS hL
  exact lv_iload S.1 S.2.1 hd (hL.at rfl) (kk p e s m args below meth c H locs la S hr hk hn hW hH hS hL)
theorem pj_lld12 {o0 o1 o2 o3 o4 o5 o6 o7 o8 o9 o10 o11 : Option Value} {tl : List (Option Value)} {x : Int64} (hd : decode Y.2.1 pc = .ok (.lload 12, 2)) (hq : pc + 2 = q) (kk : pj_V E B l Y d mc ms q (o0 :: o1 :: o2 :: o3 :: o4 :: o5 :: o6 :: o7 :: o8 :: o9 :: o10 :: o11 :: some (.long x) :: tl) (.long x :: st) h n ce sl Q) : pj_V E B l Y d mc ms pc (o0 :: o1 :: o2 :: o3 :: o4 :: o5 :: o6 :: o7 :: o8 :: o9 :: o10 :: o11 :: some (.long x) :: tl) st h n ce sl Q := by
  subst hq
  intro p e s m args below meth c H locs la S hr hk hn hW hH hS hL
  exact lv_lload S.1 S.2.1 hd (hL.at rfl) (kk p e s m args below meth c H locs la S hr hk hn hW hH hS hL)
theorem pj_ald12 {o0 o1 o2 o3 o4 o5 o6 o7 o8 o9 o10 o11 : Option Value} {tl : List (Option Value)} {x : Nat} (hd : decode Y.2.1 pc = .ok (.aload 12, 2)) (hq : pc + 2 = q) (kk : pj_V E B l Y d mc ms q (o0 :: o1 :: o2 :: o3 :: o4 :: o5 :: o6 :: o7 :: o8 :: o9 :: o10 :: o11 :: some (.ref x) :: tl) (.ref x :: st) h n ce sl Q) : pj_V E B l Y d mc ms pc (o0 :: o1 :: o2 :: o3 :: o4 :: o5 :: o6 :: o7 :: o8 :: o9 :: o10 :: o11 :: some (.ref x) :: tl) st h n ce sl Q := by
  subst hq
  intro p e s m args below meth c H locs la S hr hk hn hW hH hS hL
  exact lv_aload S.1 S.2.1 hd (hL.at rfl) (kk p e s m args below meth c H locs la S hr hk hn hW hH hS hL)
theorem pj_ild13 {o0 o1 o2 o3 o4 o5 o6 o7 o8 o9 o10 o11 o12 : Option Value} {tl : List (Option Value)} {x : Int32} (hd : decode Y.2.1 pc = .ok (.iload 13, 2)) (hq : pc + 2 = q) (kk : pj_V E B l Y d mc ms q (o0 :: o1 :: o2 :: o3 :: o4 :: o5 :: o6 :: o7 :: o8 :: o9 :: o10 :: o11 :: o12 :: some (.int x) :: tl) (.int x :: st) h n ce sl Q) : pj_V E B l Y d mc ms pc (o0 :: o1 :: o2 :: o3 :: o4 :: o5 :: o6 :: o7 :: o8 :: o9 :: o10 :: o11 :: o12 :: some (.int x) :: tl) st h n ce sl Q := by
  subst hq
  intro p e s m args below meth c H locs la S hr hk hn hW hH hS hL
  exact lv_iload S.1 S.2.1 hd (hL.at rfl) (kk p e s m args below meth c H locs la S hr hk hn hW hH hS hL)
theorem pj_lld13 {o0 o1 o2 o3 o4 o5 o6 o7 o8 o9 o10 o11 o12 : Option Value} {tl : List (Option Value)} {x : Int64} (hd : decode Y.2.1 pc = .ok (.lload 13, 2)) (hq : pc + 2 = q) (kk : pj_V E B l Y d mc ms q (o0 :: o1 :: o2 :: o3 :: o4 :: o5 :: o6 :: o7 :: o8 :: o9 :: o10 :: o11 :: o12 :: some (.long x) :: tl) (.long x :: st) h n ce sl Q) : pj_V E B l Y d mc ms pc (o0 :: o1 :: o2 :: o3 :: o4 :: o5 :: o6 :: o7 :: o8 :: o9 :: o10 :: o11 :: o12 :: some (.long x) :: tl) st h n ce sl Q := by
  subst hq
  intro p e s m args below meth c H locs la S hr hk hn hW hH hS hL
  exact lv_lload S.1 S.2.1 hd (hL.at rfl) (kk p e s m args below meth c H locs la S hr hk hn hW hH hS hL)
theorem pj_ald13 {o0 o1 o2 o3 o4 o5 o6 o7 o8 o9 o10 o11 o12 : Option Value} {tl : List (Option Value)} {x : Nat} (hd : decode Y.2.1 pc = .ok (.aload 13, 2)) (hq : pc + 2 = q) (kk : pj_V E B l Y d mc ms q (o0 :: o1 :: o2 :: o3 :: o4 :: o5 :: o6 :: o7 :: o8 :: o9 :: o10 :: o11 :: o12 :: some (.ref x) :: tl) (.ref x :: st) h n ce sl Q) : pj_V E B l Y d mc ms pc (o0 :: o1 :: o2 :: o3 :: o4 :: o5 :: o6 :: o7 :: o8 :: o9 :: o10 :: o11 :: o12 :: some (.ref x) :: tl) st h n ce sl Q := by
  subst hq
  intro p e s m args below meth c H locs la S hr hk hn hW hH hS hL
  exact lv_aload S.1 S.2.1 hd (hL.at rfl) (kk p e s m args below meth c H locs la S hr hk hn hW hH hS hL)
theorem pj_ild14 {o0 o1 o2 o3 o4 o5 o6 o7 o8 o9 o10 o11 o12 o13 : Option Value} {tl : List (Option Value)} {x : Int32} (hd : decode Y.2.1 pc = .ok (.iload 14, 2)) (hq : pc + 2 = q) (kk : pj_V E B l Y d mc ms q (o0 :: o1 :: o2 :: o3 :: o4 :: o5 :: o6 :: o7 :: o8 :: o9 :: o10 :: o11 :: o12 :: o13 :: some (.int x) :: tl) (.int x :: st) h n ce sl Q) : pj_V E B l Y d mc ms pc (o0 :: o1 :: o2 :: o3 :: o4 :: o5 :: o6 :: o7 :: o8 :: o9 :: o10 :: o11 :: o12 :: o13 :: some (.int x) :: tl) st h n ce sl Q := by
  subst hq
  intro p e s m args below meth c H locs la S hr hk hn hW hH hS hL
  exact lv_iload S.1 S.2.1 hd (hL.at rfl) (kk p e s m args below meth c H locs la S hr hk hn hW hH hS hL)
theorem pj_lld14 {o0 o1 o2 o3 o4 o5 o6 o7 o8 o9 o10 o11 o12 o13 : Option Value} {tl : List (Option Value)} {x : Int64} (hd : decode Y.2.1 pc = .ok (.lload 14, 2)) (hq : pc + 2 = q) (kk : pj_V E B l Y d mc ms q (o0 :: o1 :: o2 :: o3 :: o4 :: o5 :: o6 :: o7 :: o8 :: o9 :: o10 :: o11 :: o12 :: o13 :: some (.long x) :: tl) (.long x :: st) h n ce sl Q) : pj_V E B l Y d mc ms pc (o0 :: o1 :: o2 :: o3 :: o4 :: o5 :: o6 :: o7 :: o8 :: o9 :: o10 :: o11 :: o12 :: o13 :: some (.long x) :: tl) st h n ce sl Q := by
  subst hq
  intro p e s m args below meth c H locs la S hr hk hn hW hH hS hL
  exact lv_lload S.1 S.2.1 hd (hL.at rfl) (kk p e s m args below meth c H locs la S hr hk hn hW hH hS hL)
theorem pj_ald14 {o0 o1 o2 o3 o4 o5 o6 o7 o8 o9 o10 o11 o12 o13 : Option Value} {tl : List (Option Value)} {x : Nat} (hd : decode Y.2.1 pc = .ok (.aload 14, 2)) (hq : pc + 2 = q) (kk : pj_V E B l Y d mc ms q (o0 :: o1 :: o2 :: o3 :: o4 :: o5 :: o6 :: o7 :: o8 :: o9 :: o10 :: o11 :: o12 :: o13 :: some (.ref x) :: tl) (.ref x :: st) h n ce sl Q) : pj_V E B l Y d mc ms pc (o0 :: o1 :: o2 :: o3 :: o4 :: o5 :: o6 :: o7 :: o8 :: o9 :: o10 :: o11 :: o12 :: o13 :: some (.ref x) :: tl) st h n ce sl Q := by
  subst hq
  intro p e s m args below meth c H locs la S hr hk hn hW hH hS hL
  exact lv_aload S.1 S.2.1 hd (hL.at rfl) (kk p e s m args below meth c H locs la S hr hk hn hW hH hS hL)
theorem pj_ild15 {o0 o1 o2 o3 o4 o5 o6 o7 o8 o9 o10 o11 o12 o13 o14 : Option Value} {tl : List (Option Value)} {x : Int32} (hd : decode Y.2.1 pc = .ok (.iload 15, 2)) (hq : pc + 2 = q) (kk : pj_V E B l Y d mc ms q (o0 :: o1 :: o2 :: o3 :: o4 :: o5 :: o6 :: o7 :: o8 :: o9 :: o10 :: o11 :: o12 :: o13 :: o14 :: some (.int x) :: tl) (.int x :: st) h n ce sl Q) : pj_V E B l Y d mc ms pc (o0 :: o1 :: o2 :: o3 :: o4 :: o5 :: o6 :: o7 :: o8 :: o9 :: o10 :: o11 :: o12 :: o13 :: o14 :: some (.int x) :: tl) st h n ce sl Q := by
  subst hq
  intro p e s m args below meth c H locs la S hr hk hn hW hH hS hL
  exact lv_iload S.1 S.2.1 hd (hL.at rfl) (kk p e s m args below meth c H locs la S hr hk hn hW hH hS hL)
theorem pj_lld15 {o0 o1 o2 o3 o4 o5 o6 o7 o8 o9 o10 o11 o12 o13 o14 : Option Value} {tl : List (Option Value)} {x : Int64} (hd : decode Y.2.1 pc = .ok (.lload 15, 2)) (hq : pc + 2 = q) (kk : pj_V E B l Y d mc ms q (o0 :: o1 :: o2 :: o3 :: o4 :: o5 :: o6 :: o7 :: o8 :: o9 :: o10 :: o11 :: o12 :: o13 :: o14 :: some (.long x) :: tl) (.long x :: st) h n ce sl Q) : pj_V E B l Y d mc ms pc (o0 :: o1 :: o2 :: o3 :: o4 :: o5 :: o6 :: o7 :: o8 :: o9 :: o10 :: o11 :: o12 :: o13 :: o14 :: some (.long x) :: tl) st h n ce sl Q := by
  subst hq
  intro p e s m args below meth c H locs la S hr hk hn hW hH hS hL
  exact lv_lload S.1 S.2.1 hd (hL.at rfl) (kk p e s m args below meth c H locs la S hr hk hn hW hH hS hL)
theorem pj_ald15 {o0 o1 o2 o3 o4 o5 o6 o7 o8 o9 o10 o11 o12 o13 o14 : Option Value} {tl : List (Option Value)} {x : Nat} (hd : decode Y.2.1 pc = .ok (.aload 15, 2)) (hq : pc + 2 = q) (kk : pj_V E B l Y d mc ms q (o0 :: o1 :: o2 :: o3 :: o4 :: o5 :: o6 :: o7 :: o8 :: o9 :: o10 :: o11 :: o12 :: o13 :: o14 :: some (.ref x) :: tl) (.ref x :: st) h n ce sl Q) : pj_V E B l Y d mc ms pc (o0 :: o1 :: o2 :: o3 :: o4 :: o5 :: o6 :: o7 :: o8 :: o9 :: o10 :: o11 :: o12 :: o13 :: o14 :: some (.ref x) :: tl) st h n ce sl Q := by
  subst hq
  intro p e s m args below meth c H locs la S hr hk hn hW hH hS hL
  exact lv_aload S.1 S.2.1 hd (hL.at rfl) (kk p e s m args below meth c H locs la S hr hk hn hW hH hS hL)
def pj_c1 (o : Option Value) : Bool := match o with
  | none => true
  | some v => v.category == 1
theorem pj_L.set1 {la la' : Array Slot} {nL i : Nat} {ls : List (Option Value)} {v : Value} (hL : pj_L la nL ls) (hi : i < nL) (hp : ∀ o, 0 < i → ls[i - 1]? = some o → pj_c1 o = true) (h' : lv_has la' nL ((i, v) :: (pj_as 0 ls).filter (fun q => !(q.1 == i) && !(q.1 + 1 == i && q.2.category == 2)))) : pj_L la' nL (ls.set i (some v)) := by
  refine ⟨⟨h'.1, h'.2.1, ?_⟩, by rw [List.length_set]; exact hL.2⟩
  rintro ⟨j, w⟩ hj
  obtain ⟨k, h1, h2⟩ := (pj_as_mem _ 0 j w).mp hj
  have hjk : j = k := by omega
  subst hjk
  by_cases hji : j = i
  · subst hji
    rw [List.getElem?_set_self (by rw [hL.2]; exact hi)] at h2
    have : w = v := by injection h2 with h2; injection h2 with h2; exact h2.symm
    subst this
    exact h'.2.2 _ List.mem_cons_self
  · rw [List.getElem?_set_ne (Ne.symm hji)] at h2
    refine h'.2.2 (j, w) (List.mem_cons_of_mem _ (List.mem_filter.mpr ⟨(pj_as_mem ls 0 j w).mpr ⟨j, by omega, h2⟩, ?_⟩))
    simp only [Bool.and_eq_true, Bool.not_eq_true', beq_eq_false_iff_ne, ne_eq, Bool.and_eq_false_iff]
    refine ⟨hji, ?_⟩
    by_cases hj1 : j + 1 = i
    · right
      have := hp (some w) (by omega) (by rw [← h2]; congr 1; omega)
      simp only [pj_c1, beq_iff_eq] at this
      omega
    · left; exact hj1
theorem pj_L.set2 {la la' : Array Slot} {nL i : Nat} {ls : List (Option Value)} {v : Value} (hL : pj_L la nL ls) (hi : i + 1 < nL) (hp : ∀ o, 0 < i → ls[i - 1]? = some o → pj_c1 o = true) (h' : lv_has la' nL ((i, v) :: (pj_as 0 ls).filter (fun q => !(q.1 == i) && (!(q.1 == i + 1) && !(q.1 + 1 == i && q.2.category == 2))))) : pj_L la' nL ((ls.set i (some v)).set (i + 1) none) := by
  refine ⟨⟨h'.1, h'.2.1, ?_⟩, by rw [List.length_set, List.length_set]; exact hL.2⟩
  rintro ⟨j, w⟩ hj
  obtain ⟨k, h1, h2⟩ := (pj_as_mem _ 0 j w).mp hj
  have hjk : j = k := by omega
  subst hjk
  by_cases hj2 : j = i + 1
  · subst hj2
    rw [List.getElem?_set_self (by rw [List.length_set, hL.2]; exact hi)] at h2
    cases h2
  · rw [List.getElem?_set_ne (Ne.symm hj2)] at h2
    by_cases hji : j = i
    · subst hji
      rw [List.getElem?_set_self (by rw [hL.2]; omega)] at h2
      have : w = v := by injection h2 with h2; injection h2 with h2; exact h2.symm
      subst this
      exact h'.2.2 _ List.mem_cons_self
    · rw [List.getElem?_set_ne (Ne.symm hji)] at h2
      refine h'.2.2 (j, w) (List.mem_cons_of_mem _ (List.mem_filter.mpr ⟨(pj_as_mem ls 0 j w).mpr ⟨j, by omega, h2⟩, ?_⟩))
      simp only [Bool.and_eq_true, Bool.not_eq_true', beq_eq_false_iff_ne, ne_eq, Bool.and_eq_false_iff]
      refine ⟨hji, hj2, ?_⟩
      by_cases hj1 : j + 1 = i
      · right
        have := hp (some w) (by omega) (by rw [← h2]; congr 1; omega)
        simp only [pj_c1, beq_iff_eq] at this
        omega
      · left; exact hj1

theorem pj_ist0 {o0 : Option Value} {tl : List (Option Value)} {x : Int32} (hd : decode Y.2.1 pc = .ok (.istore_n 0, 1)) (hq : pc + 1 = q) (kk : pj_V E B l Y d mc ms q (some (.int x) :: tl) st h n ce sl Q) : pj_V E B l Y d mc ms pc (o0 :: tl) (.int x :: st) h n ce sl Q := by
  subst hq
  intro p e s m args below meth c H locs la S hr hk hn hW hH hS hL
  have hi : 0 < Y.2.2.1 := by rw [← hL.2]; simp only [List.length_cons]; omega
  exact lv_istore_n S.1 S.2.1 hd rfl hL.1 hi rfl (fun la' h' => kk p e s m args below meth c H locs la' S hr hk hn hW hH hS (hL.set1 hi (fun o z _ => absurd z (Nat.lt_irrefl 0)) h'))
theorem pj_ast0 {o0 : Option Value} {tl : List (Option Value)} {x : Nat} (hd : decode Y.2.1 pc = .ok (.astore_n 0, 1)) (hq : pc + 1 = q) (kk : pj_V E B l Y d mc ms q (some (.ref x) :: tl) st h n ce sl Q) : pj_V E B l Y d mc ms pc (o0 :: tl) (.ref x :: st) h n ce sl Q := by
  subst hq
  intro p e s m args below meth c H locs la S hr hk hn hW hH hS hL
  have hi : 0 < Y.2.2.1 := by rw [← hL.2]; simp only [List.length_cons]; omega
  exact lv_astore_n S.1 S.2.1 hd rfl hL.1 hi rfl (fun la' h' => kk p e s m args below meth c H locs la' S hr hk hn hW hH hS (hL.set1 hi (fun o z _ => absurd z (Nat.lt_irrefl 0)) h'))
theorem pj_astN0 {o0 : Option Value} {tl : List (Option Value)} (hd : decode Y.2.1 pc = .ok (.astore_n 0, 1)) (hq : pc + 1 = q) (kk : pj_V E B l Y d mc ms q (some .null :: tl) st h n ce sl Q) : pj_V E B l Y d mc ms pc (o0 :: tl) (.null :: st) h n ce sl Q := by
  subst hq
  intro p e s m args below meth c H locs la S hr hk hn hW hH hS hL
  have hi : 0 < Y.2.2.1 := by rw [← hL.2]; simp only [List.length_cons]; omega
  exact lv_astore_nN S.1 S.2.1 hd rfl hL.1 hi rfl (fun la' h' => kk p e s m args below meth c H locs la' S hr hk hn hW hH hS (hL.set1 hi (fun o z _ => absurd z (Nat.lt_irrefl 0)) h'))
theorem pj_lst0 {o0 : Option Value} {o' : Option Value} {tl : List (Option Value)} {x : Int64} (hd : decode Y.2.1 pc = .ok (.lstore_n 0, 1)) (hq : pc + 1 = q) (kk : pj_V E B l Y d mc ms q (some (.long x) :: none :: tl) st h n ce sl Q) : pj_V E B l Y d mc ms pc (o0 :: o' :: tl) (.long x :: st) h n ce sl Q := by
  subst hq
  intro p e s m args below meth c H locs la S hr hk hn hW hH hS hL
  have hi : 0 + 1 < Y.2.2.1 := by rw [← hL.2]; simp only [List.length_cons]; omega
  exact lv_lstore_n S.1 S.2.1 hd rfl hL.1 hi rfl (fun la' h' => kk p e s m args below meth c H locs la' S hr hk hn hW hH hS (hL.set2 hi (fun o z _ => absurd z (Nat.lt_irrefl 0)) h'))
theorem pj_iinc0 {tl : List (Option Value)} {k : Int} {x v : Int32} (hd : decode Y.2.1 pc = .ok (.iinc 0 k, 3)) (hq : pc + 3 = q) (hv : Int32.ofInt k = v) (kk : pj_V E B l Y d mc ms q (some (.int (x + v)) :: tl) st h n ce sl Q) : pj_V E B l Y d mc ms pc (some (.int x) :: tl) st h n ce sl Q := by
  subst hq
  subst hv
  intro p e s m args below meth c H locs la S hr hk hn hW hH hS hL
  have hi : 0 < Y.2.2.1 := by rw [← hL.2]; simp only [List.length_cons]; omega
  obtain ⟨j, hj⟩ := List.getElem?_of_mem ((pj_as_mem (some (.int x) :: tl) 0 0 (.int x)).mpr ⟨0, by omega, rfl⟩)
  exact lv_iinc S.1 S.2.1 hd hL.1 hj rfl hi rfl (fun la' h' => kk p e s m args below meth c H locs la' S hr hk hn hW hH hS (hL.set1 hi (fun o z _ => absurd z (Nat.lt_irrefl 0)) h'))
theorem pj_ist1 {o0 o1 : Option Value} {tl : List (Option Value)} {x : Int32} (hd : decode Y.2.1 pc = .ok (.istore_n 1, 1)) (hq : pc + 1 = q) (hp : pj_c1 o0 = true) (kk : pj_V E B l Y d mc ms q (o0 :: some (.int x) :: tl) st h n ce sl Q) : pj_V E B l Y d mc ms pc (o0 :: o1 :: tl) (.int x :: st) h n ce sl Q := by
  subst hq
  intro p e s m args below meth c H locs la S hr hk hn hW hH hS hL
  have hi : 1 < Y.2.2.1 := by rw [← hL.2]; simp only [List.length_cons]; omega
  exact lv_istore_n S.1 S.2.1 hd rfl hL.1 hi rfl (fun la' h' => kk p e s m args below meth c H locs la' S hr hk hn hW hH hS (hL.set1 hi (fun o _ z => by cases z; exact hp) h'))
theorem pj_ast1 {o0 o1 : Option Value} {tl : List (Option Value)} {x : Nat} (hd : decode Y.2.1 pc = .ok (.astore_n 1, 1)) (hq : pc + 1 = q) (hp : pj_c1 o0 = true) (kk : pj_V E B l Y d mc ms q (o0 :: some (.ref x) :: tl) st h n ce sl Q) : pj_V E B l Y d mc ms pc (o0 :: o1 :: tl) (.ref x :: st) h n ce sl Q := by
  subst hq
  intro p e s m args below meth c H locs la S hr hk hn hW hH hS hL
  have hi : 1 < Y.2.2.1 := by rw [← hL.2]; simp only [List.length_cons]; omega
  exact lv_astore_n S.1 S.2.1 hd rfl hL.1 hi rfl (fun la' h' => kk p e s m args below meth c H locs la' S hr hk hn hW hH hS (hL.set1 hi (fun o _ z => by cases z; exact hp) h'))
theorem pj_astN1 {o0 o1 : Option Value} {tl : List (Option Value)} (hd : decode Y.2.1 pc = .ok (.astore_n 1, 1)) (hq : pc + 1 = q) (hp : pj_c1 o0 = true) (kk : pj_V E B l Y d mc ms q (o0 :: some .null :: tl) st h n ce sl Q) : pj_V E B l Y d mc ms pc (o0 :: o1 :: tl) (.null :: st) h n ce sl Q := by
  subst hq
  intro p e s m args below meth c H locs la S hr hk hn hW hH hS hL
  have hi : 1 < Y.2.2.1 := by rw [← hL.2]; simp only [List.length_cons]; omega
  exact lv_astore_nN S.1 S.2.1 hd rfl hL.1 hi rfl (fun la' h' => kk p e s m args below meth c H locs la' S hr hk hn hW hH hS (hL.set1 hi (fun o _ z => by cases z; exact hp) h'))
theorem pj_lst1 {o0 o1 : Option Value} {o' : Option Value} {tl : List (Option Value)} {x : Int64} (hd : decode Y.2.1 pc = .ok (.lstore_n 1, 1)) (hq : pc + 1 = q) (hp : pj_c1 o0 = true) (kk : pj_V E B l Y d mc ms q (o0 :: some (.long x) :: none :: tl) st h n ce sl Q) : pj_V E B l Y d mc ms pc (o0 :: o1 :: o' :: tl) (.long x :: st) h n ce sl Q := by
  subst hq
  intro p e s m args below meth c H locs la S hr hk hn hW hH hS hL
  have hi : 1 + 1 < Y.2.2.1 := by rw [← hL.2]; simp only [List.length_cons]; omega
  exact lv_lstore_n S.1 S.2.1 hd rfl hL.1 hi rfl (fun la' h' => kk p e s m args below meth c H locs la' S hr hk hn hW hH hS (hL.set2 hi (fun o _ z => by cases z; exact hp) h'))
theorem pj_iinc1 {o0 : Option Value} {tl : List (Option Value)} {k : Int} {x v : Int32} (hd : decode Y.2.1 pc = .ok (.iinc 1 k, 3)) (hq : pc + 3 = q) (hp : pj_c1 o0 = true) (hv : Int32.ofInt k = v) (kk : pj_V E B l Y d mc ms q (o0 :: some (.int (x + v)) :: tl) st h n ce sl Q) : pj_V E B l Y d mc ms pc (o0 :: some (.int x) :: tl) st h n ce sl Q := by
  subst hq
  subst hv
  intro p e s m args below meth c H locs la S hr hk hn hW hH hS hL
  have hi : 1 < Y.2.2.1 := by rw [← hL.2]; simp only [List.length_cons]; omega
  obtain ⟨j, hj⟩ := List.getElem?_of_mem ((pj_as_mem (o0 :: some (.int x) :: tl) 0 1 (.int x)).mpr ⟨1, by omega, rfl⟩)
  exact lv_iinc S.1 S.2.1 hd hL.1 hj rfl hi rfl (fun la' h' => kk p e s m args below meth c H locs la' S hr hk hn hW hH hS (hL.set1 hi (fun o _ z => by cases z; exact hp) h'))
theorem pj_ist2 {o0 o1 o2 : Option Value} {tl : List (Option Value)} {x : Int32} (hd : decode Y.2.1 pc = .ok (.istore_n 2, 1)) (hq : pc + 1 = q) (hp : pj_c1 o1 = true) (kk : pj_V E B l Y d mc ms q (o0 :: o1 :: some (.int x) :: tl) st h n ce sl Q) : pj_V E B l Y d mc ms pc (o0 :: o1 :: o2 :: tl) (.int x :: st) h n ce sl Q := by
  subst hq
  intro p e s m args below meth c H locs la S hr hk hn hW hH hS hL
  have hi : 2 < Y.2.2.1 := by rw [← hL.2]; simp only [List.length_cons]; omega
  exact lv_istore_n S.1 S.2.1 hd rfl hL.1 hi rfl (fun la' h' => kk p e s m args below meth c H locs la' S hr hk hn hW hH hS (hL.set1 hi (fun o _ z => by cases z; exact hp) h'))
theorem pj_ast2 {o0 o1 o2 : Option Value} {tl : List (Option Value)} {x : Nat} (hd : decode Y.2.1 pc = .ok (.astore_n 2, 1)) (hq : pc + 1 = q) (hp : pj_c1 o1 = true) (kk : pj_V E B l Y d mc ms q (o0 :: o1 :: some (.ref x) :: tl) st h n ce sl Q) : pj_V E B l Y d mc ms pc (o0 :: o1 :: o2 :: tl) (.ref x :: st) h n ce sl Q := by
  subst hq
  intro p e s m args below meth c H locs la S hr hk hn hW hH hS hL
  have hi : 2 < Y.2.2.1 := by rw [← hL.2]; simp only [List.length_cons]; omega
  exact lv_astore_n S.1 S.2.1 hd rfl hL.1 hi rfl (fun la' h' => kk p e s m args below meth c H locs la' S hr hk hn hW hH hS (hL.set1 hi (fun o _ z => by cases z; exact hp) h'))
theorem pj_astN2 {o0 o1 o2 : Option Value} {tl : List (Option Value)} (hd : decode Y.2.1 pc = .ok (.astore_n 2, 1)) (hq : pc + 1 = q) (hp : pj_c1 o1 = true) (kk : pj_V E B l Y d mc ms q (o0 :: o1 :: some .null :: tl) st h n ce sl Q) : pj_V E B l Y d mc ms pc (o0 :: o1 :: o2 :: tl) (.null :: st) h n ce sl Q := by
  subst hq
  intro p e s m args below meth c H locs la S hr hk hn hW hH hS hL
  have hi : 2 < Y.2.2.1 := by rw [← hL.2]; simp only [List.length_cons]; omega
  exact lv_astore_nN S.1 S.2.1 hd rfl hL.1 hi rfl (fun la' h' => kk p e s m args below meth c H locs la' S hr hk hn hW hH hS (hL.set1 hi (fun o _ z => by cases z; exact hp) h'))
theorem pj_lst2 {o0 o1 o2 : Option Value} {o' : Option Value} {tl : List (Option Value)} {x : Int64} (hd : decode Y.2.1 pc = .ok (.lstore_n 2, 1)) (hq : pc + 1 = q) (hp : pj_c1 o1 = true) (kk : pj_V E B l Y d mc ms q (o0 :: o1 :: some (.long x) :: none :: tl) st h n ce sl Q) : pj_V E B l Y d mc ms pc (o0 :: o1 :: o2 :: o' :: tl) (.long x :: st) h n ce sl Q := by
  subst hq
  intro p e s m args below meth c H locs la S hr hk hn hW hH hS hL
  have hi : 2 + 1 < Y.2.2.1 := by rw [← hL.2]; simp only [List.length_cons]; omega
  exact lv_lstore_n S.1 S.2.1 hd rfl hL.1 hi rfl (fun la' h' => kk p e s m args below meth c H locs la' S hr hk hn hW hH hS (hL.set2 hi (fun o _ z => by cases z; exact hp) h'))
theorem pj_iinc2 {o0 o1 : Option Value} {tl : List (Option Value)} {k : Int} {x v : Int32} (hd : decode Y.2.1 pc = .ok (.iinc 2 k, 3)) (hq : pc + 3 = q) (hp : pj_c1 o1 = true) (hv : Int32.ofInt k = v) (kk : pj_V E B l Y d mc ms q (o0 :: o1 :: some (.int (x + v)) :: tl) st h n ce sl Q) : pj_V E B l Y d mc ms pc (o0 :: o1 :: some (.int x) :: tl) st h n ce sl Q := by
  subst hq
  subst hv
  intro p e s m args below meth c H locs la S hr hk hn hW hH hS hL
  have hi : 2 < Y.2.2.1 := by rw [← hL.2]; simp only [List.length_cons]; omega
  obtain ⟨j, hj⟩ := List.getElem?_of_mem ((pj_as_mem (o0 :: o1 :: some (.int x) :: tl) 0 2 (.int x)).mpr ⟨2, by omega, rfl⟩)
  exact lv_iinc S.1 S.2.1 hd hL.1 hj rfl hi rfl (fun la' h' => kk p e s m args below meth c H locs la' S hr hk hn hW hH hS (hL.set1 hi (fun o _ z => by cases z; exact hp) h'))
theorem pj_ist3 {o0 o1 o2 o3 : Option Value} {tl : List (Option Value)} {x : Int32} (hd : decode Y.2.1 pc = .ok (.istore_n 3, 1)) (hq : pc + 1 = q) (hp : pj_c1 o2 = true) (kk : pj_V E B l Y d mc ms q (o0 :: o1 :: o2 :: some (.int x) :: tl) st h n ce sl Q) : pj_V E B l Y d mc ms pc (o0 :: o1 :: o2 :: o3 :: tl) (.int x :: st) h n ce sl Q := by
  subst hq
  intro p e s m args below meth c H locs la S hr hk hn hW hH hS hL
  have hi : 3 < Y.2.2.1 := by rw [← hL.2]; simp only [List.length_cons]; omega
  exact lv_istore_n S.1 S.2.1 hd rfl hL.1 hi rfl (fun la' h' => kk p e s m args below meth c H locs la' S hr hk hn hW hH hS (hL.set1 hi (fun o _ z => by cases z; exact hp) h'))
theorem pj_ast3 {o0 o1 o2 o3 : Option Value} {tl : List (Option Value)} {x : Nat} (hd : decode Y.2.1 pc = .ok (.astore_n 3, 1)) (hq : pc + 1 = q) (hp : pj_c1 o2 = true) (kk : pj_V E B l Y d mc ms q (o0 :: o1 :: o2 :: some (.ref x) :: tl) st h n ce sl Q) : pj_V E B l Y d mc ms pc (o0 :: o1 :: o2 :: o3 :: tl) (.ref x :: st) h n ce sl Q := by
  subst hq
  intro p e s m args below meth c H locs la S hr hk hn hW hH hS hL
  have hi : 3 < Y.2.2.1 := by rw [← hL.2]; simp only [List.length_cons]; omega
  exact lv_astore_n S.1 S.2.1 hd rfl hL.1 hi rfl (fun la' h' => kk p e s m args below meth c H locs la' S hr hk hn hW hH hS (hL.set1 hi (fun o _ z => by cases z; exact hp) h'))
theorem pj_astN3 {o0 o1 o2 o3 : Option Value} {tl : List (Option Value)} (hd : decode Y.2.1 pc = .ok (.astore_n 3, 1)) (hq : pc + 1 = q) (hp : pj_c1 o2 = true) (kk : pj_V E B l Y d mc ms q (o0 :: o1 :: o2 :: some .null :: tl) st h n ce sl Q) : pj_V E B l Y d mc ms pc (o0 :: o1 :: o2 :: o3 :: tl) (.null :: st) h n ce sl Q := by
  subst hq
  intro p e s m args below meth c H locs la S hr hk hn hW hH hS hL
  have hi : 3 < Y.2.2.1 := by rw [← hL.2]; simp only [List.length_cons]; omega
  exact lv_astore_nN S.1 S.2.1 hd rfl hL.1 hi rfl (fun la' h' => kk p e s m args below meth c H locs la' S hr hk hn hW hH hS (hL.set1 hi (fun o _ z => by cases z; exact hp) h'))
theorem pj_lst3 {o0 o1 o2 o3 : Option Value} {o' : Option Value} {tl : List (Option Value)} {x : Int64} (hd : decode Y.2.1 pc = .ok (.lstore_n 3, 1)) (hq : pc + 1 = q) (hp : pj_c1 o2 = true) (kk : pj_V E B l Y d mc ms q (o0 :: o1 :: o2 :: some (.long x) :: none :: tl) st h n ce sl Q) : pj_V E B l Y d mc ms pc (o0 :: o1 :: o2 :: o3 :: o' :: tl) (.long x :: st) h n ce sl Q := by
  subst hq
  intro p e s m args below meth c H locs la S hr hk hn hW hH hS hL
  have hi : 3 + 1 < Y.2.2.1 := by rw [← hL.2]; simp only [List.length_cons]; omega
  exact lv_lstore_n S.1 S.2.1 hd rfl hL.1 hi rfl (fun la' h' => kk p e s m args below meth c H locs la' S hr hk hn hW hH hS (hL.set2 hi (fun o _ z => by cases z; exact hp) h'))
theorem pj_iinc3 {o0 o1 o2 : Option Value} {tl : List (Option Value)} {k : Int} {x v : Int32} (hd : decode Y.2.1 pc = .ok (.iinc 3 k, 3)) (hq : pc + 3 = q) (hp : pj_c1 o2 = true) (hv : Int32.ofInt k = v) (kk : pj_V E B l Y d mc ms q (o0 :: o1 :: o2 :: some (.int (x + v)) :: tl) st h n ce sl Q) : pj_V E B l Y d mc ms pc (o0 :: o1 :: o2 :: some (.int x) :: tl) st h n ce sl Q := by
  subst hq
  subst hv
  intro p e s m args below meth c H locs la S hr hk hn hW hH hS hL
  have hi : 3 < Y.2.2.1 := by rw [← hL.2]; simp only [List.length_cons]; omega
  obtain ⟨j, hj⟩ := List.getElem?_of_mem ((pj_as_mem (o0 :: o1 :: o2 :: some (.int x) :: tl) 0 3 (.int x)).mpr ⟨3, by omega, rfl⟩)
  exact lv_iinc S.1 S.2.1 hd hL.1 hj rfl hi rfl (fun la' h' => kk p e s m args below meth c H locs la' S hr hk hn hW hH hS (hL.set1 hi (fun o _ z => by cases z; exact hp) h'))
theorem pj_ist4 {o0 o1 o2 o3 o4 : Option Value} {tl : List (Option Value)} {x : Int32} (hd : decode Y.2.1 pc = .ok (.istore 4, 2)) (hq : pc + 2 = q) (hp : pj_c1 o3 = true) (kk : pj_V E B l Y d mc ms q (o0 :: o1 :: o2 :: o3 :: some (.int x) :: tl) st h n ce sl Q) : pj_V E B l Y d mc ms pc (o0 :: o1 :: o2 :: o3 :: o4 :: tl) (.int x :: st) h n ce sl Q := by
  subst hq
  intro p e s m args below meth c H locs la S hr hk hn hW hH hS hL
  have hi : 4 < Y.2.2.1 := by rw [← hL.2]; simp only [List.length_cons]; omega
  exact lv_istore S.1 S.2.1 hd hL.1 hi rfl (fun la' h' => kk p e s m args below meth c H locs la' S hr hk hn hW hH hS (hL.set1 hi (fun o _ z => by cases z; exact hp) h'))
theorem pj_ast4 {o0 o1 o2 o3 o4 : Option Value} {tl : List (Option Value)} {x : Nat} (hd : decode Y.2.1 pc = .ok (.astore 4, 2)) (hq : pc + 2 = q) (hp : pj_c1 o3 = true) (kk : pj_V E B l Y d mc ms q (o0 :: o1 :: o2 :: o3 :: some (.ref x) :: tl) st h n ce sl Q) : pj_V E B l Y d mc ms pc (o0 :: o1 :: o2 :: o3 :: o4 :: tl) (.ref x :: st) h n ce sl Q := by
  subst hq
  intro p e s m args below meth c H locs la S hr hk hn hW hH hS hL
  have hi : 4 < Y.2.2.1 := by rw [← hL.2]; simp only [List.length_cons]; omega
  exact lv_astore S.1 S.2.1 hd hL.1 hi rfl (fun la' h' => kk p e s m args below meth c H locs la' S hr hk hn hW hH hS (hL.set1 hi (fun o _ z => by cases z; exact hp) h'))
theorem pj_lst4 {o0 o1 o2 o3 o4 : Option Value} {o' : Option Value} {tl : List (Option Value)} {x : Int64} (hd : decode Y.2.1 pc = .ok (.lstore 4, 2)) (hq : pc + 2 = q) (hp : pj_c1 o3 = true) (kk : pj_V E B l Y d mc ms q (o0 :: o1 :: o2 :: o3 :: some (.long x) :: none :: tl) st h n ce sl Q) : pj_V E B l Y d mc ms pc (o0 :: o1 :: o2 :: o3 :: o4 :: o' :: tl) (.long x :: st) h n ce sl Q := by
  subst hq
  intro p e s m args below meth c H locs la S hr hk hn hW hH hS hL
  have hi : 4 + 1 < Y.2.2.1 := by rw [← hL.2]; simp only [List.length_cons]; omega
  exact lv_lstore S.1 S.2.1 hd hL.1 hi rfl (fun la' h' => kk p e s m args below meth c H locs la' S hr hk hn hW hH hS (hL.set2 hi (fun o _ z => by cases z; exact hp) h'))
theorem pj_iinc4 {o0 o1 o2 o3 : Option Value} {tl : List (Option Value)} {k : Int} {x v : Int32} (hd : decode Y.2.1 pc = .ok (.iinc 4 k, 3)) (hq : pc + 3 = q) (hp : pj_c1 o3 = true) (hv : Int32.ofInt k = v) (kk : pj_V E B l Y d mc ms q (o0 :: o1 :: o2 :: o3 :: some (.int (x + v)) :: tl) st h n ce sl Q) : pj_V E B l Y d mc ms pc (o0 :: o1 :: o2 :: o3 :: some (.int x) :: tl) st h n ce sl Q := by
  subst hq
  subst hv
  intro p e s m args below meth c H locs la S hr hk hn hW hH hS hL
  have hi : 4 < Y.2.2.1 := by rw [← hL.2]; simp only [List.length_cons]; omega
  obtain ⟨j, hj⟩ := List.getElem?_of_mem ((pj_as_mem (o0 :: o1 :: o2 :: o3 :: some (.int x) :: tl) 0 4 (.int x)).mpr ⟨4, by omega, rfl⟩)
  exact lv_iinc S.1 S.2.1 hd hL.1 hj rfl hi rfl (fun la' h' => kk p e s m args below meth c H locs la' S hr hk hn hW hH hS (hL.set1 hi (fun o _ z => by cases z; exact hp) h'))
theorem pj_ist5 {o0 o1 o2 o3 o4 o5 : Option Value} {tl : List (Option Value)} {x : Int32} (hd : decode Y.2.1 pc = .ok (.istore 5, 2)) (hq : pc + 2 = q) (hp : pj_c1 o4 = true) (kk : pj_V E B l Y d mc ms q (o0 :: o1 :: o2 :: o3 :: o4 :: some (.int x) :: tl) st h n ce sl Q) : pj_V E B l Y d mc ms pc (o0 :: o1 :: o2 :: o3 :: o4 :: o5 :: tl) (.int x :: st) h n ce sl Q := by
  subst hq
  intro p e s m args below meth c H locs la S hr hk hn hW hH hS hL
  have hi : 5 < Y.2.2.1 := by rw [← hL.2]; simp only [List.length_cons]; omega
  exact lv_istore S.1 S.2.1 hd hL.1 hi rfl (fun la' h' => kk p e s m args below meth c H locs la' S hr hk hn hW hH hS (hL.set1 hi (fun o _ z => by cases z; exact hp) h'))
theorem pj_ast5 {o0 o1 o2 o3 o4 o5 : Option Value} {tl : List (Option Value)} {x : Nat} (hd : decode Y.2.1 pc = .ok (.astore 5, 2)) (hq : pc + 2 = q) (hp : pj_c1 o4 = true) (kk : pj_V E B l Y d mc ms q (o0 :: o1 :: o2 :: o3 :: o4 :: some (.ref x) :: tl) st h n ce sl Q) : pj_V E B l Y d mc ms pc (o0 :: o1 :: o2 :: o3 :: o4 :: o5 :: tl) (.ref x :: st) h n ce sl Q := by
  subst hq
  intro p e s m args below meth c H locs la S hr hk hn hW hH hS hL
  have hi : 5 < Y.2.2.1 := by rw [← hL.2]; simp only [List.length_cons]; omega
  exact lv_astore S.1 S.2.1 hd hL.1 hi rfl (fun la' h' => kk p e s m args below meth c H locs la' S hr hk hn hW hH hS (hL.set1 hi (fun o _ z => by cases z; exact hp) h'))
theorem pj_lst5 {o0 o1 o2 o3 o4 o5 : Option Value} {o' : Option Value} {tl : List (Option Value)} {x : Int64} (hd : decode Y.2.1 pc = .ok (.lstore 5, 2)) (hq : pc + 2 = q) (hp : pj_c1 o4 = true) (kk : pj_V E B l Y d mc ms q (o0 :: o1 :: o2 :: o3 :: o4 :: some (.long x) :: none :: tl) st h n ce sl Q) : pj_V E B l Y d mc ms pc (o0 :: o1 :: o2 :: o3 :: o4 :: o5 :: o' :: tl) (.long x :: st) h n ce sl Q := by
  subst hq
  intro p e s m args below meth c H locs la S hr hk hn hW hH hS hL
  have hi : 5 + 1 < Y.2.2.1 := by rw [← hL.2]; simp only [List.length_cons]; omega
  exact lv_lstore S.1 S.2.1 hd hL.1 hi rfl (fun la' h' => kk p e s m args below meth c H locs la' S hr hk hn hW hH hS (hL.set2 hi (fun o _ z => by cases z; exact hp) h'))
theorem pj_iinc5 {o0 o1 o2 o3 o4 : Option Value} {tl : List (Option Value)} {k : Int} {x v : Int32} (hd : decode Y.2.1 pc = .ok (.iinc 5 k, 3)) (hq : pc + 3 = q) (hp : pj_c1 o4 = true) (hv : Int32.ofInt k = v) (kk : pj_V E B l Y d mc ms q (o0 :: o1 :: o2 :: o3 :: o4 :: some (.int (x + v)) :: tl) st h n ce sl Q) : pj_V E B l Y d mc ms pc (o0 :: o1 :: o2 :: o3 :: o4 :: some (.int x) :: tl) st h n ce sl Q := by
  subst hq
  subst hv
  intro p e s m args below meth c H locs la S hr hk hn hW hH hS hL
  have hi : 5 < Y.2.2.1 := by rw [← hL.2]; simp only [List.length_cons]; omega
  obtain ⟨j, hj⟩ := List.getElem?_of_mem ((pj_as_mem (o0 :: o1 :: o2 :: o3 :: o4 :: some (.int x) :: tl) 0 5 (.int x)).mpr ⟨5, by omega, rfl⟩)
  exact lv_iinc S.1 S.2.1 hd hL.1 hj rfl hi rfl (fun la' h' => kk p e s m args below meth c H locs la' S hr hk hn hW hH hS (hL.set1 hi (fun o _ z => by cases z; exact hp) h'))
theorem pj_ist6 {o0 o1 o2 o3 o4 o5 o6 : Option Value} {tl : List (Option Value)} {x : Int32} (hd : decode Y.2.1 pc = .ok (.istore 6, 2)) (hq : pc + 2 = q) (hp : pj_c1 o5 = true) (kk : pj_V E B l Y d mc ms q (o0 :: o1 :: o2 :: o3 :: o4 :: o5 :: some (.int x) :: tl) st h n ce sl Q) : pj_V E B l Y d mc ms pc (o0 :: o1 :: o2 :: o3 :: o4 :: o5 :: o6 :: tl) (.int x :: st) h n ce sl Q := by
  subst hq
  intro p e s m args below meth c H locs la S hr hk hn hW hH hS hL
  have hi : 6 < Y.2.2.1 := by rw [← hL.2]; simp only [List.length_cons]; omega
  exact lv_istore S.1 S.2.1 hd hL.1 hi rfl (fun la' h' => kk p e s m args below meth c H locs la' S hr hk hn hW hH hS (hL.set1 hi (fun o _ z => by cases z; exact hp) h'))
theorem pj_ast6 {o0 o1 o2 o3 o4 o5 o6 : Option Value} {tl : List (Option Value)} {x : Nat} (hd : decode Y.2.1 pc = .ok (.astore 6, 2)) (hq : pc + 2 = q) (hp : pj_c1 o5 = true) (kk : pj_V E B l Y d mc ms q (o0 :: o1 :: o2 :: o3 :: o4 :: o5 :: some (.ref x) :: tl) st h n ce sl Q) : pj_V E B l Y d mc ms pc (o0 :: o1 :: o2 :: o3 :: o4 :: o5 :: o6 :: tl) (.ref x :: st) h n ce sl Q := by
  subst hq
  intro p e s m args below meth c H locs la S hr hk hn hW hH hS hL
  have hi : 6 < Y.2.2.1 := by rw [← hL.2]; simp only [List.length_cons]; omega
  exact lv_astore S.1 S.2.1 hd hL.1 hi rfl (fun la' h' => kk p e s m args below meth c H locs la' S hr hk hn hW hH hS (hL.set1 hi (fun o _ z => by cases z; exact hp) h'))
theorem pj_lst6 {o0 o1 o2 o3 o4 o5 o6 : Option Value} {o' : Option Value} {tl : List (Option Value)} {x : Int64} (hd : decode Y.2.1 pc = .ok (.lstore 6, 2)) (hq : pc + 2 = q) (hp : pj_c1 o5 = true) (kk : pj_V E B l Y d mc ms q (o0 :: o1 :: o2 :: o3 :: o4 :: o5 :: some (.long x) :: none :: tl) st h n ce sl Q) : pj_V E B l Y d mc ms pc (o0 :: o1 :: o2 :: o3 :: o4 :: o5 :: o6 :: o' :: tl) (.long x :: st) h n ce sl Q := by
  subst hq
  intro p e s m args below meth c H locs la S hr hk hn hW hH hS hL
  have hi : 6 + 1 < Y.2.2.1 := by rw [← hL.2]; simp only [List.length_cons]; omega
  exact lv_lstore S.1 S.2.1 hd hL.1 hi rfl (fun la' h' => kk p e s m args below meth c H locs la' S hr hk hn hW hH hS (hL.set2 hi (fun o _ z => by cases z; exact hp) h'))
theorem pj_iinc6 {o0 o1 o2 o3 o4 o5 : Option Value} {tl : List (Option Value)} {k : Int} {x v : Int32} (hd : decode Y.2.1 pc = .ok (.iinc 6 k, 3)) (hq : pc + 3 = q) (hp : pj_c1 o5 = true) (hv : Int32.ofInt k = v) (kk : pj_V E B l Y d mc ms q (o0 :: o1 :: o2 :: o3 :: o4 :: o5 :: some (.int (x + v)) :: tl) st h n ce sl Q) : pj_V E B l Y d mc ms pc (o0 :: o1 :: o2 :: o3 :: o4 :: o5 :: some (.int x) :: tl) st h n ce sl Q := by
  subst hq
  subst hv
  intro p e s m args below meth c H locs la S hr hk hn hW hH hS hL
  have hi : 6 < Y.2.2.1 := by rw [← hL.2]; simp only [List.length_cons]; omega
  obtain ⟨j, hj⟩ := List.getElem?_of_mem ((pj_as_mem (o0 :: o1 :: o2 :: o3 :: o4 :: o5 :: some (.int x) :: tl) 0 6 (.int x)).mpr ⟨6, by omega, rfl⟩)
  exact lv_iinc S.1 S.2.1 hd hL.1 hj rfl hi rfl (fun la' h' => kk p e s m args below meth c H locs la' S hr hk hn hW hH hS (hL.set1 hi (fun o _ z => by cases z; exact hp) h'))
theorem pj_ist7 {o0 o1 o2 o3 o4 o5 o6 o7 : Option Value} {tl : List (Option Value)} {x : Int32} (hd : decode Y.2.1 pc = .ok (.istore 7, 2)) (hq : pc + 2 = q) (hp : pj_c1 o6 = true) (kk : pj_V E B l Y d mc ms q (o0 :: o1 :: o2 :: o3 :: o4 :: o5 :: o6 :: some (.int x) :: tl) st h n ce sl Q) : pj_V E B l Y d mc ms pc (o0 :: o1 :: o2 :: o3 :: o4 :: o5 :: o6 :: o7 :: tl) (.int x :: st) h n ce sl Q := by
  subst hq
  intro p e s m args below meth c H locs la S hr hk hn hW hH hS hL
  have hi : 7 < Y.2.2.1 := by rw [← hL.2]; simp only [List.length_cons]; omega
  exact lv_istore S.1 S.2.1 hd hL.1 hi rfl (fun la' h' => kk p e s m args below meth c H locs la' S hr hk hn hW hH hS (hL.set1 hi (fun o _ z => by cases z; exact hp) h'))
theorem pj_ast7 {o0 o1 o2 o3 o4 o5 o6 o7 : Option Value} {tl : List (Option Value)} {x : Nat} (hd : decode Y.2.1 pc = .ok (.astore 7, 2)) (hq : pc + 2 = q) (hp : pj_c1 o6 = true) (kk : pj_V E B l Y d mc ms q (o0 :: o1 :: o2 :: o3 :: o4 :: o5 :: o6 :: some (.ref x) :: tl) st h n ce sl Q) : pj_V E B l Y d mc ms pc (o0 :: o1 :: o2 :: o3 :: o4 :: o5 :: o6 :: o7 :: tl) (.ref x :: st) h n ce sl Q := by
  subst hq
  intro p e s m args below meth c H locs la S hr hk hn hW hH hS hL
  have hi : 7 < Y.2.2.1 := by rw [← hL.2]; simp only [List.length_cons]; omega
  exact lv_astore S.1 S.2.1 hd hL.1 hi rfl (fun la' h' => kk p e s m args below meth c H locs la' S hr hk hn hW hH hS (hL.set1 hi (fun o _ z => by cases z; exact hp) h'))
theorem pj_lst7 {o0 o1 o2 o3 o4 o5 o6 o7 : Option Value} {o' : Option Value} {tl : List (Option Value)} {x : Int64} (hd : decode Y.2.1 pc = .ok (.lstore 7, 2)) (hq : pc + 2 = q) (hp : pj_c1 o6 = true) (kk : pj_V E B l Y d mc ms q (o0 :: o1 :: o2 :: o3 :: o4 :: o5 :: o6 :: some (.long x) :: none :: tl) st h n ce sl Q) : pj_V E B l Y d mc ms pc (o0 :: o1 :: o2 :: o3 :: o4 :: o5 :: o6 :: o7 :: o' :: tl) (.long x :: st) h n ce sl Q := by
  subst hq
  intro p e s m args below meth c H locs la S hr hk hn hW hH hS hL
  have hi : 7 + 1 < Y.2.2.1 := by rw [← hL.2]; simp only [List.length_cons]; omega
  exact lv_lstore S.1 S.2.1 hd hL.1 hi rfl (fun la' h' => kk p e s m args below meth c H locs la' S hr hk hn hW hH hS (hL.set2 hi (fun o _ z => by cases z; exact hp) h'))
theorem pj_iinc7 {o0 o1 o2 o3 o4 o5 o6 : Option Value} {tl : List (Option Value)} {k : Int} {x v : Int32} (hd : decode Y.2.1 pc = .ok (.iinc 7 k, 3)) (hq : pc + 3 = q) (hp : pj_c1 o6 = true) (hv : Int32.ofInt k = v) (kk : pj_V E B l Y d mc ms q (o0 :: o1 :: o2 :: o3 :: o4 :: o5 :: o6 :: some (.int (x + v)) :: tl) st h n ce sl Q) : pj_V E B l Y d mc ms pc (o0 :: o1 :: o2 :: o3 :: o4 :: o5 :: o6 :: some (.int x) :: tl) st h n ce sl Q := by
  subst hq
  subst hv
  intro p e s m args below meth c H locs la S hr hk hn hW hH hS hL
  have hi : 7 < Y.2.2.1 := by rw [← hL.2]; simp only [List.length_cons]; omega
  obtain ⟨j, hj⟩ := List.getElem?_of_mem ((pj_as_mem (o0 :: o1 :: o2 :: o3 :: o4 :: o5 :: o6 :: some (.int x) :: tl) 0 7 (.int x)).mpr ⟨7, by omega, rfl⟩)
  exact lv_iinc S.1 S.2.1 hd hL.1 hj rfl hi rfl (fun la' h' => kk p e s m args below meth c H locs la' S hr hk hn hW hH hS (hL.set1 hi (fun o _ z => by cases z; exact hp) h'))
theorem pj_ist8 {o0 o1 o2 o3 o4 o5 o6 o7 o8 : Option Value} {tl : List (Option Value)} {x : Int32} (hd : decode Y.2.1 pc = .ok (.istore 8, 2)) (hq : pc + 2 = q) (hp : pj_c1 o7 = true) (kk : pj_V E B l Y d mc ms q (o0 :: o1 :: o2 :: o3 :: o4 :: o5 :: o6 :: o7 :: some (.int x) :: tl) st h n ce sl Q) : pj_V E B l Y d mc ms pc (o0 :: o1 :: o2 :: o3 :: o4 :: o5 :: o6 :: o7 :: o8 :: tl) (.int x :: st) h n ce sl Q := by
  subst hq
  intro p e s m args below meth c H locs la S hr hk hn hW hH hS hL
  have hi : 8 < Y.2.2.1 := by rw [← hL.2]; simp only [List.length_cons]; omega
  exact lv_istore S.1 S.2.1 hd hL.1 hi rfl (fun la' h' => kk p e s m args below meth c H locs la' S hr hk hn hW hH hS (hL.set1 hi (fun o _ z => by cases z; exact hp) h'))
theorem pj_ast8 {o0 o1 o2 o3 o4 o5 o6 o7 o8 : Option Value} {tl : List (Option Value)} {x : Nat} (hd : decode Y.2.1 pc = .ok (.astore 8, 2)) (hq : pc + 2 = q) (hp : pj_c1 o7 = true) (kk : pj_V E B l Y d mc ms q (o0 :: o1 :: o2 :: o3 :: o4 :: o5 :: o6 :: o7 :: some (.ref x) :: tl) st h n ce sl Q) : pj_V E B l Y d mc ms pc (o0 :: o1 :: o2 :: o3 :: o4 :: o5 :: o6 :: o7 :: o8 :: tl) (.ref x :: st) h n ce sl Q := by
  subst hq
  intro p e s m args below meth c H locs la S hr hk hn hW hH hS hL
  have hi : 8 < Y.2.2.1 := by rw [← hL.2]; simp only [List.length_cons]; omega
  exact lv_astore S.1 S.2.1 hd hL.1 hi rfl (fun la' h' => kk p e s m args below meth c H locs la' S hr hk hn hW hH hS (hL.set1 hi (fun o _ z => by cases z; exact hp) h'))
theorem pj_lst8 {o0 o1 o2 o3 o4 o5 o6 o7 o8 : Option Value} {o' : Option Value} {tl : List (Option Value)} {x : Int64} (hd : decode Y.2.1 pc = .ok (.lstore 8, 2)) (hq : pc + 2 = q) (hp : pj_c1 o7 = true) (kk : pj_V E B l Y d mc ms q (o0 :: o1 :: o2 :: o3 :: o4 :: o5 :: o6 :: o7 :: some (.long x) :: none :: tl) st h n ce sl Q) : pj_V E B l Y d mc ms pc (o0 :: o1 :: o2 :: o3 :: o4 :: o5 :: o6 :: o7 :: o8 :: o' :: tl) (.long x :: st) h n ce sl Q := by
  subst hq
  intro p e s m args below meth c H locs la S hr hk hn hW hH hS hL
  have hi : 8 + 1 < Y.2.2.1 := by rw [← hL.2]; simp only [List.length_cons]; omega
  exact lv_lstore S.1 S.2.1 hd hL.1 hi rfl (fun la' h' => kk p e s m args below meth c H locs la' S hr hk hn hW hH hS (hL.set2 hi (fun o _ z => by cases z; exact hp) h'))
theorem pj_iinc8 {o0 o1 o2 o3 o4 o5 o6 o7 : Option Value} {tl : List (Option Value)} {k : Int} {x v : Int32} (hd : decode Y.2.1 pc = .ok (.iinc 8 k, 3)) (hq : pc + 3 = q) (hp : pj_c1 o7 = true) (hv : Int32.ofInt k = v) (kk : pj_V E B l Y d mc ms q (o0 :: o1 :: o2 :: o3 :: o4 :: o5 :: o6 :: o7 :: some (.int (x + v)) :: tl) st h n ce sl Q) : pj_V E B l Y d mc ms pc (o0 :: o1 :: o2 :: o3 :: o4 :: o5 :: o6 :: o7 :: some (.int x) :: tl) st h n ce sl Q := by
  subst hq
  subst hv
  intro p e s m args below meth c H locs la S hr hk hn hW hH hS hL
  have hi : 8 < Y.2.2.1 := by rw [← hL.2]; simp only [List.length_cons]; omega
  obtain ⟨j, hj⟩ := List.getElem?_of_mem ((pj_as_mem (o0 :: o1 :: o2 :: o3 :: o4 :: o5 :: o6 :: o7 :: some (.int x) :: tl) 0 8 (.int x)).mpr ⟨8, by omega, rfl⟩)
  exact lv_iinc S.1 S.2.1 hd hL.1 hj rfl hi rfl (fun la' h' => kk p e s m args below meth c H locs la' S hr hk hn hW hH hS (hL.set1 hi (fun o _ z => by cases z; exact hp) h'))
theorem pj_ist9 {o0 o1 o2 o3 o4 o5 o6 o7 o8 o9 : Option Value} {tl : List (Option Value)} {x : Int32} (hd : decode Y.2.1 pc = .ok (.istore 9, 2)) (hq : pc + 2 = q) (hp : pj_c1 o8 = true) (kk : pj_V E B l Y d mc ms q (o0 :: o1 :: o2 :: o3 :: o4 :: o5 :: o6 :: o7 :: o8 :: some (.int x) :: tl) st h n ce sl Q) : pj_V E B l Y d mc ms pc (o0 :: o1 :: o2 :: o3 :: o4 :: o5 :: o6 :: o7 :: o8 :: o9 :: tl) (.int x :: st) h n ce sl Q := by
  subst hq
  intro p e s m args below meth c H locs la S hr hk hn hW hH hS hL
  have hi : 9 < Y.2.2.1 := by rw [← hL.2]; simp only [List.length_cons]; omega
  exact lv_istore S.1 S.2.1 hd hL.1 hi rfl (fun la' h' => kk p e s m args below meth c H locs la' S hr hk hn hW hH hS (hL.set1 hi (fun o _ z => by cases z; exact hp) h'))
theorem pj_ast9 {o0 o1 o2 o3 o4 o5 o6 o7 o8 o9 : Option Value} {tl : List (Option Value)} {x : Nat} (hd : decode Y.2.1 pc = .ok (.astore 9, 2)) (hq : pc + 2 = q) (hp : pj_c1 o8 = true) (kk : pj_V E B l Y d mc ms q (o0 :: o1 :: o2 :: o3 :: o4 :: o5 :: o6 :: o7 :: o8 :: some (.ref x) :: tl) st h n ce sl Q) : pj_V E B l Y d mc ms pc (o0 :: o1 :: o2 :: o3 :: o4 :: o5 :: o6 :: o7 :: o8 :: o9 :: tl) (.ref x :: st) h n ce sl Q := by
  subst hq
  intro p e s m args below meth c H locs la S hr hk hn hW hH hS hL
  have hi : 9 < Y.2.2.1 := by rw [← hL.2]; simp only [List.length_cons]; omega
  exact lv_astore S.1 S.2.1 hd hL.1 hi rfl (fun la' h' => kk p e s m args below meth c H locs la' S hr hk hn hW hH hS (hL.set1 hi (fun o _ z => by cases z; exact hp) h'))
theorem pj_lst9 {o0 o1 o2 o3 o4 o5 o6 o7 o8 o9 : Option Value} {o' : Option Value} {tl : List (Option Value)} {x : Int64} (hd : decode Y.2.1 pc = .ok (.lstore 9, 2)) (hq : pc + 2 = q) (hp : pj_c1 o8 = true) (kk : pj_V E B l Y d mc ms q (o0 :: o1 :: o2 :: o3 :: o4 :: o5 :: o6 :: o7 :: o8 :: some (.long x) :: none :: tl) st h n ce sl Q) : pj_V E B l Y d mc ms pc (o0 :: o1 :: o2 :: o3 :: o4 :: o5 :: o6 :: o7 :: o8 :: o9 :: o' :: tl) (.long x :: st) h n ce sl Q := by
  subst hq
  intro p e s m args below meth c H locs la S hr hk hn hW hH hS hL
  have hi : 9 + 1 < Y.2.2.1 := by rw [← hL.2]; simp only [List.length_cons]; omega
  exact lv_lstore S.1 S.2.1 hd hL.1 hi rfl (fun la' h' => kk p e s m args below meth c H locs la' S hr hk hn hW hH hS (hL.set2 hi (fun o _ z => by cases z; exact hp) h'))
theorem pj_iinc9 {o0 o1 o2 o3 o4 o5 o6 o7 o8 : Option Value} {tl : List (Option Value)} {k : Int} {x v : Int32} (hd : decode Y.2.1 pc = .ok (.iinc 9 k, 3)) (hq : pc + 3 = q) (hp : pj_c1 o8 = true) (hv : Int32.ofInt k = v) (kk : pj_V E B l Y d mc ms q (o0 :: o1 :: o2 :: o3 :: o4 :: o5 :: o6 :: o7 :: o8 :: some (.int (x + v)) :: tl) st h n ce sl Q) : pj_V E B l Y d mc ms pc (o0 :: o1 :: o2 :: o3 :: o4 :: o5 :: o6 :: o7 :: o8 :: some (.int x) :: tl) st h n ce sl Q := by
  subst hq
  subst hv
  intro p e s m args below meth c H locs la S hr hk hn hW hH hS hL
  have hi : 9 < Y.2.2.1 := by rw [← hL.2]; simp only [List.length_cons]; omega
  obtain ⟨j, hj⟩ := List.getElem?_of_mem ((pj_as_mem (o0 :: o1 :: o2 :: o3 :: o4 :: o5 :: o6 :: o7 :: o8 :: some (.int x) :: tl) 0 9 (.int x)).mpr ⟨9, by omega, rfl⟩)
  exact lv_iinc S.1 S.2.1 hd hL.1 hj rfl hi rfl (fun la' h' => kk p e s m args below meth c H locs la' S hr hk hn hW hH hS (hL.set1 hi (fun o _ z => by cases z; exact hp) h'))
theorem pj_ist10 {o0 o1 o2 o3 o4 o5 o6 o7 o8 o9 o10 : Option Value} {tl : List (Option Value)} {x : Int32} (hd : decode Y.2.1 pc = .ok (.istore 10, 2)) (hq : pc + 2 = q) (hp : pj_c1 o9 = true) (kk : pj_V E B l Y d mc ms q (o0 :: o1 :: o2 :: o3 :: o4 :: o5 :: o6 :: o7 :: o8 :: o9 :: some (.int x) :: tl) st h n ce sl Q) : pj_V E B l Y d mc ms pc (o0 :: o1 :: o2 :: o3 :: o4 :: o5 :: o6 :: o7 :: o8 :: o9 :: o10 :: tl) (.int x :: st) h n ce sl Q := by
  subst hq
  intro p e s m args below meth c H locs la S hr hk hn hW hH hS hL
  have hi : 10 < Y.2.2.1 := by rw [← hL.2]; simp only [List.length_cons]; omega
  exact lv_istore S.1 S.2.1 hd hL.1 hi rfl (fun la' h' => kk p e s m args below meth c H locs la' S hr hk hn hW hH hS (hL.set1 hi (fun o _ z => by cases z; exact hp) h'))
theorem pj_ast10 {o0 o1 o2 o3 o4 o5 o6 o7 o8 o9 o10 : Option Value} {tl : List (Option Value)} {x : Nat} (hd : decode Y.2.1 pc = .ok (.astore 10, 2)) (hq : pc + 2 = q) (hp : pj_c1 o9 = true) (kk : pj_V E B l Y d mc ms q (o0 :: o1 :: o2 :: o3 :: o4 :: o5 :: o6 :: o7 :: o8 :: o9 :: some (.ref x) :: tl) st h n ce sl Q) : pj_V E B l Y d mc ms pc (o0 :: o1 :: o2 :: o3 :: o4 :: o5 :: o6 :: o7 :: o8 :: o9 :: o10 :: tl) (.ref x :: st) h n ce sl Q := by
  subst hq
  intro p e s m args below meth c H locs la S hr hk hn hW hH hS hL
  have hi : 10 < Y.2.2.1 := by rw [← hL.2]; simp only [List.length_cons]; omega
  exact lv_astore S.1 S.2.1 hd hL.1 hi rfl (fun la' h' => kk p e s m args below meth c H locs la' S hr hk hn hW hH hS (hL.set1 hi (fun o _ z => by cases z; exact hp) h'))
theorem pj_lst10 {o0 o1 o2 o3 o4 o5 o6 o7 o8 o9 o10 : Option Value} {o' : Option Value} {tl : List (Option Value)} {x : Int64} (hd : decode Y.2.1 pc = .ok (.lstore 10, 2)) (hq : pc + 2 = q) (hp : pj_c1 o9 = true) (kk : pj_V E B l Y d mc ms q (o0 :: o1 :: o2 :: o3 :: o4 :: o5 :: o6 :: o7 :: o8 :: o9 :: some (.long x) :: none :: tl) st h n ce sl Q) : pj_V E B l Y d mc ms pc (o0 :: o1 :: o2 :: o3 :: o4 :: o5 :: o6 :: o7 :: o8 :: o9 :: o10 :: o' :: tl) (.long x :: st) h n ce sl Q := by
  subst hq
  intro p e s m args below meth c H locs la S hr hk hn hW hH hS hL
  have hi : 10 + 1 < Y.2.2.1 := by rw [← hL.2]; simp only [List.length_cons]; omega
  exact lv_lstore S.1 S.2.1 hd hL.1 hi rfl (fun la' h' => kk p e s m args below meth c H locs la' S hr hk hn hW hH hS (hL.set2 hi (fun o _ z => by cases z; exact hp) h'))
theorem pj_iinc10 {o0 o1 o2 o3 o4 o5 o6 o7 o8 o9 : Option Value} {tl : List (Option Value)} {k : Int} {x v : Int32} (hd : decode Y.2.1 pc = .ok (.iinc 10 k, 3)) (hq : pc + 3 = q) (hp : pj_c1 o9 = true) (hv : Int32.ofInt k = v) (kk : pj_V E B l Y d mc ms q (o0 :: o1 :: o2 :: o3 :: o4 :: o5 :: o6 :: o7 :: o8 :: o9 :: some (.int (x + v)) :: tl) st h n ce sl Q) : pj_V E B l Y d mc ms pc (o0 :: o1 :: o2 :: o3 :: o4 :: o5 :: o6 :: o7 :: o8 :: o9 :: some (.int x) :: tl) st h n ce sl Q := by
  subst hq
  subst hv
  intro p e s m args below meth c H locs la S hr hk hn hW hH hS hL
  have hi : 10 < Y.2.2.1 := by rw [← hL.2]; simp only [List.length_cons]; omega
  obtain ⟨j, hj⟩ := List.getElem?_of_mem ((pj_as_mem (o0 :: o1 :: o2 :: o3 :: o4 :: o5 :: o6 :: o7 :: o8 :: o9 :: some (.int x) :: tl) 0 10 (.int x)).mpr ⟨10, by omega, rfl⟩)
  exact lv_iinc S.1 S.2.1 hd hL.1 hj rfl hi rfl (fun la' h' => kk p e s m args below meth c H locs la' S hr hk hn hW hH hS (hL.set1 hi (fun o _ z => by cases z; exact hp) h'))
theorem pj_ist11 {o0 o1 o2 o3 o4 o5 o6 o7 o8 o9 o10 o11 : Option Value} {tl : List (Option Value)} {x : Int32} (hd : decode Y.2.1 pc = .ok (.istore 11, 2)) (hq : pc + 2 = q) (hp : pj_c1 o10 = true) (kk : pj_V E B l Y d mc ms q (o0 :: o1 :: o2 :: o3 :: o4 :: o5 :: o6 :: o7 :: o8 :: o9 :: o10 :: some (.int x) :: tl) st h n ce sl Q) : pj_V E B l Y d mc ms pc (o0 :: o1 :: o2 :: o3 :: o4 :: o5 :: o6 :: o7 :: o8 :: o9 :: o10 :: o11 :: tl) (.int x :: st) h n ce sl Q := by
  subst hq
  intro p e s m args below meth c H locs la S hr hk hn hW hH hS hL
  have hi : 11 < Y.2.2.1 := by rw [← hL.2]; simp only [List.length_cons]; omega
  exact lv_istore S.1 S.2.1 hd hL.1 hi rfl (fun la' h' => kk p e s m args below meth c H locs la' S hr hk hn hW hH hS (hL.set1 hi (fun o _ z => by cases z; exact hp) h'))
theorem pj_ast11 {o0 o1 o2 o3 o4 o5 o6 o7 o8 o9 o10 o11 : Option Value} {tl : List (Option Value)} {x : Nat} (hd : decode Y.2.1 pc = .ok (.astore 11, 2)) (hq : pc + 2 = q) (hp : pj_c1 o10 = true) (kk : pj_V E B l Y d mc ms q (o0 :: o1 :: o2 :: o3 :: o4 :: o5 :: o6 :: o7 :: o8 :: o9 :: o10 :: some (.ref x) :: tl) st h n ce sl Q) : pj_V E B l Y d mc ms pc (o0 :: o1 :: o2 :: o3 :: o4 :: o5 :: o6 :: o7 :: o8 :: o9 :: o10 :: o11 :: tl) (.ref x :: st) h n ce sl Q := by
  subst hq
  intro p e s m args below meth c H locs la S hr hk hn hW hH hS hL
  have hi : 11 < Y.2.2.1 := by rw [← hL.2]; simp only [List.length_cons]; omega
  exact lv_astore S.1 S.2.1 hd hL.1 hi rfl (fun la' h' => kk p e s m args below meth c H locs la' S hr hk hn hW hH hS (hL.set1 hi (fun o _ z => by cases z; exact hp) h'))
theorem pj_lst11 {o0 o1 o2 o3 o4 o5 o6 o7 o8 o9 o10 o11 : Option Value} {o' : Option Value} {tl : List (Option Value)} {x : Int64} (hd : decode Y.2.1 pc = .ok (.lstore 11, 2)) (hq : pc + 2 = q) (hp : pj_c1 o10 = true) (kk : pj_V E B l Y d mc ms q (o0 :: o1 :: o2 :: o3 :: o4 :: o5 :: o6 :: o7 :: o8 :: o9 :: o10 :: some (.long x) :: none :: tl) st h n ce sl Q) : pj_V E B l Y d mc ms pc (o0 :: o1 :: o2 :: o3 :: o4 :: o5 :: o6 :: o7 :: o8 :: o9 :: o10 :: o11 :: o' :: tl) (.long x :: st) h n ce sl Q := by
  subst hq
  intro p e s m args below meth c H locs la S hr hk hn hW hH hS hL
  have hi : 11 + 1 < Y.2.2.1 := by rw [← hL.2]; simp only [List.length_cons]; omega
  exact lv_lstore S.1 S.2.1 hd hL.1 hi rfl (fun la' h' => kk p e s m args below meth c H locs la' S hr hk hn hW hH hS (hL.set2 hi (fun o _ z => by cases z; exact hp) h'))
theorem pj_iinc11 {o0 o1 o2 o3 o4 o5 o6 o7 o8 o9 o10 : Option Value} {tl : List (Option Value)} {k : Int} {x v : Int32} (hd : decode Y.2.1 pc = .ok (.iinc 11 k, 3)) (hq : pc + 3 = q) (hp : pj_c1 o10 = true) (hv : Int32.ofInt k = v) (kk : pj_V E B l Y d mc ms q (o0 :: o1 :: o2 :: o3 :: o4 :: o5 :: o6 :: o7 :: o8 :: o9 :: o10 :: some (.int (x + v)) :: tl) st h n ce sl Q) : pj_V E B l Y d mc ms pc (o0 :: o1 :: o2 :: o3 :: o4 :: o5 :: o6 :: o7 :: o8 :: o9 :: o10 :: some (.int x) :: tl) st h n ce sl Q := by
  subst hq
  subst hv
  intro p e s m args below meth c H locs la S hr hk hn hW hH hS hL
  have hi : 11 < Y.2.2.1 := by rw [← hL.2]; simp only [List.length_cons]; omega
  obtain ⟨j, hj⟩ := List.getElem?_of_mem ((pj_as_mem (o0 :: o1 :: o2 :: o3 :: o4 :: o5 :: o6 :: o7 :: o8 :: o9 :: o10 :: some (.int x) :: tl) 0 11 (.int x)).mpr ⟨11, by omega, rfl⟩)
  exact lv_iinc S.1 S.2.1 hd hL.1 hj rfl hi rfl (fun la' h' => kk p e s m args below meth c H locs la' S hr hk hn hW hH hS (hL.set1 hi (fun o _ z => by cases z; exact hp) h'))
theorem pj_ist12 {o0 o1 o2 o3 o4 o5 o6 o7 o8 o9 o10 o11 o12 : Option Value} {tl : List (Option Value)} {x : Int32} (hd : decode Y.2.1 pc = .ok (.istore 12, 2)) (hq : pc + 2 = q) (hp : pj_c1 o11 = true) (kk : pj_V E B l Y d mc ms q (o0 :: o1 :: o2 :: o3 :: o4 :: o5 :: o6 :: o7 :: o8 :: o9 :: o10 :: o11 :: some (.int x) :: tl) st h n ce sl Q) : pj_V E B l Y d mc ms pc (o0 :: o1 :: o2 :: o3 :: o4 :: o5 :: o6 :: o7 :: o8 :: o9 :: o10 :: o11 :: o12 :: tl) (.int x :: st) h n ce sl Q := by
  subst hq
  intro p e s m args below meth c H locs la S hr hk hn hW hH hS hL
  have hi : 12 < Y.2.2.1 := by rw [← hL.2]; simp only [List.length_cons]; omega
  exact lv_istore S.1 S.2.1 hd hL.1 hi rfl (fun la' h' => kk p e s m args below meth c H locs la' S hr hk hn hW hH hS (hL.set1 hi (fun o _ z => by cases z; exact hp) h'))
theorem pj_ast12 {o0 o1 o2 o3 o4 o5 o6 o7 o8 o9 o10 o11 o12 : Option Value} {tl : List (Option Value)} {x : Nat} (hd : decode Y.2.1 pc = .ok (.astore 12, 2)) (hq : pc + 2 = q) (hp : pj_c1 o11 = true) (kk : pj_V E B l Y d mc ms q (o0 :: o1 :: o2 :: o3 :: o4 :: o5 :: o6 :: o7 :: o8 :: o9 :: o10 :: o11 :: some (.ref x) :: tl) st h n ce sl Q) : pj_V E B l Y d mc ms pc (o0 :: o1 :: o2 :: o3 :: o4 :: o5 :: o6 :: o7 :: o8 :: o9 :: o10 :: o11 :: o12 :: tl) (.ref x :: st) h n ce sl Q := by
  subst hq
  intro p e s m args below meth c H locs la S hr hk hn hW hH hS hL
  have hi : 12 < Y.2.2.1 := by rw [← hL.2]; simp only [List.length_cons]; omega
  exact lv_astore S.1 S.2.1 hd hL.1 hi rfl (fun la' h' => kk p e s m args below meth c H locs la' S hr hk hn hW hH hS (hL.set1 hi (fun o _ z => by cases z; exact hp) h'))
theorem pj_lst12 {o0 o1 o2 o3 o4 o5 o6 o7 o8 o9 o10 o11 o12 : Option Value} {o' : Option Value} {tl : List (Option Value)} {x : Int64} (hd : decode Y.2.1 pc = .ok (.lstore 12, 2)) (hq : pc + 2 = q) (hp : pj_c1 o11 = true) (kk : pj_V E B l Y d mc ms q (o0 :: o1 :: o2 :: o3 :: o4 :: o5 :: o6 :: o7 :: o8 :: o9 :: o10 :: o11 :: some (.long x) :: none :: tl) st h n ce sl Q) : pj_V E B l Y d mc ms pc (o0 :: o1 :: o2 :: o3 :: o4 :: o5 :: o6 :: o7 :: o8 :: o9 :: o10 :: o11 :: o12 :: o' :: tl) (.long x :: st) h n ce sl Q := by
  subst hq
  intro p e s m args below meth c H locs la S hr hk hn hW hH hS hL
  have hi : 12 + 1 < Y.2.2.1 := by rw [← hL.2]; simp only [List.length_cons]; omega
  exact lv_lstore S.1 S.2.1 hd hL.1 hi rfl (fun la' h' => kk p e s m args below meth c H locs la' S hr hk hn hW hH hS (hL.set2 hi (fun o _ z => by cases z; exact hp) h'))
theorem pj_iinc12 {o0 o1 o2 o3 o4 o5 o6 o7 o8 o9 o10 o11 : Option Value} {tl : List (Option Value)} {k : Int} {x v : Int32} (hd : decode Y.2.1 pc = .ok (.iinc 12 k, 3)) (hq : pc + 3 = q) (hp : pj_c1 o11 = true) (hv : Int32.ofInt k = v) (kk : pj_V E B l Y d mc ms q (o0 :: o1 :: o2 :: o3 :: o4 :: o5 :: o6 :: o7 :: o8 :: o9 :: o10 :: o11 :: some (.int (x + v)) :: tl) st h n ce sl Q) : pj_V E B l Y d mc ms pc (o0 :: o1 :: o2 :: o3 :: o4 :: o5 :: o6 :: o7 :: o8 :: o9 :: o10 :: o11 :: some (.int x) :: tl) st h n ce sl Q := by
  subst hq
  subst hv
  intro p e s m args below meth c H locs la S hr hk hn hW hH hS hL
  have hi : 12 < Y.2.2.1 := by rw [← hL.2]; simp only [List.length_cons]; omega
  obtain ⟨j, hj⟩ := List.getElem?_of_mem ((pj_as_mem (o0 :: o1 :: o2 :: o3 :: o4 :: o5 :: o6 :: o7 :: o8 :: o9 :: o10 :: o11 :: some (.int x) :: tl) 0 12 (.int x)).mpr ⟨12, by omega, rfl⟩)
  exact lv_iinc S.1 S.2.1 hd hL.1 hj rfl hi rfl (fun la' h' => kk p e s m args below meth c H locs la' S hr hk hn hW hH hS (hL.set1 hi (fun o _ z => by cases z; exact hp) h'))
theorem pj_ist13 {o0 o1 o2 o3 o4 o5 o6 o7 o8 o9 o10 o11 o12 o13 : Option Value} {tl : List (Option Value)} {x : Int32} (hd : decode Y.2.1 pc = .ok (.istore 13, 2)) (hq : pc + 2 = q) (hp : pj_c1 o12 = true) (kk : pj_V E B l Y d mc ms q (o0 :: o1 :: o2 :: o3 :: o4 :: o5 :: o6 :: o7 :: o8 :: o9 :: o10 :: o11 :: o12 :: some (.int x) :: tl) st h n ce sl Q) : pj_V E B l Y d mc ms pc (o0 :: o1 :: o2 :: o3 :: o4 :: o5 :: o6 :: o7 :: o8 :: o9 :: o10 :: o11 :: o12 :: o13 :: tl) (.int x :: st) h n ce sl Q := by
  subst hq
  intro p e s m args below meth c H locs la S hr hk hn hW hH hS hL
  have hi : 13 < Y.2.2.1 := by rw [← hL.2]; simp only [List.length_cons]; omega
  exact lv_istore S.1 S.2.1 hd hL.1 hi rfl (fun la' h' => kk p e s m args below meth c H locs la' S hr hk hn hW hH hS (hL.set1 hi (fun o _ z => by cases z; exact hp) h'))
theorem pj_ast13 {o0 o1 o2 o3 o4 o5 o6 o7 o8 o9 o10 o11 o12 o13 : Option Value} {tl : List (Option Value)} {x : Nat} (hd : decode Y.2.1 pc = .ok (.astore 13, 2)) (hq : pc + 2 = q) (hp : pj_c1 o12 = true) (kk : pj_V E B l Y d mc ms q (o0 :: o1 :: o2 :: o3 :: o4 :: o5 :: o6 :: o7 :: o8 :: o9 :: o10 :: o11 :: o12 :: some (.ref x) :: tl) st h n ce sl Q) : pj_V E B l Y d mc ms pc (o0 :: o1 :: o2 :: o3 :: o4 :: o5 :: o6 :: o7 :: o8 :: o9 :: o10 :: o11 :: o12 :: o13 :: tl) (.ref x :: st) h n ce sl Q := by
  subst hq
  intro p e s m args below meth c H locs la S hr hk hn hW hH hS hL
  have hi : 13 < Y.2.2.1 := by rw [← hL.2]; simp only [List.length_cons]; omega
  exact lv_astore S.1 S.2.1 hd hL.1 hi rfl (fun la' h' => kk p e s m args below meth c H locs la' S hr hk hn hW hH hS (hL.set1 hi (fun o _ z => by cases z; exact hp) h'))
theorem pj_lst13 {o0 o1 o2 o3 o4 o5 o6 o7 o8 o9 o10 o11 o12 o13 : Option Value} {o' : Option Value} {tl : List (Option Value)} {x : Int64} (hd : decode Y.2.1 pc = .ok (.lstore 13, 2)) (hq : pc + 2 = q) (hp : pj_c1 o12 = true) (kk : pj_V E B l Y d mc ms q (o0 :: o1 :: o2 :: o3 :: o4 :: o5 :: o6 :: o7 :: o8 :: o9 :: o10 :: o11 :: o12 :: some (.long x) :: none :: tl) st h n ce sl Q) : pj_V E B l Y d mc ms pc (o0 :: o1 :: o2 :: o3 :: o4 :: o5 :: o6 :: o7 :: o8 :: o9 :: o10 :: o11 :: o12 :: o13 :: o' :: tl) (.long x :: st) h n ce sl Q := by
  subst hq
  intro p e s m args below meth c H locs la S hr hk hn hW hH hS hL
  have hi : 13 + 1 < Y.2.2.1 := by rw [← hL.2]; simp only [List.length_cons]; omega
  exact lv_lstore S.1 S.2.1 hd hL.1 hi rfl (fun la' h' => kk p e s m args below meth c H locs la' S hr hk hn hW hH hS (hL.set2 hi (fun o _ z => by cases z; exact hp) h'))
theorem pj_iinc13 {o0 o1 o2 o3 o4 o5 o6 o7 o8 o9 o10 o11 o12 : Option Value} {tl : List (Option Value)} {k : Int} {x v : Int32} (hd : decode Y.2.1 pc = .ok (.iinc 13 k, 3)) (hq : pc + 3 = q) (hp : pj_c1 o12 = true) (hv : Int32.ofInt k = v) (kk : pj_V E B l Y d mc ms q (o0 :: o1 :: o2 :: o3 :: o4 :: o5 :: o6 :: o7 :: o8 :: o9 :: o10 :: o11 :: o12 :: some (.int (x + v)) :: tl) st h n ce sl Q) : pj_V E B l Y d mc ms pc (o0 :: o1 :: o2 :: o3 :: o4 :: o5 :: o6 :: o7 :: o8 :: o9 :: o10 :: o11 :: o12 :: some (.int x) :: tl) st h n ce sl Q := by
  subst hq
  subst hv
  intro p e s m args below meth c H locs la S hr hk hn hW hH hS hL
  have hi : 13 < Y.2.2.1 := by rw [← hL.2]; simp only [List.length_cons]; omega
  obtain ⟨j, hj⟩ := List.getElem?_of_mem ((pj_as_mem (o0 :: o1 :: o2 :: o3 :: o4 :: o5 :: o6 :: o7 :: o8 :: o9 :: o10 :: o11 :: o12 :: some (.int x) :: tl) 0 13 (.int x)).mpr ⟨13, by omega, rfl⟩)
  exact lv_iinc S.1 S.2.1 hd hL.1 hj rfl hi rfl (fun la' h' => kk p e s m args below meth c H locs la' S hr hk hn hW hH hS (hL.set1 hi (fun o _ z => by cases z; exact hp) h'))
theorem pj_ist14 {o0 o1 o2 o3 o4 o5 o6 o7 o8 o9 o10 o11 o12 o13 o14 : Option Value} {tl : List (Option Value)} {x : Int32} (hd : decode Y.2.1 pc = .ok (.istore 14, 2)) (hq : pc + 2 = q) (hp : pj_c1 o13 = true) (kk : pj_V E B l Y d mc ms q (o0 :: o1 :: o2 :: o3 :: o4 :: o5 :: o6 :: o7 :: o8 :: o9 :: o10 :: o11 :: o12 :: o13 :: some (.int x) :: tl) st h n ce sl Q) : pj_V E B l Y d mc ms pc (o0 :: o1 :: o2 :: o3 :: o4 :: o5 :: o6 :: o7 :: o8 :: o9 :: o10 :: o11 :: o12 :: o13 :: o14 :: tl) (.int x :: st) h n ce sl Q := by
  subst hq
  intro p e s m args below meth c H locs la S hr hk hn hW hH hS hL
  have hi : 14 < Y.2.2.1 := by rw [← hL.2]; simp only [List.length_cons]; omega
  exact lv_istore S.1 S.2.1 hd hL.1 hi rfl (fun la' h' => kk p e s m args below meth c H locs la' S hr hk hn hW hH hS (hL.set1 hi (fun o _ z => by cases z; exact hp) h'))
theorem pj_ast14 {o0 o1 o2 o3 o4 o5 o6 o7 o8 o9 o10 o11 o12 o13 o14 : Option Value} {tl : List (Option Value)} {x : Nat} (hd : decode Y.2.1 pc = .ok (.astore 14, 2)) (hq : pc + 2 = q) (hp : pj_c1 o13 = true) (kk : pj_V E B l Y d mc ms q (o0 :: o1 :: o2 :: o3 :: o4 :: o5 :: o6 :: o7 :: o8 :: o9 :: o10 :: o11 :: o12 :: o13 :: some (.ref x) :: tl) st h n ce sl Q) : pj_V E B l Y d mc ms pc (o0 :: o1 :: o2 :: o3 :: o4 :: o5 :: o6 :: o7 :: o8 :: o9 :: o10 :: o11 :: o12 :: o13 :: o14 :: tl) (.ref x :: st) h n ce sl Q := by
  subst hq
  intro p e s m args below meth c H locs la S hr hk hn hW hH hS hL
  have hi : 14 < Y.2.2.1 := by rw [← hL.2]; simp only [List.length_cons]; omega
  exact lv_astore S.1 S.2.1 hd hL.1 hi rfl (fun la' h' => kk p e s m args below meth c H locs la' S hr hk hn hW hH hS (hL.set1 hi (fun o _ z => by cases z; exact hp) h'))
theorem pj_lst14 {o0 o1 o2 o3 o4 o5 o6 o7 o8 o9 o10 o11 o12 o13 o14 : Option Value} {o' : Option Value} {tl : List (Option Value)} {x : Int64} (hd : decode Y.2.1 pc = .ok (.lstore 14, 2)) (hq : pc + 2 = q) (hp : pj_c1 o13 = true) (kk : pj_V E B l Y d mc ms q (o0 :: o1 :: o2 :: o3 :: o4 :: o5 :: o6 :: o7 :: o8 :: o9 :: o10 :: o11 :: o12 :: o13 :: some (.long x) :: none :: tl) st h n ce sl Q) : pj_V E B l Y d mc ms pc (o0 :: o1 :: o2 :: o3 :: o4 :: o5 :: o6 :: o7 :: o8 :: o9 :: o10 :: o11 :: o12 :: o13 :: o14 :: o' :: tl) (.long x :: st) h n ce sl Q := by
  subst hq
  intro p e s m args below meth c H locs la S hr hk hn hW hH hS hL
  have hi : 14 + 1 < Y.2.2.1 := by rw [← hL.2]; simp only [List.length_cons]; omega
  exact lv_lstore S.1 S.2.1 hd hL.1 hi rfl (fun la' h' => kk p e s m args below meth c H locs la' S hr hk hn hW hH hS (hL.set2 hi (fun o _ z => by cases z; exact hp) h'))
theorem pj_iinc14 {o0 o1 o2 o3 o4 o5 o6 o7 o8 o9 o10 o11 o12 o13 : Option Value} {tl : List (Option Value)} {k : Int} {x v : Int32} (hd : decode Y.2.1 pc = .ok (.iinc 14 k, 3)) (hq : pc + 3 = q) (hp : pj_c1 o13 = true) (hv : Int32.ofInt k = v) (kk : pj_V E B l Y d mc ms q (o0 :: o1 :: o2 :: o3 :: o4 :: o5 :: o6 :: o7 :: o8 :: o9 :: o10 :: o11 :: o12 :: o13 :: some (.int (x + v)) :: tl) st h n ce sl Q) : pj_V E B l Y d mc ms pc (o0 :: o1 :: o2 :: o3 :: o4 :: o5 :: o6 :: o7 :: o8 :: o9 :: o10 :: o11 :: o12 :: o13 :: some (.int x) :: tl) st h n ce sl Q := by
  subst hq
  subst hv
  intro p e s m args below meth c H locs la S hr hk hn hW hH hS hL
  have hi : 14 < Y.2.2.1 := by rw [← hL.2]; simp only [List.length_cons]; omega
  obtain ⟨j, hj⟩ := List.getElem?_of_mem ((pj_as_mem (o0 :: o1 :: o2 :: o3 :: o4 :: o5 :: o6 :: o7 :: o8 :: o9 :: o10 :: o11 :: o12 :: o13 :: some (.int x) :: tl) 0 14 (.int x)).mpr ⟨14, by omega, rfl⟩)
  exact lv_iinc S.1 S.2.1 hd hL.1 hj rfl hi rfl (fun la' h' => kk p e s m args below meth c H locs la' S hr hk hn hW hH hS (hL.set1 hi (fun o _ z => by cases z; exact hp) h'))
theorem pj_ist15 {o0 o1 o2 o3 o4 o5 o6 o7 o8 o9 o10 o11 o12 o13 o14 o15 : Option Value} {tl : List (Option Value)} {x : Int32} (hd : decode Y.2.1 pc = .ok (.istore 15, 2)) (hq : pc + 2 = q) (hp : pj_c1 o14 = true) (kk : pj_V E B l Y d mc ms q (o0 :: o1 :: o2 :: o3 :: o4 :: o5 :: o6 :: o7 :: o8 :: o9 :: o10 :: o11 :: o12 :: o13 :: o14 :: some (.int x) :: tl) st h n ce sl Q) : pj_V E B l Y d mc ms pc (o0 :: o1 :: o2 :: o3 :: o4 :: o5 :: o6 :: o7 :: o8 :: o9 :: o10 :: o11 :: o12 :: o13 :: o14 :: o15 :: tl) (.int x :: st) h n ce sl Q := by
  subst hq
  intro p e s m args below meth c H locs la S hr hk hn hW hH hS hL
  have hi : 15 < Y.2.2.1 := by rw [← hL.2]; simp only [List.length_cons]; omega
  exact lv_istore S.1 S.2.1 hd hL.1 hi rfl (fun la' h' => kk p e s m args below meth c H locs la' S hr hk hn hW hH hS (hL.set1 hi (fun o _ z => by cases z; exact hp) h'))
theorem pj_ast15 {o0 o1 o2 o3 o4 o5 o6 o7 o8 o9 o10 o11 o12 o13 o14 o15 : Option Value} {tl : List (Option Value)} {x : Nat} (hd : decode Y.2.1 pc = .ok (.astore 15, 2)) (hq : pc + 2 = q) (hp : pj_c1 o14 = true) (kk : pj_V E B l Y d mc ms q (o0 :: o1 :: o2 :: o3 :: o4 :: o5 :: o6 :: o7 :: o8 :: o9 :: o10 :: o11 :: o12 :: o13 :: o14 :: some (.ref x) :: tl) st h n ce sl Q) : pj_V E B l Y d mc ms pc (o0 :: o1 :: o2 :: o3 :: o4 :: o5 :: o6 :: o7 :: o8 :: o9 :: o10 :: o11 :: o12 :: o13 :: o14 :: o15 :: tl) (.ref x :: st) h n ce sl Q := by
  subst hq
  intro p e s m args below meth c H locs la S hr hk hn hW hH hS hL
  have hi : 15 < Y.2.2.1 := by rw [← hL.2]; simp only [List.length_cons]; omega
  exact lv_astore S.1 S.2.1 hd hL.1 hi rfl (fun la' h' => kk p e s m args below meth c H locs la' S hr hk hn hW hH hS (hL.set1 hi (fun o _ z => by cases z; exact hp) h'))
theorem pj_lst15 {o0 o1 o2 o3 o4 o5 o6 o7 o8 o9 o10 o11 o12 o13 o14 o15 : Option Value} {o' : Option Value} {tl : List (Option Value)} {x : Int64} (hd : decode Y.2.1 pc = .ok (.lstore 15, 2)) (hq : pc + 2 = q) (hp : pj_c1 o14 = true) (kk : pj_V E B l Y d mc ms q (o0 :: o1 :: o2 :: o3 :: o4 :: o5 :: o6 :: o7 :: o8 :: o9 :: o10 :: o11 :: o12 :: o13 :: o14 :: some (.long x) :: none :: tl) st h n ce sl Q) : pj_V E B l Y d mc ms pc (o0 :: o1 :: o2 :: o3 :: o4 :: o5 :: o6 :: o7 :: o8 :: o9 :: o10 :: o11 :: o12 :: o13 :: o14 :: o15 :: o' :: tl) (.long x :: st) h n ce sl Q := by
  subst hq
  intro p e s m args below meth c H locs la S hr hk hn hW hH hS hL
  have hi : 15 + 1 < Y.2.2.1 := by rw [← hL.2]; simp only [List.length_cons]; omega
  exact lv_lstore S.1 S.2.1 hd hL.1 hi rfl (fun la' h' => kk p e s m args below meth c H locs la' S hr hk hn hW hH hS (hL.set2 hi (fun o _ z => by cases z; exact hp) h'))
theorem pj_iinc15 {o0 o1 o2 o3 o4 o5 o6 o7 o8 o9 o10 o11 o12 o13 o14 : Option Value} {tl : List (Option Value)} {k : Int} {x v : Int32} (hd : decode Y.2.1 pc = .ok (.iinc 15 k, 3)) (hq : pc + 3 = q) (hp : pj_c1 o14 = true) (hv : Int32.ofInt k = v) (kk : pj_V E B l Y d mc ms q (o0 :: o1 :: o2 :: o3 :: o4 :: o5 :: o6 :: o7 :: o8 :: o9 :: o10 :: o11 :: o12 :: o13 :: o14 :: some (.int (x + v)) :: tl) st h n ce sl Q) : pj_V E B l Y d mc ms pc (o0 :: o1 :: o2 :: o3 :: o4 :: o5 :: o6 :: o7 :: o8 :: o9 :: o10 :: o11 :: o12 :: o13 :: o14 :: some (.int x) :: tl) st h n ce sl Q := by
  subst hq
  subst hv
  intro p e s m args below meth c H locs la S hr hk hn hW hH hS hL
  have hi : 15 < Y.2.2.1 := by rw [← hL.2]; simp only [List.length_cons]; omega
  obtain ⟨j, hj⟩ := List.getElem?_of_mem ((pj_as_mem (o0 :: o1 :: o2 :: o3 :: o4 :: o5 :: o6 :: o7 :: o8 :: o9 :: o10 :: o11 :: o12 :: o13 :: o14 :: some (.int x) :: tl) 0 15 (.int x)).mpr ⟨15, by omega, rfl⟩)
  exact lv_iinc S.1 S.2.1 hd hL.1 hj rfl hi rfl (fun la' h' => kk p e s m args below meth c H locs la' S hr hk hn hW hH hS (hL.set1 hi (fun o _ z => by cases z; exact hp) h'))
theorem pj_ret_go {s : State} {args : Array Value} {H : Heap} {locs : List Loc} {r : Option Value} (hH : pj_HR E B h n H) (hS : va_S (fun q => B ≤ q) s.heap H locs) (hQ : Q r h n) : ∀ t : State, t.heap = H → s.WarmedH t.vm → pj_Qc E B Q args s (.returned r) t := fun t ht _ => ⟨⟨r, h, n, rfl, hQ, by rw [ht]; exact hH⟩, hS.F ht⟩
theorem pj_iret {x : Int32} (hy : Y.2.2.2 = some .int) (hd : decode Y.2.1 pc = .ok (.ireturn, 1)) (hce : ce ≤ mc) (hsl : sl ≤ ms) (hQ : Q (some (.int x)) h n) : pj_V E B l Y d mc ms pc ls [.int x] h n ce sl Q := by
  intro p e s m args below meth c H locs la S hr hk hn hW hH hS hL
  refine W.widen hce hsl ?_
  exact W.iret S.1 S.2.1 (hr.trans hy) (pj_ret_go hH hS hQ) hS.2.2 hd hk
theorem pj_zret {x : Int32} (hy : Y.2.2.2 = some .boolean) (hx : narrow .boolean (.int x) = .int x) (hd : decode Y.2.1 pc = .ok (.ireturn, 1)) (hce : ce ≤ mc) (hsl : sl ≤ ms) (hQ : Q (some (.int x)) h n) : pj_V E B l Y d mc ms pc ls [.int x] h n ce sl Q := by
  intro p e s m args below meth c H locs la S hr hk hn hW hH hS hL
  refine W.widen hce hsl ?_
  exact W.zret S.1 S.2.1 (hr.trans hy) hx (pj_ret_go hH hS hQ) hS.2.2 hd hk
theorem pj_lret {x : Int64} (hy : Y.2.2.2 = some .long) (hd : decode Y.2.1 pc = .ok (.lreturn, 1)) (hce : ce ≤ mc) (hsl : sl ≤ ms) (hQ : Q (some (.long x)) h n) : pj_V E B l Y d mc ms pc ls [.long x] h n ce sl Q := by
  intro p e s m args below meth c H locs la S hr hk hn hW hH hS hL
  refine W.widen hce hsl ?_
  exact W.lret S.1 S.2.1 (hr.trans hy) (pj_ret_go hH hS hQ) hS.2.2 hd hk
theorem pj_vret (hy : Y.2.2.2 = none) (hd : decode Y.2.1 pc = .ok (.return_, 1)) (hce : ce ≤ mc) (hsl : sl ≤ ms) (hQ : Q none h n) : pj_V E B l Y d mc ms pc ls [] h n ce sl Q := by
  intro p e s m args below meth c H locs la S hr hk hn hW hH hS hL
  refine W.widen hce hsl ?_
  exact W.vret S.1 S.2.1 (hr.trans hy) (pj_ret_go hH hS hQ) hS.2.2 hd hk
theorem pj_aret {x : Nat} {C : String} (hy : Y.2.2.2 = some (.object C)) (hd : decode Y.2.1 pc = .ok (.areturn, 1)) (hce : ce ≤ mc) (hsl : sl ≤ ms) (hQ : Q (some (.ref x)) h n) : pj_V E B l Y d mc ms pc ls [.ref x] h n ce sl Q := by
  intro p e s m args below meth c H locs la S hr hk hn hW hH hS hL
  refine W.widen hce hsl ?_
  exact W.aret S.1 S.2.1 (hr.trans hy) (Or.inl ⟨_, rfl⟩) (Or.inr ⟨_, rfl⟩) (pj_ret_go hH hS hQ) hS.2.2 hd hk
theorem pj_aretN {C : String} (hy : Y.2.2.2 = some (.object C)) (hd : decode Y.2.1 pc = .ok (.areturn, 1)) (hce : ce ≤ mc) (hsl : sl ≤ ms) (hQ : Q (some .null) h n) : pj_V E B l Y d mc ms pc ls [.null] h n ce sl Q := by
  intro p e s m args below meth c H locs la S hr hk hn hW hH hS hL
  refine W.widen hce hsl ?_
  exact W.aret S.1 S.2.1 (hr.trans hy) (Or.inl ⟨_, rfl⟩) (Or.inl rfl) (pj_ret_go hH hS hQ) hS.2.2 hd hk
end PJR
end
section
/-! ===== the pure layer: cells ===== -/
theorem pj_HR.lt {E : pj_E} {B : Nat} {h : pj_H} {n : Nat} {H : Heap} (hH : pj_HR E B h n H) {a : Nat} {c : pj_C} (ha : h a = some c) : a < n := by
  have := (hH.2 a c ha).2.lt
  rw [← hH.1]; exact this
theorem pj_HR.up {E : pj_E} {B : Nat} {h : pj_H} {n : Nat} {H H1 : Heap} {a : Nat} {c0 c : pj_C} (hH : pj_HR E B h n H) (ha : h a = some c0) (hc : va_at E.1 vwCl (a, pj_e E c) H1) (hz : H1.size = H.size) (oq : ∀ q : Nat, q ≠ a → H1[q]? = H[q]?) : pj_HR E B (pj_up h a c) n H1 := by
  refine ⟨hz.trans hH.1, fun b d hb => ?_⟩
  by_cases hba : b = a
  · subst hba
    rw [pj_up_s] at hb
    cases hb
    exact ⟨(hH.2 b c0 ha).1, hc⟩
  · rw [pj_up_n hba] at hb
    exact ⟨(hH.2 b d hb).1, (hH.2 b d hb).2.kept (oq b hba)⟩
theorem pj_HR.push {E : pj_E} {B : Nat} {h : pj_H} {n : Nat} {H H1 : Heap} {c : pj_C} (hH : pj_HR E B h n H) (hB : B ≤ n) (hc : va_at E.1 vwCl (n, pj_e E c) H1) (hz : H1.size = n + 1) (oq : ∀ q : Nat, q < n → H1[q]? = H[q]?) : pj_HR E B (pj_up h n c) (n + 1) H1 := by
  refine ⟨hz, fun b d hb => ?_⟩
  by_cases hba : b = n
  · subst hba
    rw [pj_up_s] at hb
    cases hb
    exact ⟨hB, hc⟩
  · rw [pj_up_n hba] at hb
    exact ⟨(hH.2 b d hb).1, (hH.2 b d hb).2.kept (oq b (hH.lt hb))⟩
theorem pj_S_put {B : Nat} {H0 H H1 : Heap} {locs : List Loc} {a i : Nat} (hS : va_S (fun q => B ≤ q) H0 H locs) (hz : H1.size = H.size) (oq : ∀ q : Nat, q ≠ a → H1[q]? = H[q]?) (ha : B ≤ a) : va_S (fun q => B ≤ q) H0 H1 (locs ++ [⟨a, i⟩]) := hS.put hz oq ha
theorem pj_S_push {B n : Nat} {H0 H H1 : Heap} {locs : List Loc} (hS : va_S (fun q => B ≤ q) H0 H locs) (hn : H.size = n) (hz : n ≤ H1.size) (oq : ∀ q : Nat, q < n → H1[q]? = H[q]?) : va_S (fun q => B ≤ q) H0 H1 locs := by
  subst hn
  exact ⟨Nat.le_trans hS.1 hz, fun q h1 h2 => (oq q (Nat.lt_of_lt_of_le h1 hS.1)).trans (hS.2.1 q h1 h2), hS.2.2⟩
theorem pj_ty {E : pj_E} {s : State} (hW : pj_WF E s) {t : Nat} {ty : FieldType} (ht : (pj_tys E)[t]? = some (E.2 t, ty)) : ArrOfT s (E.2 t) ty ∧ va_RA s (E.2 t) ty := hW.1.2 t _ ht
/-- the k-th field of the class of that number: class that declares it, name, descriptor, whether final -/
def pj_fld (ci k : Nat) : Option (String × String × String × Bool) := match vwCl[ci]? with
  | some r => if k < r.2.2 then some (r.2.1 k) else none
  | none => none
theorem pj_fld_spec {ci k : Nat} {F : String × String × String × Bool} (h : pj_fld ci k = some F) : ∃ (C : String) (T : u_T) (N : Nat), vwCl[ci]? = some (C, T, N) ∧ k < N ∧ T k = F := by
  unfold pj_fld at h
  cases hv : vwCl[ci]? with
  | none => rw [hv] at h; cases h
  | some r =>
    rw [hv] at h
    obtain ⟨C, T, N⟩ := r
    by_cases hk : k < N
    · simp only [hk, if_true] at h
      cases h
      exact ⟨C, T, N, rfl, hk, rfl⟩
    · simp only [hk, if_false] at h
      cases h
/-- what the tables say of each class -/
def pj_clok (C : String) (T : u_T) (N : Nat) : Prop := (∀ w ∈ u_ws C T N, w ∈ lw_tbl) ∧ (∃ ty : Nat → FieldType, ∀ k, k < N → parseFieldDescriptor (T k).2.2.1 = some (ty k)) ∧ (∀ a, a < N → ∀ b, b < N → a ≠ b → (T a).2.1 ≠ (T b).2.1)
theorem pj_cls {ci : Nat} {C : String} {T : u_T} {N : Nat} (h : vwCl[ci]? = some (C, T, N)) : pj_clok C T N := by
  match ci, h with
  | 0, h => cases h; exact ⟨pj_inX0, ⟨tyX0, tyX0_ok⟩, nmX0⟩
  | 1, h => cases h; exact ⟨pj_inX1, ⟨tyX1, tyX1_ok⟩, nmX1⟩
  | 2, h => cases h; exact ⟨pj_inX2, ⟨tyX2, tyX2_ok⟩, nmX2⟩
  | 3, h => cases h; exact ⟨pj_inX3, ⟨tyX3, tyX3_ok⟩, nmX3⟩
  | 4, h => cases h; exact ⟨pj_inX4, ⟨tyX4, tyX4_ok⟩, nmX4⟩
  | 5, h => cases h; exact ⟨pj_inX5, ⟨tyX5, tyX5_ok⟩, nmX5⟩
  | 6, h => cases h; exact ⟨pj_inX6, ⟨tyX6, tyX6_ok⟩, nmX6⟩
  | 7, h => cases h; exact ⟨pj_inX7, ⟨tyX7, tyX7_ok⟩, nmX7⟩
  | 8, h => cases h; exact ⟨pj_inX9, ⟨tyX9, tyX9_ok⟩, nmX9⟩
  | 9, h => cases h; exact ⟨pj_inX10, ⟨tyX10, tyX10_ok⟩, nmX10⟩
  | 10, h => cases h; exact ⟨pj_inX11, ⟨tyX11, tyX11_ok⟩, nmX11⟩
  | 11, h => cases h; exact ⟨pj_inX12, ⟨tyX12, tyX12_ok⟩, nmX12⟩
  | k + 12, h => simp [vwCl] at h
section PJC
variable {E : pj_E} {B : Nat} {l : Launch} {Y : pj_Y} {d mc ms pc q : Nat} {ls : List (Option Value)} {st : List Value} {h : pj_H} {n ce sl : Nat} {Q : Option Value → pj_H → Nat → Prop}
theorem pj_getf {i k a ci : Nat} {fs : List Value} {v : Value} {F : String × String × String × Bool} (hd : decode Y.2.1 pc = .ok (.getfield i, 3)) (hq : pc + 3 = q) (hl : Cond.fieldLink Y.1.cls i F.1 F.2.1 F.2.2.1 ∈ lw_tbl) (ha : h a = some (.inr (ci, fs))) (hF : pj_fld ci k = some F) (hv : fs[k]? = some v) (kk : pj_V E B l Y d mc ms q ls (v :: st) h n ce sl Q) : pj_V E B l Y d mc ms pc ls (.ref a :: st) h n ce sl Q := by
  subst hq
  intro p e s m args below meth c H locs la S hr hk hn hW hH hS hL
  obtain ⟨C, T, N, h1, h2, h3⟩ := pj_fld_spec hF
  subst h3
  have hP : va_P E.1 vwCl [(a, .inr (ci, fs))] H := fun k' q' hk' => by
    cases k' with
    | zero => cases hk'; exact (hH.2 a _ ha).2
    | succ k' => simp at hk'
  exact va_get S.1 S.2.1 S.2.2.2.2 (pj_cls h1).1 S.2.2.2.1 hW.1 hP 0 rfl h1 k h2 (S.2.2.2.2 _ hl) (fun x hx => hx) hv hd (kk p e s m args below meth c H locs la S hr hk hn hW hH hS hL)
theorem pj_putf {i k a ci : Nat} {fs : List Value} {v : Value} {F : String × String × String × Bool} {ty : FieldType} (hd : decode Y.2.1 pc = .ok (.putfield i, 3)) (hq : pc + 3 = q) (hl : Cond.fieldLink Y.1.cls i F.1 F.2.1 F.2.2.1 ∈ lw_tbl) (ha : h a = some (.inr (ci, fs))) (hF : pj_fld ci k = some F) (hfin : F.2.2.2 = false ∨ (Y.1.name = "<init>" ∧ F.1 = Y.1.cls)) (hty : parseFieldDescriptor F.2.2.1 = some ty) (hnr : narrow ty v = v) (hft : fits ty v = true) (hlen : k < fs.length) (kk : pj_V E B l Y d mc ms q ls st (pj_up h a (.inr (ci, fs.set k v))) n ce sl Q) : pj_V E B l Y d mc ms pc ls (v :: .ref a :: st) h n ce sl Q := by
  subst hq
  intro p e s m args below meth c H locs la S hr hk hn hW hH hS hL
  obtain ⟨C, T, N, h1, h2, h3⟩ := pj_fld_spec hF
  subst h3
  obtain ⟨hin, ⟨ty0, hty0⟩, hnm⟩ := pj_cls h1
  have hap := va_apart (own := Y.1.cls) S.2.2.2.2 hin ty0 hty0 hnm hW.1 h1
  obtain ⟨hBa, r, h1', cell, q1, q2, q3, q4⟩ := hH.2 a _ ha
  have hre : r = (C, T, N) := Option.some.inj (h1'.symm.trans h1)
  subst hre
  obtain ⟨hSl, hfc, kC, hkC, hkind⟩ := hW.1.1 ci _ h1
  obtain ⟨cf, kf, fi, f, hi, hsl⟩ := hSl k h2
  have hlay := S.2.2.2.2 _ (hin _ (u_in_lay h2))
  unfold u_lay at hlay
  have hst := (u_facts hfc hkC (u_lays S.2.2.2.2 hin h2) hi).1
  have fin : ∀ H' : Heap, H'[a]? = some (cell.setSlot f.slot v) → H'.size = H.size → (∀ q, q ≠ a → H'[q]? = H[q]?) → W p l e (pj_rm d mc ms) s m args below meth c H' (locs ++ [⟨a, f.slot⟩]) ce sl (MQ below (pj_Qc E B Q) args s mc ms (fun q => B ≤ q)) (F0 m (pc + 3) la st) := by
    intro H' e1 e2 e3
    rw [hsl] at e1
    exact kk p e s m args below meth c H' _ la S hr hk hn hW (hH.up ha ⟨_, h1, t_OB.to (V := updV (vp_V fs) k v) ⟨_, e1, q2, q3, t_set q4 hap h2 v⟩ (fun j _ => vp_updV_set hlen v j)⟩ e2 e3) (pj_S_put hS e2 e3 hBa) hL
  have hslot : f.slot < cell.slots.size := by rw [hsl]; exact k2_hasslot (q4 k h2)
  by_cases hff : (T k).2.2.2 = false
  · rw [if_neg (by rw [hff]; decide)] at hlay
    have h6 := u_store hfc hkC hkind hlay hi hty hnr hft
    exact W.putK S.1 S.2.1 (f := f) ⟨S.2.2.2.1, S.2.2.2.2 _ hl, ⟨_, _, _, hi⟩, hst⟩ (by rw [q2]; exact h6) q1 q3 hslot rfl rfl hd fin
  · obtain ⟨hin2, hdecl⟩ := hfin.resolve_left hff
    rw [if_pos (by simpa using hff)] at hlay
    have hcf : m.cls = cf := by
      obtain ⟨_, _, c', _, _, _, -, -, hf', -, -, -, hown2, -⟩ := Cond.laysFinal_spec hlay
      have e1 : c' = cf := by have := hi.symm.trans hf'; simp at this; exact this.1.symm
      rw [hdecl] at hown2
      rw [← e1]; exact Option.some.inj (S.2.2.2.1.symm.trans hown2)
    have h6 := u_fits hfc hkC hkind (Or.inr hlay) hi hty hnr hft
    exact W.putFinK S.1 S.2.1 S.2.2.2.1 (S.2.2.2.2 _ hl) hi hst hcf (hn.trans hin2) (by rw [q2]; exact h6) q1 q3 hslot rfl rfl hd fin
theorem pj_len {t a N : Nat} {x : (Nat → Int32) ⊕ (Nat → Int64) ⊕ (Nat → UInt32) ⊕ (Nat → UInt64) ⊕ (Nat → Option Nat)} {ty : FieldType} {v : Int32} (ht : (pj_tys E)[t]? = some (E.2 t, ty)) (hd : decode Y.2.1 pc = .ok (.arraylength, 1)) (hq : pc + 1 = q) (ha : h a = some (.inl (t, N, x))) (hv : Int32.ofNat N = v) (kk : pj_V E B l Y d mc ms q ls (.int v :: st) h n ce sl Q) : pj_V E B l Y d mc ms pc ls (.ref a :: st) h n ce sl Q := by
  subst hq
  intro p e s m args below meth c H locs la S hr hk hn hW hH hS hL
  have hP : va_P E.1 vwCl [(a, .inl (E.2 t, N, x))] H := fun k' q' hk' => by
    cases k' with
    | zero => cases hk'; exact (hH.2 a _ ha).2
    | succ k' => simp at hk'
  exact va_alen S.1 S.2.1 hW.1 hP 0 t rfl ht hv hd (kk p e s m args below meth c H locs la S hr hk hn hW hH hS hL)
theorem pj_iald {a N : Nat} {f : Nat → Int32} {i : Int32} (hd : decode Y.2.1 pc = .ok (.iaload, 1)) (hq : pc + 1 = q) (ha : h a = some (.inl (0, N, .inl f))) (hin : vp_in i N) (kk : pj_V E B l Y d mc ms q ls (.int (f i.toNatClampNeg) :: st) h n ce sl Q) : pj_V E B l Y d mc ms pc ls (.int i :: .ref a :: st) h n ce sl Q := by
  subst hq
  intro p e s m args below meth c H locs la S hr hk hn hW hH hS hL
  have hP : va_P E.1 vwCl [(a, .inl (E.2 0, N, .inl f))] H := fun k' q' hk' => by
    cases k' with
    | zero => cases hk'; exact (hH.2 a _ ha).2
    | succ k' => simp at hk'
  exact va_iald S.1 S.2.1 hW.1 hP 0 0 rfl rfl hin hd (kk p e s m args below meth c H locs la S hr hk hn hW hH hS hL)
theorem pj_ialdN {a N j : Nat} {f : Nat → Int32} {i : Int32} (hd : decode Y.2.1 pc = .ok (.iaload, 1)) (hq : pc + 1 = q) (ha : h a = some (.inl (0, N, .inl f))) (hi : i = nI j) (hj : j < N) (hN : N ≤ 2147483647) (kk : pj_V E B l Y d mc ms q ls (.int (f j) :: st) h n ce sl Q) : pj_V E B l Y d mc ms pc ls (.int i :: .ref a :: st) h n ce sl Q := by
  subst hi
  refine pj_iald hd hq ha (vp_in_nI hj (by omega)) ?_
  rw [nI_clamp (by omega)]
  exact kk
theorem pj_zald {a N j : Nat} {f : Nat → Int32} {i : Int32} (hd : decode Y.2.1 pc = .ok (.baload, 1)) (hq : pc + 1 = q) (ha : h a = some (.inl (1, N, .inl f))) (hi : i = nI j) (hj : j < N) (hN : N ≤ 2147483647) (kk : pj_V E B l Y d mc ms q ls (.int (f j) :: st) h n ce sl Q) : pj_V E B l Y d mc ms pc ls (.int i :: .ref a :: st) h n ce sl Q := by
  subst hq
  subst hi
  intro p e s m args below meth c H locs la S hr hk hn hW hH hS hL
  have hP : va_P E.1 vwCl [(a, .inl (E.2 1, N, .inl f))] H := fun k' q' hk' => by
    cases k' with
    | zero => cases hk'; exact (hH.2 a _ ha).2
    | succ k' => simp at hk'
  refine va_zald S.1 S.2.1 hW.1 hP 0 1 rfl rfl (vp_in_nI hj (by omega)) hd ?_
  rw [nI_clamp (by omega)]
  exact kk p e s m args below meth c H locs la S hr hk hn hW hH hS hL
theorem pj_aald {t a N j : Nat} {f : Nat → Option Nat} {i : Int32} {ty : FieldType} (ht : (pj_tys E)[t]? = some (E.2 t, ty)) (hty : ty.isReference = true) (hd : decode Y.2.1 pc = .ok (.aaload, 1)) (hq : pc + 1 = q) (ha : h a = some (.inl (t, N, .inr (.inr (.inr (.inr f)))))) (hi : i = nI j) (hj : j < N) (hN : N ≤ 2147483647) (kk : pj_V E B l Y d mc ms q ls (va_rf (f j) :: st) h n ce sl Q) : pj_V E B l Y d mc ms pc ls (.int i :: .ref a :: st) h n ce sl Q := by
  subst hq
  subst hi
  intro p e s m args below meth c H locs la S hr hk hn hW hH hS hL
  have hin : vp_in (nI j) N := vp_in_nI hj (by omega)
  have hlt : (nI j).toNatClampNeg < N := by rw [nI_clamp (by omega)]; exact hj
  refine W.aald (v := va_rf (f (nI j).toNatClampNeg)) (ty := ty) S.1 S.2.1 (hH.2 a _ ha).2 ((pj_ty hW ht).1 N (fun j => va_rf (f j))) hty (fun q => by cases q) (by show ¬ (_ < 0 ∨ (arrV _ _ _).slots.size ≤ _); rw [arrV_size]; exact hin) (by show (arrV _ _ _).slots[_]? = _; rw [arrV_read _ _ hlt]) rfl rfl hd ?_
  rw [nI_clamp (by omega)]
  exact kk p e s m args below meth c H locs la S hr hk hn hW hH hS hL
theorem pj_iast {a N j : Nat} {f : Nat → Int32} {i x : Int32} (hd : decode Y.2.1 pc = .ok (.iastore, 1)) (hq : pc + 1 = q) (ha : h a = some (.inl (0, N, .inl f))) (hi : i = nI j) (hj : j < N) (hN : N ≤ 2147483647) (kk : pj_V E B l Y d mc ms q ls st (pj_up h a (.inl (0, N, .inl (upd f j x)))) n ce sl Q) : pj_V E B l Y d mc ms pc ls (.int x :: .int i :: .ref a :: st) h n ce sl Q := by
  subst hq
  subst hi
  intro p e s m args below meth c H locs la S hr hk hn hW hH hS hL
  have hin : vp_in (nI j) N := vp_in_nI hj (by omega)
  refine W.iast S.1 S.2.1 (hH.2 a _ ha).2 ((pj_ty hW (t := 0) rfl).1 N (fun j => .int (f j))) (fun q => by cases q) (by show ¬ (_ < 0 ∨ (arrV _ _ _).slots.size ≤ _); rw [arrV_size]; exact hin) rfl rfl hd fun H1 e1 z1 oq => ?_
  rw [nI_clamp (by omega)] at e1
  refine kk p e s m args below meth c H1 _ la S hr hk hn hW (hH.up ha ?_ z1 oq) (pj_S_put hS z1 oq (hH.2 a _ ha).1) hL
  show H1[a]? = some (vp_cell _ _)
  rw [e1]
  show some ((vp_cell (E.2 0) (N, .inl f)).setSlot j _) = _
  rw [vp_cell_i, vp_cell_i, arrV_store]
  congr 2
  funext z
  by_cases hz : z = j
  · subst hz; simp [updV, upd]
  · simp [updV, upd, hz]
theorem pj_zast {a N j : Nat} {f : Nat → Int32} {i x : Int32} (hx : narrow .boolean (.int x) = .int x) (hd : decode Y.2.1 pc = .ok (.bastore, 1)) (hq : pc + 1 = q) (ha : h a = some (.inl (1, N, .inl f))) (hi : i = nI j) (hj : j < N) (hN : N ≤ 2147483647) (kk : pj_V E B l Y d mc ms q ls st (pj_up h a (.inl (1, N, .inl (upd f j x)))) n ce sl Q) : pj_V E B l Y d mc ms pc ls (.int x :: .int i :: .ref a :: st) h n ce sl Q := by
  subst hq
  subst hi
  intro p e s m args below meth c H locs la S hr hk hn hW hH hS hL
  have hin : vp_in (nI j) N := vp_in_nI hj (by omega)
  refine W.zast S.1 S.2.1 (hH.2 a _ ha).2 ((pj_ty hW (t := 1) rfl).1 N (fun j => .int (f j))) (fun q => by cases q) (by show ¬ (_ < 0 ∨ (arrV _ _ _).slots.size ≤ _); rw [arrV_size]; exact hin) rfl rfl hd fun H1 e1 z1 oq => ?_
  rw [nI_clamp (by omega)] at e1
  refine kk p e s m args below meth c H1 _ la S hr hk hn hW (hH.up ha ?_ z1 oq) (pj_S_put hS z1 oq (hH.2 a _ ha).1) hL
  show H1[a]? = some (vp_cell _ _)
  rw [e1]
  show some ((vp_cell (E.2 1) (N, .inl f)).setSlot j _) = _
  rw [vp_cell_i, vp_cell_i, arrV_store]
  congr 2
  funext z
  by_cases hz : z = j
  · subst hz; simp [updV, upd, hx]
  · simp [updV, upd, hz]
end PJC
end
section
/-! ===== the pure layer: new cells, copies, instanceof, entry, calls ===== -/
theorem pj_assign {args : Array Value} {s : State} {C T : String} {c t : ClassId} (h : (Cond.castable C T).before args s = true) (hc : s.vm.findClass C = some c) (ht : s.vm.findClass T = some t) : s.vm.assignable c t = true := by
  obtain ⟨c0, t0, f1, f2, f3⟩ := Cond.castable_spec h
  cases f1.symm.trans hc
  cases f2.symm.trans ht
  exact f3
section PJN
variable {E : pj_E} {B : Nat} {l : Launch} {Y : pj_Y} {d mc ms pc q : Nat} {ls : List (Option Value)} {st : List Value} {h : pj_H} {n ce sl : Nat} {Q : Option Value → pj_H → Nat → Prop}
theorem pj_new {i ci N : Nat} {C : String} {T : u_T} {fs : List Value} (hd : decode Y.2.1 pc = .ok (.new i, 3)) (hq : pc + 3 = q) (hl : Cond.classLink Y.1.cls i C ∈ lw_tbl) (hi : Cond.instantiable C N ∈ lw_tbl) (hz : Cond.initialized C ∈ lw_tbl) (hc : vwCl[ci]? = some (C, T, N)) (ty : Nat → FieldType) (hty : ∀ k, k < N → parseFieldDescriptor (T k).2.2.1 = some (ty k)) (hfs : ∀ j, j < N → defaultValue (ty j) = vp_V fs j) (hB : B ≤ n) (hce : ce + 1 ≤ mc) (hsl : sl + N ≤ ms) (kk : pj_V E B l Y d mc ms q ls (.ref n :: st) (pj_up h n (.inr (ci, fs))) (n + 1) (ce + 1) (sl + N) Q) : pj_V E B l Y d mc ms pc ls st h n ce sl Q := by
  subst hq
  intro p e s m args below meth c H locs la S hr hk hn hW hH hS hL
  have hKn := hW.1.1 ci _ hc
  refine W.newcK S.1 S.2.1 S.2.2.2.1 (S.2.2.2.2 _ hl) (S.2.2.2.2 _ hi) (S.2.2.2.2 _ hz) rfl hd hce hsl hKn.2.1 hH.1 fun H1 kC hkC e1 z1 o1 => ?_
  refine kk p e s m args below meth c H1 locs la S hr hk hn hW (hH.push hB ⟨_, hc, (u_born ty S.2.2.2.2 (pj_cls hc).1 hKn hkC e1 hty).to hfs⟩ z1 o1) (pj_S_push hS hH.1 (by omega) o1) hL
theorem pj_newi {N : Nat} {i : Int32} (hl : Cond.arrayClass .int ∈ lw_tbl) (hd : decode Y.2.1 pc = .ok (.newarray .int, 2)) (hq : pc + 2 = q) (hi : i = nI N) (hN : N ≤ 100000) (hB : B ≤ n) (hce : ce + 1 ≤ mc) (hsl : sl + N ≤ ms) (kk : pj_V E B l Y d mc ms q ls (.ref n :: st) (pj_up h n (.inl (0, N, .inl (fun _ => 0)))) (n + 1) (ce + 1) (sl + N) Q) : pj_V E B l Y d mc ms pc ls (.int i :: st) h n ce sl Q := by
  subst hq
  subst hi
  intro p e s m args below meth c H locs la S hr hk hn hW hH hS hL
  refine va_newaK (atype := .int) (N := N) S.1 S.2.1 (S.2.2.2.2 _ hl) rfl hd rfl (nI_pos (by omega)) (nI_clamp (by omega)) (by show N * 4 ≤ _; omega) hce hsl hH.1 fun H1 cA e1 z1 o1 hAr hNm => ?_
  have hcA : cA = E.2 0 := Option.some.inj (hNm.symm.trans (pj_ty hW (t := 0) rfl).2)
  subst hcA
  exact kk p e s m args below meth c H1 locs la S hr hk hn hW (hH.push hB e1 z1 o1) (pj_S_push hS hH.1 (by omega) o1) hL
theorem pj_newz {N : Nat} {i : Int32} (hl : Cond.arrayClass .boolean ∈ lw_tbl) (hd : decode Y.2.1 pc = .ok (.newarray .boolean, 2)) (hq : pc + 2 = q) (hi : i = nI N) (hN : N ≤ 100000) (hB : B ≤ n) (hce : ce + 1 ≤ mc) (hsl : sl + N ≤ ms) (kk : pj_V E B l Y d mc ms q ls (.ref n :: st) (pj_up h n (.inl (1, N, .inl (fun _ => 0)))) (n + 1) (ce + 1) (sl + N) Q) : pj_V E B l Y d mc ms pc ls (.int i :: st) h n ce sl Q := by
  subst hq
  subst hi
  intro p e s m args below meth c H locs la S hr hk hn hW hH hS hL
  refine va_newaK (atype := .boolean) (N := N) S.1 S.2.1 (S.2.2.2.2 _ hl) rfl hd rfl (nI_pos (by omega)) (nI_clamp (by omega)) (by show N * 1 ≤ _; omega) hce hsl hH.1 fun H1 cA e1 z1 o1 hAr hNm => ?_
  have hcA : cA = E.2 1 := Option.some.inj (hNm.symm.trans (pj_ty hW (t := 1) rfl).2)
  subst hcA
  exact kk p e s m args below meth c H1 locs la S hr hk hn hW (hH.push hB e1 z1 o1) (pj_S_push hS hH.1 (by omega) o1) hL
theorem pj_newr {t j N : Nat} {i : Int32} {C : String} (ht : (pj_tys E)[t]? = some (E.2 t, .object C)) (hl : Cond.classLink Y.1.cls j C ∈ lw_tbl) (ho : Cond.arrayOver (.object C) ∈ lw_tbl) (hd : decode Y.2.1 pc = .ok (.anewarray j, 3)) (hq : pc + 3 = q) (hi : i = nI N) (hN : N ≤ 100000) (hB : B ≤ n) (hce : ce + 1 ≤ mc) (hsl : sl + N ≤ ms) (kk : pj_V E B l Y d mc ms q ls (.ref n :: st) (pj_up h n (.inl (t, N, .inr (.inr (.inr (.inr (fun _ => none))))))) (n + 1) (ce + 1) (sl + N) Q) : pj_V E B l Y d mc ms pc ls (.int i :: st) h n ce sl Q := by
  subst hq
  subst hi
  intro p e s m args below meth c H locs la S hr hk hn hW hH hS hL
  have hcl : (nI N).toNatClampNeg = N := nI_clamp (by omega)
  refine W.anew S.1 S.2.1 S.2.2.2.1 (S.2.2.2.2 _ hl) (S.2.2.2.2 _ ho) rfl hd rfl (nI_pos (by omega)) (by rw [hcl]; omega) hce (by rw [hcl]; exact hsl) fun cA kA comp f1 f2 f3 f4 => ?_
  rw [hcl]
  generalize hH1 : H.push ({ cls := cA, slots := Array.replicate N .null, vm := .none } : Cell) = H1
  have z1 : H1.size = n + 1 := by rw [← hH1, Array.size_push, hH.1]
  have e1 : H1[n]? = some (arrV cA N (fun _ => .null)) := by rw [← hH1, ← hH.1, Array.getElem?_push_size, ← arrV_new]
  have o1 : ∀ q : Nat, q < n → H1[q]? = H[q]? := fun q hq => by rw [← hH1, Array.getElem?_push, if_neg (by rw [hH.1]; omega)]
  obtain ⟨kA', comp', g1, g2, g3, g4⟩ := (pj_ty hW ht).2
  have hcA : cA = E.2 t := Option.some.inj (f1.symm.trans g4)
  subst hcA
  rw [hH.1]
  exact kk p e s m args below meth c H1 locs la S hr hk hn hW (hH.push hB e1 z1 o1) (pj_S_push hS hH.1 (by omega) o1) hL
theorem pj_aast {t a N j v ci : Nat} {f : Nat → Option Nat} {vs : List Value} {i : Int32} {C : String} {r : vw_C} (ht : (pj_tys E)[t]? = some (E.2 t, .object C)) (hca : C = r.1 ∨ Cond.castable r.1 C ∈ lw_tbl) (hc : vwCl[ci]? = some r) (hd : decode Y.2.1 pc = .ok (.aastore, 1)) (hq : pc + 1 = q) (ha : h a = some (.inl (t, N, .inr (.inr (.inr (.inr f)))))) (hv : h v = some (.inr (ci, vs))) (hi : i = nI j) (hj : j < N) (hN : N ≤ 2147483647) (kk : pj_V E B l Y d mc ms q ls st (pj_up h a (.inl (t, N, .inr (.inr (.inr (.inr (va_up f j (some v)))))))) n ce sl Q) : pj_V E B l Y d mc ms pc ls (.ref v :: .int i :: .ref a :: st) h n ce sl Q := by
  subst hq
  subst hi
  intro p e s m args below meth c H locs la S hr hk hn hW hH hS hL
  have hin : vp_in (nI j) N := vp_in_nI hj (by omega)
  have hcl : (nI j).toNatClampNeg = j := nI_clamp (by omega)
  have hlt : (nI j).toNatClampNeg < N := by rw [hcl]; exact hj
  have h0 : ¬ nI j < 0 := fun q => hin (Or.inl q)
  obtain ⟨kA, comp, k1, k2, k3, -⟩ := (pj_ty hW ht).2
  obtain ⟨kE, hkE, -⟩ := Vm.findClass_spec k3
  obtain ⟨-, r', hr', cellV, g1, g2, g3, -⟩ := hH.2 v _ hv
  have hcls := (hW.1.1 ci r hc).2
  obtain ⟨kC, hkC, -⟩ := hcls.2
  have hasg : s.vm.assignable (E.1.1 ci) comp = true := by
    rcases hca with e0 | hca
    · subst e0
      have hcomp : comp = E.1.1 ci := Option.some.inj (k3.symm.trans hcls.1)
      rw [hcomp]
      exact va_assign hcls
    · exact pj_assign (S.2.2.2.2 _ hca) hcls.1 k3
  refine W.aast S.1 S.2.1 (hH.2 a _ ha).2 (fun q h => by cases h) (fun h => by cases h) k1 k2 rfl hkE ⟨h0, by show _ < (arrV _ _ _).slots.size; rw [arrV_size]; exact hlt⟩ g1 (fun q h => by rw [g3] at h; cases h) (by rw [g2]; exact hkC) (by rw [g2]; exact hasg) rfl rfl hd fun H1 e1 z1 oq => ?_
  rw [hcl] at e1
  refine kk p e s m args below meth c H1 _ la S hr hk hn hW (hH.up ha ?_ z1 oq) (pj_S_put hS z1 oq (hH.2 a _ ha).1) hL
  show H1[a]? = some (vp_cell _ _)
  rw [e1]
  show some ((vp_cell (E.2 t) (N, .inr (.inr (.inr (.inr f))))).setSlot j _) = _
  rw [vp_cell_q, vp_cell_q, arrV_store]
  congr 2
  funext z
  by_cases hz : z = j
  · subst hz; simp [updV, va_up, va_rf]
  · simp [updV, va_up, hz]
theorem pj_recv {p : Nat → Prop} {s : State} {H : Heap} {a ci : Nat} {fs : List Value} {r : vw_C} (hW : pj_WF E s) (hH : pj_HR E B h n H) (hc : vwCl[ci]? = some r) (ha : h a = some (.inr (ci, fs))) : ∃ cell : Cell, H[a]? = some cell ∧ cell.vm.isStatics = false ∧ s.vm.findClass r.1 = some cell.cls := by
  obtain ⟨-, r', h1, cell, g1, g2, g3, -⟩ := hH.2 a _ ha
  exact ⟨cell, g1, by rw [g3]; rfl, by rw [g2]; exact (hW.1.1 ci r hc).2.1⟩
theorem pj_instY {i a ci : Nat} {fs : List Value} {r : vw_C} {T : String} (hd : decode Y.2.1 pc = .ok (.instanceof i, 3)) (hq : pc + 3 = q) (hl : Cond.classLink Y.1.cls i T ∈ lw_tbl) (hc : vwCl[ci]? = some r) (ha : h a = some (.inr (ci, fs))) (hy : r.1 = T ∨ Cond.castable r.1 T ∈ lw_tbl) (kk : pj_V E B l Y d mc ms q ls (.int 1 :: st) h n ce sl Q) : pj_V E B l Y d mc ms pc ls (.ref a :: st) h n ce sl Q := by
  subst hq
  intro p e s m args below meth c H locs la S hr hk hn hW hH hS hL
  have hrec := pj_recv (p := fun _ => True) hW hH hc ha
  rcases hy with hy | hy
  · obtain ⟨cell, g1, g2, g3⟩ := hrec
    exact va_instS (cC := E.1.1 ci) S.1 S.2.1 S.2.2.2.1 (S.2.2.2.2 _ hl) (by rw [← hy]; exact (hW.1.1 ci r hc).2) ⟨cell, g1, g2, by rw [← hy]; exact g3⟩ hd (kk p e s m args below meth c H locs la S hr hk hn hW hH hS hL)
  · exact va_instY (C := r.1) S.1 S.2.1 S.2.2.2.1 (S.2.2.2.2 _ hl) (va_Nw.of rfl (S.2.2.2.2 _ hy)) hrec hd (kk p e s m args below meth c H locs la S hr hk hn hW hH hS hL)
theorem pj_instN {i a ci : Nat} {fs : List Value} {r : vw_C} {T : String} (hd : decode Y.2.1 pc = .ok (.instanceof i, 3)) (hq : pc + 3 = q) (hl : Cond.classLink Y.1.cls i T ∈ lw_tbl) (hc : vwCl[ci]? = some r) (ha : h a = some (.inr (ci, fs))) (hy : (r.1, T) ∈ pj_ncs) (kk : pj_V E B l Y d mc ms q ls (.int 0 :: st) h n ce sl Q) : pj_V E B l Y d mc ms pc ls (.ref a :: st) h n ce sl Q := by
  subst hq
  intro p e s m args below meth c H locs la S hr hk hn hW hH hS hL
  exact va_instNo (C := r.1) S.1 S.2.1 S.2.2.2.1 (S.2.2.2.2 _ hl) (hW.2 _ hy) (pj_recv (p := fun _ => True) hW hH hc ha) hd (kk p e s m args below meth c H locs la S hr hk hn hW hH hS hL)
/-! entry -/
def pj_la : List Value → List (Option Value)
  | [] => []
  | v :: l => if v.category = 2 then some v :: none :: pj_la l else some v :: pj_la l
theorem pj_la_sl : ∀ (vs : List Value), (pj_la vs).length = (lg_sl vs).length ∧ ∀ (i : Nat) (v : Value), (pj_la vs)[i]? = some (some v) → (lg_sl vs)[i]? = some (.val v)
  | [] => ⟨rfl, fun i v hh => by simp [pj_la] at hh⟩
  | u :: l => by
    obtain ⟨h1, h2⟩ := pj_la_sl l
    by_cases hu : u.category = 2
    · have e1 : pj_la (u :: l) = some u :: none :: pj_la l := by simp [pj_la, hu]
      have e2 : lg_sl (u :: l) = .val u :: .second :: lg_sl l := by simp [lg_sl, hu]
      rw [e1, e2]
      refine ⟨by simp [h1], fun i v hh => ?_⟩
      match i, hh with
      | 0, hh => simp at hh; simp [hh]
      | 1, hh => simp at hh
      | i + 2, hh => simp at hh ⊢; exact h2 i v hh
    · have e1 : pj_la (u :: l) = some u :: pj_la l := by simp [pj_la, hu]
      have e2 : lg_sl (u :: l) = .val u :: lg_sl l := by simp [lg_sl, hu]
      rw [e1, e2]
      refine ⟨by simp [h1], fun i v hh => ?_⟩
      match i, hh with
      | 0, hh => simp at hh; simp [hh]
      | i + 1, hh => simp at hh ⊢; exact h2 i v hh
theorem pj_in {av : List Value} (hy : plainName Y.1.cls = true) (hls : pj_la av ++ List.replicate (Y.2.2.1 - (pj_la av).length) none = ls) (hle : (pj_la av).length ≤ Y.2.2.1) (kk : pj_V E B l Y d mc ms 0 ls [] h n 0 0 Q) : pj_Ct E B l Y d mc ms av h n Q := by
  unfold pj_Ct
  refine Met.ofW (cc := Y.2.1) (maxL := Y.2.2.1) (ret := Y.2.2.2) hy rfl ?_
  intro p e s m args below meth c s₁ Bd hml hv
  obtain ⟨rfl, hW, hH⟩ := hv
  have hts := atoms_spec (ws := Cond.code Y.1 Y.2.1 Y.2.2.1 Y.2.2.2 :: lw_tbl) Bd.pre
  have hown : s.vm.findClass Y.1.cls = some m.cls := findClass_of_methodNamed Bd.named
  rw [lg_entry_eq]
  obtain ⟨g1, g2⟩ := pj_la_sl av
  have hl := lv_entry av (n := Y.2.2.1) (by rw [← g1]; exact hle)
  refine kk p e s m _ below meth c s.heap [] _ ⟨Bd.exec, Bd.bytes, hml, hown, fun w hw => hts w (List.mem_cons_of_mem _ hw)⟩ Bd.returns Bd.notSynchronized (name_of_methodNamed Bd.named Bd.method).1 hW hH va_S.rf ⟨⟨hl.1, hl.2.1, ?_⟩, ?_⟩
  · rintro ⟨j, v⟩ hj
    obtain ⟨k, e1, e2⟩ := (pj_as_mem ls 0 j v).mp hj
    have hjk : j = k := by omega
    subst hjk
    rw [← hls] at e2
    have hlt : j < (pj_la av).length := by
      rcases Nat.lt_or_ge j (pj_la av).length with q | q
      · exact q
      · rw [List.getElem?_append_right q] at e2
        have := List.mem_of_getElem? e2
        simp at this
    rw [List.getElem?_append_left hlt] at e2
    show ((lg_sl av ++ List.replicate _ Slot.unset).toArray)[j]? = _
    rw [List.getElem?_toArray, List.getElem?_append_left (by rw [← g1]; exact hlt)]
    exact g2 j v e2
  · rw [← hls, List.length_append, List.length_replicate]
    omega
end PJN
end
section
/-! ===== the pure layer: calls ===== -/
/-- what the tables say of a method: its code, that its class is initialised, how many parameters -/
def pj_ok (Y : pj_Y) (np : Nat) : Prop := Cond.code Y.1 Y.2.1 Y.2.2.1 Y.2.2.2 ∈ lw_tbl ∧ Cond.initialized Y.1.cls ∈ lw_tbl ∧ (Y.1.cls ≠ "java/lang/invoke/MethodHandle" ∧ Y.1.cls ≠ "java/lang/invoke/VarHandle") ∧ (parseMethodDescriptor Y.1.desc).map (fun d => d.parameters.length) = some np ∧ Y.2.2.1 ≤ 45
def pj_okV (Y : pj_Y) (np : Nat) : Prop := pj_ok Y np ∧ Cond.instanceMethod Y.1 ∈ lw_tbl ∧ Cond.selects Y.1.cls Y.1 Y.1 ∈ lw_tbl
def pj_okS (Y : pj_Y) (np : Nat) : Prop := pj_ok Y np ∧ Cond.static Y.1 ∈ lw_tbl
def pj_okI (Y : pj_Y) (np : Nat) : Prop := pj_ok Y np ∧ Y.1.name = "<init>" ∧ Cond.instanceMethod Y.1 ∈ lw_tbl ∧ Y.2.2.2 = none
/-- a call through the method x, declared by 'owner', of an object of the class C: Y is chosen -/
def pj_okU (own : String) (i : Nat) (C : String) (x : MethodName) (owner : String) (Y : pj_Y) (np : Nat) : Prop := pj_ok Y np ∧ Cond.methodLink own i x ∈ lw_tbl ∧ Cond.sameMethod x.cls owner x.name x.desc ∈ lw_tbl ∧ (Cond.declares ⟨owner, x.name, x.desc⟩ ∈ lw_tbl ∨ (Cond.instanceMethod ⟨owner, x.name, x.desc⟩ ∈ lw_tbl ∧ ∃ (b : ByteArray) (m : Nat) (r : Option FieldType), Cond.code ⟨owner, x.name, x.desc⟩ b m r ∈ lw_tbl)) ∧ Cond.selects C x Y.1 ∈ lw_tbl ∧ Cond.instanceMethod Y.1 ∈ lw_tbl ∧ (owner ≠ "java/lang/invoke/MethodHandle" ∧ owner ≠ "java/lang/invoke/VarHandle") ∧ (parseMethodDescriptor x.desc).map (fun d => d.parameters.length) = some np
/-- a call of the superclass's own -/
def pj_okX (own : String) (i : Nat) (Y : pj_Y) (np : Nat) : Prop := pj_ok Y np ∧ Cond.methodLink own i Y.1 ∈ lw_tbl ∧ Cond.sameMethod Y.1.cls Y.1.cls Y.1.name Y.1.desc ∈ lw_tbl ∧ Cond.superclass own Y.1.cls ∈ lw_tbl ∧ Cond.instanceMethod Y.1 ∈ lw_tbl ∧ Y.1.name ≠ "<init>"
theorem pj_np {ds : String} {np : Nat} (h : (parseMethodDescriptor ds).map (fun d => d.parameters.length) = some np) : ∀ sig, parseMethodDescriptor ds = some sig → np = sig.parameters.length := by
  intro sig hs
  rw [hs] at h
  exact (Option.some.inj h).symm
def pj_Run (E : pj_E) (B : Nat) (l : Launch) (Y : pj_Y) (d mc ms pc q : Nat) (st rest : List Value) (h : pj_H) (n mc' ms' : Nat) (P : Option Value → pj_H → Nat → Prop) : Prop :=
  ∀ (ls : List (Option Value)) (ce sl : Nat) (Q : Option Value → pj_H → Nat → Prop), ce + mc' ≤ mc → sl + ms' ≤ ms → (∀ r h' n', P r h' n' → pj_V E B l Y d mc ms q ls (r.toList ++ rest) h' n' (ce + mc') (sl + ms') Q) → pj_V E B l Y d mc ms pc ls st h n ce sl Q
theorem pj_go {p : Program} {l : Launch} {e : Env} {s : State} {m : MethodId} {args a : Array Value} {below : List Frame} {meth : Method} {c : Code} {H : Heap} {locs : List Loc} {la : Array Slot} {E : pj_E} {B : Nat} {Y : pj_Y} {d mc ms pc mc' ms' : Nat} {ls : List (Option Value)} {st rest : List Value} {ce sl : Nat} {Q P : Option Value → pj_H → Nat → Prop}
    (hrun : va_Run p l e (pj_rm d mc ms) s m args below meth c H locs ce sl mc' ms' (F0 m pc la st) rest (pj_Qc E B P a) (fun q => B ≤ q))
    (S : CallFix p m c Y.2.1 Y.2.2.1 s args lw_tbl Y.1.cls) (hr : meth.sig.returnType = Y.2.2.2) (hk : meth.locks = false) (hn : meth.name = Y.1.name) (hW : pj_WF E s) (hS : va_S (fun q => B ≤ q) s.heap H locs) (hL : pj_L la Y.2.2.1 ls)
    (kk : ∀ r h' n', P r h' n' → pj_V E B l Y d mc ms (pc + 3) ls (r.toList ++ rest) h' n' (ce + mc') (sl + ms') Q) : W p l e (pj_rm d mc ms) s m args below meth c H locs ce sl (MQ below (pj_Qc E B Q) args s mc ms (fun q => B ≤ q)) (F0 m pc la st) := by
  intro T hT X
  obtain ⟨v, st₀, t, T', L, h0, X', hLc, e1, e2, ⟨⟨r, h', n', hv, hP, hH'⟩, hz, hkp⟩, stp⟩ := hrun T hT X
  cases hv
  rw [h0] at hz hkp
  obtain ⟨t2, a1, b1⟩ := kk v h' n' hP p e s m args below meth c T'.heap (locs ++ L) la S hr hk hn hW (by rw [e1]; exact hH')
    ⟨Nat.le_trans hS.1 (by rw [e1]; exact hz), fun q h1 h2 => by rw [e1, hkp q (Nat.lt_of_lt_of_le h1 hS.1) h2]; exact hS.2.1 q h1 h2, fun q hq => by
      rcases List.mem_append.mp hq with h | h
      · exact hS.2.2 q h
      · exact hLc q h⟩ hL T' rfl X'
  exact ⟨t2, stp t2 a1, b1⟩
section PJK
variable {E : pj_E} {B : Nat} {l : Launch} {Y Y' : pj_Y} {d mc ms pc q : Nat} {st rest As : List Value} {h : pj_H} {n d' mc' ms' np : Nat} {P : Option Value → pj_H → Nat → Prop}
theorem pj_cb {s : State} {args : Array Value} (hts : ∀ w ∈ lw_tbl, w.before args s = true) (ho : pj_ok Y' np) (hdd : d' < d) : ((pj_rm d' mc' ms').cells = mc' ∧ (pj_rm d' mc' ms').slots = ms' ∧ (pj_rm d' mc' ms').frames + 1 ≤ (pj_rm d mc ms).frames ∧ 8 + (Y'.2.2.1 + 11) + (pj_rm d' mc' ms').locals ≤ (pj_rm d mc ms).locals ∧ (∀ w ∈ (Cond.code Y'.1 Y'.2.1 Y'.2.2.1 Y'.2.2.2 :: lw_tbl), ∀ (a' : Array Value) (U : State), s.WarmedH U.vm → w.before a' U = true) ∧ Cond.code Y'.1 Y'.2.1 Y'.2.2.1 Y'.2.2.2 ∈ (Cond.code Y'.1 Y'.2.1 Y'.2.2.1 Y'.2.2.2 :: lw_tbl)) := by
  refine ⟨rfl, rfl, by show d' + 1 ≤ d; omega, ?_, pj_words hts ho.1, List.mem_cons_self⟩
  show 8 + (Y'.2.2.1 + 11) + 64 * d' ≤ 64 * d
  have := ho.2.2.2.2
  omega
theorem pj_rV {i b ci : Nat} {fs : List Value} {r : vw_C} (hC : pj_Ct E B l Y' d' mc' ms' (.ref b :: As) h n P) (hd : decode Y.2.1 pc = .ok (.invokevirtual i, 3)) (hq : pc + 3 = q) (hl : Cond.methodLink Y.1.cls i Y'.1 ∈ lw_tbl) (ho : pj_okV Y' np) (hb : h b = some (.inr (ci, fs))) (hc : vwCl[ci]? = some r) (hrc : r.1 = Y'.1.cls) (hst : st = As.reverse ++ .ref b :: rest) (hn : As.length = np) (hw : (rest.map fun v => v.category).sum ≤ 8) (hdd : d' < d) : pj_Run E B l Y d mc ms pc q st rest h n mc' ms' P := by
  subst hq
  intro ls ce sl Q hce hsl kk p e s m args below meth c H locs la S hr hk hnm hW hH hS hL
  obtain ⟨o1, o2, o3⟩ := ho
  obtain ⟨g1, g2, g3, g4, g5, g6⟩ := pj_cb (mc := mc) (ms := ms) (mc' := mc') (ms' := ms') S.2.2.2.2 o1 hdd
  refine pj_go (va_runV (C := r.1) (b := b) (As := As) (rest := rest) S hC ⟨⟨g1, g2, g3, g4, g5, g6, S.2.2.2.2 _ o1.1, S.2.2.2.2 _ o1.2.1, o1.2.2.1, pj_np o1.2.2.2.1, S.2.2.2.2 _ hl⟩, S.2.2.2.2 _ o2, by rw [hrc]; exact S.2.2.2.2 _ o3⟩ ⟨pj_Pc_blind E B _ h n, pj_recv (p := fun _ => True) hW hH hc hb, fun U hU hWm => ⟨rfl, hW.moved hWm.alike, by rw [hU]; exact hH⟩⟩ rfl hn hL.1.1 hst (lv_room hw) hd ⟨hce, hsl⟩) S hr hk hnm hW hS hL kk
theorem pj_rS {i : Nat} (hC : pj_Ct E B l Y' d' mc' ms' As h n P) (hd : decode Y.2.1 pc = .ok (.invokestatic i, 3)) (hq : pc + 3 = q) (hl : Cond.methodLink Y.1.cls i Y'.1 ∈ lw_tbl) (ho : pj_okS Y' np) (hst : st = As.reverse ++ rest) (hn : As.length = np) (hw : (rest.map fun v => v.category).sum ≤ 8) (hdd : d' < d) : pj_Run E B l Y d mc ms pc q st rest h n mc' ms' P := by
  subst hq
  intro ls ce sl Q hce hsl kk p e s m args below meth c H locs la S hr hk hnm hW hH hS hL
  obtain ⟨o1, o2⟩ := ho
  obtain ⟨g1, g2, g3, g4, g5, g6⟩ := pj_cb (mc := mc) (ms := ms) (mc' := mc') (ms' := ms') S.2.2.2.2 o1 hdd
  refine pj_go (va_runS (As := As) (rest := rest) S hC ⟨⟨g1, g2, g3, g4, g5, g6, S.2.2.2.2 _ o1.1, S.2.2.2.2 _ o1.2.1, o1.2.2.1, pj_np o1.2.2.2.1, S.2.2.2.2 _ hl⟩, S.2.2.2.2 _ o2⟩ ⟨pj_Pc_blind E B _ h n, fun U hU hWm => ⟨rfl, hW.moved hWm.alike, by rw [hU]; exact hH⟩⟩ rfl hn hL.1.1 hst (lv_room hw) hd ⟨hce, hsl⟩) S hr hk hnm hW hS hL kk
theorem pj_rI {i b : Nat} (hC : pj_Ct E B l Y' d' mc' ms' (.ref b :: As) h n P) (hd : decode Y.2.1 pc = .ok (.invokespecial i, 3)) (hq : pc + 3 = q) (hl : Cond.methodLink Y.1.cls i Y'.1 ∈ lw_tbl) (ho : pj_okI Y' np) (hst : st = As.reverse ++ .ref b :: rest) (hn : As.length = np) (hw : (rest.map fun v => v.category).sum ≤ 8) (hdd : d' < d) : pj_Run E B l Y d mc ms pc q st rest h n mc' ms' P := by
  subst hq
  intro ls ce sl Q hce hsl kk p e s m args below meth c H locs la S hr hk hnm hW hH hS hL
  obtain ⟨o1, o2, o3, o4⟩ := ho
  obtain ⟨g1, g2, g3, g4, g5, g6⟩ := pj_cb (mc := mc) (ms := ms) (mc' := mc') (ms' := ms') S.2.2.2.2 o1 hdd
  refine pj_go (va_runI (b := b) (As := As) (rest := rest) (bytes := Y'.2.1) (maxL := Y'.2.2.1) S hC ⟨⟨g1, g2, g3, g4, g5, by rw [← o4]; exact g6, by rw [← o4]; exact S.2.2.2.2 _ o1.1, S.2.2.2.2 _ o1.2.1, o1.2.2.1, pj_np o1.2.2.2.1, S.2.2.2.2 _ hl⟩, o2, S.2.2.2.2 _ o3⟩ ⟨pj_Pc_blind E B _ h n, fun U hU hWm => ⟨rfl, hW.moved hWm.alike, by rw [hU]; exact hH⟩⟩ rfl hn hL.1.1 hst (lv_room hw) hd ⟨hce, hsl⟩) S hr hk hnm hW hS hL kk
theorem pj_rIN {i b : Nat} {host : String} (hC : pj_Ct E B l Y' d' mc' ms' (.ref b :: As) h n P) (hd : decode Y.2.1 pc = .ok (.invokespecial i, 3)) (hq : pc + 3 = q) (hl : Cond.methodLinkNest Y.1.cls i Y'.1 host ∈ lw_tbl) (ho : pj_okI Y' np) (hst : st = As.reverse ++ .ref b :: rest) (hn : As.length = np) (hw : (rest.map fun v => v.category).sum ≤ 8) (hdd : d' < d) : pj_Run E B l Y d mc ms pc q st rest h n mc' ms' P := by
  subst hq
  intro ls ce sl Q hce hsl kk p e s m args below meth c H locs la S hr hk hnm hW hH hS hL
  obtain ⟨o1, o2, o3, o4⟩ := ho
  obtain ⟨g1, g2, g3, g4, g5, g6⟩ := pj_cb (mc := mc) (ms := ms) (mc' := mc') (ms' := ms') S.2.2.2.2 o1 hdd
  refine pj_go (va_runIN (host := host) (b := b) (As := As) (rest := rest) (bytes := Y'.2.1) (maxL := Y'.2.2.1) S hC ⟨⟨⟨g1, g2, g3, g4, g5, by rw [← o4]; exact g6⟩, by rw [← o4]; exact S.2.2.2.2 _ o1.1, S.2.2.2.2 _ o1.2.1, o1.2.2.1, pj_np o1.2.2.2.1, S.2.2.2.2 _ hl⟩, o2, S.2.2.2.2 _ o3⟩ ⟨pj_Pc_blind E B _ h n, fun U hU hWm => ⟨rfl, hW.moved hWm.alike, by rw [hU]; exact hH⟩⟩ rfl hn hL.1.1 hst (lv_room hw) hd ⟨hce, hsl⟩) S hr hk hnm hW hS hL kk
theorem pj_rU {i b ci : Nat} {fs : List Value} {r : vw_C} {x : MethodName} {owner : String} (hC : pj_Ct E B l Y' d' mc' ms' (.ref b :: As) h n P) (hd : decode Y.2.1 pc = .ok (.invokevirtual i, 3)) (hq : pc + 3 = q) (ho : pj_okU Y.1.cls i r.1 x owner Y' np) (hb : h b = some (.inr (ci, fs))) (hc : vwCl[ci]? = some r) (hst : st = As.reverse ++ .ref b :: rest) (hn : As.length = np) (hw : (rest.map fun v => v.category).sum ≤ 8) (hdd : d' < d) : pj_Run E B l Y d mc ms pc q st rest h n mc' ms' P := by
  subst hq
  intro ls ce sl Q hce hsl kk p e s m args below meth c H locs la S hr hk hnm hW hH hS hL
  obtain ⟨o1, o2, o3, o4, o5, o6, o7, o8⟩ := ho
  have hdecl : va_Decl s ⟨owner, x.name, x.desc⟩ := by
    rcases o4 with o4 | ⟨o4, b0, m0, r0, o9⟩
    · exact va_Decl.abs (va_Nw.of rfl (S.2.2.2.2 _ o4))
    · exact va_Decl.of (S.2.2.2.2 _ o4) (S.2.2.2.2 _ o9)
  refine pj_go (va_runU (C := r.1) (b := b) (As := As) (rest := rest) S hC ⟨pj_cb (mc := mc) (ms := ms) (mc' := mc') (ms' := ms') S.2.2.2.2 o1 hdd, S.2.2.2.2 _ o1.1, S.2.2.2.2 _ o1.2.1, o7, pj_np o8, S.2.2.2.2 _ o2, S.2.2.2.2 _ o3, hdecl, S.2.2.2.2 _ o5, S.2.2.2.2 _ o6⟩ ⟨pj_Pc_blind E B _ h n, pj_recv (p := fun _ => True) hW hH hc hb, fun U hU hWm => ⟨rfl, hW.moved hWm.alike, by rw [hU]; exact hH⟩⟩ rfl hn hL.1.1 hst (lv_room hw) hd ⟨hce, hsl⟩) S hr hk hnm hW hS hL kk
theorem pj_rX {i b ci : Nat} {fs : List Value} {r : vw_C} (hC : pj_Ct E B l Y' d' mc' ms' (.ref b :: As) h n P) (hd : decode Y.2.1 pc = .ok (.invokespecial i, 3)) (hq : pc + 3 = q) (ho : pj_okX Y.1.cls i Y' np) (hb : h b = some (.inr (ci, fs))) (hc : vwCl[ci]? = some r) (hst : st = As.reverse ++ .ref b :: rest) (hn : As.length = np) (hw : (rest.map fun v => v.category).sum ≤ 8) (hdd : d' < d) : pj_Run E B l Y d mc ms pc q st rest h n mc' ms' P := by
  subst hq
  intro ls ce sl Q hce hsl kk p e s m args below meth c H locs la S hr hk hnm hW hH hS hL
  obtain ⟨o1, o2, o3, o4, o5, o6⟩ := ho
  refine pj_go (va_runSU (C := r.1) (cC := E.1.1 ci) (b := b) (As := As) (rest := rest) (hW.1.1 ci r hc).2 S hC ⟨pj_cb (mc := mc) (ms := ms) (mc' := mc') (ms' := ms') S.2.2.2.2 o1 hdd, S.2.2.2.2 _ o2, S.2.2.2.2 _ o3, S.2.2.2.2 _ o4, S.2.2.2.2 _ o5, S.2.2.2.2 _ o1.2.1, S.2.2.2.2 _ o1.1, o6, pj_np o1.2.2.2.1⟩ ⟨pj_Pc_blind E B _ h n, pj_recv (p := fun _ => True) hW hH hc hb, fun U hU hWm => ⟨rfl, hW.moved hWm.alike, by rw [hU]; exact hH⟩⟩ rfl hn hL.1.1 hst (lv_room hw) hd ⟨hce, hsl⟩) S hr hk hnm hW hS hL kk
/-- an answer, and nothing changes -/
def pj_is (v : Option Value) (h : pj_H) (n : Nat) : Option Value → pj_H → Nat → Prop := fun r h' n' => r = v ∧ h' = h ∧ n' = n
variable {ls : List (Option Value)} {ce sl : Nat} {Q : Option Value → pj_H → Nat → Prop}
theorem pj_cp {v : Value} (hr : pj_Run E B l Y d mc ms pc q st rest h n 0 0 (pj_is (some v) h n)) (hce : ce ≤ mc) (hsl : sl ≤ ms) (kk : pj_V E B l Y d mc ms q ls (v :: rest) h n ce sl Q) : pj_V E B l Y d mc ms pc ls st h n ce sl Q := hr ls ce sl Q hce hsl (fun r h' n' hp => by
  obtain ⟨rfl, rfl, rfl⟩ := hp
  exact kk)
theorem pj_cv (hr : pj_Run E B l Y d mc ms pc q st rest h n mc' ms' P) (hce : ce + mc' ≤ mc) (hsl : sl + ms' ≤ ms) (kk : ∀ r h' n', P r h' n' → pj_V E B l Y d mc ms q ls (r.toList ++ rest) h' n' (ce + mc') (sl + ms') Q) : pj_V E B l Y d mc ms pc ls st h n ce sl Q := hr ls ce sl Q hce hsl kk
/-- Object's constructor -/
theorem pj_objinit {i a : Nat} (hd : decode Y.2.1 pc = .ok (.invokespecial i, 3)) (hq : pc + 3 = q) (hl : Cond.methodLink Y.1.cls i objectInit ∈ lw_tbl) (h1 : Cond.instanceMethod objectInit ∈ lw_tbl) (h2 : Cond.code objectInit ⟨#[0xb1]⟩ 1 none ∈ lw_tbl) (hdd : 0 < d) (hw : (rest.map fun v => v.category).sum ≤ 8) (kk : pj_V E B l Y d mc ms q ls rest h n ce sl Q) : pj_V E B l Y d mc ms pc ls (.ref a :: rest) h n ce sl Q := by
  subst hq
  intro p e s m args below meth c H locs la S hr hk hnm hW hH hS hL
  have := lv_room (m := m) (pc := pc) (ls := la) (rest := .ref a :: rest) hw
  exact W.objInit S.1 S.2.1 S.2.2.2.1 (S.2.2.2.2 _ hl) (S.2.2.2.2 _ h1) (S.2.2.2.2 _ h2) rfl (hL.1.1.trans S.2.2.1.symm) rfl hd (by show 1 ≤ d; omega) (by show _ ≤ 64 * d; omega) (kk p e s m args below meth c H locs la S hr hk hnm hW hH hS hL)
end PJK
end
section
theorem pj_m (i : Nat) {w : Cond} (h : lw_tbl[i]? = some w) : w ∈ lw_tbl := List.mem_of_getElem? h
section PJF
variable {E : pj_E} {B : Nat} {l : Launch} {Y : pj_Y} {d mc ms pc q : Nat} {ls : List (Option Value)} {st : List Value} {h : pj_H} {n ce sl : Nat} {Q : Option Value → pj_H → Nat → Prop}
theorem pj_gf {i k a ci : Nat} {fs : List Value} {v : Value} {F1 F2 F3 : String} {fin : Bool} (hd : decode Y.2.1 pc = .ok (.getfield i, 3)) (hq : pc + 3 = q) (hl : Cond.fieldLink Y.1.cls i F1 F2 F3 ∈ lw_tbl) (ha : h a = some (.inr (ci, fs))) (hF : pj_fld ci k = some (F1, F2, F3, fin)) (hv : fs[k]? = some v) (kk : pj_V E B l Y d mc ms q ls (v :: st) h n ce sl Q) : pj_V E B l Y d mc ms pc ls (.ref a :: st) h n ce sl Q := pj_getf (F := (F1, F2, F3, fin)) hd hq hl ha hF hv kk
theorem pj_pf {i k a ci : Nat} {fs fs' : List Value} {v : Value} {F1 F2 F3 : String} {fin : Bool} {ty : FieldType} (hd : decode Y.2.1 pc = .ok (.putfield i, 3)) (hq : pc + 3 = q) (hl : Cond.fieldLink Y.1.cls i F1 F2 F3 ∈ lw_tbl) (ha : h a = some (.inr (ci, fs))) (hF : pj_fld ci k = some (F1, F2, F3, fin)) (hfin : fin = false ∨ (Y.1.name = "<init>" ∧ F1 = Y.1.cls)) (hty : parseFieldDescriptor F3 = some ty) (hnr : narrow ty v = v) (hft : fits ty v = true) (hlen : k < fs.length) (hfs : fs.set k v = fs') (kk : pj_V E B l Y d mc ms q ls st (pj_up h a (.inr (ci, fs'))) n ce sl Q) : pj_V E B l Y d mc ms pc ls (v :: .ref a :: st) h n ce sl Q := by
  subst hfs
  exact pj_putf (F := (F1, F2, F3, fin)) hd hq hl ha hF hfin hty hnr hft hlen kk
end PJF
theorem kX11_1 : Cond.methodLink RX11 1 objectInit ∈ lw_tbl := pj_m 83 (by decide +kernel)
theorem kX11_7 : Cond.classLink RX11 7 RX5 ∈ lw_tbl := pj_m 86 (by decide +kernel)
theorem kX11_9 : Cond.methodLink RX11 9 yX5_init ∈ lw_tbl := pj_m 88 (by decide +kernel)
theorem kX11_10 : Cond.fieldLink RX11 10 "GreyDays" "rows" "LGreyDays$Rows;" ∈ lw_tbl := pj_m 164 (by decide +kernel)
theorem kX11_16 : Cond.classLink RX11 16 RX7 ∈ lw_tbl := pj_m 108 (by decide +kernel)
theorem kX11_18 : Cond.methodLinkNest RX11 18 yX7_init "GreyDays" ∈ lw_tbl := pj_m 110 (by decide +kernel)
theorem kX11_19 : Cond.fieldLink RX11 19 "GreyDays" "tape" "LGreyDays$Tape;" ∈ lw_tbl := pj_m 165 (by decide +kernel)
theorem kX11_23 : Cond.classLink RX11 23 RX3 ∈ lw_tbl := pj_m 130 (by decide +kernel)
theorem kX11_25 : Cond.methodLinkNest RX11 25 yX3_init "GreyDays" ∈ lw_tbl := pj_m 132 (by decide +kernel)
theorem kX11_26 : Cond.fieldLink RX11 26 "GreyDays" "foretold" "LGreyDays$Foretold;" ∈ lw_tbl := pj_m 166 (by decide +kernel)
theorem kX11_30 : Cond.classLink RX11 30 RX0 ∈ lw_tbl := pj_m 146 (by decide +kernel)
theorem kX11_32 : Cond.methodLinkNest RX11 32 yX0_init "GreyDays" ∈ lw_tbl := pj_m 148 (by decide +kernel)
theorem kX11_33 : Cond.fieldLink RX11 33 "GreyDays" "asking" "LGreyDays$Asking;" ∈ lw_tbl := pj_m 167 (by decide +kernel)
theorem kX11_37 : Cond.classLink RX11 37 RX9 ∈ lw_tbl := pj_m 162 (by decide +kernel)
theorem kX11_39 : Cond.fieldLink RX11 39 "GreyDays" "images" "[LGreyDays$Town;" ∈ lw_tbl := pj_m 168 (by decide +kernel)
theorem kX11_43 : Cond.methodLink RX11 43 yX5_isNumber ∈ lw_tbl := pj_m 193 (by decide +kernel)
theorem kX11_47 : Cond.constant RX11 47 (-1000001) ∈ lw_tbl := pj_m 196 (by decide +kernel)
theorem kX11_48 : Cond.methodLink RX11 48 yX11_finds ∈ lw_tbl := pj_m 197 (by decide +kernel)
theorem kX11_51 : Cond.methodLink RX11 51 yX11_finding ∈ lw_tbl := pj_m 201 (by decide +kernel)
theorem kX11_55 : Cond.methodLink RX11 55 yX5_make ∈ lw_tbl := pj_m 206 (by decide +kernel)
theorem kX11_59 : Cond.methodLink RX11 59 yX11_findingOfPlaces ∈ lw_tbl := pj_m 215 (by decide +kernel)
theorem kX11_63 : Cond.methodLink RX11 63 yX5_put ∈ lw_tbl := pj_m 228 (by decide +kernel)
theorem kX11_66 : Cond.methodLink RX11 66 yX11_findingOfMove ∈ lw_tbl := pj_m 240 (by decide +kernel)
theorem kX11_70 : Cond.methodLink RX11 70 yX5_move ∈ lw_tbl := pj_m 248 (by decide +kernel)
theorem kX11_74 : Cond.methodLink RX11 74 yX5_isThere ∈ lw_tbl := pj_m 219 (by decide +kernel)
theorem kX11_77 : Cond.methodLink RX11 77 yX5_remove ∈ lw_tbl := pj_m 259 (by decide +kernel)
theorem kX11_81 : Cond.methodLink RX11 81 yX7_put ∈ lw_tbl := pj_m 267 (by decide +kernel)
theorem kX11_83 : Cond.methodLink RX11 83 yX7_length ∈ lw_tbl := pj_m 271 (by decide +kernel)
theorem kX11_86 : Cond.constant RX11 86 (-1000003) ∈ lw_tbl := pj_m 275 (by decide +kernel)
theorem kX11_87 : Cond.methodLink RX11 87 yX7_read ∈ lw_tbl := pj_m 280 (by decide +kernel)
theorem kX11_91 : Cond.methodLink RX11 91 yX7_faultNumber ∈ lw_tbl := pj_m 462 (by decide +kernel)
theorem kX11_94 : Cond.fieldLink RX11 94 "GreyDays" "latestFault" "I" ∈ lw_tbl := pj_m 170 (by decide +kernel)
theorem kX11_98 : Cond.constant RX11 98 (-1000100) ∈ lw_tbl := pj_m 466 (by decide +kernel)
theorem kX11_99 : Cond.methodLink RX11 99 yX7_faultPlace ∈ lw_tbl := pj_m 467 (by decide +kernel)
theorem kX11_102 : Cond.fieldLink RX11 102 "GreyDays" "present" "LGreyDays$Town;" ∈ lw_tbl := pj_m 169 (by decide +kernel)
theorem kX11_106 : Cond.methodLink RX11 106 yX9_thingCount ∈ lw_tbl := pj_m 471 (by decide +kernel)
theorem kX11_109 : Cond.methodLink RX11 109 yX9_actCount ∈ lw_tbl := pj_m 480 (by decide +kernel)
theorem kX11_112 : Cond.constant RX11 112 (-1000002) ∈ lw_tbl := pj_m 484 (by decide +kernel)
theorem kX11_113 : Cond.methodLink RX11 113 yX9_undoLatest ∈ lw_tbl := pj_m 485 (by decide +kernel)
theorem kX11_116 : Cond.methodLink RX11 116 yX9_today ∈ lw_tbl := pj_m 507 (by decide +kernel)
theorem kX11_119 : Cond.methodLink RX11 119 yX9_passDays ∈ lw_tbl := pj_m 511 (by decide +kernel)
theorem kX11_123 : Cond.methodLink RX11 123 yX11_isThing ∈ lw_tbl := pj_m 528 (by decide +kernel)
theorem kX11_126 : Cond.methodLink RX11 126 yX11_isSet ∈ lw_tbl := pj_m 533 (by decide +kernel)
theorem kX11_129 : Cond.methodLink RX11 129 yX9_thingAt ∈ lw_tbl := pj_m 536 (by decide +kernel)
theorem kX11_133 : Cond.methodLink RX11 133 yX8_takesPaint ∈ lw_tbl := pj_m 540 (by decide +kernel)
theorem kX11_139 : Cond.methodLink RX11 139 yX9_repaint ∈ lw_tbl := pj_m 550 (by decide +kernel)
theorem kX11_143 : Cond.methodLink RX11 143 yX11_isWeekday ∈ lw_tbl := pj_m 567 (by decide +kernel)
theorem kX11_146 : Cond.methodLink RX11 146 yX9_changeWeek ∈ lw_tbl := pj_m 570 (by decide +kernel)
theorem kX11_149 : Cond.methodLink RX11 149 yX8_mixed ∈ lw_tbl := pj_m 582 (by decide +kernel)
theorem kX11_152 : Cond.methodLink RX11 152 yX8_shaped ∈ lw_tbl := pj_m 583 (by decide +kernel)
theorem kX11_155 : Cond.methodLink RX11 155 yX9_missingIn ∈ lw_tbl := pj_m 592 (by decide +kernel)
theorem kX11_158 : Cond.methodLink RX11 158 yX8_lookWithout ∈ lw_tbl := pj_m 603 (by decide +kernel)
theorem kX11_161 : Cond.methodLink RX11 161 yX9_harmOfPairsWith ∈ lw_tbl := pj_m 634 (by decide +kernel)
theorem kX11_164 : Cond.methodLink RX11 164 yX9_colourOn ∈ lw_tbl := pj_m 642 (by decide +kernel)
theorem kX11_167 : Cond.methodLink RX11 167 yX11_areTwo ∈ lw_tbl := pj_m 647 (by decide +kernel)
theorem kX11_171 : Cond.methodLink RX11 171 yX9_harmOfPair ∈ lw_tbl := pj_m 651 (by decide +kernel)
theorem kX11_174 : Cond.methodLink RX11 174 yX11_isAhead ∈ lw_tbl := pj_m 660 (by decide +kernel)
theorem kX11_177 : Cond.methodLink RX11 177 yX9_areAlike ∈ lw_tbl := pj_m 663 (by decide +kernel)
theorem kX11_181 : Cond.methodLink RX11 181 yX3_alikeWith ∈ lw_tbl := pj_m 672 (by decide +kernel)
theorem kX11_185 : Cond.methodLink RX11 185 yX3_unlikeLooks ∈ lw_tbl := pj_m 688 (by decide +kernel)
theorem kX11_189 : Cond.methodLink RX11 189 yX9_harmWithout ∈ lw_tbl := pj_m 697 (by decide +kernel)
theorem kX11_192 : Cond.methodLink RX11 192 yX3_harmOfDays ∈ lw_tbl := pj_m 706 (by decide +kernel)
theorem kX11_195 : Cond.methodLink RX11 195 yX11_isChoice ∈ lw_tbl := pj_m 715 (by decide +kernel)
theorem kX11_198 : Cond.methodLink RX11 198 yX3_clearDays ∈ lw_tbl := pj_m 718 (by decide +kernel)
theorem kX11_202 : Cond.methodLink RX11 202 yX3_worstDay ∈ lw_tbl := pj_m 722 (by decide +kernel)
theorem kX11_205 : Cond.methodLink RX11 205 yX3_leastHarmPaint ∈ lw_tbl := pj_m 730 (by decide +kernel)
theorem kX11_208 : Cond.methodLink RX11 208 yX3_countDyePairs ∈ lw_tbl := pj_m 751 (by decide +kernel)
theorem kX11_211 : Cond.methodLink RX11 211 yX3_dyeOfFirstRow ∈ lw_tbl := pj_m 758 (by decide +kernel)
theorem kX11_214 : Cond.methodLink RX11 214 yX3_bestHiding ∈ lw_tbl := pj_m 774 (by decide +kernel)
theorem kX11_217 : Cond.methodLink RX11 217 yX3_weekdaysSeen ∈ lw_tbl := pj_m 788 (by decide +kernel)
theorem kX11_221 : Cond.methodLink RX11 221 yX3_countOrders ∈ lw_tbl := pj_m 800 (by decide +kernel)
theorem kX11_224 : Cond.methodLink RX11 224 yX3_placeOfFirstOrder ∈ lw_tbl := pj_m 819 (by decide +kernel)
theorem kX11_227 : Cond.methodLink RX11 227 yX3_countParting ∈ lw_tbl := pj_m 831 (by decide +kernel)
theorem kX11_230 : Cond.methodLink RX11 230 yX3_firstParting ∈ lw_tbl := pj_m 839 (by decide +kernel)
theorem kX11_233 : Cond.methodLink RX11 233 yX3_fewestMissing ∈ lw_tbl := pj_m 847 (by decide +kernel)
theorem kX11_236 : Cond.methodLink RX11 236 yX11_isCost ∈ lw_tbl := pj_m 855 (by decide +kernel)
theorem kX11_239 : Cond.methodLink RX11 239 yX3_bestTest ∈ lw_tbl := pj_m 858 (by decide +kernel)
theorem kX11_243 : Cond.constantLong RX11 243 (-1000001) ∈ lw_tbl := pj_m 875 (by decide +kernel)
theorem kX11_245 : Cond.methodLink RX11 245 yX3_likelihood ∈ lw_tbl := pj_m 876 (by decide +kernel)
theorem kX11_249 : Cond.constant RX11 249 (999999) ∈ lw_tbl := pj_m 893 (by decide +kernel)
theorem kX11_250 : Cond.methodLink RX11 250 yX3_drawnYear ∈ lw_tbl := pj_m 894 (by decide +kernel)
theorem kX11_254 : Cond.methodLink RX11 254 yX9_duplicate ∈ lw_tbl := pj_m 906 (by decide +kernel)
theorem kX11_257 : Cond.methodLink RX11 257 ⟨"GreyDays$Thing", "kindTold", "()I"⟩ ∈ lw_tbl := pj_m 941 (by decide +kernel)
theorem kX11_260 : Cond.methodLink RX11 260 yX11_isOfKind ∈ lw_tbl := pj_m 946 (by decide +kernel)
theorem kX11_264 : Cond.methodLink RX11 264 yX0_start ∈ lw_tbl := pj_m 958 (by decide +kernel)
theorem kX11_267 : Cond.methodLink RX11 267 yX8_sizeAsked ∈ lw_tbl := pj_m 962 (by decide +kernel)
theorem kX11_271 : Cond.methodLink RX11 271 yX8_markAsked ∈ lw_tbl := pj_m 1018 (by decide +kernel)
theorem kX11_274 : Cond.methodLink RX11 274 yX0_left ∈ lw_tbl := pj_m 1027 (by decide +kernel)
theorem kX11_277 : Cond.methodLink RX11 277 yX5_present ∈ lw_tbl := pj_m 1036 (by decide +kernel)
theorem kX11_279 : Cond.methodLink RX11 279 yX11_countOfTown ∈ lw_tbl := pj_m 1040 (by decide +kernel)
theorem kX11_282 : Cond.fieldLink RX11 282 "GreyDays" "latestFinding" "I" ∈ lw_tbl := pj_m 171 (by decide +kernel)
theorem kX11_285 : Cond.methodLink RX11 285 yX9_pairCount ∈ lw_tbl := pj_m 1044 (by decide +kernel)
theorem kX11_288 : Cond.constant RX11 288 (-1000010) ∈ lw_tbl := pj_m 205 (by decide +kernel)
theorem kX11_289 : Cond.methodLink RX11 289 yX5_hasPlaces ∈ lw_tbl := pj_m 223 (by decide +kernel)
theorem kX11_292 : Cond.methodLink RX11 292 yX5_haveOneLane ∈ lw_tbl := pj_m 244 (by decide +kernel)
theorem kX11_295 : Cond.methodLink RX11 295 yX9_hasThing ∈ lw_tbl := pj_m 532 (by decide +kernel)
theorem kX11_298 : Cond.classLink RX11 298 RX1 ∈ lw_tbl := pj_m 949 (by decide +kernel)
theorem kX11_300 : Cond.classLink RX11 300 RX10 ∈ lw_tbl := pj_m 950 (by decide +kernel)
theorem kX11_302 : Cond.classLink RX11 302 RX6 ∈ lw_tbl := pj_m 951 (by decide +kernel)
theorem kX11_304 : Cond.classLink RX11 304 RX4 ∈ lw_tbl := pj_m 952 (by decide +kernel)
theorem kX11_306 : Cond.classLink RX11 306 RX2 ∈ lw_tbl := pj_m 953 (by decide +kernel)
theorem kX0_3 : Cond.methodLink RX0 3 objectInit ∈ lw_tbl := pj_m 151 (by decide +kernel)
theorem kX0_11 : Cond.fieldLink RX0 11 "GreyDays$Asking" "bodies" "[I" ∈ lw_tbl := pj_m 152 (by decide +kernel)
theorem kX0_15 : Cond.fieldLink RX0 15 "GreyDays$Asking" "begun" "I" ∈ lw_tbl := pj_m 153 (by decide +kernel)
theorem kX0_19 : Cond.fieldLink RX0 19 "GreyDays$Asking" "missingToday" "I" ∈ lw_tbl := pj_m 154 (by decide +kernel)
theorem kX0_22 : Cond.constant RX0 22 (-1000000) ∈ lw_tbl := pj_m 1031 (by decide +kernel)
theorem kX1_1 : Cond.methodLink RX1 1 yX8_init ∈ lw_tbl := pj_m 387 (by decide +kernel)
theorem kX1_9 : Cond.methodLink RX1 9 yX0_begin ∈ lw_tbl := pj_m 968 (by decide +kernel)
theorem kX1_15 : Cond.methodLink RX1 15 yX8_sizeAsked ∈ lw_tbl := pj_m 972 (by decide +kernel)
theorem kX1_19 : Cond.methodLink RX1 19 yX1_markAsked ∈ lw_tbl := pj_m 973 (by decide +kernel)
theorem kX1_24 : Cond.methodLink RX1 24 yX8_markAsked ∈ lw_tbl := pj_m 988 (by decide +kernel)
theorem kX1_25 : Cond.methodLink RX1 25 yX0_missingToday ∈ lw_tbl := pj_m 992 (by decide +kernel)
theorem kX1_29 : Cond.methodLink RX1 29 ⟨"GreyDays$Dyed", "lookWithout", "(I)I"⟩ ∈ lw_tbl := pj_m 996 (by decide +kernel)
theorem kX2_1 : Cond.methodLink RX2 1 yX4_init ∈ lw_tbl := pj_m 426 (by decide +kernel)
theorem kX2_9 : Cond.methodLink RX2 9 yX0_begin ∈ lw_tbl := pj_m 1005 (by decide +kernel)
theorem kX2_15 : Cond.methodLink RX2 15 yX4_sizeAsked ∈ lw_tbl := pj_m 1006 (by decide +kernel)
theorem kX3_3 : Cond.methodLink RX3 3 objectInit ∈ lw_tbl := pj_m 135 (by decide +kernel)
theorem kX3_11 : Cond.fieldLink RX3 11 "GreyDays$Foretold" "looksThen" "[I" ∈ lw_tbl := pj_m 136 (by decide +kernel)
theorem kX3_17 : Cond.fieldLink RX3 17 "GreyDays$Foretold" "dyeRow" "[I" ∈ lw_tbl := pj_m 137 (by decide +kernel)
theorem kX3_20 : Cond.fieldLink RX3 20 "GreyDays$Foretold" "endings" "[I" ∈ lw_tbl := pj_m 138 (by decide +kernel)
theorem kX3_23 : Cond.methodLink RX3 23 yX9_thingCount ∈ lw_tbl := pj_m 681 (by decide +kernel)
theorem kX3_27 : Cond.methodLink RX3 27 yX9_thingAt ∈ lw_tbl := pj_m 682 (by decide +kernel)
theorem kX3_31 : Cond.methodLink RX3 31 yX8_lookWithout ∈ lw_tbl := pj_m 683 (by decide +kernel)
theorem kX3_37 : Cond.methodLink RX3 37 yX9_missingIn ∈ lw_tbl := pj_m 676 (by decide +kernel)
theorem kX3_40 : Cond.methodLink RX3 40 yX3_lookAt ∈ lw_tbl := pj_m 677 (by decide +kernel)
theorem kX3_44 : Cond.methodLink RX3 44 yX3_alikeWith ∈ lw_tbl := pj_m 692 (by decide +kernel)
theorem kX3_48 : Cond.methodLink RX3 48 yX9_harmWithout ∈ lw_tbl := pj_m 710 (by decide +kernel)
theorem kX3_51 : Cond.methodLink RX3 51 yX3_harmOfDays ∈ lw_tbl := pj_m 734 (by decide +kernel)
theorem kX3_55 : Cond.constant RX3 55 (-1000000) ∈ lw_tbl := pj_m 735 (by decide +kernel)
theorem kX3_56 : Cond.methodLink RX3 56 yX8_takesPaint ∈ lw_tbl := pj_m 736 (by decide +kernel)
theorem kX3_60 : Cond.methodLink RX3 60 yX8_mixed ∈ lw_tbl := pj_m 737 (by decide +kernel)
theorem kX3_63 : Cond.methodLink RX3 63 yX3_weekHarmWith ∈ lw_tbl := pj_m 738 (by decide +kernel)
theorem kX3_66 : Cond.methodLink RX3 66 yX9_harmOfPair ∈ lw_tbl := pj_m 741 (by decide +kernel)
theorem kX3_70 : Cond.methodLink RX3 70 yX3_daysAlike ∈ lw_tbl := pj_m 742 (by decide +kernel)
theorem kX3_74 : Cond.methodLink RX3 74 yX9_missingOn ∈ lw_tbl := pj_m 745 (by decide +kernel)
theorem kX3_77 : Cond.methodLink RX3 77 ⟨"GreyDays$Thing", "lookOf", "(II)I"⟩ ∈ lw_tbl := pj_m 746 (by decide +kernel)
theorem kX3_80 : Cond.methodLink RX3 80 yX3_areApart ∈ lw_tbl := pj_m 755 (by decide +kernel)
theorem kX3_84 : Cond.methodLink RX3 84 yX3_fillDyes ∈ lw_tbl := pj_m 762 (by decide +kernel)
theorem kX3_87 : Cond.methodLink RX3 87 yX3_isApartFromRow ∈ lw_tbl := pj_m 766 (by decide +kernel)
theorem kX3_90 : Cond.methodLink RX3 90 yJ6_bitCount_0f7a4 ∈ lw_tbl := pj_m 778 (by decide +kernel)
theorem kX3_95 : Cond.methodLink RX3 95 yX5_itemAt ∈ lw_tbl := pj_m 792 (by decide +kernel)
theorem kX3_100 : Cond.methodLink RX3 100 yX3_countEndings ∈ lw_tbl := pj_m 804 (by decide +kernel)
theorem kX3_103 : Cond.methodLink RX3 103 yX3_placeOfEnding ∈ lw_tbl := pj_m 808 (by decide +kernel)
theorem kX3_106 : Cond.methodLink RX3 106 yX3_nextOnShelf ∈ lw_tbl := pj_m 823 (by decide +kernel)
theorem kX3_109 : Cond.methodLink RX3 109 yX3_waysOn ∈ lw_tbl := pj_m 811 (by decide +kernel)
theorem kX3_112 : Cond.methodLink RX3 112 yX3_canFollow ∈ lw_tbl := pj_m 815 (by decide +kernel)
theorem kX3_116 : Cond.methodLink RX3 116 yX3_partsBy ∈ lw_tbl := pj_m 835 (by decide +kernel)
theorem kX3_120 : Cond.methodLink RX3 120 yX9_areAlike ∈ lw_tbl := pj_m 838 (by decide +kernel)
theorem kX3_123 : Cond.methodLink RX3 123 yX3_countTold ∈ lw_tbl := pj_m 862 (by decide +kernel)
theorem kX3_127 : Cond.methodLink RX3 127 yX3_isTold ∈ lw_tbl := pj_m 866 (by decide +kernel)
theorem kX3_131 : Cond.methodLink RX3 131 yX8_shaped ∈ lw_tbl := pj_m 870 (by decide +kernel)
theorem kX3_134 : Cond.methodLink RX3 134 yX3_ways ∈ lw_tbl := pj_m 879 (by decide +kernel)
theorem kX3_138 : Cond.constantLong RX3 138 (4) ∈ lw_tbl := pj_m 882 (by decide +kernel)
theorem kX3_140 : Cond.methodLink RX3 140 yX3_power ∈ lw_tbl := pj_m 883 (by decide +kernel)
theorem kX3_144 : Cond.methodLink RX3 144 yX3_greatestShared ∈ lw_tbl := pj_m 886 (by decide +kernel)
theorem kX3_148 : Cond.constantLong RX3 148 (16807) ∈ lw_tbl := pj_m 898 (by decide +kernel)
theorem kX3_150 : Cond.constantLong RX3 150 (2147483647) ∈ lw_tbl := pj_m 899 (by decide +kernel)
theorem kX3_152 : Cond.constantLong RX3 152 (6) ∈ lw_tbl := pj_m 900 (by decide +kernel)
theorem kX3_154 : Cond.methodLink RX3 154 yX9_setOf ∈ lw_tbl := pj_m 901 (by decide +kernel)
theorem kX4_1 : Cond.methodLink RX4 1 yX8_init ∈ lw_tbl := pj_m 416 (by decide +kernel)
theorem kX4_9 : Cond.methodLink RX4 9 yX0_begin ∈ lw_tbl := pj_m 1009 (by decide +kernel)
theorem kX4_15 : Cond.methodLink RX4 15 yX8_sizeAsked ∈ lw_tbl := pj_m 1010 (by decide +kernel)
theorem kX4_19 : Cond.methodLink RX4 19 yX8_markAsked ∈ lw_tbl := pj_m 1021 (by decide +kernel)
theorem kX4_22 : Cond.methodLink RX4 22 yX4_sizeAsked ∈ lw_tbl := pj_m 1022 (by decide +kernel)
theorem kX5_1 : Cond.methodLink RX5 1 objectInit ∈ lw_tbl := pj_m 91 (by decide +kernel)
theorem kX5_9 : Cond.classLink RX5 9 "[[I" ∈ lw_tbl := pj_m 92 (by decide +kernel)
theorem kX5_11 : Cond.fieldLink RX5 11 "GreyDays$Rows" "items" "[[I" ∈ lw_tbl := pj_m 97 (by decide +kernel)
theorem kX5_14 : Cond.fieldLink RX5 14 "GreyDays$Rows" "lanes" "[I" ∈ lw_tbl := pj_m 98 (by decide +kernel)
theorem kX5_18 : Cond.fieldLink RX5 18 "GreyDays$Rows" "lengths" "[I" ∈ lw_tbl := pj_m 99 (by decide +kernel)
theorem kX5_21 : Cond.methodLink RX5 21 yJ7_fill_53178 ∈ lw_tbl := pj_m 94 (by decide +kernel)
theorem kX5_27 : Cond.methodLink RX5 27 yX5_isNumber ∈ lw_tbl := pj_m 210 (by decide +kernel)
theorem kX5_31 : Cond.methodLink RX5 31 yX5_isThere ∈ lw_tbl := pj_m 227 (by decide +kernel)
theorem kX5_34 : Cond.methodLink RX5 34 yX5_hasPlaces ∈ lw_tbl := pj_m 232 (by decide +kernel)
theorem kX5_38 : Cond.methodLink RX5 38 yX5_cut ∈ lw_tbl := pj_m 233 (by decide +kernel)
theorem kX5_42 : Cond.methodLink RX5 42 ⟨"java/lang/System", "arraycopy", "(Ljava/lang/Object;ILjava/lang/Object;II)V"⟩ ∈ lw_tbl := pj_m 252 (by decide +kernel)
theorem kX6_1 : Cond.methodLink RX6 1 yX1_init ∈ lw_tbl := pj_m 406 (by decide +kernel)
theorem kX6_9 : Cond.methodLink RX6 9 ⟨"GreyDays$Shining", "shaped", "()I"⟩ ∈ lw_tbl := pj_m 627 (by decide +kernel)
theorem kX6_15 : Cond.methodLink RX6 15 yX0_begin ∈ lw_tbl := pj_m 980 (by decide +kernel)
theorem kX6_21 : Cond.methodLink RX6 21 yX1_markAsked ∈ lw_tbl := pj_m 981 (by decide +kernel)
theorem kX7_1 : Cond.methodLink RX7 1 objectInit ∈ lw_tbl := pj_m 113 (by decide +kernel)
theorem kX7_9 : Cond.fieldLink RX7 9 "GreyDays$Tape" "bytes" "[I" ∈ lw_tbl := pj_m 114 (by decide +kernel)
theorem kX7_13 : Cond.fieldLink RX7 13 "GreyDays$Tape" "length" "I" ∈ lw_tbl := pj_m 115 (by decide +kernel)
theorem kX7_17 : Cond.fieldLink RX7 17 "GreyDays$Tape" "faultNumber" "I" ∈ lw_tbl := pj_m 117 (by decide +kernel)
theorem kX7_20 : Cond.fieldLink RX7 20 "GreyDays$Tape" "faultPlace" "I" ∈ lw_tbl := pj_m 118 (by decide +kernel)
theorem kX7_23 : Cond.fieldLink RX7 23 "GreyDays$Tape" "place" "I" ∈ lw_tbl := pj_m 116 (by decide +kernel)
theorem kX7_26 : Cond.classLink RX7 26 RX9 ∈ lw_tbl := pj_m 284 (by decide +kernel)
theorem kX7_28 : Cond.methodLinkNest RX7 28 yX9_init "GreyDays" ∈ lw_tbl := pj_m 286 (by decide +kernel)
theorem kX7_29 : Cond.methodLink RX7 29 yX7_readLaw ∈ lw_tbl := pj_m 329 (by decide +kernel)
theorem kX7_33 : Cond.methodLink RX7 33 yX7_readThings ∈ lw_tbl := pj_m 361 (by decide +kernel)
theorem kX7_36 : Cond.methodLink RX7 36 yX7_readPairs ∈ lw_tbl := pj_m 438 (by decide +kernel)
theorem kX7_39 : Cond.methodLink RX7 39 yX7_faultAt ∈ lw_tbl := pj_m 345 (by decide +kernel)
theorem kX7_43 : Cond.methodLink RX7 43 yX7_isSound ∈ lw_tbl := pj_m 337 (by decide +kernel)
theorem kX7_47 : Cond.methodLink RX7 47 yX7_takeByte ∈ lw_tbl := pj_m 333 (by decide +kernel)
theorem kX7_51 : Cond.methodLink RX7 51 yX7_takeNumber ∈ lw_tbl := pj_m 349 (by decide +kernel)
theorem kX7_55 : Cond.methodLink RX7 55 yX9_setColourOn ∈ lw_tbl := pj_m 357 (by decide +kernel)
theorem kX7_58 : Cond.methodLink RX7 58 yX7_byteHere ∈ lw_tbl := pj_m 341 (by decide +kernel)
theorem kX7_62 : Cond.methodLink RX7 62 yX7_kindOfSort ∈ lw_tbl := pj_m 365 (by decide +kernel)
theorem kX7_66 : Cond.methodLink RX7 66 yX7_readThing ∈ lw_tbl := pj_m 368 (by decide +kernel)
theorem kX7_70 : Cond.methodLink RX7 70 yX9_addThing ∈ lw_tbl := pj_m 372 (by decide +kernel)
theorem kX7_74 : Cond.methodLink RX7 74 yX7_readPair ∈ lw_tbl := pj_m 442 (by decide +kernel)
theorem kX7_77 : Cond.methodLink RX7 77 yX9_thingCount ∈ lw_tbl := pj_m 446 (by decide +kernel)
theorem kX7_80 : Cond.methodLink RX7 80 yX9_harmOfPair ∈ lw_tbl := pj_m 450 (by decide +kernel)
theorem kX7_83 : Cond.methodLink RX7 83 yX9_addPair ∈ lw_tbl := pj_m 458 (by decide +kernel)
theorem kX7_86 : Cond.methodLink RX7 86 yX7_figuresHere ∈ lw_tbl := pj_m 353 (by decide +kernel)
theorem kX8_1 : Cond.methodLink RX8 1 objectInit ∈ lw_tbl := pj_m 390 (by decide +kernel)
theorem kX8_7 : Cond.fieldLink RX8 7 "GreyDays$Thing" "number" "I" ∈ lw_tbl := pj_m 391 (by decide +kernel)
theorem kX8_13 : Cond.fieldLink RX8 13 "GreyDays$Thing" "mix" "I" ∈ lw_tbl := pj_m 393 (by decide +kernel)
theorem kX8_16 : Cond.fieldLink RX8 16 "GreyDays$Thing" "shape" "I" ∈ lw_tbl := pj_m 392 (by decide +kernel)
theorem kX8_19 : Cond.classLink RX8 19 RX4 ∈ lw_tbl := pj_m 549 (by decide +kernel)
theorem kX8_21 : Cond.methodLink RX8 21 ⟨"GreyDays$Thing", "lookOf", "(II)I"⟩ ∈ lw_tbl := pj_m 612 (by decide +kernel)
theorem kX8_25 : Cond.methodLink RX8 25 yX0_begin ∈ lw_tbl := pj_m 991 (by decide +kernel)
theorem kX9_1 : Cond.methodLink RX9 1 objectInit ∈ lw_tbl := pj_m 289 (by decide +kernel)
theorem kX9_7 : Cond.classLink RX9 7 RX9 ∈ lw_tbl := pj_m 910 (by decide +kernel)
theorem kX9_9 : Cond.fieldLink RX9 9 "GreyDays$Town" "colours" "[I" ∈ lw_tbl := pj_m 292 (by decide +kernel)
theorem kX9_13 : Cond.classLink RX9 13 RX8 ∈ lw_tbl := pj_m 290 (by decide +kernel)
theorem kX9_15 : Cond.fieldLink RX9 15 "GreyDays$Town" "things" "[LGreyDays$Thing;" ∈ lw_tbl := pj_m 293 (by decide +kernel)
theorem kX9_19 : Cond.fieldLink RX9 19 "GreyDays$Town" "firsts" "[I" ∈ lw_tbl := pj_m 295 (by decide +kernel)
theorem kX9_22 : Cond.fieldLink RX9 22 "GreyDays$Town" "seconds" "[I" ∈ lw_tbl := pj_m 296 (by decide +kernel)
theorem kX9_25 : Cond.fieldLink RX9 25 "GreyDays$Town" "harms" "[I" ∈ lw_tbl := pj_m 297 (by decide +kernel)
theorem kX9_28 : Cond.fieldLink RX9 28 "GreyDays$Town" "actSorts" "[I" ∈ lw_tbl := pj_m 300 (by decide +kernel)
theorem kX9_31 : Cond.fieldLink RX9 31 "GreyDays$Town" "actPlaces" "[I" ∈ lw_tbl := pj_m 301 (by decide +kernel)
theorem kX9_34 : Cond.fieldLink RX9 34 "GreyDays$Town" "actBefores" "[I" ∈ lw_tbl := pj_m 302 (by decide +kernel)
theorem kX9_37 : Cond.methodLink RX9 37 yX9_init ∈ lw_tbl := pj_m 911 (by decide +kernel)
theorem kX9_38 : Cond.fieldLink RX9 38 "GreyDays$Town" "thingCount" "I" ∈ lw_tbl := pj_m 294 (by decide +kernel)
theorem kX9_42 : Cond.methodLink RX9 42 ⟨"GreyDays$Thing", "kindTold", "()I"⟩ ∈ lw_tbl := pj_m 912 (by decide +kernel)
theorem kX9_46 : Cond.methodLink RX9 46 yX8_mixed ∈ lw_tbl := pj_m 554 (by decide +kernel)
theorem kX9_49 : Cond.methodLink RX9 49 yX8_shaped ∈ lw_tbl := pj_m 930 (by decide +kernel)
theorem kX9_52 : Cond.methodLink RX9 52 yX9_addThing ∈ lw_tbl := pj_m 931 (by decide +kernel)
theorem kX9_56 : Cond.fieldLink RX9 56 "GreyDays$Town" "pairCount" "I" ∈ lw_tbl := pj_m 298 (by decide +kernel)
theorem kX9_59 : Cond.methodLink RX9 59 yX9_addPair ∈ lw_tbl := pj_m 932 (by decide +kernel)
theorem kX9_62 : Cond.fieldLink RX9 62 "GreyDays$Town" "day" "I" ∈ lw_tbl := pj_m 299 (by decide +kernel)
theorem kX9_65 : Cond.methodLink RX9 65 yX9_newThing ∈ lw_tbl := pj_m 376 (by decide +kernel)
theorem kX9_69 : Cond.classLink RX9 69 RX10 ∈ lw_tbl := pj_m 379 (by decide +kernel)
theorem kX9_71 : Cond.methodLink RX9 71 yX10_init ∈ lw_tbl := pj_m 381 (by decide +kernel)
theorem kX9_73 : Cond.classLink RX9 73 RX6 ∈ lw_tbl := pj_m 401 (by decide +kernel)
theorem kX9_75 : Cond.methodLink RX9 75 yX6_init ∈ lw_tbl := pj_m 403 (by decide +kernel)
theorem kX9_76 : Cond.classLink RX9 76 RX4 ∈ lw_tbl := pj_m 411 (by decide +kernel)
theorem kX9_78 : Cond.methodLink RX9 78 yX4_init ∈ lw_tbl := pj_m 413 (by decide +kernel)
theorem kX9_79 : Cond.classLink RX9 79 RX2 ∈ lw_tbl := pj_m 421 (by decide +kernel)
theorem kX9_81 : Cond.methodLink RX9 81 yX2_init ∈ lw_tbl := pj_m 423 (by decide +kernel)
theorem kX9_82 : Cond.classLink RX9 82 RX1 ∈ lw_tbl := pj_m 431 (by decide +kernel)
theorem kX9_84 : Cond.methodLink RX9 84 yX1_init ∈ lw_tbl := pj_m 433 (by decide +kernel)
theorem kX9_85 : Cond.fieldLink RX9 85 "GreyDays$Town" "actCount" "I" ∈ lw_tbl := pj_m 303 (by decide +kernel)
theorem kX9_88 : Cond.methodLink RX9 88 yX9_missingOn ∈ lw_tbl := pj_m 596 (by decide +kernel)
theorem kX9_92 : Cond.methodLink RX9 92 yX9_setOf ∈ lw_tbl := pj_m 600 (by decide +kernel)
theorem kX9_95 : Cond.methodLink RX9 95 yX9_hasThing ∈ lw_tbl := pj_m 490 (by decide +kernel)
theorem kX9_99 : Cond.methodLink RX9 99 yX8_lookWithout ∈ lw_tbl := pj_m 667 (by decide +kernel)
theorem kX9_102 : Cond.methodLink RX9 102 yX9_areAlike ∈ lw_tbl := pj_m 701 (by decide +kernel)
theorem kX9_106 : Cond.methodLink RX9 106 yX9_isOfPair ∈ lw_tbl := pj_m 454 (by decide +kernel)
theorem kX9_110 : Cond.methodLink RX9 110 yX9_keepAct ∈ lw_tbl := pj_m 515 (by decide +kernel)
theorem kX9_113 : Cond.methodLink RX9 113 yX8_mixAnew ∈ lw_tbl := pj_m 494 (by decide +kernel)
theorem kX9_117 : Cond.methodLink RX9 117 yX9_colourOn ∈ lw_tbl := pj_m 574 (by decide +kernel)
theorem kX9_120 : Cond.methodLink RX9 120 yX9_setColourOn ∈ lw_tbl := pj_m 489 (by decide +kernel)
theorem kX9_124 : Cond.methodLink RX9 124 yX9_forgetOldestAct ∈ lw_tbl := pj_m 519 (by decide +kernel)
theorem kX9_127 : Cond.methodLink RX9 127 ⟨"java/lang/System", "arraycopy", "(Ljava/lang/Object;ILjava/lang/Object;II)V"⟩ ∈ lw_tbl := pj_m 523 (by decide +kernel)
theorem kX10_1 : Cond.methodLink RX10 1 yX1_init ∈ lw_tbl := pj_m 384 (by decide +kernel)
theorem kX10_9 : Cond.methodLink RX10 9 yX0_begin ∈ lw_tbl := pj_m 985 (by decide +kernel)
theorem kX10_15 : Cond.methodLink RX10 15 yX1_sizeAsked ∈ lw_tbl := pj_m 1016 (by decide +kernel)
theorem kX10_19 : Cond.methodLink RX10 19 yX1_markAsked ∈ lw_tbl := pj_m 986 (by decide +kernel)
theorem kL_7 : Cond.classLink RL 7 RX11 ∈ lw_tbl := pj_m 78 (by decide +kernel)
theorem kL_9 : Cond.methodLink RL 9 yX11_init ∈ lw_tbl := pj_m 80 (by decide +kernel)
theorem kL_10 : Cond.classLink RL 10 RX12 ∈ lw_tbl := pj_m 1052 (by decide +kernel)
theorem kL_12 : Cond.methodLink RL 12 yX12_init ∈ lw_tbl := pj_m 1054 (by decide +kernel)
theorem kL_13 : Cond.methodLink RL 13 yX11_row ∈ lw_tbl := pj_m 189 (by decide +kernel)
theorem kL_17 : Cond.methodLink RL 17 yX12_row ∈ lw_tbl := pj_m 1132 (by decide +kernel)
theorem kL_18 : Cond.methodLink RL 18 yX11_set ∈ lw_tbl := pj_m 211 (by decide +kernel)
theorem kL_21 : Cond.methodLink RL 21 yX12_set ∈ lw_tbl := pj_m 1150 (by decide +kernel)
theorem kL_22 : Cond.methodLink RL 22 yX11_copy ∈ lw_tbl := pj_m 236 (by decide +kernel)
theorem kL_26 : Cond.methodLink RL 26 yX12_copy ∈ lw_tbl := pj_m 1154 (by decide +kernel)
theorem kL_27 : Cond.methodLink RL 27 yX11_drop ∈ lw_tbl := pj_m 255 (by decide +kernel)
theorem kL_31 : Cond.methodLink RL 31 yX12_drop ∈ lw_tbl := pj_m 1158 (by decide +kernel)
theorem kL_32 : Cond.methodLink RL 32 yX11_feed ∈ lw_tbl := pj_m 263 (by decide +kernel)
theorem kL_35 : Cond.methodLink RL 35 yX12_feed ∈ lw_tbl := pj_m 1162 (by decide +kernel)
theorem kL_36 : Cond.methodLink RL 36 yX11_town ∈ lw_tbl := pj_m 276 (by decide +kernel)
theorem kL_40 : Cond.methodLink RL 40 yX12_town ∈ lw_tbl := pj_m 1172 (by decide +kernel)
theorem kL_41 : Cond.methodLink RL 41 yX11_fault ∈ lw_tbl := pj_m 472 (by decide +kernel)
theorem kL_44 : Cond.methodLink RL 44 yX12_fault ∈ lw_tbl := pj_m 1168 (by decide +kernel)
theorem kL_45 : Cond.methodLink RL 45 yX11_undo ∈ lw_tbl := pj_m 476 (by decide +kernel)
theorem kL_48 : Cond.methodLink RL 48 yX12_undo ∈ lw_tbl := pj_m 1261 (by decide +kernel)
theorem kL_49 : Cond.methodLink RL 49 yX11_days ∈ lw_tbl := pj_m 503 (by decide +kernel)
theorem kL_52 : Cond.methodLink RL 52 yX12_days ∈ lw_tbl := pj_m 1228 (by decide +kernel)
theorem kL_53 : Cond.methodLink RL 53 yX11_paint ∈ lw_tbl := pj_m 524 (by decide +kernel)
theorem kL_57 : Cond.methodLink RL 57 yX12_paint ∈ lw_tbl := pj_m 1242 (by decide +kernel)
theorem kL_58 : Cond.methodLink RL 58 yX11_miss ∈ lw_tbl := pj_m 563 (by decide +kernel)
theorem kL_61 : Cond.methodLink RL 61 yX12_miss ∈ lw_tbl := pj_m 1255 (by decide +kernel)
theorem kL_62 : Cond.methodLink RL 62 yX11_thing ∈ lw_tbl := pj_m 578 (by decide +kernel)
theorem kL_65 : Cond.methodLink RL 65 yX12_thing ∈ lw_tbl := pj_m 1265 (by decide +kernel)
theorem kL_66 : Cond.methodLink RL 66 yX11_missing ∈ lw_tbl := pj_m 638 (by decide +kernel)
theorem kL_69 : Cond.methodLink RL 69 yX12_missing ∈ lw_tbl := pj_m 1283 (by decide +kernel)
theorem kL_70 : Cond.methodLink RL 70 yX11_pair ∈ lw_tbl := pj_m 643 (by decide +kernel)
theorem kL_73 : Cond.methodLink RL 73 yX12_pair ∈ lw_tbl := pj_m 1287 (by decide +kernel)
theorem kL_74 : Cond.methodLink RL 74 yX11_look ∈ lw_tbl := pj_m 652 (by decide +kernel)
theorem kL_77 : Cond.methodLink RL 77 yX12_look ∈ lw_tbl := pj_m 1295 (by decide +kernel)
theorem kL_78 : Cond.methodLink RL 78 yX11_alike ∈ lw_tbl := pj_m 656 (by decide +kernel)
theorem kL_81 : Cond.methodLink RL 81 yX12_alike ∈ lw_tbl := pj_m 1299 (by decide +kernel)
theorem kL_82 : Cond.methodLink RL 82 yX11_like ∈ lw_tbl := pj_m 668 (by decide +kernel)
theorem kL_85 : Cond.methodLink RL 85 yX12_like ∈ lw_tbl := pj_m 1311 (by decide +kernel)
theorem kL_86 : Cond.methodLink RL 86 yX11_looks ∈ lw_tbl := pj_m 684 (by decide +kernel)
theorem kL_89 : Cond.methodLink RL 89 yX12_looks ∈ lw_tbl := pj_m 1319 (by decide +kernel)
theorem kL_90 : Cond.methodLink RL 90 yX11_harm ∈ lw_tbl := pj_m 693 (by decide +kernel)
theorem kL_93 : Cond.methodLink RL 93 yX12_harm ∈ lw_tbl := pj_m 1323 (by decide +kernel)
theorem kL_94 : Cond.methodLink RL 94 yX11_harms ∈ lw_tbl := pj_m 702 (by decide +kernel)
theorem kL_97 : Cond.methodLink RL 97 yX12_harms ∈ lw_tbl := pj_m 1331 (by decide +kernel)
theorem kL_98 : Cond.methodLink RL 98 yX11_week ∈ lw_tbl := pj_m 711 (by decide +kernel)
theorem kL_101 : Cond.methodLink RL 101 yX12_week ∈ lw_tbl := pj_m 1339 (by decide +kernel)
theorem kL_102 : Cond.methodLink RL 102 yX11_bestPaint ∈ lw_tbl := pj_m 726 (by decide +kernel)
theorem kL_105 : Cond.methodLink RL 105 yX12_bestPaint ∈ lw_tbl := pj_m 1343 (by decide +kernel)
theorem kL_106 : Cond.methodLink RL 106 yX11_dyes ∈ lw_tbl := pj_m 747 (by decide +kernel)
theorem kL_109 : Cond.methodLink RL 109 yX12_dyes ∈ lw_tbl := pj_m 1347 (by decide +kernel)
theorem kL_110 : Cond.methodLink RL 110 yX11_thief ∈ lw_tbl := pj_m 770 (by decide +kernel)
theorem kL_113 : Cond.methodLink RL 113 yX12_thief ∈ lw_tbl := pj_m 1360 (by decide +kernel)
theorem kL_114 : Cond.methodLink RL 114 yX11_seen ∈ lw_tbl := pj_m 784 (by decide +kernel)
theorem kL_117 : Cond.methodLink RL 117 yX12_seen ∈ lw_tbl := pj_m 1364 (by decide +kernel)
theorem kL_118 : Cond.methodLink RL 118 yX11_shelf ∈ lw_tbl := pj_m 796 (by decide +kernel)
theorem kL_121 : Cond.methodLink RL 121 yX12_shelf ∈ lw_tbl := pj_m 1368 (by decide +kernel)
theorem kL_122 : Cond.methodLink RL 122 yX11_parted ∈ lw_tbl := pj_m 827 (by decide +kernel)
theorem kL_125 : Cond.methodLink RL 125 yX12_parted ∈ lw_tbl := pj_m 1376 (by decide +kernel)
theorem kL_126 : Cond.methodLink RL 126 yX11_merged ∈ lw_tbl := pj_m 843 (by decide +kernel)
theorem kL_129 : Cond.methodLink RL 129 yX12_merged ∈ lw_tbl := pj_m 1380 (by decide +kernel)
theorem kL_130 : Cond.methodLink RL 130 yX11_tests ∈ lw_tbl := pj_m 851 (by decide +kernel)
theorem kL_134 : Cond.methodLink RL 134 yX12_tests ∈ lw_tbl := pj_m 1384 (by decide +kernel)
theorem kL_135 : Cond.methodLink RL 135 yX11_bet ∈ lw_tbl := pj_m 871 (by decide +kernel)
theorem kL_139 : Cond.methodLink RL 139 yX12_bet ∈ lw_tbl := pj_m 1393 (by decide +kernel)
theorem kL_140 : Cond.methodLink RL 140 yX11_year ∈ lw_tbl := pj_m 889 (by decide +kernel)
theorem kL_143 : Cond.methodLink RL 143 yX12_year ∈ lw_tbl := pj_m 1400 (by decide +kernel)
theorem kL_144 : Cond.methodLink RL 144 yX11_image ∈ lw_tbl := pj_m 902 (by decide +kernel)
theorem kL_147 : Cond.methodLink RL 147 yX12_image ∈ lw_tbl := pj_m 1408 (by decide +kernel)
theorem kL_148 : Cond.methodLink RL 148 yX11_restore ∈ lw_tbl := pj_m 933 (by decide +kernel)
theorem kL_151 : Cond.methodLink RL 151 yX12_restore ∈ lw_tbl := pj_m 1412 (by decide +kernel)
theorem kL_152 : Cond.methodLink RL 152 yX11_kind ∈ lw_tbl := pj_m 937 (by decide +kernel)
theorem kL_155 : Cond.methodLink RL 155 yX12_kind ∈ lw_tbl := pj_m 1416 (by decide +kernel)
theorem kL_156 : Cond.methodLink RL 156 yX11_as ∈ lw_tbl := pj_m 942 (by decide +kernel)
theorem kL_159 : Cond.methodLink RL 159 yX12_as ∈ lw_tbl := pj_m 1420 (by decide +kernel)
theorem kL_160 : Cond.methodLink RL 160 yX11_ask ∈ lw_tbl := pj_m 954 (by decide +kernel)
theorem kL_163 : Cond.methodLink RL 163 yX12_ask ∈ lw_tbl := pj_m 1427 (by decide +kernel)
theorem kL_164 : Cond.methodLink RL 164 yX11_trace ∈ lw_tbl := pj_m 1023 (by decide +kernel)
theorem kL_167 : Cond.methodLink RL 167 yX12_trace ∈ lw_tbl := pj_m 1451 (by decide +kernel)
theorem kL_168 : Cond.methodLink RL 168 yX11_count ∈ lw_tbl := pj_m 1032 (by decide +kernel)
theorem kL_171 : Cond.methodLink RL 171 yX12_count ∈ lw_tbl := pj_m 1455 (by decide +kernel)
theorem kL_172 : Cond.methodLink RL 172 yX11_status ∈ lw_tbl := pj_m 1048 (by decide +kernel)
theorem kL_175 : Cond.methodLink RL 175 yX12_status ∈ lw_tbl := pj_m 1459 (by decide +kernel)
theorem kX12_1 : Cond.methodLink RX12 1 objectInit ∈ lw_tbl := pj_m 1057 (by decide +kernel)
theorem kX12_7 : Cond.fieldLink RX12 7 "GreyDaysModel" "lane" "[I" ∈ lw_tbl := pj_m 1060 (by decide +kernel)
theorem kX12_13 : Cond.fieldLink RX12 13 "GreyDaysModel" "many" "[I" ∈ lw_tbl := pj_m 1061 (by decide +kernel)
theorem kX12_16 : Cond.fieldLink RX12 16 "GreyDaysModel" "item" "[I" ∈ lw_tbl := pj_m 1062 (by decide +kernel)
theorem kX12_19 : Cond.fieldLink RX12 19 "GreyDaysModel" "town" "[I" ∈ lw_tbl := pj_m 1063 (by decide +kernel)
theorem kX12_22 : Cond.fieldLink RX12 22 "GreyDaysModel" "fresh" "[I" ∈ lw_tbl := pj_m 1064 (by decide +kernel)
theorem kX12_25 : Cond.fieldLink RX12 25 "GreyDaysModel" "was" "[I" ∈ lw_tbl := pj_m 1065 (by decide +kernel)
theorem kX12_28 : Cond.fieldLink RX12 28 "GreyDaysModel" "tape" "[I" ∈ lw_tbl := pj_m 1067 (by decide +kernel)
theorem kX12_31 : Cond.fieldLink RX12 31 "GreyDaysModel" "mixes" "[I" ∈ lw_tbl := pj_m 1076 (by decide +kernel)
theorem kX12_34 : Cond.fieldLink RX12 34 "GreyDaysModel" "orders" "[I" ∈ lw_tbl := pj_m 1077 (by decide +kernel)
theorem kX12_37 : Cond.fieldLink RX12 37 "GreyDaysModel" "isKept" "[Z" ∈ lw_tbl := pj_m 1078 (by decide +kernel)
theorem kX12_41 : Cond.fieldLink RX12 41 "GreyDaysModel" "kept" "[I" ∈ lw_tbl := pj_m 1079 (by decide +kernel)
theorem kX12_44 : Cond.fieldLink RX12 44 "GreyDaysModel" "trace" "[I" ∈ lw_tbl := pj_m 1080 (by decide +kernel)
theorem kX12_47 : Cond.fieldLink RX12 47 "GreyDaysModel" "thrown" "I" ∈ lw_tbl := pj_m 1058 (by decide +kernel)
theorem kX12_51 : Cond.fieldLink RX12 51 "GreyDaysModel" "status" "I" ∈ lw_tbl := pj_m 1059 (by decide +kernel)
theorem kX12_54 : Cond.constant RX12 54 (-1000010) ∈ lw_tbl := pj_m 1149 (by decide +kernel)
theorem kX12_55 : Cond.constantLong RX12 55 (7) ∈ lw_tbl := pj_m 1139 (by decide +kernel)
theorem kX12_57 : Cond.methodLink RX12 57 yX12_in ∈ lw_tbl := pj_m 1140 (by decide +kernel)
theorem kX12_61 : Cond.methodLink RX12 61 yX12_isRow ∈ lw_tbl := pj_m 1136 (by decide +kernel)
theorem kX12_65 : Cond.constantLong RX12 65 (2) ∈ lw_tbl := pj_m 1143 (by decide +kernel)
theorem kX12_67 : Cond.constant RX12 67 (-1000001) ∈ lw_tbl := pj_m 1144 (by decide +kernel)
theorem kX12_68 : Cond.methodLink RX12 68 yX12_finding ∈ lw_tbl := pj_m 1145 (by decide +kernel)
theorem kX12_72 : Cond.constantLong RX12 72 (255) ∈ lw_tbl := pj_m 1166 (by decide +kernel)
theorem kX12_74 : Cond.fieldLink RX12 74 "GreyDaysModel" "taped" "I" ∈ lw_tbl := pj_m 1068 (by decide +kernel)
theorem kX12_77 : Cond.constant RX12 77 (-1000003) ∈ lw_tbl := pj_m 1167 (by decide +kernel)
theorem kX12_78 : Cond.fieldLink RX12 78 "GreyDaysModel" "fault" "I" ∈ lw_tbl := pj_m 1073 (by decide +kernel)
theorem kX12_81 : Cond.fieldLink RX12 81 "GreyDaysModel" "start" "I" ∈ lw_tbl := pj_m 1070 (by decide +kernel)
theorem kX12_84 : Cond.fieldLink RX12 84 "GreyDaysModel" "faultAt" "I" ∈ lw_tbl := pj_m 1074 (by decide +kernel)
theorem kX12_87 : Cond.fieldLink RX12 87 "GreyDaysModel" "cursor" "I" ∈ lw_tbl := pj_m 1069 (by decide +kernel)
theorem kX12_90 : Cond.constant RX12 90 (-1000000) ∈ lw_tbl := pj_m 1184 (by decide +kernel)
theorem kX12_91 : Cond.fieldLink RX12 91 "GreyDaysModel" "value" "I" ∈ lw_tbl := pj_m 1072 (by decide +kernel)
theorem kX12_94 : Cond.constantLong RX12 94 (97) ∈ lw_tbl := pj_m 1185 (by decide +kernel)
theorem kX12_96 : Cond.constantLong RX12 96 (122) ∈ lw_tbl := pj_m 1186 (by decide +kernel)
theorem kX12_98 : Cond.constantLong RX12 98 (48) ∈ lw_tbl := pj_m 1187 (by decide +kernel)
theorem kX12_100 : Cond.constantLong RX12 100 (57) ∈ lw_tbl := pj_m 1188 (by decide +kernel)
theorem kX12_102 : Cond.fieldLink RX12 102 "GreyDaysModel" "token" "I" ∈ lw_tbl := pj_m 1071 (by decide +kernel)
theorem kX12_105 : Cond.methodLink RX12 105 yX12_bad ∈ lw_tbl := pj_m 1197 (by decide +kernel)
theorem kX12_109 : Cond.methodLink RX12 109 yX12_nextToken ∈ lw_tbl := pj_m 1180 (by decide +kernel)
theorem kX12_112 : Cond.methodLink RX12 112 yX12_must ∈ lw_tbl := pj_m 1193 (by decide +kernel)
theorem kX12_116 : Cond.fieldLink RX12 116 "GreyDaysModel" "latest" "I" ∈ lw_tbl := pj_m 1075 (by decide +kernel)
theorem kX12_119 : Cond.methodLink RX12 119 yX12_kindBy ∈ lw_tbl := pj_m 1209 (by decide +kernel)
theorem kX12_122 : Cond.methodLink RX12 122 yX12_number ∈ lw_tbl := pj_m 1201 (by decide +kernel)
theorem kX12_126 : Cond.methodLink RX12 126 yX12_mustSign ∈ lw_tbl := pj_m 1205 (by decide +kernel)
theorem kX12_129 : Cond.methodLink RX12 129 yX12_isTold ∈ lw_tbl := pj_m 1220 (by decide +kernel)
theorem kX12_133 : Cond.methodLink RX12 133 yX12_begin ∈ lw_tbl := pj_m 1176 (by decide +kernel)
theorem kX12_136 : Cond.methodLink RX12 136 yX12_isLetter ∈ lw_tbl := pj_m 1189 (by decide +kernel)
theorem kX12_139 : Cond.methodLink RX12 139 yX12_readThing ∈ lw_tbl := pj_m 1212 (by decide +kernel)
theorem kX12_142 : Cond.methodLink RX12 142 yX12_readPair ∈ lw_tbl := pj_m 1216 (by decide +kernel)
theorem kX12_145 : Cond.methodLink RX12 145 yX12_failed ∈ lw_tbl := pj_m 1223 (by decide +kernel)
theorem kX12_149 : Cond.constant RX12 149 (-1000100) ∈ lw_tbl := pj_m 1227 (by decide +kernel)
theorem kX12_150 : Cond.fieldLink RX12 150 "GreyDaysModel" "acts" "I" ∈ lw_tbl := pj_m 1066 (by decide +kernel)
theorem kX12_153 : Cond.methodLink RX12 153 yX12_isThing ∈ lw_tbl := pj_m 1246 (by decide +kernel)
theorem kX12_156 : Cond.constantLong RX12 156 (100) ∈ lw_tbl := pj_m 1306 (by decide +kernel)
theorem kX12_158 : Cond.methodLink RX12 158 yX12_of ∈ lw_tbl := pj_m 1251 (by decide +kernel)
theorem kX12_161 : Cond.methodLink RX12 161 yX12_bits ∈ lw_tbl := pj_m 1280 (by decide +kernel)
theorem kX12_164 : Cond.methodLink RX12 164 yX12_setOf ∈ lw_tbl := pj_m 1273 (by decide +kernel)
theorem kX12_167 : Cond.methodLink RX12 167 yX12_lookOf ∈ lw_tbl := pj_m 1276 (by decide +kernel)
theorem kX12_170 : Cond.methodLink RX12 170 yX12_missingOn ∈ lw_tbl := pj_m 1269 (by decide +kernel)
theorem kX12_173 : Cond.methodLink RX12 173 yX12_harmBy ∈ lw_tbl := pj_m 1327 (by decide +kernel)
theorem kX12_176 : Cond.methodLink RX12 176 yX12_isThere ∈ lw_tbl := pj_m 1232 (by decide +kernel)
theorem kX12_179 : Cond.constant RX12 179 (-1000002) ∈ lw_tbl := pj_m 1236 (by decide +kernel)
theorem kX12_180 : Cond.constantLong RX12 180 (24) ∈ lw_tbl := pj_m 1237 (by decide +kernel)
theorem kX12_182 : Cond.methodLink RX12 182 yX12_keep ∈ lw_tbl := pj_m 1238 (by decide +kernel)
theorem kX12_185 : Cond.constantLong RX12 185 (31) ∈ lw_tbl := pj_m 1250 (by decide +kernel)
theorem kX12_187 : Cond.constantLong RX12 187 (6) ∈ lw_tbl := pj_m 1259 (by decide +kernel)
theorem kX12_189 : Cond.constantLong RX12 189 (5) ∈ lw_tbl := pj_m 1260 (by decide +kernel)
theorem kX12_191 : Cond.methodLink RX12 191 yX12_areTwo ∈ lw_tbl := pj_m 1291 (by decide +kernel)
theorem kX12_195 : Cond.methodLink RX12 195 yX12_isFar ∈ lw_tbl := pj_m 1303 (by decide +kernel)
theorem kX12_198 : Cond.methodLink RX12 198 yX12_areAlike ∈ lw_tbl := pj_m 1307 (by decide +kernel)
theorem kX12_202 : Cond.methodLink RX12 202 yX12_likeBy ∈ lw_tbl := pj_m 1315 (by decide +kernel)
theorem kX12_205 : Cond.methodLink RX12 205 yX12_harmsOf ∈ lw_tbl := pj_m 1335 (by decide +kernel)
theorem kX12_208 : Cond.methodLink RX12 208 yX12_areApart ∈ lw_tbl := pj_m 1356 (by decide +kernel)
theorem kX12_211 : Cond.constantLong RX12 211 (-1) ∈ lw_tbl := pj_m 1351 (by decide +kernel)
theorem kX12_213 : Cond.methodLink RX12 213 yX12_areMixes ∈ lw_tbl := pj_m 1352 (by decide +kernel)
theorem kX12_216 : Cond.methodLink RX12 216 yX12_follow ∈ lw_tbl := pj_m 1372 (by decide +kernel)
theorem kX12_220 : Cond.constantLong RX12 220 (20) ∈ lw_tbl := pj_m 1388 (by decide +kernel)
theorem kX12_222 : Cond.methodLink RX12 222 yX12_toldBy ∈ lw_tbl := pj_m 1389 (by decide +kernel)
theorem kX12_225 : Cond.constantLong RX12 225 (12) ∈ lw_tbl := pj_m 1397 (by decide +kernel)
theorem kX12_227 : Cond.constantLong RX12 227 (-1000001) ∈ lw_tbl := pj_m 1398 (by decide +kernel)
theorem kX12_229 : Cond.constantLong RX12 229 (4) ∈ lw_tbl := pj_m 1399 (by decide +kernel)
theorem kX12_231 : Cond.constantLong RX12 231 (200) ∈ lw_tbl := pj_m 1404 (by decide +kernel)
theorem kX12_233 : Cond.constantLong RX12 233 (999999) ∈ lw_tbl := pj_m 1405 (by decide +kernel)
theorem kX12_235 : Cond.constantLong RX12 235 (16807) ∈ lw_tbl := pj_m 1406 (by decide +kernel)
theorem kX12_237 : Cond.constantLong RX12 237 (2147483647) ∈ lw_tbl := pj_m 1407 (by decide +kernel)
theorem kX12_239 : Cond.methodLink RX12 239 yX12_isOf ∈ lw_tbl := pj_m 1424 (by decide +kernel)
theorem kX12_242 : Cond.fieldLink RX12 242 "GreyDaysModel" "traced" "I" ∈ lw_tbl := pj_m 1081 (by decide +kernel)
theorem kX12_245 : Cond.methodLink RX12 245 yX12_began ∈ lw_tbl := pj_m 1439 (by decide +kernel)
theorem kX12_248 : Cond.methodLink RX12 248 yX12_plainSize ∈ lw_tbl := pj_m 1443 (by decide +kernel)
theorem kX12_251 : Cond.methodLink RX12 251 yX12_inkSize ∈ lw_tbl := pj_m 1435 (by decide +kernel)
theorem kX12_254 : Cond.methodLink RX12 254 yX12_markOf ∈ lw_tbl := pj_m 1447 (by decide +kernel)
theorem kX12_257 : Cond.methodLink RX12 257 yX12_sizeOf ∈ lw_tbl := pj_m 1431 (by decide +kernel)
theorem kJ6_265 : Cond.constant RJ6 265 (1431655765) ∈ lw_tbl := pj_m 781 (by decide +kernel)
theorem kJ6_266 : Cond.constant RJ6 266 (858993459) ∈ lw_tbl := pj_m 782 (by decide +kernel)
theorem kJ6_267 : Cond.constant RJ6 267 (252645135) ∈ lw_tbl := pj_m 783 (by decide +kernel)
theorem zL : Cond.initialized RL ∈ lw_tbl := pj_m 61 (by decide +kernel)
theorem zX11 : Cond.initialized RX11 ∈ lw_tbl := pj_m 62 (by decide +kernel)
theorem zX5 : Cond.initialized RX5 ∈ lw_tbl := pj_m 63 (by decide +kernel)
theorem zJ7 : Cond.initialized RJ7 ∈ lw_tbl := pj_m 64 (by decide +kernel)
theorem zX7 : Cond.initialized RX7 ∈ lw_tbl := pj_m 65 (by decide +kernel)
theorem zX3 : Cond.initialized RX3 ∈ lw_tbl := pj_m 66 (by decide +kernel)
theorem zX0 : Cond.initialized RX0 ∈ lw_tbl := pj_m 67 (by decide +kernel)
theorem zX12 : Cond.initialized RX12 ∈ lw_tbl := pj_m 68 (by decide +kernel)
theorem zJ10 : Cond.initialized RJ10 ∈ lw_tbl := pj_m 69 (by decide +kernel)
theorem zX9 : Cond.initialized RX9 ∈ lw_tbl := pj_m 70 (by decide +kernel)
theorem zX8 : Cond.initialized RX8 ∈ lw_tbl := pj_m 71 (by decide +kernel)
theorem zX1 : Cond.initialized RX1 ∈ lw_tbl := pj_m 72 (by decide +kernel)
theorem zX10 : Cond.initialized RX10 ∈ lw_tbl := pj_m 73 (by decide +kernel)
theorem zX6 : Cond.initialized RX6 ∈ lw_tbl := pj_m 74 (by decide +kernel)
theorem zX4 : Cond.initialized RX4 ∈ lw_tbl := pj_m 75 (by decide +kernel)
theorem zX2 : Cond.initialized RX2 ∈ lw_tbl := pj_m 76 (by decide +kernel)
theorem zJ6 : Cond.initialized RJ6 ∈ lw_tbl := pj_m 77 (by decide +kernel)
theorem iX11 : Cond.instantiable RX11 8 ∈ lw_tbl := pj_m 79 (by decide +kernel)
theorem iX5 : Cond.instantiable RX5 3 ∈ lw_tbl := pj_m 87 (by decide +kernel)
theorem ao_int : Cond.arrayOver (.array .int) ∈ lw_tbl := pj_m 93 (by decide +kernel)
theorem ac_int : Cond.arrayClass .int ∈ lw_tbl := pj_m 107 (by decide +kernel)
theorem iX7 : Cond.instantiable RX7 5 ∈ lw_tbl := pj_m 109 (by decide +kernel)
theorem iX3 : Cond.instantiable RX3 3 ∈ lw_tbl := pj_m 131 (by decide +kernel)
theorem iX0 : Cond.instantiable RX0 3 ∈ lw_tbl := pj_m 147 (by decide +kernel)
theorem ao_Town : Cond.arrayOver (.object "GreyDays$Town") ∈ lw_tbl := pj_m 163 (by decide +kernel)
theorem iX9 : Cond.instantiable RX9 12 ∈ lw_tbl := pj_m 285 (by decide +kernel)
theorem ao_Thing : Cond.arrayOver (.object "GreyDays$Thing") ∈ lw_tbl := pj_m 291 (by decide +kernel)
theorem iX10 : Cond.instantiable RX10 3 ∈ lw_tbl := pj_m 380 (by decide +kernel)
theorem iX6 : Cond.instantiable RX6 3 ∈ lw_tbl := pj_m 402 (by decide +kernel)
theorem iX4 : Cond.instantiable RX4 3 ∈ lw_tbl := pj_m 412 (by decide +kernel)
theorem iX2 : Cond.instantiable RX2 3 ∈ lw_tbl := pj_m 422 (by decide +kernel)
theorem iX1 : Cond.instantiable RX1 3 ∈ lw_tbl := pj_m 432 (by decide +kernel)
theorem iX12 : Cond.instantiable RX12 24 ∈ lw_tbl := pj_m 1053 (by decide +kernel)
theorem ac_boolean : Cond.arrayClass .boolean ∈ lw_tbl := pj_m 1131 (by decide +kernel)
theorem ca_Faded_Ink : Cond.castable "GreyDays$Faded" "GreyDays$Ink" ∈ lw_tbl := pj_m 1473 (by decide +kernel)
theorem ca_Shining_Dyed : Cond.castable "GreyDays$Shining" "GreyDays$Dyed" ∈ lw_tbl := pj_m 1474 (by decide +kernel)
theorem ca_Twin_Dyed : Cond.castable "GreyDays$Twin" "GreyDays$Dyed" ∈ lw_tbl := pj_m 1475 (by decide +kernel)
theorem ca_Twin_Thing : Cond.castable "GreyDays$Twin" "GreyDays$Thing" ∈ lw_tbl := pj_m 1476 (by decide +kernel)
theorem ca_Shining_Thing : Cond.castable "GreyDays$Shining" "GreyDays$Thing" ∈ lw_tbl := pj_m 1477 (by decide +kernel)
theorem ca_Ink_Thing : Cond.castable "GreyDays$Ink" "GreyDays$Thing" ∈ lw_tbl := pj_m 1478 (by decide +kernel)
theorem ca_Faded_Thing : Cond.castable "GreyDays$Faded" "GreyDays$Thing" ∈ lw_tbl := pj_m 1479 (by decide +kernel)
theorem ca_Dyed_Thing : Cond.castable "GreyDays$Dyed" "GreyDays$Thing" ∈ lw_tbl := pj_m 1480 (by decide +kernel)
theorem oi_inst : Cond.instanceMethod objectInit ∈ lw_tbl := pj_m 84 (by decide +kernel)
theorem oi_code : Cond.code objectInit ⟨#[0xb1]⟩ 1 none ∈ lw_tbl := pj_m 85 (by decide +kernel)
abbrev Y_X0_init : pj_Y := (yX0_init, cX0_init, 1, none)
theorem ok_X0_init : pj_ok Y_X0_init 0 := ⟨pj_m 150 (by decide +kernel), zX0, ⟨by decide +kernel, by decide +kernel⟩, by decide +kernel, by decide⟩
theorem o_X0_init : pj_okI Y_X0_init 0 := ⟨ok_X0_init, rfl, pj_m 149 (by decide +kernel), rfl⟩
abbrev Y_X0_start : pj_Y := (yX0_start, cX0_start, 2, none)
theorem ok_X0_start : pj_ok Y_X0_start 1 := ⟨pj_m 961 (by decide +kernel), zX0, ⟨by decide +kernel, by decide +kernel⟩, by decide +kernel, by decide⟩
theorem o_X0_start : pj_okV Y_X0_start 1 := ⟨ok_X0_start, pj_m 959 (by decide +kernel), pj_m 960 (by decide +kernel)⟩
abbrev Y_X0_begin : pj_Y := (yX0_begin, cX0_begin, 2, none)
theorem ok_X0_begin : pj_ok Y_X0_begin 1 := ⟨pj_m 971 (by decide +kernel), zX0, ⟨by decide +kernel, by decide +kernel⟩, by decide +kernel, by decide⟩
theorem o_X0_begin : pj_okV Y_X0_begin 1 := ⟨ok_X0_begin, pj_m 969 (by decide +kernel), pj_m 970 (by decide +kernel)⟩
abbrev Y_X0_missingToday : pj_Y := (yX0_missingToday, cX0_missingToday, 1, some .int)
theorem ok_X0_missingToday : pj_ok Y_X0_missingToday 0 := ⟨pj_m 995 (by decide +kernel), zX0, ⟨by decide +kernel, by decide +kernel⟩, by decide +kernel, by decide⟩
theorem o_X0_missingToday : pj_okV Y_X0_missingToday 0 := ⟨ok_X0_missingToday, pj_m 993 (by decide +kernel), pj_m 994 (by decide +kernel)⟩
abbrev Y_X0_left : pj_Y := (yX0_left, cX0_left, 2, some .int)
theorem ok_X0_left : pj_ok Y_X0_left 1 := ⟨pj_m 1030 (by decide +kernel), zX0, ⟨by decide +kernel, by decide +kernel⟩, by decide +kernel, by decide⟩
theorem o_X0_left : pj_okV Y_X0_left 1 := ⟨ok_X0_left, pj_m 1028 (by decide +kernel), pj_m 1029 (by decide +kernel)⟩
abbrev Y_X1_init : pj_Y := (yX1_init, cX1_init, 4, none)
theorem ok_X1_init : pj_ok Y_X1_init 3 := ⟨pj_m 386 (by decide +kernel), zX1, ⟨by decide +kernel, by decide +kernel⟩, by decide +kernel, by decide⟩
theorem o_X1_init : pj_okI Y_X1_init 3 := ⟨ok_X1_init, rfl, pj_m 385 (by decide +kernel), rfl⟩
abbrev Y_X1_kindTold : pj_Y := (yX1_kindTold, cX1_kindTold, 1, some .int)
theorem ok_X1_kindTold : pj_ok Y_X1_kindTold 0 := ⟨pj_m 917 (by decide +kernel), zX1, ⟨by decide +kernel, by decide +kernel⟩, by decide +kernel, by decide⟩
abbrev Y_X1_lookOf : pj_Y := (yX1_lookOf, cX1_lookOf, 3, some .int)
theorem ok_X1_lookOf : pj_ok Y_X1_lookOf 2 := ⟨pj_m 617 (by decide +kernel), zX1, ⟨by decide +kernel, by decide +kernel⟩, by decide +kernel, by decide⟩
abbrev Y_X1_sizeAsked : pj_Y := (yX1_sizeAsked, cX1_sizeAsked, 3, some .int)
theorem ok_X1_sizeAsked : pj_ok Y_X1_sizeAsked 1 := ⟨pj_m 967 (by decide +kernel), zX1, ⟨by decide +kernel, by decide +kernel⟩, by decide +kernel, by decide⟩
abbrev Y_X1_markAsked : pj_Y := (yX1_markAsked, cX1_markAsked, 3, some .int)
theorem ok_X1_markAsked : pj_ok Y_X1_markAsked 1 := ⟨pj_m 987 (by decide +kernel), zX1, ⟨by decide +kernel, by decide +kernel⟩, by decide +kernel, by decide⟩
theorem o_X1_markAsked : pj_okV Y_X1_markAsked 1 := ⟨ok_X1_markAsked, pj_m 974 (by decide +kernel), pj_m 975 (by decide +kernel)⟩
abbrev Y_X2_init : pj_Y := (yX2_init, cX2_init, 4, none)
theorem ok_X2_init : pj_ok Y_X2_init 3 := ⟨pj_m 425 (by decide +kernel), zX2, ⟨by decide +kernel, by decide +kernel⟩, by decide +kernel, by decide⟩
theorem o_X2_init : pj_okI Y_X2_init 3 := ⟨ok_X2_init, rfl, pj_m 424 (by decide +kernel), rfl⟩
abbrev Y_X2_kindTold : pj_Y := (yX2_kindTold, cX2_kindTold, 1, some .int)
theorem ok_X2_kindTold : pj_ok Y_X2_kindTold 0 := ⟨pj_m 920 (by decide +kernel), zX2, ⟨by decide +kernel, by decide +kernel⟩, by decide +kernel, by decide⟩
abbrev Y_X2_lookOf : pj_Y := (yX2_lookOf, cX2_lookOf, 3, some .int)
theorem ok_X2_lookOf : pj_ok Y_X2_lookOf 2 := ⟨pj_m 620 (by decide +kernel), zX2, ⟨by decide +kernel, by decide +kernel⟩, by decide +kernel, by decide⟩
abbrev Y_X2_sizeAsked : pj_Y := (yX2_sizeAsked, cX2_sizeAsked, 2, some .int)
theorem ok_X2_sizeAsked : pj_ok Y_X2_sizeAsked 1 := ⟨pj_m 1004 (by decide +kernel), zX2, ⟨by decide +kernel, by decide +kernel⟩, by decide +kernel, by decide⟩
abbrev Y_X3_init : pj_Y := (yX3_init, cX3_init, 1, none)
theorem ok_X3_init : pj_ok Y_X3_init 0 := ⟨pj_m 134 (by decide +kernel), zX3, ⟨by decide +kernel, by decide +kernel⟩, by decide +kernel, by decide⟩
theorem o_X3_init : pj_okI Y_X3_init 0 := ⟨ok_X3_init, rfl, pj_m 133 (by decide +kernel), rfl⟩
abbrev Y_X3_lookAt : pj_Y := (yX3_lookAt, cX3_lookAt, 4, none)
theorem ok_X3_lookAt : pj_ok Y_X3_lookAt 2 := ⟨pj_m 680 (by decide +kernel), zX3, ⟨by decide +kernel, by decide +kernel⟩, by decide +kernel, by decide⟩
theorem o_X3_lookAt : pj_okV Y_X3_lookAt 2 := ⟨ok_X3_lookAt, pj_m 679 (by decide +kernel), pj_m 20 (by decide +kernel)⟩
abbrev Y_X3_alikeWith : pj_Y := (yX3_alikeWith, cX3_alikeWith, 6, some .int)
theorem ok_X3_alikeWith : pj_ok Y_X3_alikeWith 3 := ⟨pj_m 675 (by decide +kernel), zX3, ⟨by decide +kernel, by decide +kernel⟩, by decide +kernel, by decide⟩
theorem o_X3_alikeWith : pj_okV Y_X3_alikeWith 3 := ⟨ok_X3_alikeWith, pj_m 673 (by decide +kernel), pj_m 674 (by decide +kernel)⟩
abbrev Y_X3_unlikeLooks : pj_Y := (yX3_unlikeLooks, cX3_unlikeLooks, 6, some .int)
theorem ok_X3_unlikeLooks : pj_ok Y_X3_unlikeLooks 2 := ⟨pj_m 691 (by decide +kernel), zX3, ⟨by decide +kernel, by decide +kernel⟩, by decide +kernel, by decide⟩
theorem o_X3_unlikeLooks : pj_okV Y_X3_unlikeLooks 2 := ⟨ok_X3_unlikeLooks, pj_m 689 (by decide +kernel), pj_m 690 (by decide +kernel)⟩
abbrev Y_X3_harmOfDays : pj_Y := (yX3_harmOfDays, cX3_harmOfDays, 5, some .int)
theorem ok_X3_harmOfDays : pj_ok Y_X3_harmOfDays 2 := ⟨pj_m 709 (by decide +kernel), zX3, ⟨by decide +kernel, by decide +kernel⟩, by decide +kernel, by decide⟩
theorem o_X3_harmOfDays : pj_okV Y_X3_harmOfDays 2 := ⟨ok_X3_harmOfDays, pj_m 707 (by decide +kernel), pj_m 708 (by decide +kernel)⟩
abbrev Y_X3_clearDays : pj_Y := (yX3_clearDays, cX3_clearDays, 4, some .int)
theorem ok_X3_clearDays : pj_ok Y_X3_clearDays 1 := ⟨pj_m 721 (by decide +kernel), zX3, ⟨by decide +kernel, by decide +kernel⟩, by decide +kernel, by decide⟩
theorem o_X3_clearDays : pj_okV Y_X3_clearDays 1 := ⟨ok_X3_clearDays, pj_m 719 (by decide +kernel), pj_m 720 (by decide +kernel)⟩
abbrev Y_X3_worstDay : pj_Y := (yX3_worstDay, cX3_worstDay, 6, some .int)
theorem ok_X3_worstDay : pj_ok Y_X3_worstDay 1 := ⟨pj_m 725 (by decide +kernel), zX3, ⟨by decide +kernel, by decide +kernel⟩, by decide +kernel, by decide⟩
theorem o_X3_worstDay : pj_okV Y_X3_worstDay 1 := ⟨ok_X3_worstDay, pj_m 723 (by decide +kernel), pj_m 724 (by decide +kernel)⟩
abbrev Y_X3_leastHarmPaint : pj_Y := (yX3_leastHarmPaint, cX3_leastHarmPaint, 10, some .int)
theorem ok_X3_leastHarmPaint : pj_ok Y_X3_leastHarmPaint 2 := ⟨pj_m 733 (by decide +kernel), zX3, ⟨by decide +kernel, by decide +kernel⟩, by decide +kernel, by decide⟩
theorem o_X3_leastHarmPaint : pj_okV Y_X3_leastHarmPaint 2 := ⟨ok_X3_leastHarmPaint, pj_m 731 (by decide +kernel), pj_m 732 (by decide +kernel)⟩
abbrev Y_X3_weekHarmWith : pj_Y := (yX3_weekHarmWith, cX3_weekHarmWith, 6, some .int)
theorem ok_X3_weekHarmWith : pj_ok Y_X3_weekHarmWith 3 := ⟨pj_m 740 (by decide +kernel), zX3, ⟨by decide +kernel, by decide +kernel⟩, by decide +kernel, by decide⟩
theorem o_X3_weekHarmWith : pj_okS Y_X3_weekHarmWith 3 := ⟨ok_X3_weekHarmWith, pj_m 739 (by decide +kernel)⟩
abbrev Y_X3_daysAlike : pj_Y := (yX3_daysAlike, cX3_daysAlike, 7, some .int)
theorem ok_X3_daysAlike : pj_ok Y_X3_daysAlike 4 := ⟨pj_m 744 (by decide +kernel), zX3, ⟨by decide +kernel, by decide +kernel⟩, by decide +kernel, by decide⟩
theorem o_X3_daysAlike : pj_okS Y_X3_daysAlike 4 := ⟨ok_X3_daysAlike, pj_m 743 (by decide +kernel)⟩
abbrev Y_X3_countDyePairs : pj_Y := (yX3_countDyePairs, cX3_countDyePairs, 5, some .int)
theorem ok_X3_countDyePairs : pj_ok Y_X3_countDyePairs 1 := ⟨pj_m 754 (by decide +kernel), zX3, ⟨by decide +kernel, by decide +kernel⟩, by decide +kernel, by decide⟩
theorem o_X3_countDyePairs : pj_okV Y_X3_countDyePairs 1 := ⟨ok_X3_countDyePairs, pj_m 752 (by decide +kernel), pj_m 753 (by decide +kernel)⟩
abbrev Y_X3_dyeOfFirstRow : pj_Y := (yX3_dyeOfFirstRow, cX3_dyeOfFirstRow, 5, some .int)
theorem ok_X3_dyeOfFirstRow : pj_ok Y_X3_dyeOfFirstRow 3 := ⟨pj_m 761 (by decide +kernel), zX3, ⟨by decide +kernel, by decide +kernel⟩, by decide +kernel, by decide⟩
theorem o_X3_dyeOfFirstRow : pj_okV Y_X3_dyeOfFirstRow 3 := ⟨ok_X3_dyeOfFirstRow, pj_m 759 (by decide +kernel), pj_m 760 (by decide +kernel)⟩
abbrev Y_X3_fillDyes : pj_Y := (yX3_fillDyes, cX3_fillDyes, 6, some .boolean)
theorem ok_X3_fillDyes : pj_ok Y_X3_fillDyes 3 := ⟨pj_m 765 (by decide +kernel), zX3, ⟨by decide +kernel, by decide +kernel⟩, by decide +kernel, by decide⟩
theorem o_X3_fillDyes : pj_okV Y_X3_fillDyes 3 := ⟨ok_X3_fillDyes, pj_m 764 (by decide +kernel), pj_m 21 (by decide +kernel)⟩
abbrev Y_X3_isApartFromRow : pj_Y := (yX3_isApartFromRow, cX3_isApartFromRow, 5, some .boolean)
theorem ok_X3_isApartFromRow : pj_ok Y_X3_isApartFromRow 3 := ⟨pj_m 769 (by decide +kernel), zX3, ⟨by decide +kernel, by decide +kernel⟩, by decide +kernel, by decide⟩
theorem o_X3_isApartFromRow : pj_okV Y_X3_isApartFromRow 3 := ⟨ok_X3_isApartFromRow, pj_m 768 (by decide +kernel), pj_m 22 (by decide +kernel)⟩
abbrev Y_X3_areApart : pj_Y := (yX3_areApart, cX3_areApart, 5, some .boolean)
theorem ok_X3_areApart : pj_ok Y_X3_areApart 3 := ⟨pj_m 757 (by decide +kernel), zX3, ⟨by decide +kernel, by decide +kernel⟩, by decide +kernel, by decide⟩
theorem o_X3_areApart : pj_okS Y_X3_areApart 3 := ⟨ok_X3_areApart, pj_m 756 (by decide +kernel)⟩
abbrev Y_X3_bestHiding : pj_Y := (yX3_bestHiding, cX3_bestHiding, 8, some .int)
theorem ok_X3_bestHiding : pj_ok Y_X3_bestHiding 2 := ⟨pj_m 777 (by decide +kernel), zX3, ⟨by decide +kernel, by decide +kernel⟩, by decide +kernel, by decide⟩
theorem o_X3_bestHiding : pj_okV Y_X3_bestHiding 2 := ⟨ok_X3_bestHiding, pj_m 775 (by decide +kernel), pj_m 776 (by decide +kernel)⟩
abbrev Y_X3_weekdaysSeen : pj_Y := (yX3_weekdaysSeen, cX3_weekdaysSeen, 9, some .int)
theorem ok_X3_weekdaysSeen : pj_ok Y_X3_weekdaysSeen 4 := ⟨pj_m 791 (by decide +kernel), zX3, ⟨by decide +kernel, by decide +kernel⟩, by decide +kernel, by decide⟩
theorem o_X3_weekdaysSeen : pj_okV Y_X3_weekdaysSeen 4 := ⟨ok_X3_weekdaysSeen, pj_m 789 (by decide +kernel), pj_m 790 (by decide +kernel)⟩
abbrev Y_X3_countOrders : pj_Y := (yX3_countOrders, cX3_countOrders, 5, some .int)
theorem ok_X3_countOrders : pj_ok Y_X3_countOrders 2 := ⟨pj_m 803 (by decide +kernel), zX3, ⟨by decide +kernel, by decide +kernel⟩, by decide +kernel, by decide⟩
theorem o_X3_countOrders : pj_okV Y_X3_countOrders 2 := ⟨ok_X3_countOrders, pj_m 801 (by decide +kernel), pj_m 802 (by decide +kernel)⟩
abbrev Y_X3_placeOfFirstOrder : pj_Y := (yX3_placeOfFirstOrder, cX3_placeOfFirstOrder, 7, some .int)
theorem ok_X3_placeOfFirstOrder : pj_ok Y_X3_placeOfFirstOrder 3 := ⟨pj_m 822 (by decide +kernel), zX3, ⟨by decide +kernel, by decide +kernel⟩, by decide +kernel, by decide⟩
theorem o_X3_placeOfFirstOrder : pj_okV Y_X3_placeOfFirstOrder 3 := ⟨ok_X3_placeOfFirstOrder, pj_m 820 (by decide +kernel), pj_m 821 (by decide +kernel)⟩
abbrev Y_X3_countEndings : pj_Y := (yX3_countEndings, cX3_countEndings, 6, none)
theorem ok_X3_countEndings : pj_ok Y_X3_countEndings 2 := ⟨pj_m 807 (by decide +kernel), zX3, ⟨by decide +kernel, by decide +kernel⟩, by decide +kernel, by decide⟩
theorem o_X3_countEndings : pj_okV Y_X3_countEndings 2 := ⟨ok_X3_countEndings, pj_m 806 (by decide +kernel), pj_m 23 (by decide +kernel)⟩
abbrev Y_X3_waysOn : pj_Y := (yX3_waysOn, cX3_waysOn, 6, some .int)
theorem ok_X3_waysOn : pj_ok Y_X3_waysOn 3 := ⟨pj_m 814 (by decide +kernel), zX3, ⟨by decide +kernel, by decide +kernel⟩, by decide +kernel, by decide⟩
theorem o_X3_waysOn : pj_okV Y_X3_waysOn 3 := ⟨ok_X3_waysOn, pj_m 813 (by decide +kernel), pj_m 24 (by decide +kernel)⟩
abbrev Y_X3_nextOnShelf : pj_Y := (yX3_nextOnShelf, cX3_nextOnShelf, 5, some .int)
theorem ok_X3_nextOnShelf : pj_ok Y_X3_nextOnShelf 3 := ⟨pj_m 826 (by decide +kernel), zX3, ⟨by decide +kernel, by decide +kernel⟩, by decide +kernel, by decide⟩
theorem o_X3_nextOnShelf : pj_okV Y_X3_nextOnShelf 3 := ⟨ok_X3_nextOnShelf, pj_m 825 (by decide +kernel), pj_m 26 (by decide +kernel)⟩
abbrev Y_X3_canFollow : pj_Y := (yX3_canFollow, cX3_canFollow, 4, some .boolean)
theorem ok_X3_canFollow : pj_ok Y_X3_canFollow 3 := ⟨pj_m 818 (by decide +kernel), zX3, ⟨by decide +kernel, by decide +kernel⟩, by decide +kernel, by decide⟩
theorem o_X3_canFollow : pj_okV Y_X3_canFollow 3 := ⟨ok_X3_canFollow, pj_m 817 (by decide +kernel), pj_m 25 (by decide +kernel)⟩
abbrev Y_X3_placeOfEnding : pj_Y := (yX3_placeOfEnding, cX3_placeOfEnding, 2, some .int)
theorem ok_X3_placeOfEnding : pj_ok Y_X3_placeOfEnding 2 := ⟨pj_m 810 (by decide +kernel), zX3, ⟨by decide +kernel, by decide +kernel⟩, by decide +kernel, by decide⟩
theorem o_X3_placeOfEnding : pj_okS Y_X3_placeOfEnding 2 := ⟨ok_X3_placeOfEnding, pj_m 809 (by decide +kernel)⟩
abbrev Y_X3_countParting : pj_Y := (yX3_countParting, cX3_countParting, 7, some .int)
theorem ok_X3_countParting : pj_ok Y_X3_countParting 3 := ⟨pj_m 834 (by decide +kernel), zX3, ⟨by decide +kernel, by decide +kernel⟩, by decide +kernel, by decide⟩
theorem o_X3_countParting : pj_okV Y_X3_countParting 3 := ⟨ok_X3_countParting, pj_m 832 (by decide +kernel), pj_m 833 (by decide +kernel)⟩
abbrev Y_X3_firstParting : pj_Y := (yX3_firstParting, cX3_firstParting, 6, some .int)
theorem ok_X3_firstParting : pj_ok Y_X3_firstParting 3 := ⟨pj_m 842 (by decide +kernel), zX3, ⟨by decide +kernel, by decide +kernel⟩, by decide +kernel, by decide⟩
theorem o_X3_firstParting : pj_okV Y_X3_firstParting 3 := ⟨ok_X3_firstParting, pj_m 840 (by decide +kernel), pj_m 841 (by decide +kernel)⟩
abbrev Y_X3_partsBy : pj_Y := (yX3_partsBy, cX3_partsBy, 5, some .boolean)
theorem ok_X3_partsBy : pj_ok Y_X3_partsBy 5 := ⟨pj_m 837 (by decide +kernel), zX3, ⟨by decide +kernel, by decide +kernel⟩, by decide +kernel, by decide⟩
theorem o_X3_partsBy : pj_okS Y_X3_partsBy 5 := ⟨ok_X3_partsBy, pj_m 836 (by decide +kernel)⟩
abbrev Y_X3_fewestMissing : pj_Y := (yX3_fewestMissing, cX3_fewestMissing, 7, some .int)
theorem ok_X3_fewestMissing : pj_ok Y_X3_fewestMissing 3 := ⟨pj_m 850 (by decide +kernel), zX3, ⟨by decide +kernel, by decide +kernel⟩, by decide +kernel, by decide⟩
theorem o_X3_fewestMissing : pj_okV Y_X3_fewestMissing 3 := ⟨ok_X3_fewestMissing, pj_m 848 (by decide +kernel), pj_m 849 (by decide +kernel)⟩
abbrev Y_X3_bestTest : pj_Y := (yX3_bestTest, cX3_bestTest, 13, some .int)
theorem ok_X3_bestTest : pj_ok Y_X3_bestTest 5 := ⟨pj_m 861 (by decide +kernel), zX3, ⟨by decide +kernel, by decide +kernel⟩, by decide +kernel, by decide⟩
theorem o_X3_bestTest : pj_okV Y_X3_bestTest 5 := ⟨ok_X3_bestTest, pj_m 859 (by decide +kernel), pj_m 860 (by decide +kernel)⟩
abbrev Y_X3_countTold : pj_Y := (yX3_countTold, cX3_countTold, 6, some .int)
theorem ok_X3_countTold : pj_ok Y_X3_countTold 3 := ⟨pj_m 865 (by decide +kernel), zX3, ⟨by decide +kernel, by decide +kernel⟩, by decide +kernel, by decide⟩
theorem o_X3_countTold : pj_okV Y_X3_countTold 3 := ⟨ok_X3_countTold, pj_m 864 (by decide +kernel), pj_m 27 (by decide +kernel)⟩
abbrev Y_X3_isTold : pj_Y := (yX3_isTold, cX3_isTold, 8, some .boolean)
theorem ok_X3_isTold : pj_ok Y_X3_isTold 4 := ⟨pj_m 869 (by decide +kernel), zX3, ⟨by decide +kernel, by decide +kernel⟩, by decide +kernel, by decide⟩
theorem o_X3_isTold : pj_okV Y_X3_isTold 4 := ⟨ok_X3_isTold, pj_m 868 (by decide +kernel), pj_m 28 (by decide +kernel)⟩
abbrev Y_X3_likelihood : pj_Y := (yX3_likelihood, cX3_likelihood, 10, some .long)
theorem ok_X3_likelihood : pj_ok Y_X3_likelihood 3 := ⟨pj_m 878 (by decide +kernel), zX3, ⟨by decide +kernel, by decide +kernel⟩, by decide +kernel, by decide⟩
theorem o_X3_likelihood : pj_okS Y_X3_likelihood 3 := ⟨ok_X3_likelihood, pj_m 877 (by decide +kernel)⟩
abbrev Y_X3_ways : pj_Y := (yX3_ways, cX3_ways, 5, some .long)
theorem ok_X3_ways : pj_ok Y_X3_ways 2 := ⟨pj_m 881 (by decide +kernel), zX3, ⟨by decide +kernel, by decide +kernel⟩, by decide +kernel, by decide⟩
theorem o_X3_ways : pj_okS Y_X3_ways 2 := ⟨ok_X3_ways, pj_m 880 (by decide +kernel)⟩
abbrev Y_X3_power : pj_Y := (yX3_power, cX3_power, 6, some .long)
theorem ok_X3_power : pj_ok Y_X3_power 2 := ⟨pj_m 885 (by decide +kernel), zX3, ⟨by decide +kernel, by decide +kernel⟩, by decide +kernel, by decide⟩
theorem o_X3_power : pj_okS Y_X3_power 2 := ⟨ok_X3_power, pj_m 884 (by decide +kernel)⟩
abbrev Y_X3_greatestShared : pj_Y := (yX3_greatestShared, cX3_greatestShared, 11, some .long)
theorem ok_X3_greatestShared : pj_ok Y_X3_greatestShared 2 := ⟨pj_m 888 (by decide +kernel), zX3, ⟨by decide +kernel, by decide +kernel⟩, by decide +kernel, by decide⟩
theorem o_X3_greatestShared : pj_okS Y_X3_greatestShared 2 := ⟨ok_X3_greatestShared, pj_m 887 (by decide +kernel)⟩
abbrev Y_X3_drawnYear : pj_Y := (yX3_drawnYear, cX3_drawnYear, 11, some .int)
theorem ok_X3_drawnYear : pj_ok Y_X3_drawnYear 4 := ⟨pj_m 897 (by decide +kernel), zX3, ⟨by decide +kernel, by decide +kernel⟩, by decide +kernel, by decide⟩
theorem o_X3_drawnYear : pj_okV Y_X3_drawnYear 4 := ⟨ok_X3_drawnYear, pj_m 895 (by decide +kernel), pj_m 896 (by decide +kernel)⟩
abbrev Y_X4_init : pj_Y := (yX4_init, cX4_init, 4, none)
theorem ok_X4_init : pj_ok Y_X4_init 3 := ⟨pj_m 415 (by decide +kernel), zX4, ⟨by decide +kernel, by decide +kernel⟩, by decide +kernel, by decide⟩
theorem o_X4_init : pj_okI Y_X4_init 3 := ⟨ok_X4_init, rfl, pj_m 414 (by decide +kernel), rfl⟩
abbrev Y_X4_kindTold : pj_Y := (yX4_kindTold, cX4_kindTold, 1, some .int)
theorem ok_X4_kindTold : pj_ok Y_X4_kindTold 0 := ⟨pj_m 923 (by decide +kernel), zX4, ⟨by decide +kernel, by decide +kernel⟩, by decide +kernel, by decide⟩
abbrev Y_X4_lookOf : pj_Y := (yX4_lookOf, cX4_lookOf, 3, some .int)
theorem ok_X4_lookOf : pj_ok Y_X4_lookOf 2 := ⟨pj_m 623 (by decide +kernel), zX4, ⟨by decide +kernel, by decide +kernel⟩, by decide +kernel, by decide⟩
abbrev Y_X4_sizeAsked : pj_Y := (yX4_sizeAsked, cX4_sizeAsked, 2, some .int)
theorem ok_X4_sizeAsked : pj_ok Y_X4_sizeAsked 1 := ⟨pj_m 1008 (by decide +kernel), zX4, ⟨by decide +kernel, by decide +kernel⟩, by decide +kernel, by decide⟩
theorem o_X4_sizeAsked : pj_okV Y_X4_sizeAsked 1 := ⟨ok_X4_sizeAsked, pj_m 1007 (by decide +kernel), pj_m 1469 (by decide +kernel)⟩
abbrev Y_X4_markAsked : pj_Y := (yX4_markAsked, cX4_markAsked, 3, some .int)
theorem ok_X4_markAsked : pj_ok Y_X4_markAsked 1 := ⟨pj_m 1020 (by decide +kernel), zX4, ⟨by decide +kernel, by decide +kernel⟩, by decide +kernel, by decide⟩
abbrev Y_X5_init : pj_Y := (yX5_init, cX5_init, 1, none)
theorem ok_X5_init : pj_ok Y_X5_init 0 := ⟨pj_m 90 (by decide +kernel), zX5, ⟨by decide +kernel, by decide +kernel⟩, by decide +kernel, by decide⟩
theorem o_X5_init : pj_okI Y_X5_init 0 := ⟨ok_X5_init, rfl, pj_m 89 (by decide +kernel), rfl⟩
abbrev Y_X5_isNumber : pj_Y := (yX5_isNumber, cX5_isNumber, 1, some .boolean)
theorem ok_X5_isNumber : pj_ok Y_X5_isNumber 1 := ⟨pj_m 195 (by decide +kernel), zX5, ⟨by decide +kernel, by decide +kernel⟩, by decide +kernel, by decide⟩
theorem o_X5_isNumber : pj_okS Y_X5_isNumber 1 := ⟨ok_X5_isNumber, pj_m 194 (by decide +kernel)⟩
abbrev Y_X5_isThere : pj_Y := (yX5_isThere, cX5_isThere, 2, some .boolean)
theorem ok_X5_isThere : pj_ok Y_X5_isThere 1 := ⟨pj_m 222 (by decide +kernel), zX5, ⟨by decide +kernel, by decide +kernel⟩, by decide +kernel, by decide⟩
theorem o_X5_isThere : pj_okV Y_X5_isThere 1 := ⟨ok_X5_isThere, pj_m 220 (by decide +kernel), pj_m 221 (by decide +kernel)⟩
abbrev Y_X5_haveOneLane : pj_Y := (yX5_haveOneLane, cX5_haveOneLane, 3, some .boolean)
theorem ok_X5_haveOneLane : pj_ok Y_X5_haveOneLane 2 := ⟨pj_m 247 (by decide +kernel), zX5, ⟨by decide +kernel, by decide +kernel⟩, by decide +kernel, by decide⟩
theorem o_X5_haveOneLane : pj_okV Y_X5_haveOneLane 2 := ⟨ok_X5_haveOneLane, pj_m 245 (by decide +kernel), pj_m 246 (by decide +kernel)⟩
abbrev Y_X5_hasPlaces : pj_Y := (yX5_hasPlaces, cX5_hasPlaces, 4, some .boolean)
theorem ok_X5_hasPlaces : pj_ok Y_X5_hasPlaces 3 := ⟨pj_m 226 (by decide +kernel), zX5, ⟨by decide +kernel, by decide +kernel⟩, by decide +kernel, by decide⟩
theorem o_X5_hasPlaces : pj_okV Y_X5_hasPlaces 3 := ⟨ok_X5_hasPlaces, pj_m 224 (by decide +kernel), pj_m 225 (by decide +kernel)⟩
abbrev Y_X5_make : pj_Y := (yX5_make, cX5_make, 4, none)
theorem ok_X5_make : pj_ok Y_X5_make 3 := ⟨pj_m 209 (by decide +kernel), zX5, ⟨by decide +kernel, by decide +kernel⟩, by decide +kernel, by decide⟩
theorem o_X5_make : pj_okV Y_X5_make 3 := ⟨ok_X5_make, pj_m 207 (by decide +kernel), pj_m 208 (by decide +kernel)⟩
abbrev Y_X5_put : pj_Y := (yX5_put, cX5_put, 4, some .int)
theorem ok_X5_put : pj_ok Y_X5_put 3 := ⟨pj_m 231 (by decide +kernel), zX5, ⟨by decide +kernel, by decide +kernel⟩, by decide +kernel, by decide⟩
theorem o_X5_put : pj_okV Y_X5_put 3 := ⟨ok_X5_put, pj_m 229 (by decide +kernel), pj_m 230 (by decide +kernel)⟩
abbrev Y_X5_itemAt : pj_Y := (yX5_itemAt, cX5_itemAt, 3, some .int)
theorem ok_X5_itemAt : pj_ok Y_X5_itemAt 2 := ⟨pj_m 795 (by decide +kernel), zX5, ⟨by decide +kernel, by decide +kernel⟩, by decide +kernel, by decide⟩
theorem o_X5_itemAt : pj_okV Y_X5_itemAt 2 := ⟨ok_X5_itemAt, pj_m 793 (by decide +kernel), pj_m 794 (by decide +kernel)⟩
abbrev Y_X5_move : pj_Y := (yX5_move, cX5_move, 6, none)
theorem ok_X5_move : pj_ok Y_X5_move 5 := ⟨pj_m 251 (by decide +kernel), zX5, ⟨by decide +kernel, by decide +kernel⟩, by decide +kernel, by decide⟩
theorem o_X5_move : pj_okV Y_X5_move 5 := ⟨ok_X5_move, pj_m 249 (by decide +kernel), pj_m 250 (by decide +kernel)⟩
abbrev Y_X5_remove : pj_Y := (yX5_remove, cX5_remove, 2, some .int)
theorem ok_X5_remove : pj_ok Y_X5_remove 1 := ⟨pj_m 262 (by decide +kernel), zX5, ⟨by decide +kernel, by decide +kernel⟩, by decide +kernel, by decide⟩
theorem o_X5_remove : pj_okV Y_X5_remove 1 := ⟨ok_X5_remove, pj_m 260 (by decide +kernel), pj_m 261 (by decide +kernel)⟩
abbrev Y_X5_present : pj_Y := (yX5_present, cX5_present, 3, some .int)
theorem ok_X5_present : pj_ok Y_X5_present 0 := ⟨pj_m 1039 (by decide +kernel), zX5, ⟨by decide +kernel, by decide +kernel⟩, by decide +kernel, by decide⟩
theorem o_X5_present : pj_okV Y_X5_present 0 := ⟨ok_X5_present, pj_m 1037 (by decide +kernel), pj_m 1038 (by decide +kernel)⟩
abbrev Y_X5_cut : pj_Y := (yX5_cut, cX5_cut, 2, some .int)
theorem ok_X5_cut : pj_ok Y_X5_cut 2 := ⟨pj_m 235 (by decide +kernel), zX5, ⟨by decide +kernel, by decide +kernel⟩, by decide +kernel, by decide⟩
theorem o_X5_cut : pj_okS Y_X5_cut 2 := ⟨ok_X5_cut, pj_m 234 (by decide +kernel)⟩
abbrev Y_X6_init : pj_Y := (yX6_init, cX6_init, 4, none)
theorem ok_X6_init : pj_ok Y_X6_init 3 := ⟨pj_m 405 (by decide +kernel), zX6, ⟨by decide +kernel, by decide +kernel⟩, by decide +kernel, by decide⟩
theorem o_X6_init : pj_okI Y_X6_init 3 := ⟨ok_X6_init, rfl, pj_m 404 (by decide +kernel), rfl⟩
abbrev Y_X6_kindTold : pj_Y := (yX6_kindTold, cX6_kindTold, 1, some .int)
theorem ok_X6_kindTold : pj_ok Y_X6_kindTold 0 := ⟨pj_m 926 (by decide +kernel), zX6, ⟨by decide +kernel, by decide +kernel⟩, by decide +kernel, by decide⟩
abbrev Y_X6_lookOf : pj_Y := (yX6_lookOf, cX6_lookOf, 3, some .int)
theorem ok_X6_lookOf : pj_ok Y_X6_lookOf 2 := ⟨pj_m 626 (by decide +kernel), zX6, ⟨by decide +kernel, by decide +kernel⟩, by decide +kernel, by decide⟩
abbrev Y_X6_markAsked : pj_Y := (yX6_markAsked, cX6_markAsked, 2, some .int)
theorem ok_X6_markAsked : pj_ok Y_X6_markAsked 1 := ⟨pj_m 979 (by decide +kernel), zX6, ⟨by decide +kernel, by decide +kernel⟩, by decide +kernel, by decide⟩
abbrev Y_X7_init : pj_Y := (yX7_init, cX7_init, 1, none)
theorem ok_X7_init : pj_ok Y_X7_init 0 := ⟨pj_m 112 (by decide +kernel), zX7, ⟨by decide +kernel, by decide +kernel⟩, by decide +kernel, by decide⟩
theorem o_X7_init : pj_okI Y_X7_init 0 := ⟨ok_X7_init, rfl, pj_m 111 (by decide +kernel), rfl⟩
abbrev Y_X7_put : pj_Y := (yX7_put, cX7_put, 2, some .boolean)
theorem ok_X7_put : pj_ok Y_X7_put 1 := ⟨pj_m 270 (by decide +kernel), zX7, ⟨by decide +kernel, by decide +kernel⟩, by decide +kernel, by decide⟩
theorem o_X7_put : pj_okV Y_X7_put 1 := ⟨ok_X7_put, pj_m 268 (by decide +kernel), pj_m 269 (by decide +kernel)⟩
abbrev Y_X7_length : pj_Y := (yX7_length, cX7_length, 1, some .int)
theorem ok_X7_length : pj_ok Y_X7_length 0 := ⟨pj_m 274 (by decide +kernel), zX7, ⟨by decide +kernel, by decide +kernel⟩, by decide +kernel, by decide⟩
theorem o_X7_length : pj_okV Y_X7_length 0 := ⟨ok_X7_length, pj_m 272 (by decide +kernel), pj_m 273 (by decide +kernel)⟩
abbrev Y_X7_faultNumber : pj_Y := (yX7_faultNumber, cX7_faultNumber, 1, some .int)
theorem ok_X7_faultNumber : pj_ok Y_X7_faultNumber 0 := ⟨pj_m 465 (by decide +kernel), zX7, ⟨by decide +kernel, by decide +kernel⟩, by decide +kernel, by decide⟩
theorem o_X7_faultNumber : pj_okV Y_X7_faultNumber 0 := ⟨ok_X7_faultNumber, pj_m 463 (by decide +kernel), pj_m 464 (by decide +kernel)⟩
abbrev Y_X7_faultPlace : pj_Y := (yX7_faultPlace, cX7_faultPlace, 1, some .int)
theorem ok_X7_faultPlace : pj_ok Y_X7_faultPlace 0 := ⟨pj_m 470 (by decide +kernel), zX7, ⟨by decide +kernel, by decide +kernel⟩, by decide +kernel, by decide⟩
theorem o_X7_faultPlace : pj_okV Y_X7_faultPlace 0 := ⟨ok_X7_faultPlace, pj_m 468 (by decide +kernel), pj_m 469 (by decide +kernel)⟩
abbrev Y_X7_read : pj_Y := (yX7_read, cX7_read, 2, some (.object "GreyDays$Town"))
theorem ok_X7_read : pj_ok Y_X7_read 0 := ⟨pj_m 283 (by decide +kernel), zX7, ⟨by decide +kernel, by decide +kernel⟩, by decide +kernel, by decide⟩
theorem o_X7_read : pj_okV Y_X7_read 0 := ⟨ok_X7_read, pj_m 281 (by decide +kernel), pj_m 282 (by decide +kernel)⟩
abbrev Y_X7_readLaw : pj_Y := (yX7_readLaw, cX7_readLaw, 3, none)
theorem ok_X7_readLaw : pj_ok Y_X7_readLaw 1 := ⟨pj_m 332 (by decide +kernel), zX7, ⟨by decide +kernel, by decide +kernel⟩, by decide +kernel, by decide⟩
theorem o_X7_readLaw : pj_okV Y_X7_readLaw 1 := ⟨ok_X7_readLaw, pj_m 331 (by decide +kernel), pj_m 4 (by decide +kernel)⟩
abbrev Y_X7_readThings : pj_Y := (yX7_readThings, cX7_readThings, 4, none)
theorem ok_X7_readThings : pj_ok Y_X7_readThings 1 := ⟨pj_m 364 (by decide +kernel), zX7, ⟨by decide +kernel, by decide +kernel⟩, by decide +kernel, by decide⟩
theorem o_X7_readThings : pj_okV Y_X7_readThings 1 := ⟨ok_X7_readThings, pj_m 363 (by decide +kernel), pj_m 11 (by decide +kernel)⟩
abbrev Y_X7_readThing : pj_Y := (yX7_readThing, cX7_readThing, 5, none)
theorem ok_X7_readThing : pj_ok Y_X7_readThing 2 := ⟨pj_m 371 (by decide +kernel), zX7, ⟨by decide +kernel, by decide +kernel⟩, by decide +kernel, by decide⟩
theorem o_X7_readThing : pj_okV Y_X7_readThing 2 := ⟨ok_X7_readThing, pj_m 370 (by decide +kernel), pj_m 12 (by decide +kernel)⟩
abbrev Y_X7_readPairs : pj_Y := (yX7_readPairs, cX7_readPairs, 3, none)
theorem ok_X7_readPairs : pj_ok Y_X7_readPairs 1 := ⟨pj_m 441 (by decide +kernel), zX7, ⟨by decide +kernel, by decide +kernel⟩, by decide +kernel, by decide⟩
theorem o_X7_readPairs : pj_okV Y_X7_readPairs 1 := ⟨ok_X7_readPairs, pj_m 440 (by decide +kernel), pj_m 13 (by decide +kernel)⟩
abbrev Y_X7_readPair : pj_Y := (yX7_readPair, cX7_readPair, 7, none)
theorem ok_X7_readPair : pj_ok Y_X7_readPair 1 := ⟨pj_m 445 (by decide +kernel), zX7, ⟨by decide +kernel, by decide +kernel⟩, by decide +kernel, by decide⟩
theorem o_X7_readPair : pj_okV Y_X7_readPair 1 := ⟨ok_X7_readPair, pj_m 444 (by decide +kernel), pj_m 14 (by decide +kernel)⟩
abbrev Y_X7_takeByte : pj_Y := (yX7_takeByte, cX7_takeByte, 2, none)
theorem ok_X7_takeByte : pj_ok Y_X7_takeByte 1 := ⟨pj_m 336 (by decide +kernel), zX7, ⟨by decide +kernel, by decide +kernel⟩, by decide +kernel, by decide⟩
theorem o_X7_takeByte : pj_okV Y_X7_takeByte 1 := ⟨ok_X7_takeByte, pj_m 335 (by decide +kernel), pj_m 5 (by decide +kernel)⟩
abbrev Y_X7_takeNumber : pj_Y := (yX7_takeNumber, cX7_takeNumber, 6, some .int)
theorem ok_X7_takeNumber : pj_ok Y_X7_takeNumber 2 := ⟨pj_m 352 (by decide +kernel), zX7, ⟨by decide +kernel, by decide +kernel⟩, by decide +kernel, by decide⟩
theorem o_X7_takeNumber : pj_okV Y_X7_takeNumber 2 := ⟨ok_X7_takeNumber, pj_m 351 (by decide +kernel), pj_m 9 (by decide +kernel)⟩
abbrev Y_X7_figuresHere : pj_Y := (yX7_figuresHere, cX7_figuresHere, 3, some .int)
theorem ok_X7_figuresHere : pj_ok Y_X7_figuresHere 0 := ⟨pj_m 356 (by decide +kernel), zX7, ⟨by decide +kernel, by decide +kernel⟩, by decide +kernel, by decide⟩
theorem o_X7_figuresHere : pj_okV Y_X7_figuresHere 0 := ⟨ok_X7_figuresHere, pj_m 355 (by decide +kernel), pj_m 10 (by decide +kernel)⟩
abbrev Y_X7_byteHere : pj_Y := (yX7_byteHere, cX7_byteHere, 1, some .int)
theorem ok_X7_byteHere : pj_ok Y_X7_byteHere 0 := ⟨pj_m 344 (by decide +kernel), zX7, ⟨by decide +kernel, by decide +kernel⟩, by decide +kernel, by decide⟩
theorem o_X7_byteHere : pj_okV Y_X7_byteHere 0 := ⟨ok_X7_byteHere, pj_m 343 (by decide +kernel), pj_m 7 (by decide +kernel)⟩
abbrev Y_X7_isSound : pj_Y := (yX7_isSound, cX7_isSound, 1, some .boolean)
theorem ok_X7_isSound : pj_ok Y_X7_isSound 0 := ⟨pj_m 340 (by decide +kernel), zX7, ⟨by decide +kernel, by decide +kernel⟩, by decide +kernel, by decide⟩
theorem o_X7_isSound : pj_okV Y_X7_isSound 0 := ⟨ok_X7_isSound, pj_m 339 (by decide +kernel), pj_m 6 (by decide +kernel)⟩
abbrev Y_X7_faultAt : pj_Y := (yX7_faultAt, cX7_faultAt, 3, none)
theorem ok_X7_faultAt : pj_ok Y_X7_faultAt 2 := ⟨pj_m 348 (by decide +kernel), zX7, ⟨by decide +kernel, by decide +kernel⟩, by decide +kernel, by decide⟩
theorem o_X7_faultAt : pj_okV Y_X7_faultAt 2 := ⟨ok_X7_faultAt, pj_m 347 (by decide +kernel), pj_m 8 (by decide +kernel)⟩
abbrev Y_X7_kindOfSort : pj_Y := (yX7_kindOfSort, cX7_kindOfSort, 1, some .int)
theorem ok_X7_kindOfSort : pj_ok Y_X7_kindOfSort 1 := ⟨pj_m 367 (by decide +kernel), zX7, ⟨by decide +kernel, by decide +kernel⟩, by decide +kernel, by decide⟩
theorem o_X7_kindOfSort : pj_okS Y_X7_kindOfSort 1 := ⟨ok_X7_kindOfSort, pj_m 366 (by decide +kernel)⟩
abbrev Y_X8_init : pj_Y := (yX8_init, cX8_init, 4, none)
theorem ok_X8_init : pj_ok Y_X8_init 3 := ⟨pj_m 389 (by decide +kernel), zX8, ⟨by decide +kernel, by decide +kernel⟩, by decide +kernel, by decide⟩
theorem o_X8_init : pj_okI Y_X8_init 3 := ⟨ok_X8_init, rfl, pj_m 388 (by decide +kernel), rfl⟩
abbrev Y_X8_takesPaint : pj_Y := (yX8_takesPaint, cX8_takesPaint, 1, some .boolean)
theorem ok_X8_takesPaint : pj_ok Y_X8_takesPaint 0 := ⟨pj_m 548 (by decide +kernel), zX8, ⟨by decide +kernel, by decide +kernel⟩, by decide +kernel, by decide⟩
abbrev Y_X8_mixed : pj_Y := (yX8_mixed, cX8_mixed, 1, some .int)
theorem ok_X8_mixed : pj_ok Y_X8_mixed 0 := ⟨pj_m 562 (by decide +kernel), zX8, ⟨by decide +kernel, by decide +kernel⟩, by decide +kernel, by decide⟩
abbrev Y_X8_shaped : pj_Y := (yX8_shaped, cX8_shaped, 1, some .int)
theorem ok_X8_shaped : pj_ok Y_X8_shaped 0 := ⟨pj_m 591 (by decide +kernel), zX8, ⟨by decide +kernel, by decide +kernel⟩, by decide +kernel, by decide⟩
abbrev Y_X8_mixAnew : pj_Y := (yX8_mixAnew, cX8_mixAnew, 2, none)
theorem ok_X8_mixAnew : pj_ok Y_X8_mixAnew 1 := ⟨pj_m 502 (by decide +kernel), zX8, ⟨by decide +kernel, by decide +kernel⟩, by decide +kernel, by decide⟩
abbrev Y_X8_lookWithout : pj_Y := (yX8_lookWithout, cX8_lookWithout, 2, some .int)
theorem ok_X8_lookWithout : pj_ok Y_X8_lookWithout 1 := ⟨pj_m 611 (by decide +kernel), zX8, ⟨by decide +kernel, by decide +kernel⟩, by decide +kernel, by decide⟩
abbrev Y_X8_sizeAsked : pj_Y := (yX8_sizeAsked, cX8_sizeAsked, 2, some .int)
theorem ok_X8_sizeAsked : pj_ok Y_X8_sizeAsked 1 := ⟨pj_m 1017 (by decide +kernel), zX8, ⟨by decide +kernel, by decide +kernel⟩, by decide +kernel, by decide⟩
abbrev Y_X8_markAsked : pj_Y := (yX8_markAsked, cX8_markAsked, 2, some .int)
theorem ok_X8_markAsked : pj_ok Y_X8_markAsked 1 := ⟨pj_m 990 (by decide +kernel), zX8, ⟨by decide +kernel, by decide +kernel⟩, by decide +kernel, by decide⟩
abbrev Y_X9_init : pj_Y := (yX9_init, cX9_init, 1, none)
theorem ok_X9_init : pj_ok Y_X9_init 0 := ⟨pj_m 288 (by decide +kernel), zX9, ⟨by decide +kernel, by decide +kernel⟩, by decide +kernel, by decide⟩
theorem o_X9_init : pj_okI Y_X9_init 0 := ⟨ok_X9_init, rfl, pj_m 287 (by decide +kernel), rfl⟩
abbrev Y_X9_duplicate : pj_Y := (yX9_duplicate, cX9_duplicate, 3, some (.object "GreyDays$Town"))
theorem ok_X9_duplicate : pj_ok Y_X9_duplicate 0 := ⟨pj_m 909 (by decide +kernel), zX9, ⟨by decide +kernel, by decide +kernel⟩, by decide +kernel, by decide⟩
theorem o_X9_duplicate : pj_okV Y_X9_duplicate 0 := ⟨ok_X9_duplicate, pj_m 907 (by decide +kernel), pj_m 908 (by decide +kernel)⟩
abbrev Y_X9_setColourOn : pj_Y := (yX9_setColourOn, cX9_setColourOn, 3, none)
theorem ok_X9_setColourOn : pj_ok Y_X9_setColourOn 2 := ⟨pj_m 360 (by decide +kernel), zX9, ⟨by decide +kernel, by decide +kernel⟩, by decide +kernel, by decide⟩
theorem o_X9_setColourOn : pj_okV Y_X9_setColourOn 2 := ⟨ok_X9_setColourOn, pj_m 358 (by decide +kernel), pj_m 359 (by decide +kernel)⟩
abbrev Y_X9_addThing : pj_Y := (yX9_addThing, cX9_addThing, 4, none)
theorem ok_X9_addThing : pj_ok Y_X9_addThing 3 := ⟨pj_m 375 (by decide +kernel), zX9, ⟨by decide +kernel, by decide +kernel⟩, by decide +kernel, by decide⟩
theorem o_X9_addThing : pj_okV Y_X9_addThing 3 := ⟨ok_X9_addThing, pj_m 373 (by decide +kernel), pj_m 374 (by decide +kernel)⟩
abbrev Y_X9_addPair : pj_Y := (yX9_addPair, cX9_addPair, 4, none)
theorem ok_X9_addPair : pj_ok Y_X9_addPair 3 := ⟨pj_m 461 (by decide +kernel), zX9, ⟨by decide +kernel, by decide +kernel⟩, by decide +kernel, by decide⟩
theorem o_X9_addPair : pj_okV Y_X9_addPair 3 := ⟨ok_X9_addPair, pj_m 459 (by decide +kernel), pj_m 460 (by decide +kernel)⟩
abbrev Y_X9_newThing : pj_Y := (yX9_newThing, cX9_newThing, 4, some (.object "GreyDays$Thing"))
theorem ok_X9_newThing : pj_ok Y_X9_newThing 4 := ⟨pj_m 378 (by decide +kernel), zX9, ⟨by decide +kernel, by decide +kernel⟩, by decide +kernel, by decide⟩
theorem o_X9_newThing : pj_okS Y_X9_newThing 4 := ⟨ok_X9_newThing, pj_m 377 (by decide +kernel)⟩
abbrev Y_X9_hasThing : pj_Y := (yX9_hasThing, cX9_hasThing, 2, some .boolean)
theorem ok_X9_hasThing : pj_ok Y_X9_hasThing 1 := ⟨pj_m 493 (by decide +kernel), zX9, ⟨by decide +kernel, by decide +kernel⟩, by decide +kernel, by decide⟩
theorem o_X9_hasThing : pj_okV Y_X9_hasThing 1 := ⟨ok_X9_hasThing, pj_m 491 (by decide +kernel), pj_m 492 (by decide +kernel)⟩
abbrev Y_X9_thingAt : pj_Y := (yX9_thingAt, cX9_thingAt, 2, some (.object "GreyDays$Thing"))
theorem ok_X9_thingAt : pj_ok Y_X9_thingAt 1 := ⟨pj_m 539 (by decide +kernel), zX9, ⟨by decide +kernel, by decide +kernel⟩, by decide +kernel, by decide⟩
theorem o_X9_thingAt : pj_okV Y_X9_thingAt 1 := ⟨ok_X9_thingAt, pj_m 537 (by decide +kernel), pj_m 538 (by decide +kernel)⟩
abbrev Y_X9_thingCount : pj_Y := (yX9_thingCount, cX9_thingCount, 1, some .int)
theorem ok_X9_thingCount : pj_ok Y_X9_thingCount 0 := ⟨pj_m 449 (by decide +kernel), zX9, ⟨by decide +kernel, by decide +kernel⟩, by decide +kernel, by decide⟩
theorem o_X9_thingCount : pj_okV Y_X9_thingCount 0 := ⟨ok_X9_thingCount, pj_m 447 (by decide +kernel), pj_m 448 (by decide +kernel)⟩
abbrev Y_X9_pairCount : pj_Y := (yX9_pairCount, cX9_pairCount, 1, some .int)
theorem ok_X9_pairCount : pj_ok Y_X9_pairCount 0 := ⟨pj_m 1047 (by decide +kernel), zX9, ⟨by decide +kernel, by decide +kernel⟩, by decide +kernel, by decide⟩
theorem o_X9_pairCount : pj_okV Y_X9_pairCount 0 := ⟨ok_X9_pairCount, pj_m 1045 (by decide +kernel), pj_m 1046 (by decide +kernel)⟩
abbrev Y_X9_actCount : pj_Y := (yX9_actCount, cX9_actCount, 1, some .int)
theorem ok_X9_actCount : pj_ok Y_X9_actCount 0 := ⟨pj_m 483 (by decide +kernel), zX9, ⟨by decide +kernel, by decide +kernel⟩, by decide +kernel, by decide⟩
theorem o_X9_actCount : pj_okV Y_X9_actCount 0 := ⟨ok_X9_actCount, pj_m 481 (by decide +kernel), pj_m 482 (by decide +kernel)⟩
abbrev Y_X9_today : pj_Y := (yX9_today, cX9_today, 1, some .int)
theorem ok_X9_today : pj_ok Y_X9_today 0 := ⟨pj_m 510 (by decide +kernel), zX9, ⟨by decide +kernel, by decide +kernel⟩, by decide +kernel, by decide⟩
theorem o_X9_today : pj_okV Y_X9_today 0 := ⟨ok_X9_today, pj_m 508 (by decide +kernel), pj_m 509 (by decide +kernel)⟩
abbrev Y_X9_colourOn : pj_Y := (yX9_colourOn, cX9_colourOn, 2, some .int)
theorem ok_X9_colourOn : pj_ok Y_X9_colourOn 1 := ⟨pj_m 577 (by decide +kernel), zX9, ⟨by decide +kernel, by decide +kernel⟩, by decide +kernel, by decide⟩
theorem o_X9_colourOn : pj_okV Y_X9_colourOn 1 := ⟨ok_X9_colourOn, pj_m 575 (by decide +kernel), pj_m 576 (by decide +kernel)⟩
abbrev Y_X9_missingIn : pj_Y := (yX9_missingIn, cX9_missingIn, 2, some .int)
theorem ok_X9_missingIn : pj_ok Y_X9_missingIn 1 := ⟨pj_m 595 (by decide +kernel), zX9, ⟨by decide +kernel, by decide +kernel⟩, by decide +kernel, by decide⟩
theorem o_X9_missingIn : pj_okV Y_X9_missingIn 1 := ⟨ok_X9_missingIn, pj_m 593 (by decide +kernel), pj_m 594 (by decide +kernel)⟩
abbrev Y_X9_missingOn : pj_Y := (yX9_missingOn, cX9_missingOn, 2, some .int)
theorem ok_X9_missingOn : pj_ok Y_X9_missingOn 1 := ⟨pj_m 599 (by decide +kernel), zX9, ⟨by decide +kernel, by decide +kernel⟩, by decide +kernel, by decide⟩
theorem o_X9_missingOn : pj_okV Y_X9_missingOn 1 := ⟨ok_X9_missingOn, pj_m 597 (by decide +kernel), pj_m 598 (by decide +kernel)⟩
abbrev Y_X9_setOf : pj_Y := (yX9_setOf, cX9_setOf, 1, some .int)
theorem ok_X9_setOf : pj_ok Y_X9_setOf 1 := ⟨pj_m 602 (by decide +kernel), zX9, ⟨by decide +kernel, by decide +kernel⟩, by decide +kernel, by decide⟩
theorem o_X9_setOf : pj_okS Y_X9_setOf 1 := ⟨ok_X9_setOf, pj_m 601 (by decide +kernel)⟩
abbrev Y_X9_areAlike : pj_Y := (yX9_areAlike, cX9_areAlike, 4, some .boolean)
theorem ok_X9_areAlike : pj_ok Y_X9_areAlike 3 := ⟨pj_m 666 (by decide +kernel), zX9, ⟨by decide +kernel, by decide +kernel⟩, by decide +kernel, by decide⟩
theorem o_X9_areAlike : pj_okV Y_X9_areAlike 3 := ⟨ok_X9_areAlike, pj_m 664 (by decide +kernel), pj_m 665 (by decide +kernel)⟩
abbrev Y_X9_harmWithout : pj_Y := (yX9_harmWithout, cX9_harmWithout, 4, some .int)
theorem ok_X9_harmWithout : pj_ok Y_X9_harmWithout 1 := ⟨pj_m 700 (by decide +kernel), zX9, ⟨by decide +kernel, by decide +kernel⟩, by decide +kernel, by decide⟩
theorem o_X9_harmWithout : pj_okV Y_X9_harmWithout 1 := ⟨ok_X9_harmWithout, pj_m 698 (by decide +kernel), pj_m 699 (by decide +kernel)⟩
abbrev Y_X9_harmOfPair : pj_Y := (yX9_harmOfPair, cX9_harmOfPair, 4, some .int)
theorem ok_X9_harmOfPair : pj_ok Y_X9_harmOfPair 2 := ⟨pj_m 453 (by decide +kernel), zX9, ⟨by decide +kernel, by decide +kernel⟩, by decide +kernel, by decide⟩
theorem o_X9_harmOfPair : pj_okV Y_X9_harmOfPair 2 := ⟨ok_X9_harmOfPair, pj_m 451 (by decide +kernel), pj_m 452 (by decide +kernel)⟩
abbrev Y_X9_harmOfPairsWith : pj_Y := (yX9_harmOfPairsWith, cX9_harmOfPairsWith, 4, some .int)
theorem ok_X9_harmOfPairsWith : pj_ok Y_X9_harmOfPairsWith 1 := ⟨pj_m 637 (by decide +kernel), zX9, ⟨by decide +kernel, by decide +kernel⟩, by decide +kernel, by decide⟩
theorem o_X9_harmOfPairsWith : pj_okV Y_X9_harmOfPairsWith 1 := ⟨ok_X9_harmOfPairsWith, pj_m 635 (by decide +kernel), pj_m 636 (by decide +kernel)⟩
abbrev Y_X9_isOfPair : pj_Y := (yX9_isOfPair, cX9_isOfPair, 3, some .boolean)
theorem ok_X9_isOfPair : pj_ok Y_X9_isOfPair 2 := ⟨pj_m 457 (by decide +kernel), zX9, ⟨by decide +kernel, by decide +kernel⟩, by decide +kernel, by decide⟩
theorem o_X9_isOfPair : pj_okV Y_X9_isOfPair 2 := ⟨ok_X9_isOfPair, pj_m 456 (by decide +kernel), pj_m 15 (by decide +kernel)⟩
abbrev Y_X9_passDays : pj_Y := (yX9_passDays, cX9_passDays, 3, none)
theorem ok_X9_passDays : pj_ok Y_X9_passDays 1 := ⟨pj_m 514 (by decide +kernel), zX9, ⟨by decide +kernel, by decide +kernel⟩, by decide +kernel, by decide⟩
theorem o_X9_passDays : pj_okV Y_X9_passDays 1 := ⟨ok_X9_passDays, pj_m 512 (by decide +kernel), pj_m 513 (by decide +kernel)⟩
abbrev Y_X9_repaint : pj_Y := (yX9_repaint, cX9_repaint, 4, some .int)
theorem ok_X9_repaint : pj_ok Y_X9_repaint 2 := ⟨pj_m 553 (by decide +kernel), zX9, ⟨by decide +kernel, by decide +kernel⟩, by decide +kernel, by decide⟩
theorem o_X9_repaint : pj_okV Y_X9_repaint 2 := ⟨ok_X9_repaint, pj_m 551 (by decide +kernel), pj_m 552 (by decide +kernel)⟩
abbrev Y_X9_changeWeek : pj_Y := (yX9_changeWeek, cX9_changeWeek, 4, some .int)
theorem ok_X9_changeWeek : pj_ok Y_X9_changeWeek 2 := ⟨pj_m 573 (by decide +kernel), zX9, ⟨by decide +kernel, by decide +kernel⟩, by decide +kernel, by decide⟩
theorem o_X9_changeWeek : pj_okV Y_X9_changeWeek 2 := ⟨ok_X9_changeWeek, pj_m 571 (by decide +kernel), pj_m 572 (by decide +kernel)⟩
abbrev Y_X9_keepAct : pj_Y := (yX9_keepAct, cX9_keepAct, 4, none)
theorem ok_X9_keepAct : pj_ok Y_X9_keepAct 3 := ⟨pj_m 518 (by decide +kernel), zX9, ⟨by decide +kernel, by decide +kernel⟩, by decide +kernel, by decide⟩
theorem o_X9_keepAct : pj_okV Y_X9_keepAct 3 := ⟨ok_X9_keepAct, pj_m 517 (by decide +kernel), pj_m 16 (by decide +kernel)⟩
abbrev Y_X9_forgetOldestAct : pj_Y := (yX9_forgetOldestAct, cX9_forgetOldestAct, 1, none)
theorem ok_X9_forgetOldestAct : pj_ok Y_X9_forgetOldestAct 0 := ⟨pj_m 522 (by decide +kernel), zX9, ⟨by decide +kernel, by decide +kernel⟩, by decide +kernel, by decide⟩
theorem o_X9_forgetOldestAct : pj_okV Y_X9_forgetOldestAct 0 := ⟨ok_X9_forgetOldestAct, pj_m 521 (by decide +kernel), pj_m 17 (by decide +kernel)⟩
abbrev Y_X9_undoLatest : pj_Y := (yX9_undoLatest, cX9_undoLatest, 3, none)
theorem ok_X9_undoLatest : pj_ok Y_X9_undoLatest 0 := ⟨pj_m 488 (by decide +kernel), zX9, ⟨by decide +kernel, by decide +kernel⟩, by decide +kernel, by decide⟩
theorem o_X9_undoLatest : pj_okV Y_X9_undoLatest 0 := ⟨ok_X9_undoLatest, pj_m 486 (by decide +kernel), pj_m 487 (by decide +kernel)⟩
abbrev Y_X10_init : pj_Y := (yX10_init, cX10_init, 4, none)
theorem ok_X10_init : pj_ok Y_X10_init 3 := ⟨pj_m 383 (by decide +kernel), zX10, ⟨by decide +kernel, by decide +kernel⟩, by decide +kernel, by decide⟩
theorem o_X10_init : pj_okI Y_X10_init 3 := ⟨ok_X10_init, rfl, pj_m 382 (by decide +kernel), rfl⟩
abbrev Y_X10_kindTold : pj_Y := (yX10_kindTold, cX10_kindTold, 1, some .int)
theorem ok_X10_kindTold : pj_ok Y_X10_kindTold 0 := ⟨pj_m 929 (by decide +kernel), zX10, ⟨by decide +kernel, by decide +kernel⟩, by decide +kernel, by decide⟩
abbrev Y_X10_lookOf : pj_Y := (yX10_lookOf, cX10_lookOf, 5, some .int)
theorem ok_X10_lookOf : pj_ok Y_X10_lookOf 2 := ⟨pj_m 633 (by decide +kernel), zX10, ⟨by decide +kernel, by decide +kernel⟩, by decide +kernel, by decide⟩
abbrev Y_X10_sizeAsked : pj_Y := (yX10_sizeAsked, cX10_sizeAsked, 2, some .int)
theorem ok_X10_sizeAsked : pj_ok Y_X10_sizeAsked 1 := ⟨pj_m 1015 (by decide +kernel), zX10, ⟨by decide +kernel, by decide +kernel⟩, by decide +kernel, by decide⟩
abbrev Y_X10_markAsked : pj_Y := (yX10_markAsked, cX10_markAsked, 2, some .int)
theorem ok_X10_markAsked : pj_ok Y_X10_markAsked 1 := ⟨pj_m 984 (by decide +kernel), zX10, ⟨by decide +kernel, by decide +kernel⟩, by decide +kernel, by decide⟩
abbrev Y_X11_init : pj_Y := (yX11_init, cX11_init, 1, none)
theorem ok_X11_init : pj_ok Y_X11_init 0 := ⟨pj_m 82 (by decide +kernel), zX11, ⟨by decide +kernel, by decide +kernel⟩, by decide +kernel, by decide⟩
theorem o_X11_init : pj_okI Y_X11_init 0 := ⟨ok_X11_init, rfl, pj_m 81 (by decide +kernel), rfl⟩
abbrev Y_X11_row : pj_Y := (yX11_row, cX11_row, 4, some .int)
theorem ok_X11_row : pj_ok Y_X11_row 3 := ⟨pj_m 192 (by decide +kernel), zX11, ⟨by decide +kernel, by decide +kernel⟩, by decide +kernel, by decide⟩
theorem o_X11_row : pj_okV Y_X11_row 3 := ⟨ok_X11_row, pj_m 190 (by decide +kernel), pj_m 191 (by decide +kernel)⟩
abbrev Y_X11_set : pj_Y := (yX11_set, cX11_set, 4, some .int)
theorem ok_X11_set : pj_ok Y_X11_set 3 := ⟨pj_m 214 (by decide +kernel), zX11, ⟨by decide +kernel, by decide +kernel⟩, by decide +kernel, by decide⟩
theorem o_X11_set : pj_okV Y_X11_set 3 := ⟨ok_X11_set, pj_m 212 (by decide +kernel), pj_m 213 (by decide +kernel)⟩
abbrev Y_X11_copy : pj_Y := (yX11_copy, cX11_copy, 6, some .int)
theorem ok_X11_copy : pj_ok Y_X11_copy 5 := ⟨pj_m 239 (by decide +kernel), zX11, ⟨by decide +kernel, by decide +kernel⟩, by decide +kernel, by decide⟩
theorem o_X11_copy : pj_okV Y_X11_copy 5 := ⟨ok_X11_copy, pj_m 237 (by decide +kernel), pj_m 238 (by decide +kernel)⟩
abbrev Y_X11_drop : pj_Y := (yX11_drop, cX11_drop, 2, some .int)
theorem ok_X11_drop : pj_ok Y_X11_drop 1 := ⟨pj_m 258 (by decide +kernel), zX11, ⟨by decide +kernel, by decide +kernel⟩, by decide +kernel, by decide⟩
theorem o_X11_drop : pj_okV Y_X11_drop 1 := ⟨ok_X11_drop, pj_m 256 (by decide +kernel), pj_m 257 (by decide +kernel)⟩
abbrev Y_X11_feed : pj_Y := (yX11_feed, cX11_feed, 2, some .int)
theorem ok_X11_feed : pj_ok Y_X11_feed 1 := ⟨pj_m 266 (by decide +kernel), zX11, ⟨by decide +kernel, by decide +kernel⟩, by decide +kernel, by decide⟩
theorem o_X11_feed : pj_okV Y_X11_feed 1 := ⟨ok_X11_feed, pj_m 264 (by decide +kernel), pj_m 265 (by decide +kernel)⟩
abbrev Y_X11_town : pj_Y := (yX11_town, cX11_town, 2, some .int)
theorem ok_X11_town : pj_ok Y_X11_town 0 := ⟨pj_m 279 (by decide +kernel), zX11, ⟨by decide +kernel, by decide +kernel⟩, by decide +kernel, by decide⟩
theorem o_X11_town : pj_okV Y_X11_town 0 := ⟨ok_X11_town, pj_m 277 (by decide +kernel), pj_m 278 (by decide +kernel)⟩
abbrev Y_X11_fault : pj_Y := (yX11_fault, cX11_fault, 1, some .int)
theorem ok_X11_fault : pj_ok Y_X11_fault 0 := ⟨pj_m 475 (by decide +kernel), zX11, ⟨by decide +kernel, by decide +kernel⟩, by decide +kernel, by decide⟩
theorem o_X11_fault : pj_okV Y_X11_fault 0 := ⟨ok_X11_fault, pj_m 473 (by decide +kernel), pj_m 474 (by decide +kernel)⟩
abbrev Y_X11_undo : pj_Y := (yX11_undo, cX11_undo, 1, some .int)
theorem ok_X11_undo : pj_ok Y_X11_undo 0 := ⟨pj_m 479 (by decide +kernel), zX11, ⟨by decide +kernel, by decide +kernel⟩, by decide +kernel, by decide⟩
theorem o_X11_undo : pj_okV Y_X11_undo 0 := ⟨ok_X11_undo, pj_m 477 (by decide +kernel), pj_m 478 (by decide +kernel)⟩
abbrev Y_X11_days : pj_Y := (yX11_days, cX11_days, 2, some .int)
theorem ok_X11_days : pj_ok Y_X11_days 1 := ⟨pj_m 506 (by decide +kernel), zX11, ⟨by decide +kernel, by decide +kernel⟩, by decide +kernel, by decide⟩
theorem o_X11_days : pj_okV Y_X11_days 1 := ⟨ok_X11_days, pj_m 504 (by decide +kernel), pj_m 505 (by decide +kernel)⟩
abbrev Y_X11_paint : pj_Y := (yX11_paint, cX11_paint, 3, some .int)
theorem ok_X11_paint : pj_ok Y_X11_paint 2 := ⟨pj_m 527 (by decide +kernel), zX11, ⟨by decide +kernel, by decide +kernel⟩, by decide +kernel, by decide⟩
theorem o_X11_paint : pj_okV Y_X11_paint 2 := ⟨ok_X11_paint, pj_m 525 (by decide +kernel), pj_m 526 (by decide +kernel)⟩
abbrev Y_X11_miss : pj_Y := (yX11_miss, cX11_miss, 3, some .int)
theorem ok_X11_miss : pj_ok Y_X11_miss 2 := ⟨pj_m 566 (by decide +kernel), zX11, ⟨by decide +kernel, by decide +kernel⟩, by decide +kernel, by decide⟩
theorem o_X11_miss : pj_okV Y_X11_miss 2 := ⟨ok_X11_miss, pj_m 564 (by decide +kernel), pj_m 565 (by decide +kernel)⟩
abbrev Y_X11_thing : pj_Y := (yX11_thing, cX11_thing, 3, some .int)
theorem ok_X11_thing : pj_ok Y_X11_thing 2 := ⟨pj_m 581 (by decide +kernel), zX11, ⟨by decide +kernel, by decide +kernel⟩, by decide +kernel, by decide⟩
theorem o_X11_thing : pj_okV Y_X11_thing 2 := ⟨ok_X11_thing, pj_m 579 (by decide +kernel), pj_m 580 (by decide +kernel)⟩
abbrev Y_X11_missing : pj_Y := (yX11_missing, cX11_missing, 2, some .int)
theorem ok_X11_missing : pj_ok Y_X11_missing 1 := ⟨pj_m 641 (by decide +kernel), zX11, ⟨by decide +kernel, by decide +kernel⟩, by decide +kernel, by decide⟩
theorem o_X11_missing : pj_okV Y_X11_missing 1 := ⟨ok_X11_missing, pj_m 639 (by decide +kernel), pj_m 640 (by decide +kernel)⟩
abbrev Y_X11_pair : pj_Y := (yX11_pair, cX11_pair, 3, some .int)
theorem ok_X11_pair : pj_ok Y_X11_pair 2 := ⟨pj_m 646 (by decide +kernel), zX11, ⟨by decide +kernel, by decide +kernel⟩, by decide +kernel, by decide⟩
theorem o_X11_pair : pj_okV Y_X11_pair 2 := ⟨ok_X11_pair, pj_m 644 (by decide +kernel), pj_m 645 (by decide +kernel)⟩
abbrev Y_X11_look : pj_Y := (yX11_look, cX11_look, 3, some .int)
theorem ok_X11_look : pj_ok Y_X11_look 2 := ⟨pj_m 655 (by decide +kernel), zX11, ⟨by decide +kernel, by decide +kernel⟩, by decide +kernel, by decide⟩
theorem o_X11_look : pj_okV Y_X11_look 2 := ⟨ok_X11_look, pj_m 653 (by decide +kernel), pj_m 654 (by decide +kernel)⟩
abbrev Y_X11_alike : pj_Y := (yX11_alike, cX11_alike, 4, some .int)
theorem ok_X11_alike : pj_ok Y_X11_alike 3 := ⟨pj_m 659 (by decide +kernel), zX11, ⟨by decide +kernel, by decide +kernel⟩, by decide +kernel, by decide⟩
theorem o_X11_alike : pj_okV Y_X11_alike 3 := ⟨ok_X11_alike, pj_m 657 (by decide +kernel), pj_m 658 (by decide +kernel)⟩
abbrev Y_X11_like : pj_Y := (yX11_like, cX11_like, 3, some .int)
theorem ok_X11_like : pj_ok Y_X11_like 2 := ⟨pj_m 671 (by decide +kernel), zX11, ⟨by decide +kernel, by decide +kernel⟩, by decide +kernel, by decide⟩
theorem o_X11_like : pj_okV Y_X11_like 2 := ⟨ok_X11_like, pj_m 669 (by decide +kernel), pj_m 670 (by decide +kernel)⟩
abbrev Y_X11_looks : pj_Y := (yX11_looks, cX11_looks, 2, some .int)
theorem ok_X11_looks : pj_ok Y_X11_looks 1 := ⟨pj_m 687 (by decide +kernel), zX11, ⟨by decide +kernel, by decide +kernel⟩, by decide +kernel, by decide⟩
theorem o_X11_looks : pj_okV Y_X11_looks 1 := ⟨ok_X11_looks, pj_m 685 (by decide +kernel), pj_m 686 (by decide +kernel)⟩
abbrev Y_X11_harm : pj_Y := (yX11_harm, cX11_harm, 2, some .int)
theorem ok_X11_harm : pj_ok Y_X11_harm 1 := ⟨pj_m 696 (by decide +kernel), zX11, ⟨by decide +kernel, by decide +kernel⟩, by decide +kernel, by decide⟩
theorem o_X11_harm : pj_okV Y_X11_harm 1 := ⟨ok_X11_harm, pj_m 694 (by decide +kernel), pj_m 695 (by decide +kernel)⟩
abbrev Y_X11_harms : pj_Y := (yX11_harms, cX11_harms, 2, some .int)
theorem ok_X11_harms : pj_ok Y_X11_harms 1 := ⟨pj_m 705 (by decide +kernel), zX11, ⟨by decide +kernel, by decide +kernel⟩, by decide +kernel, by decide⟩
theorem o_X11_harms : pj_okV Y_X11_harms 1 := ⟨ok_X11_harms, pj_m 703 (by decide +kernel), pj_m 704 (by decide +kernel)⟩
abbrev Y_X11_week : pj_Y := (yX11_week, cX11_week, 2, some .int)
theorem ok_X11_week : pj_ok Y_X11_week 1 := ⟨pj_m 714 (by decide +kernel), zX11, ⟨by decide +kernel, by decide +kernel⟩, by decide +kernel, by decide⟩
theorem o_X11_week : pj_okV Y_X11_week 1 := ⟨ok_X11_week, pj_m 712 (by decide +kernel), pj_m 713 (by decide +kernel)⟩
abbrev Y_X11_bestPaint : pj_Y := (yX11_bestPaint, cX11_bestPaint, 2, some .int)
theorem ok_X11_bestPaint : pj_ok Y_X11_bestPaint 1 := ⟨pj_m 729 (by decide +kernel), zX11, ⟨by decide +kernel, by decide +kernel⟩, by decide +kernel, by decide⟩
theorem o_X11_bestPaint : pj_okV Y_X11_bestPaint 1 := ⟨ok_X11_bestPaint, pj_m 727 (by decide +kernel), pj_m 728 (by decide +kernel)⟩
abbrev Y_X11_dyes : pj_Y := (yX11_dyes, cX11_dyes, 3, some .int)
theorem ok_X11_dyes : pj_ok Y_X11_dyes 2 := ⟨pj_m 750 (by decide +kernel), zX11, ⟨by decide +kernel, by decide +kernel⟩, by decide +kernel, by decide⟩
theorem o_X11_dyes : pj_okV Y_X11_dyes 2 := ⟨ok_X11_dyes, pj_m 748 (by decide +kernel), pj_m 749 (by decide +kernel)⟩
abbrev Y_X11_thief : pj_Y := (yX11_thief, cX11_thief, 2, some .int)
theorem ok_X11_thief : pj_ok Y_X11_thief 1 := ⟨pj_m 773 (by decide +kernel), zX11, ⟨by decide +kernel, by decide +kernel⟩, by decide +kernel, by decide⟩
theorem o_X11_thief : pj_okV Y_X11_thief 1 := ⟨ok_X11_thief, pj_m 771 (by decide +kernel), pj_m 772 (by decide +kernel)⟩
abbrev Y_X11_seen : pj_Y := (yX11_seen, cX11_seen, 3, some .int)
theorem ok_X11_seen : pj_ok Y_X11_seen 2 := ⟨pj_m 787 (by decide +kernel), zX11, ⟨by decide +kernel, by decide +kernel⟩, by decide +kernel, by decide⟩
theorem o_X11_seen : pj_okV Y_X11_seen 2 := ⟨ok_X11_seen, pj_m 785 (by decide +kernel), pj_m 786 (by decide +kernel)⟩
abbrev Y_X11_shelf : pj_Y := (yX11_shelf, cX11_shelf, 3, some .int)
theorem ok_X11_shelf : pj_ok Y_X11_shelf 2 := ⟨pj_m 799 (by decide +kernel), zX11, ⟨by decide +kernel, by decide +kernel⟩, by decide +kernel, by decide⟩
theorem o_X11_shelf : pj_okV Y_X11_shelf 2 := ⟨ok_X11_shelf, pj_m 797 (by decide +kernel), pj_m 798 (by decide +kernel)⟩
abbrev Y_X11_parted : pj_Y := (yX11_parted, cX11_parted, 4, some .int)
theorem ok_X11_parted : pj_ok Y_X11_parted 3 := ⟨pj_m 830 (by decide +kernel), zX11, ⟨by decide +kernel, by decide +kernel⟩, by decide +kernel, by decide⟩
theorem o_X11_parted : pj_okV Y_X11_parted 3 := ⟨ok_X11_parted, pj_m 828 (by decide +kernel), pj_m 829 (by decide +kernel)⟩
abbrev Y_X11_merged : pj_Y := (yX11_merged, cX11_merged, 3, some .int)
theorem ok_X11_merged : pj_ok Y_X11_merged 2 := ⟨pj_m 846 (by decide +kernel), zX11, ⟨by decide +kernel, by decide +kernel⟩, by decide +kernel, by decide⟩
theorem o_X11_merged : pj_okV Y_X11_merged 2 := ⟨ok_X11_merged, pj_m 844 (by decide +kernel), pj_m 845 (by decide +kernel)⟩
abbrev Y_X11_tests : pj_Y := (yX11_tests, cX11_tests, 5, some .int)
theorem ok_X11_tests : pj_ok Y_X11_tests 4 := ⟨pj_m 854 (by decide +kernel), zX11, ⟨by decide +kernel, by decide +kernel⟩, by decide +kernel, by decide⟩
theorem o_X11_tests : pj_okV Y_X11_tests 4 := ⟨ok_X11_tests, pj_m 852 (by decide +kernel), pj_m 853 (by decide +kernel)⟩
abbrev Y_X11_bet : pj_Y := (yX11_bet, cX11_bet, 4, some .long)
theorem ok_X11_bet : pj_ok Y_X11_bet 3 := ⟨pj_m 874 (by decide +kernel), zX11, ⟨by decide +kernel, by decide +kernel⟩, by decide +kernel, by decide⟩
theorem o_X11_bet : pj_okV Y_X11_bet 3 := ⟨ok_X11_bet, pj_m 872 (by decide +kernel), pj_m 873 (by decide +kernel)⟩
abbrev Y_X11_year : pj_Y := (yX11_year, cX11_year, 4, some .int)
theorem ok_X11_year : pj_ok Y_X11_year 3 := ⟨pj_m 892 (by decide +kernel), zX11, ⟨by decide +kernel, by decide +kernel⟩, by decide +kernel, by decide⟩
theorem o_X11_year : pj_okV Y_X11_year 3 := ⟨ok_X11_year, pj_m 890 (by decide +kernel), pj_m 891 (by decide +kernel)⟩
abbrev Y_X11_image : pj_Y := (yX11_image, cX11_image, 2, some .int)
theorem ok_X11_image : pj_ok Y_X11_image 1 := ⟨pj_m 905 (by decide +kernel), zX11, ⟨by decide +kernel, by decide +kernel⟩, by decide +kernel, by decide⟩
theorem o_X11_image : pj_okV Y_X11_image 1 := ⟨ok_X11_image, pj_m 903 (by decide +kernel), pj_m 904 (by decide +kernel)⟩
abbrev Y_X11_restore : pj_Y := (yX11_restore, cX11_restore, 3, some .int)
theorem ok_X11_restore : pj_ok Y_X11_restore 1 := ⟨pj_m 936 (by decide +kernel), zX11, ⟨by decide +kernel, by decide +kernel⟩, by decide +kernel, by decide⟩
theorem o_X11_restore : pj_okV Y_X11_restore 1 := ⟨ok_X11_restore, pj_m 934 (by decide +kernel), pj_m 935 (by decide +kernel)⟩
abbrev Y_X11_kind : pj_Y := (yX11_kind, cX11_kind, 2, some .int)
theorem ok_X11_kind : pj_ok Y_X11_kind 1 := ⟨pj_m 940 (by decide +kernel), zX11, ⟨by decide +kernel, by decide +kernel⟩, by decide +kernel, by decide⟩
theorem o_X11_kind : pj_okV Y_X11_kind 1 := ⟨ok_X11_kind, pj_m 938 (by decide +kernel), pj_m 939 (by decide +kernel)⟩
abbrev Y_X11_as : pj_Y := (yX11_as, cX11_as, 3, some .int)
theorem ok_X11_as : pj_ok Y_X11_as 2 := ⟨pj_m 945 (by decide +kernel), zX11, ⟨by decide +kernel, by decide +kernel⟩, by decide +kernel, by decide⟩
theorem o_X11_as : pj_okV Y_X11_as 2 := ⟨ok_X11_as, pj_m 943 (by decide +kernel), pj_m 944 (by decide +kernel)⟩
abbrev Y_X11_ask : pj_Y := (yX11_ask, cX11_ask, 4, some .int)
theorem ok_X11_ask : pj_ok Y_X11_ask 2 := ⟨pj_m 957 (by decide +kernel), zX11, ⟨by decide +kernel, by decide +kernel⟩, by decide +kernel, by decide⟩
theorem o_X11_ask : pj_okV Y_X11_ask 2 := ⟨ok_X11_ask, pj_m 955 (by decide +kernel), pj_m 956 (by decide +kernel)⟩
abbrev Y_X11_trace : pj_Y := (yX11_trace, cX11_trace, 2, some .int)
theorem ok_X11_trace : pj_ok Y_X11_trace 1 := ⟨pj_m 1026 (by decide +kernel), zX11, ⟨by decide +kernel, by decide +kernel⟩, by decide +kernel, by decide⟩
theorem o_X11_trace : pj_okV Y_X11_trace 1 := ⟨ok_X11_trace, pj_m 1024 (by decide +kernel), pj_m 1025 (by decide +kernel)⟩
abbrev Y_X11_count : pj_Y := (yX11_count, cX11_count, 2, some .int)
theorem ok_X11_count : pj_ok Y_X11_count 1 := ⟨pj_m 1035 (by decide +kernel), zX11, ⟨by decide +kernel, by decide +kernel⟩, by decide +kernel, by decide⟩
theorem o_X11_count : pj_okV Y_X11_count 1 := ⟨ok_X11_count, pj_m 1033 (by decide +kernel), pj_m 1034 (by decide +kernel)⟩
abbrev Y_X11_status : pj_Y := (yX11_status, cX11_status, 1, some .int)
theorem ok_X11_status : pj_ok Y_X11_status 0 := ⟨pj_m 1051 (by decide +kernel), zX11, ⟨by decide +kernel, by decide +kernel⟩, by decide +kernel, by decide⟩
theorem o_X11_status : pj_okV Y_X11_status 0 := ⟨ok_X11_status, pj_m 1049 (by decide +kernel), pj_m 1050 (by decide +kernel)⟩
abbrev Y_X11_countOfTown : pj_Y := (yX11_countOfTown, cX11_countOfTown, 2, some .int)
theorem ok_X11_countOfTown : pj_ok Y_X11_countOfTown 1 := ⟨pj_m 1043 (by decide +kernel), zX11, ⟨by decide +kernel, by decide +kernel⟩, by decide +kernel, by decide⟩
theorem o_X11_countOfTown : pj_okV Y_X11_countOfTown 1 := ⟨ok_X11_countOfTown, pj_m 1042 (by decide +kernel), pj_m 29 (by decide +kernel)⟩
abbrev Y_X11_finds : pj_Y := (yX11_finds, cX11_finds, 2, some .boolean)
theorem ok_X11_finds : pj_ok Y_X11_finds 1 := ⟨pj_m 200 (by decide +kernel), zX11, ⟨by decide +kernel, by decide +kernel⟩, by decide +kernel, by decide⟩
theorem o_X11_finds : pj_okV Y_X11_finds 1 := ⟨ok_X11_finds, pj_m 199 (by decide +kernel), pj_m 0 (by decide +kernel)⟩
abbrev Y_X11_finding : pj_Y := (yX11_finding, cX11_finding, 1, some .int)
theorem ok_X11_finding : pj_ok Y_X11_finding 0 := ⟨pj_m 204 (by decide +kernel), zX11, ⟨by decide +kernel, by decide +kernel⟩, by decide +kernel, by decide⟩
theorem o_X11_finding : pj_okV Y_X11_finding 0 := ⟨ok_X11_finding, pj_m 203 (by decide +kernel), pj_m 1 (by decide +kernel)⟩
abbrev Y_X11_findingOfPlaces : pj_Y := (yX11_findingOfPlaces, cX11_findingOfPlaces, 4, some .int)
theorem ok_X11_findingOfPlaces : pj_ok Y_X11_findingOfPlaces 3 := ⟨pj_m 218 (by decide +kernel), zX11, ⟨by decide +kernel, by decide +kernel⟩, by decide +kernel, by decide⟩
theorem o_X11_findingOfPlaces : pj_okV Y_X11_findingOfPlaces 3 := ⟨ok_X11_findingOfPlaces, pj_m 217 (by decide +kernel), pj_m 2 (by decide +kernel)⟩
abbrev Y_X11_findingOfMove : pj_Y := (yX11_findingOfMove, cX11_findingOfMove, 6, some .int)
theorem ok_X11_findingOfMove : pj_ok Y_X11_findingOfMove 5 := ⟨pj_m 243 (by decide +kernel), zX11, ⟨by decide +kernel, by decide +kernel⟩, by decide +kernel, by decide⟩
theorem o_X11_findingOfMove : pj_okV Y_X11_findingOfMove 5 := ⟨ok_X11_findingOfMove, pj_m 242 (by decide +kernel), pj_m 3 (by decide +kernel)⟩
abbrev Y_X11_isThing : pj_Y := (yX11_isThing, cX11_isThing, 2, some .boolean)
theorem ok_X11_isThing : pj_ok Y_X11_isThing 1 := ⟨pj_m 531 (by decide +kernel), zX11, ⟨by decide +kernel, by decide +kernel⟩, by decide +kernel, by decide⟩
theorem o_X11_isThing : pj_okV Y_X11_isThing 1 := ⟨ok_X11_isThing, pj_m 530 (by decide +kernel), pj_m 18 (by decide +kernel)⟩
abbrev Y_X11_areTwo : pj_Y := (yX11_areTwo, cX11_areTwo, 3, some .boolean)
theorem ok_X11_areTwo : pj_ok Y_X11_areTwo 2 := ⟨pj_m 650 (by decide +kernel), zX11, ⟨by decide +kernel, by decide +kernel⟩, by decide +kernel, by decide⟩
theorem o_X11_areTwo : pj_okV Y_X11_areTwo 2 := ⟨ok_X11_areTwo, pj_m 649 (by decide +kernel), pj_m 19 (by decide +kernel)⟩
abbrev Y_X11_isOfKind : pj_Y := (yX11_isOfKind, cX11_isOfKind, 2, some .boolean)
theorem ok_X11_isOfKind : pj_ok Y_X11_isOfKind 2 := ⟨pj_m 948 (by decide +kernel), zX11, ⟨by decide +kernel, by decide +kernel⟩, by decide +kernel, by decide⟩
theorem o_X11_isOfKind : pj_okS Y_X11_isOfKind 2 := ⟨ok_X11_isOfKind, pj_m 947 (by decide +kernel)⟩
abbrev Y_X11_isSet : pj_Y := (yX11_isSet, cX11_isSet, 1, some .boolean)
theorem ok_X11_isSet : pj_ok Y_X11_isSet 1 := ⟨pj_m 535 (by decide +kernel), zX11, ⟨by decide +kernel, by decide +kernel⟩, by decide +kernel, by decide⟩
theorem o_X11_isSet : pj_okS Y_X11_isSet 1 := ⟨ok_X11_isSet, pj_m 534 (by decide +kernel)⟩
abbrev Y_X11_isWeekday : pj_Y := (yX11_isWeekday, cX11_isWeekday, 1, some .boolean)
theorem ok_X11_isWeekday : pj_ok Y_X11_isWeekday 1 := ⟨pj_m 569 (by decide +kernel), zX11, ⟨by decide +kernel, by decide +kernel⟩, by decide +kernel, by decide⟩
theorem o_X11_isWeekday : pj_okS Y_X11_isWeekday 1 := ⟨ok_X11_isWeekday, pj_m 568 (by decide +kernel)⟩
abbrev Y_X11_isAhead : pj_Y := (yX11_isAhead, cX11_isAhead, 1, some .boolean)
theorem ok_X11_isAhead : pj_ok Y_X11_isAhead 1 := ⟨pj_m 662 (by decide +kernel), zX11, ⟨by decide +kernel, by decide +kernel⟩, by decide +kernel, by decide⟩
theorem o_X11_isAhead : pj_okS Y_X11_isAhead 1 := ⟨ok_X11_isAhead, pj_m 661 (by decide +kernel)⟩
abbrev Y_X11_isChoice : pj_Y := (yX11_isChoice, cX11_isChoice, 1, some .boolean)
theorem ok_X11_isChoice : pj_ok Y_X11_isChoice 1 := ⟨pj_m 717 (by decide +kernel), zX11, ⟨by decide +kernel, by decide +kernel⟩, by decide +kernel, by decide⟩
theorem o_X11_isChoice : pj_okS Y_X11_isChoice 1 := ⟨ok_X11_isChoice, pj_m 716 (by decide +kernel)⟩
abbrev Y_X11_isCost : pj_Y := (yX11_isCost, cX11_isCost, 1, some .boolean)
theorem ok_X11_isCost : pj_ok Y_X11_isCost 1 := ⟨pj_m 857 (by decide +kernel), zX11, ⟨by decide +kernel, by decide +kernel⟩, by decide +kernel, by decide⟩
theorem o_X11_isCost : pj_okS Y_X11_isCost 1 := ⟨ok_X11_isCost, pj_m 856 (by decide +kernel)⟩
abbrev Y_X12_init : pj_Y := (yX12_init, cX12_init, 1, none)
theorem ok_X12_init : pj_ok Y_X12_init 0 := ⟨pj_m 1056 (by decide +kernel), zX12, ⟨by decide +kernel, by decide +kernel⟩, by decide +kernel, by decide⟩
theorem o_X12_init : pj_okI Y_X12_init 0 := ⟨ok_X12_init, rfl, pj_m 1055 (by decide +kernel), rfl⟩
abbrev Y_X12_in : pj_Y := (yX12_in, cX12_in, 6, some .boolean)
theorem ok_X12_in : pj_ok Y_X12_in 3 := ⟨pj_m 1142 (by decide +kernel), zX12, ⟨by decide +kernel, by decide +kernel⟩, by decide +kernel, by decide⟩
theorem o_X12_in : pj_okS Y_X12_in 3 := ⟨ok_X12_in, pj_m 1141 (by decide +kernel)⟩
abbrev Y_X12_finding : pj_Y := (yX12_finding, cX12_finding, 2, some .int)
theorem ok_X12_finding : pj_ok Y_X12_finding 1 := ⟨pj_m 1148 (by decide +kernel), zX12, ⟨by decide +kernel, by decide +kernel⟩, by decide +kernel, by decide⟩
theorem o_X12_finding : pj_okV Y_X12_finding 1 := ⟨ok_X12_finding, pj_m 1147 (by decide +kernel), pj_m 30 (by decide +kernel)⟩
abbrev Y_X12_isRow : pj_Y := (yX12_isRow, cX12_isRow, 1, some .boolean)
theorem ok_X12_isRow : pj_ok Y_X12_isRow 1 := ⟨pj_m 1138 (by decide +kernel), zX12, ⟨by decide +kernel, by decide +kernel⟩, by decide +kernel, by decide⟩
theorem o_X12_isRow : pj_okS Y_X12_isRow 1 := ⟨ok_X12_isRow, pj_m 1137 (by decide +kernel)⟩
abbrev Y_X12_row : pj_Y := (yX12_row, cX12_row, 5, some .int)
theorem ok_X12_row : pj_ok Y_X12_row 3 := ⟨pj_m 1135 (by decide +kernel), zX12, ⟨by decide +kernel, by decide +kernel⟩, by decide +kernel, by decide⟩
theorem o_X12_row : pj_okV Y_X12_row 3 := ⟨ok_X12_row, pj_m 1133 (by decide +kernel), pj_m 1134 (by decide +kernel)⟩
abbrev Y_X12_set : pj_Y := (yX12_set, cX12_set, 4, some .int)
theorem ok_X12_set : pj_ok Y_X12_set 3 := ⟨pj_m 1153 (by decide +kernel), zX12, ⟨by decide +kernel, by decide +kernel⟩, by decide +kernel, by decide⟩
theorem o_X12_set : pj_okV Y_X12_set 3 := ⟨ok_X12_set, pj_m 1151 (by decide +kernel), pj_m 1152 (by decide +kernel)⟩
abbrev Y_X12_copy : pj_Y := (yX12_copy, cX12_copy, 9, some .int)
theorem ok_X12_copy : pj_ok Y_X12_copy 5 := ⟨pj_m 1157 (by decide +kernel), zX12, ⟨by decide +kernel, by decide +kernel⟩, by decide +kernel, by decide⟩
theorem o_X12_copy : pj_okV Y_X12_copy 5 := ⟨ok_X12_copy, pj_m 1155 (by decide +kernel), pj_m 1156 (by decide +kernel)⟩
abbrev Y_X12_drop : pj_Y := (yX12_drop, cX12_drop, 2, some .int)
theorem ok_X12_drop : pj_ok Y_X12_drop 1 := ⟨pj_m 1161 (by decide +kernel), zX12, ⟨by decide +kernel, by decide +kernel⟩, by decide +kernel, by decide⟩
theorem o_X12_drop : pj_okV Y_X12_drop 1 := ⟨ok_X12_drop, pj_m 1159 (by decide +kernel), pj_m 1160 (by decide +kernel)⟩
abbrev Y_X12_feed : pj_Y := (yX12_feed, cX12_feed, 2, some .int)
theorem ok_X12_feed : pj_ok Y_X12_feed 1 := ⟨pj_m 1165 (by decide +kernel), zX12, ⟨by decide +kernel, by decide +kernel⟩, by decide +kernel, by decide⟩
theorem o_X12_feed : pj_okV Y_X12_feed 1 := ⟨ok_X12_feed, pj_m 1163 (by decide +kernel), pj_m 1164 (by decide +kernel)⟩
abbrev Y_X12_bad : pj_Y := (yX12_bad, cX12_bad, 2, none)
theorem ok_X12_bad : pj_ok Y_X12_bad 1 := ⟨pj_m 1200 (by decide +kernel), zX12, ⟨by decide +kernel, by decide +kernel⟩, by decide +kernel, by decide⟩
theorem o_X12_bad : pj_okV Y_X12_bad 1 := ⟨ok_X12_bad, pj_m 1199 (by decide +kernel), pj_m 35 (by decide +kernel)⟩
abbrev Y_X12_nextToken : pj_Y := (yX12_nextToken, cX12_nextToken, 1, none)
theorem ok_X12_nextToken : pj_ok Y_X12_nextToken 0 := ⟨pj_m 1183 (by decide +kernel), zX12, ⟨by decide +kernel, by decide +kernel⟩, by decide +kernel, by decide⟩
theorem o_X12_nextToken : pj_okV Y_X12_nextToken 0 := ⟨ok_X12_nextToken, pj_m 1182 (by decide +kernel), pj_m 32 (by decide +kernel)⟩
abbrev Y_X12_must : pj_Y := (yX12_must, cX12_must, 2, none)
theorem ok_X12_must : pj_ok Y_X12_must 1 := ⟨pj_m 1196 (by decide +kernel), zX12, ⟨by decide +kernel, by decide +kernel⟩, by decide +kernel, by decide⟩
theorem o_X12_must : pj_okV Y_X12_must 1 := ⟨ok_X12_must, pj_m 1195 (by decide +kernel), pj_m 34 (by decide +kernel)⟩
abbrev Y_X12_isLetter : pj_Y := (yX12_isLetter, cX12_isLetter, 2, some .boolean)
theorem ok_X12_isLetter : pj_ok Y_X12_isLetter 1 := ⟨pj_m 1192 (by decide +kernel), zX12, ⟨by decide +kernel, by decide +kernel⟩, by decide +kernel, by decide⟩
theorem o_X12_isLetter : pj_okV Y_X12_isLetter 1 := ⟨ok_X12_isLetter, pj_m 1191 (by decide +kernel), pj_m 33 (by decide +kernel)⟩
abbrev Y_X12_number : pj_Y := (yX12_number, cX12_number, 4, some .int)
theorem ok_X12_number : pj_ok Y_X12_number 2 := ⟨pj_m 1204 (by decide +kernel), zX12, ⟨by decide +kernel, by decide +kernel⟩, by decide +kernel, by decide⟩
theorem o_X12_number : pj_okV Y_X12_number 2 := ⟨ok_X12_number, pj_m 1203 (by decide +kernel), pj_m 36 (by decide +kernel)⟩
abbrev Y_X12_mustSign : pj_Y := (yX12_mustSign, cX12_mustSign, 2, none)
theorem ok_X12_mustSign : pj_ok Y_X12_mustSign 1 := ⟨pj_m 1208 (by decide +kernel), zX12, ⟨by decide +kernel, by decide +kernel⟩, by decide +kernel, by decide⟩
theorem o_X12_mustSign : pj_okV Y_X12_mustSign 1 := ⟨ok_X12_mustSign, pj_m 1207 (by decide +kernel), pj_m 37 (by decide +kernel)⟩
abbrev Y_X12_begin : pj_Y := (yX12_begin, cX12_begin, 1, none)
theorem ok_X12_begin : pj_ok Y_X12_begin 0 := ⟨pj_m 1179 (by decide +kernel), zX12, ⟨by decide +kernel, by decide +kernel⟩, by decide +kernel, by decide⟩
theorem o_X12_begin : pj_okV Y_X12_begin 0 := ⟨ok_X12_begin, pj_m 1178 (by decide +kernel), pj_m 31 (by decide +kernel)⟩
abbrev Y_X12_failed : pj_Y := (yX12_failed, cX12_failed, 1, some .boolean)
theorem ok_X12_failed : pj_ok Y_X12_failed 0 := ⟨pj_m 1226 (by decide +kernel), zX12, ⟨by decide +kernel, by decide +kernel⟩, by decide +kernel, by decide⟩
theorem o_X12_failed : pj_okV Y_X12_failed 0 := ⟨ok_X12_failed, pj_m 1225 (by decide +kernel), pj_m 40 (by decide +kernel)⟩
abbrev Y_X12_fault : pj_Y := (yX12_fault, cX12_fault, 1, some .int)
theorem ok_X12_fault : pj_ok Y_X12_fault 0 := ⟨pj_m 1171 (by decide +kernel), zX12, ⟨by decide +kernel, by decide +kernel⟩, by decide +kernel, by decide⟩
theorem o_X12_fault : pj_okV Y_X12_fault 0 := ⟨ok_X12_fault, pj_m 1169 (by decide +kernel), pj_m 1170 (by decide +kernel)⟩
abbrev Y_X12_kindBy : pj_Y := (yX12_kindBy, cX12_kindBy, 1, some .int)
theorem ok_X12_kindBy : pj_ok Y_X12_kindBy 1 := ⟨pj_m 1211 (by decide +kernel), zX12, ⟨by decide +kernel, by decide +kernel⟩, by decide +kernel, by decide⟩
theorem o_X12_kindBy : pj_okS Y_X12_kindBy 1 := ⟨ok_X12_kindBy, pj_m 1210 (by decide +kernel)⟩
abbrev Y_X12_readThing : pj_Y := (yX12_readThing, cX12_readThing, 5, none)
theorem ok_X12_readThing : pj_ok Y_X12_readThing 0 := ⟨pj_m 1215 (by decide +kernel), zX12, ⟨by decide +kernel, by decide +kernel⟩, by decide +kernel, by decide⟩
theorem o_X12_readThing : pj_okV Y_X12_readThing 0 := ⟨ok_X12_readThing, pj_m 1214 (by decide +kernel), pj_m 38 (by decide +kernel)⟩
abbrev Y_X12_isTold : pj_Y := (yX12_isTold, cX12_isTold, 7, some .boolean)
theorem ok_X12_isTold : pj_ok Y_X12_isTold 3 := ⟨pj_m 1222 (by decide +kernel), zX12, ⟨by decide +kernel, by decide +kernel⟩, by decide +kernel, by decide⟩
theorem o_X12_isTold : pj_okS Y_X12_isTold 3 := ⟨ok_X12_isTold, pj_m 1221 (by decide +kernel)⟩
abbrev Y_X12_readPair : pj_Y := (yX12_readPair, cX12_readPair, 5, none)
theorem ok_X12_readPair : pj_ok Y_X12_readPair 0 := ⟨pj_m 1219 (by decide +kernel), zX12, ⟨by decide +kernel, by decide +kernel⟩, by decide +kernel, by decide⟩
theorem o_X12_readPair : pj_okV Y_X12_readPair 0 := ⟨ok_X12_readPair, pj_m 1218 (by decide +kernel), pj_m 39 (by decide +kernel)⟩
abbrev Y_X12_town : pj_Y := (yX12_town, cX12_town, 2, some .int)
theorem ok_X12_town : pj_ok Y_X12_town 0 := ⟨pj_m 1175 (by decide +kernel), zX12, ⟨by decide +kernel, by decide +kernel⟩, by decide +kernel, by decide⟩
theorem o_X12_town : pj_okV Y_X12_town 0 := ⟨ok_X12_town, pj_m 1173 (by decide +kernel), pj_m 1174 (by decide +kernel)⟩
abbrev Y_X12_isThere : pj_Y := (yX12_isThere, cX12_isThere, 1, some .boolean)
theorem ok_X12_isThere : pj_ok Y_X12_isThere 0 := ⟨pj_m 1235 (by decide +kernel), zX12, ⟨by decide +kernel, by decide +kernel⟩, by decide +kernel, by decide⟩
theorem o_X12_isThere : pj_okV Y_X12_isThere 0 := ⟨ok_X12_isThere, pj_m 1234 (by decide +kernel), pj_m 41 (by decide +kernel)⟩
abbrev Y_X12_isThing : pj_Y := (yX12_isThing, cX12_isThing, 2, some .boolean)
theorem ok_X12_isThing : pj_ok Y_X12_isThing 1 := ⟨pj_m 1249 (by decide +kernel), zX12, ⟨by decide +kernel, by decide +kernel⟩, by decide +kernel, by decide⟩
theorem o_X12_isThing : pj_okV Y_X12_isThing 1 := ⟨ok_X12_isThing, pj_m 1248 (by decide +kernel), pj_m 43 (by decide +kernel)⟩
abbrev Y_X12_areTwo : pj_Y := (yX12_areTwo, cX12_areTwo, 3, some .boolean)
theorem ok_X12_areTwo : pj_ok Y_X12_areTwo 2 := ⟨pj_m 1294 (by decide +kernel), zX12, ⟨by decide +kernel, by decide +kernel⟩, by decide +kernel, by decide⟩
theorem o_X12_areTwo : pj_okV Y_X12_areTwo 2 := ⟨ok_X12_areTwo, pj_m 1293 (by decide +kernel), pj_m 47 (by decide +kernel)⟩
abbrev Y_X12_of : pj_Y := (yX12_of, cX12_of, 3, some .int)
theorem ok_X12_of : pj_ok Y_X12_of 2 := ⟨pj_m 1254 (by decide +kernel), zX12, ⟨by decide +kernel, by decide +kernel⟩, by decide +kernel, by decide⟩
theorem o_X12_of : pj_okV Y_X12_of 2 := ⟨ok_X12_of, pj_m 1253 (by decide +kernel), pj_m 44 (by decide +kernel)⟩
abbrev Y_X12_isFar : pj_Y := (yX12_isFar, cX12_isFar, 1, some .boolean)
theorem ok_X12_isFar : pj_ok Y_X12_isFar 1 := ⟨pj_m 1305 (by decide +kernel), zX12, ⟨by decide +kernel, by decide +kernel⟩, by decide +kernel, by decide⟩
theorem o_X12_isFar : pj_okS Y_X12_isFar 1 := ⟨ok_X12_isFar, pj_m 1304 (by decide +kernel)⟩
abbrev Y_X12_bits : pj_Y := (yX12_bits, cX12_bits, 3, some .int)
theorem ok_X12_bits : pj_ok Y_X12_bits 1 := ⟨pj_m 1282 (by decide +kernel), zX12, ⟨by decide +kernel, by decide +kernel⟩, by decide +kernel, by decide⟩
theorem o_X12_bits : pj_okS Y_X12_bits 1 := ⟨ok_X12_bits, pj_m 1281 (by decide +kernel)⟩
abbrev Y_X12_lookOf : pj_Y := (yX12_lookOf, cX12_lookOf, 4, some .int)
theorem ok_X12_lookOf : pj_ok Y_X12_lookOf 2 := ⟨pj_m 1279 (by decide +kernel), zX12, ⟨by decide +kernel, by decide +kernel⟩, by decide +kernel, by decide⟩
theorem o_X12_lookOf : pj_okV Y_X12_lookOf 2 := ⟨ok_X12_lookOf, pj_m 1278 (by decide +kernel), pj_m 46 (by decide +kernel)⟩
abbrev Y_X12_setOf : pj_Y := (yX12_setOf, cX12_setOf, 1, some .int)
theorem ok_X12_setOf : pj_ok Y_X12_setOf 1 := ⟨pj_m 1275 (by decide +kernel), zX12, ⟨by decide +kernel, by decide +kernel⟩, by decide +kernel, by decide⟩
theorem o_X12_setOf : pj_okS Y_X12_setOf 1 := ⟨ok_X12_setOf, pj_m 1274 (by decide +kernel)⟩
abbrev Y_X12_missingOn : pj_Y := (yX12_missingOn, cX12_missingOn, 2, some .int)
theorem ok_X12_missingOn : pj_ok Y_X12_missingOn 1 := ⟨pj_m 1272 (by decide +kernel), zX12, ⟨by decide +kernel, by decide +kernel⟩, by decide +kernel, by decide⟩
theorem o_X12_missingOn : pj_okV Y_X12_missingOn 1 := ⟨ok_X12_missingOn, pj_m 1271 (by decide +kernel), pj_m 45 (by decide +kernel)⟩
abbrev Y_X12_harmBy : pj_Y := (yX12_harmBy, cX12_harmBy, 6, some .int)
theorem ok_X12_harmBy : pj_ok Y_X12_harmBy 1 := ⟨pj_m 1330 (by decide +kernel), zX12, ⟨by decide +kernel, by decide +kernel⟩, by decide +kernel, by decide⟩
theorem o_X12_harmBy : pj_okV Y_X12_harmBy 1 := ⟨ok_X12_harmBy, pj_m 1329 (by decide +kernel), pj_m 50 (by decide +kernel)⟩
abbrev Y_X12_harmsOf : pj_Y := (yX12_harmsOf, cX12_harmsOf, 4, some .int)
theorem ok_X12_harmsOf : pj_ok Y_X12_harmsOf 1 := ⟨pj_m 1338 (by decide +kernel), zX12, ⟨by decide +kernel, by decide +kernel⟩, by decide +kernel, by decide⟩
theorem o_X12_harmsOf : pj_okV Y_X12_harmsOf 1 := ⟨ok_X12_harmsOf, pj_m 1337 (by decide +kernel), pj_m 51 (by decide +kernel)⟩
abbrev Y_X12_likeBy : pj_Y := (yX12_likeBy, cX12_likeBy, 5, some .int)
theorem ok_X12_likeBy : pj_ok Y_X12_likeBy 2 := ⟨pj_m 1318 (by decide +kernel), zX12, ⟨by decide +kernel, by decide +kernel⟩, by decide +kernel, by decide⟩
theorem o_X12_likeBy : pj_okV Y_X12_likeBy 2 := ⟨ok_X12_likeBy, pj_m 1317 (by decide +kernel), pj_m 49 (by decide +kernel)⟩
abbrev Y_X12_keep : pj_Y := (yX12_keep, cX12_keep, 2, none)
theorem ok_X12_keep : pj_ok Y_X12_keep 0 := ⟨pj_m 1241 (by decide +kernel), zX12, ⟨by decide +kernel, by decide +kernel⟩, by decide +kernel, by decide⟩
theorem o_X12_keep : pj_okV Y_X12_keep 0 := ⟨ok_X12_keep, pj_m 1240 (by decide +kernel), pj_m 42 (by decide +kernel)⟩
abbrev Y_X12_days : pj_Y := (yX12_days, cX12_days, 3, some .int)
theorem ok_X12_days : pj_ok Y_X12_days 1 := ⟨pj_m 1231 (by decide +kernel), zX12, ⟨by decide +kernel, by decide +kernel⟩, by decide +kernel, by decide⟩
theorem o_X12_days : pj_okV Y_X12_days 1 := ⟨ok_X12_days, pj_m 1229 (by decide +kernel), pj_m 1230 (by decide +kernel)⟩
abbrev Y_X12_paint : pj_Y := (yX12_paint, cX12_paint, 4, some .int)
theorem ok_X12_paint : pj_ok Y_X12_paint 2 := ⟨pj_m 1245 (by decide +kernel), zX12, ⟨by decide +kernel, by decide +kernel⟩, by decide +kernel, by decide⟩
theorem o_X12_paint : pj_okV Y_X12_paint 2 := ⟨ok_X12_paint, pj_m 1243 (by decide +kernel), pj_m 1244 (by decide +kernel)⟩
abbrev Y_X12_miss : pj_Y := (yX12_miss, cX12_miss, 4, some .int)
theorem ok_X12_miss : pj_ok Y_X12_miss 2 := ⟨pj_m 1258 (by decide +kernel), zX12, ⟨by decide +kernel, by decide +kernel⟩, by decide +kernel, by decide⟩
theorem o_X12_miss : pj_okV Y_X12_miss 2 := ⟨ok_X12_miss, pj_m 1256 (by decide +kernel), pj_m 1257 (by decide +kernel)⟩
abbrev Y_X12_undo : pj_Y := (yX12_undo, cX12_undo, 2, some .int)
theorem ok_X12_undo : pj_ok Y_X12_undo 0 := ⟨pj_m 1264 (by decide +kernel), zX12, ⟨by decide +kernel, by decide +kernel⟩, by decide +kernel, by decide⟩
theorem o_X12_undo : pj_okV Y_X12_undo 0 := ⟨ok_X12_undo, pj_m 1262 (by decide +kernel), pj_m 1263 (by decide +kernel)⟩
abbrev Y_X12_thing : pj_Y := (yX12_thing, cX12_thing, 5, some .int)
theorem ok_X12_thing : pj_ok Y_X12_thing 2 := ⟨pj_m 1268 (by decide +kernel), zX12, ⟨by decide +kernel, by decide +kernel⟩, by decide +kernel, by decide⟩
theorem o_X12_thing : pj_okV Y_X12_thing 2 := ⟨ok_X12_thing, pj_m 1266 (by decide +kernel), pj_m 1267 (by decide +kernel)⟩
abbrev Y_X12_missing : pj_Y := (yX12_missing, cX12_missing, 2, some .int)
theorem ok_X12_missing : pj_ok Y_X12_missing 1 := ⟨pj_m 1286 (by decide +kernel), zX12, ⟨by decide +kernel, by decide +kernel⟩, by decide +kernel, by decide⟩
theorem o_X12_missing : pj_okV Y_X12_missing 1 := ⟨ok_X12_missing, pj_m 1284 (by decide +kernel), pj_m 1285 (by decide +kernel)⟩
abbrev Y_X12_pair : pj_Y := (yX12_pair, cX12_pair, 6, some .int)
theorem ok_X12_pair : pj_ok Y_X12_pair 2 := ⟨pj_m 1290 (by decide +kernel), zX12, ⟨by decide +kernel, by decide +kernel⟩, by decide +kernel, by decide⟩
theorem o_X12_pair : pj_okV Y_X12_pair 2 := ⟨ok_X12_pair, pj_m 1288 (by decide +kernel), pj_m 1289 (by decide +kernel)⟩
abbrev Y_X12_look : pj_Y := (yX12_look, cX12_look, 3, some .int)
theorem ok_X12_look : pj_ok Y_X12_look 2 := ⟨pj_m 1298 (by decide +kernel), zX12, ⟨by decide +kernel, by decide +kernel⟩, by decide +kernel, by decide⟩
theorem o_X12_look : pj_okV Y_X12_look 2 := ⟨ok_X12_look, pj_m 1296 (by decide +kernel), pj_m 1297 (by decide +kernel)⟩
abbrev Y_X12_areAlike : pj_Y := (yX12_areAlike, cX12_areAlike, 4, some .boolean)
theorem ok_X12_areAlike : pj_ok Y_X12_areAlike 3 := ⟨pj_m 1310 (by decide +kernel), zX12, ⟨by decide +kernel, by decide +kernel⟩, by decide +kernel, by decide⟩
theorem o_X12_areAlike : pj_okV Y_X12_areAlike 3 := ⟨ok_X12_areAlike, pj_m 1309 (by decide +kernel), pj_m 48 (by decide +kernel)⟩
abbrev Y_X12_alike : pj_Y := (yX12_alike, cX12_alike, 4, some .int)
theorem ok_X12_alike : pj_ok Y_X12_alike 3 := ⟨pj_m 1302 (by decide +kernel), zX12, ⟨by decide +kernel, by decide +kernel⟩, by decide +kernel, by decide⟩
theorem o_X12_alike : pj_okV Y_X12_alike 3 := ⟨ok_X12_alike, pj_m 1300 (by decide +kernel), pj_m 1301 (by decide +kernel)⟩
abbrev Y_X12_like : pj_Y := (yX12_like, cX12_like, 3, some .int)
theorem ok_X12_like : pj_ok Y_X12_like 2 := ⟨pj_m 1314 (by decide +kernel), zX12, ⟨by decide +kernel, by decide +kernel⟩, by decide +kernel, by decide⟩
theorem o_X12_like : pj_okV Y_X12_like 2 := ⟨ok_X12_like, pj_m 1312 (by decide +kernel), pj_m 1313 (by decide +kernel)⟩
abbrev Y_X12_looks : pj_Y := (yX12_looks, cX12_looks, 4, some .int)
theorem ok_X12_looks : pj_ok Y_X12_looks 1 := ⟨pj_m 1322 (by decide +kernel), zX12, ⟨by decide +kernel, by decide +kernel⟩, by decide +kernel, by decide⟩
theorem o_X12_looks : pj_okV Y_X12_looks 1 := ⟨ok_X12_looks, pj_m 1320 (by decide +kernel), pj_m 1321 (by decide +kernel)⟩
abbrev Y_X12_harm : pj_Y := (yX12_harm, cX12_harm, 2, some .int)
theorem ok_X12_harm : pj_ok Y_X12_harm 1 := ⟨pj_m 1326 (by decide +kernel), zX12, ⟨by decide +kernel, by decide +kernel⟩, by decide +kernel, by decide⟩
theorem o_X12_harm : pj_okV Y_X12_harm 1 := ⟨ok_X12_harm, pj_m 1324 (by decide +kernel), pj_m 1325 (by decide +kernel)⟩
abbrev Y_X12_harms : pj_Y := (yX12_harms, cX12_harms, 2, some .int)
theorem ok_X12_harms : pj_ok Y_X12_harms 1 := ⟨pj_m 1334 (by decide +kernel), zX12, ⟨by decide +kernel, by decide +kernel⟩, by decide +kernel, by decide⟩
theorem o_X12_harms : pj_okV Y_X12_harms 1 := ⟨ok_X12_harms, pj_m 1332 (by decide +kernel), pj_m 1333 (by decide +kernel)⟩
abbrev Y_X12_week : pj_Y := (yX12_week, cX12_week, 5, some .int)
theorem ok_X12_week : pj_ok Y_X12_week 1 := ⟨pj_m 1342 (by decide +kernel), zX12, ⟨by decide +kernel, by decide +kernel⟩, by decide +kernel, by decide⟩
theorem o_X12_week : pj_okV Y_X12_week 1 := ⟨ok_X12_week, pj_m 1340 (by decide +kernel), pj_m 1341 (by decide +kernel)⟩
abbrev Y_X12_bestPaint : pj_Y := (yX12_bestPaint, cX12_bestPaint, 9, some .int)
theorem ok_X12_bestPaint : pj_ok Y_X12_bestPaint 1 := ⟨pj_m 1346 (by decide +kernel), zX12, ⟨by decide +kernel, by decide +kernel⟩, by decide +kernel, by decide⟩
theorem o_X12_bestPaint : pj_okV Y_X12_bestPaint 1 := ⟨ok_X12_bestPaint, pj_m 1344 (by decide +kernel), pj_m 1345 (by decide +kernel)⟩
abbrev Y_X12_areApart : pj_Y := (yX12_areApart, cX12_areApart, 6, some .boolean)
theorem ok_X12_areApart : pj_ok Y_X12_areApart 2 := ⟨pj_m 1359 (by decide +kernel), zX12, ⟨by decide +kernel, by decide +kernel⟩, by decide +kernel, by decide⟩
theorem o_X12_areApart : pj_okV Y_X12_areApart 2 := ⟨ok_X12_areApart, pj_m 1358 (by decide +kernel), pj_m 53 (by decide +kernel)⟩
abbrev Y_X12_areMixes : pj_Y := (yX12_areMixes, cX12_areMixes, 5, some .boolean)
theorem ok_X12_areMixes : pj_ok Y_X12_areMixes 1 := ⟨pj_m 1355 (by decide +kernel), zX12, ⟨by decide +kernel, by decide +kernel⟩, by decide +kernel, by decide⟩
theorem o_X12_areMixes : pj_okV Y_X12_areMixes 1 := ⟨ok_X12_areMixes, pj_m 1354 (by decide +kernel), pj_m 52 (by decide +kernel)⟩
abbrev Y_X12_dyes : pj_Y := (yX12_dyes, cX12_dyes, 6, some .int)
theorem ok_X12_dyes : pj_ok Y_X12_dyes 2 := ⟨pj_m 1350 (by decide +kernel), zX12, ⟨by decide +kernel, by decide +kernel⟩, by decide +kernel, by decide⟩
theorem o_X12_dyes : pj_okV Y_X12_dyes 2 := ⟨ok_X12_dyes, pj_m 1348 (by decide +kernel), pj_m 1349 (by decide +kernel)⟩
abbrev Y_X12_thief : pj_Y := (yX12_thief, cX12_thief, 7, some .int)
theorem ok_X12_thief : pj_ok Y_X12_thief 1 := ⟨pj_m 1363 (by decide +kernel), zX12, ⟨by decide +kernel, by decide +kernel⟩, by decide +kernel, by decide⟩
theorem o_X12_thief : pj_okV Y_X12_thief 1 := ⟨ok_X12_thief, pj_m 1361 (by decide +kernel), pj_m 1362 (by decide +kernel)⟩
abbrev Y_X12_seen : pj_Y := (yX12_seen, cX12_seen, 7, some .int)
theorem ok_X12_seen : pj_ok Y_X12_seen 2 := ⟨pj_m 1367 (by decide +kernel), zX12, ⟨by decide +kernel, by decide +kernel⟩, by decide +kernel, by decide⟩
theorem o_X12_seen : pj_okV Y_X12_seen 2 := ⟨ok_X12_seen, pj_m 1365 (by decide +kernel), pj_m 1366 (by decide +kernel)⟩
abbrev Y_X12_follow : pj_Y := (yX12_follow, cX12_follow, 7, some .int)
theorem ok_X12_follow : pj_ok Y_X12_follow 3 := ⟨pj_m 1375 (by decide +kernel), zX12, ⟨by decide +kernel, by decide +kernel⟩, by decide +kernel, by decide⟩
theorem o_X12_follow : pj_okV Y_X12_follow 3 := ⟨ok_X12_follow, pj_m 1374 (by decide +kernel), pj_m 54 (by decide +kernel)⟩
abbrev Y_X12_shelf : pj_Y := (yX12_shelf, cX12_shelf, 9, some .int)
theorem ok_X12_shelf : pj_ok Y_X12_shelf 2 := ⟨pj_m 1371 (by decide +kernel), zX12, ⟨by decide +kernel, by decide +kernel⟩, by decide +kernel, by decide⟩
theorem o_X12_shelf : pj_okV Y_X12_shelf 2 := ⟨ok_X12_shelf, pj_m 1369 (by decide +kernel), pj_m 1370 (by decide +kernel)⟩
abbrev Y_X12_parted : pj_Y := (yX12_parted, cX12_parted, 9, some .int)
theorem ok_X12_parted : pj_ok Y_X12_parted 3 := ⟨pj_m 1379 (by decide +kernel), zX12, ⟨by decide +kernel, by decide +kernel⟩, by decide +kernel, by decide⟩
theorem o_X12_parted : pj_okV Y_X12_parted 3 := ⟨ok_X12_parted, pj_m 1377 (by decide +kernel), pj_m 1378 (by decide +kernel)⟩
abbrev Y_X12_merged : pj_Y := (yX12_merged, cX12_merged, 5, some .int)
theorem ok_X12_merged : pj_ok Y_X12_merged 2 := ⟨pj_m 1383 (by decide +kernel), zX12, ⟨by decide +kernel, by decide +kernel⟩, by decide +kernel, by decide⟩
theorem o_X12_merged : pj_okV Y_X12_merged 2 := ⟨ok_X12_merged, pj_m 1381 (by decide +kernel), pj_m 1382 (by decide +kernel)⟩
abbrev Y_X12_toldBy : pj_Y := (yX12_toldBy, cX12_toldBy, 8, some .int)
theorem ok_X12_toldBy : pj_ok Y_X12_toldBy 2 := ⟨pj_m 1392 (by decide +kernel), zX12, ⟨by decide +kernel, by decide +kernel⟩, by decide +kernel, by decide⟩
theorem o_X12_toldBy : pj_okV Y_X12_toldBy 2 := ⟨ok_X12_toldBy, pj_m 1391 (by decide +kernel), pj_m 55 (by decide +kernel)⟩
abbrev Y_X12_tests : pj_Y := (yX12_tests, cX12_tests, 11, some .int)
theorem ok_X12_tests : pj_ok Y_X12_tests 4 := ⟨pj_m 1387 (by decide +kernel), zX12, ⟨by decide +kernel, by decide +kernel⟩, by decide +kernel, by decide⟩
theorem o_X12_tests : pj_okV Y_X12_tests 4 := ⟨ok_X12_tests, pj_m 1385 (by decide +kernel), pj_m 1386 (by decide +kernel)⟩
abbrev Y_X12_bet : pj_Y := (yX12_bet, cX12_bet, 16, some .long)
theorem ok_X12_bet : pj_ok Y_X12_bet 3 := ⟨pj_m 1396 (by decide +kernel), zX12, ⟨by decide +kernel, by decide +kernel⟩, by decide +kernel, by decide⟩
theorem o_X12_bet : pj_okV Y_X12_bet 3 := ⟨ok_X12_bet, pj_m 1394 (by decide +kernel), pj_m 1395 (by decide +kernel)⟩
abbrev Y_X12_year : pj_Y := (yX12_year, cX12_year, 10, some .int)
theorem ok_X12_year : pj_ok Y_X12_year 3 := ⟨pj_m 1403 (by decide +kernel), zX12, ⟨by decide +kernel, by decide +kernel⟩, by decide +kernel, by decide⟩
theorem o_X12_year : pj_okV Y_X12_year 3 := ⟨ok_X12_year, pj_m 1401 (by decide +kernel), pj_m 1402 (by decide +kernel)⟩
abbrev Y_X12_image : pj_Y := (yX12_image, cX12_image, 3, some .int)
theorem ok_X12_image : pj_ok Y_X12_image 1 := ⟨pj_m 1411 (by decide +kernel), zX12, ⟨by decide +kernel, by decide +kernel⟩, by decide +kernel, by decide⟩
theorem o_X12_image : pj_okV Y_X12_image 1 := ⟨ok_X12_image, pj_m 1409 (by decide +kernel), pj_m 1410 (by decide +kernel)⟩
abbrev Y_X12_restore : pj_Y := (yX12_restore, cX12_restore, 3, some .int)
theorem ok_X12_restore : pj_ok Y_X12_restore 1 := ⟨pj_m 1415 (by decide +kernel), zX12, ⟨by decide +kernel, by decide +kernel⟩, by decide +kernel, by decide⟩
theorem o_X12_restore : pj_okV Y_X12_restore 1 := ⟨ok_X12_restore, pj_m 1413 (by decide +kernel), pj_m 1414 (by decide +kernel)⟩
abbrev Y_X12_isOf : pj_Y := (yX12_isOf, cX12_isOf, 2, some .boolean)
theorem ok_X12_isOf : pj_ok Y_X12_isOf 2 := ⟨pj_m 1426 (by decide +kernel), zX12, ⟨by decide +kernel, by decide +kernel⟩, by decide +kernel, by decide⟩
theorem o_X12_isOf : pj_okS Y_X12_isOf 2 := ⟨ok_X12_isOf, pj_m 1425 (by decide +kernel)⟩
abbrev Y_X12_kind : pj_Y := (yX12_kind, cX12_kind, 2, some .int)
theorem ok_X12_kind : pj_ok Y_X12_kind 1 := ⟨pj_m 1419 (by decide +kernel), zX12, ⟨by decide +kernel, by decide +kernel⟩, by decide +kernel, by decide⟩
theorem o_X12_kind : pj_okV Y_X12_kind 1 := ⟨ok_X12_kind, pj_m 1417 (by decide +kernel), pj_m 1418 (by decide +kernel)⟩
abbrev Y_X12_as : pj_Y := (yX12_as, cX12_as, 3, some .int)
theorem ok_X12_as : pj_ok Y_X12_as 2 := ⟨pj_m 1423 (by decide +kernel), zX12, ⟨by decide +kernel, by decide +kernel⟩, by decide +kernel, by decide⟩
theorem o_X12_as : pj_okV Y_X12_as 2 := ⟨ok_X12_as, pj_m 1421 (by decide +kernel), pj_m 1422 (by decide +kernel)⟩
abbrev Y_X12_began : pj_Y := (yX12_began, cX12_began, 2, none)
theorem ok_X12_began : pj_ok Y_X12_began 1 := ⟨pj_m 1442 (by decide +kernel), zX12, ⟨by decide +kernel, by decide +kernel⟩, by decide +kernel, by decide⟩
theorem o_X12_began : pj_okV Y_X12_began 1 := ⟨ok_X12_began, pj_m 1441 (by decide +kernel), pj_m 58 (by decide +kernel)⟩
abbrev Y_X12_plainSize : pj_Y := (yX12_plainSize, cX12_plainSize, 2, some .int)
theorem ok_X12_plainSize : pj_ok Y_X12_plainSize 1 := ⟨pj_m 1446 (by decide +kernel), zX12, ⟨by decide +kernel, by decide +kernel⟩, by decide +kernel, by decide⟩
theorem o_X12_plainSize : pj_okV Y_X12_plainSize 1 := ⟨ok_X12_plainSize, pj_m 1445 (by decide +kernel), pj_m 59 (by decide +kernel)⟩
abbrev Y_X12_inkSize : pj_Y := (yX12_inkSize, cX12_inkSize, 3, some .int)
theorem ok_X12_inkSize : pj_ok Y_X12_inkSize 1 := ⟨pj_m 1438 (by decide +kernel), zX12, ⟨by decide +kernel, by decide +kernel⟩, by decide +kernel, by decide⟩
theorem o_X12_inkSize : pj_okV Y_X12_inkSize 1 := ⟨ok_X12_inkSize, pj_m 1437 (by decide +kernel), pj_m 57 (by decide +kernel)⟩
abbrev Y_X12_markOf : pj_Y := (yX12_markOf, cX12_markOf, 4, some .int)
theorem ok_X12_markOf : pj_ok Y_X12_markOf 1 := ⟨pj_m 1450 (by decide +kernel), zX12, ⟨by decide +kernel, by decide +kernel⟩, by decide +kernel, by decide⟩
theorem o_X12_markOf : pj_okV Y_X12_markOf 1 := ⟨ok_X12_markOf, pj_m 1449 (by decide +kernel), pj_m 60 (by decide +kernel)⟩
abbrev Y_X12_sizeOf : pj_Y := (yX12_sizeOf, cX12_sizeOf, 4, some .int)
theorem ok_X12_sizeOf : pj_ok Y_X12_sizeOf 1 := ⟨pj_m 1434 (by decide +kernel), zX12, ⟨by decide +kernel, by decide +kernel⟩, by decide +kernel, by decide⟩
theorem o_X12_sizeOf : pj_okV Y_X12_sizeOf 1 := ⟨ok_X12_sizeOf, pj_m 1433 (by decide +kernel), pj_m 56 (by decide +kernel)⟩
abbrev Y_X12_ask : pj_Y := (yX12_ask, cX12_ask, 3, some .int)
theorem ok_X12_ask : pj_ok Y_X12_ask 2 := ⟨pj_m 1430 (by decide +kernel), zX12, ⟨by decide +kernel, by decide +kernel⟩, by decide +kernel, by decide⟩
theorem o_X12_ask : pj_okV Y_X12_ask 2 := ⟨ok_X12_ask, pj_m 1428 (by decide +kernel), pj_m 1429 (by decide +kernel)⟩
abbrev Y_X12_trace : pj_Y := (yX12_trace, cX12_trace, 2, some .int)
theorem ok_X12_trace : pj_ok Y_X12_trace 1 := ⟨pj_m 1454 (by decide +kernel), zX12, ⟨by decide +kernel, by decide +kernel⟩, by decide +kernel, by decide⟩
theorem o_X12_trace : pj_okV Y_X12_trace 1 := ⟨ok_X12_trace, pj_m 1452 (by decide +kernel), pj_m 1453 (by decide +kernel)⟩
abbrev Y_X12_count : pj_Y := (yX12_count, cX12_count, 4, some .int)
theorem ok_X12_count : pj_ok Y_X12_count 1 := ⟨pj_m 1458 (by decide +kernel), zX12, ⟨by decide +kernel, by decide +kernel⟩, by decide +kernel, by decide⟩
theorem o_X12_count : pj_okV Y_X12_count 1 := ⟨ok_X12_count, pj_m 1456 (by decide +kernel), pj_m 1457 (by decide +kernel)⟩
abbrev Y_X12_status : pj_Y := (yX12_status, cX12_status, 1, some .int)
theorem ok_X12_status : pj_ok Y_X12_status 0 := ⟨pj_m 1462 (by decide +kernel), zX12, ⟨by decide +kernel, by decide +kernel⟩, by decide +kernel, by decide⟩
theorem o_X12_status : pj_okV Y_X12_status 0 := ⟨ok_X12_status, pj_m 1460 (by decide +kernel), pj_m 1461 (by decide +kernel)⟩
abbrev Y_J6_bitCount_0f7a4 : pj_Y := (yJ6_bitCount_0f7a4, cJ6_bitCount_0f7a4, 1, some .int)
theorem ok_J6_bitCount_0f7a4 : pj_ok Y_J6_bitCount_0f7a4 1 := ⟨pj_m 780 (by decide +kernel), zJ6, ⟨by decide +kernel, by decide +kernel⟩, by decide +kernel, by decide⟩
theorem o_J6_bitCount_0f7a4 : pj_okS Y_J6_bitCount_0f7a4 1 := ⟨ok_J6_bitCount_0f7a4, pj_m 779 (by decide +kernel)⟩
abbrev Y_J7_fill_53178 : pj_Y := (yJ7_fill_53178, cJ7_fill_53178, 4, none)
theorem ok_J7_fill_53178 : pj_ok Y_J7_fill_53178 2 := ⟨pj_m 96 (by decide +kernel), zJ7, ⟨by decide +kernel, by decide +kernel⟩, by decide +kernel, by decide⟩
theorem o_J7_fill_53178 : pj_okS Y_J7_fill_53178 2 := ⟨ok_J7_fill_53178, pj_m 95 (by decide +kernel)⟩
end
section
def P_X0_init : List (Nat × Instr × Nat) := [(0, .aload_n 0, 1), (1, .invokespecial 3, 3), (4, .aload_n 0, 1), (5, .bipush 16, 2), (7, .newarray .int, 2), (9, .putfield 11, 3), (12, .return_, 1)]
theorem p_X0_init : pj_tab cX0_init P_X0_init = true := by decide +kernel
def P_X0_start : List (Nat × Instr × Nat) := [(0, .aload_n 0, 1), (1, .iconst 0, 1), (2, .putfield 15, 3), (5, .aload_n 0, 1), (6, .iload_n 1, 1), (7, .putfield 19, 3), (10, .return_, 1)]
theorem p_X0_start : pj_tab cX0_start P_X0_start = true := by decide +kernel
def P_X0_begin : List (Nat × Instr × Nat) := [(0, .aload_n 0, 1), (1, .getfield 15, 3), (4, .bipush 16, 2), (6, .if_icmp .ge 23, 3), (9, .aload_n 0, 1), (10, .getfield 11, 3), (13, .aload_n 0, 1), (14, .getfield 15, 3), (17, .iload_n 1, 1), (18, .iastore, 1), (19, .aload_n 0, 1), (20, .dup, 1), (21, .getfield 15, 3), (24, .iconst 1, 1), (25, .iadd, 1), (26, .putfield 15, 3), (29, .return_, 1)]
theorem p_X0_begin : pj_tab cX0_begin P_X0_begin = true := by decide +kernel
def P_X0_missingToday : List (Nat × Instr × Nat) := [(0, .aload_n 0, 1), (1, .getfield 19, 3), (4, .ireturn, 1)]
theorem p_X0_missingToday : pj_tab cX0_missingToday P_X0_missingToday = true := by decide +kernel
def P_X0_left : List (Nat × Instr × Nat) := [(0, .iload_n 1, 1), (1, .ifCond .lt 20, 3), (4, .iload_n 1, 1), (5, .aload_n 0, 1), (6, .getfield 15, 3), (9, .if_icmp .ge 12, 3), (12, .aload_n 0, 1), (13, .getfield 11, 3), (16, .iload_n 1, 1), (17, .iaload, 1), (18, .goto 5, 3), (21, .ldc 22, 2), (23, .ireturn, 1)]
theorem p_X0_left : pj_tab cX0_left P_X0_left = true := by decide +kernel
def P_X1_init : List (Nat × Instr × Nat) := [(0, .aload_n 0, 1), (1, .iload_n 1, 1), (2, .iload_n 2, 1), (3, .iload_n 3, 1), (4, .invokespecial 1, 3), (7, .return_, 1)]
theorem p_X1_init : pj_tab cX1_init P_X1_init = true := by decide +kernel
def P_X1_kindTold : List (Nat × Instr × Nat) := [(0, .iconst 1, 1), (1, .ireturn, 1)]
theorem p_X1_kindTold : pj_tab cX1_kindTold P_X1_kindTold = true := by decide +kernel
def P_X1_lookOf : List (Nat × Instr × Nat) := [(0, .iload_n 1, 1), (1, .iload_n 2, 1), (2, .iconst (-1), 1), (3, .ixor, 1), (4, .iand, 1), (5, .ireturn, 1)]
theorem p_X1_lookOf : pj_tab cX1_lookOf P_X1_lookOf = true := by decide +kernel
def P_X1_sizeAsked : List (Nat × Instr × Nat) := [(0, .aload_n 1, 1), (1, .bipush 11, 2), (3, .invokevirtual 9, 3), (6, .aload_n 0, 1), (7, .aload_n 1, 1), (8, .invokespecial 15, 3), (11, .istore_n 2, 1), (12, .iload_n 2, 1), (13, .aload_n 0, 1), (14, .aload_n 1, 1), (15, .invokevirtual 19, 3), (18, .iadd, 1), (19, .ireturn, 1)]
theorem p_X1_sizeAsked : pj_tab cX1_sizeAsked P_X1_sizeAsked = true := by decide +kernel
def P_X1_markAsked : List (Nat × Instr × Nat) := [(0, .aload_n 1, 1), (1, .bipush 21, 2), (3, .invokevirtual 9, 3), (6, .aload_n 0, 1), (7, .aload_n 1, 1), (8, .invokespecial 24, 3), (11, .istore_n 2, 1), (12, .iload_n 2, 1), (13, .aload_n 0, 1), (14, .aload_n 1, 1), (15, .invokevirtual 25, 3), (18, .invokevirtual 29, 3), (21, .iadd, 1), (22, .ireturn, 1)]
theorem p_X1_markAsked : pj_tab cX1_markAsked P_X1_markAsked = true := by decide +kernel
def P_X2_init : List (Nat × Instr × Nat) := [(0, .aload_n 0, 1), (1, .iload_n 1, 1), (2, .iload_n 2, 1), (3, .iload_n 3, 1), (4, .invokespecial 1, 3), (7, .return_, 1)]
theorem p_X2_init : pj_tab cX2_init P_X2_init = true := by decide +kernel
def P_X2_kindTold : List (Nat × Instr × Nat) := [(0, .iconst 5, 1), (1, .ireturn, 1)]
theorem p_X2_kindTold : pj_tab cX2_kindTold P_X2_kindTold = true := by decide +kernel
def P_X2_lookOf : List (Nat × Instr × Nat) := [(0, .iconst 0, 1), (1, .ireturn, 1)]
theorem p_X2_lookOf : pj_tab cX2_lookOf P_X2_lookOf = true := by decide +kernel
def P_X2_sizeAsked : List (Nat × Instr × Nat) := [(0, .aload_n 1, 1), (1, .bipush 14, 2), (3, .invokevirtual 9, 3), (6, .iconst 2, 1), (7, .aload_n 0, 1), (8, .aload_n 1, 1), (9, .invokespecial 15, 3), (12, .imul, 1), (13, .ireturn, 1)]
theorem p_X2_sizeAsked : pj_tab cX2_sizeAsked P_X2_sizeAsked = true := by decide +kernel
def P_X3_init : List (Nat × Instr × Nat) := [(0, .aload_n 0, 1), (1, .invokespecial 3, 3), (4, .aload_n 0, 1), (5, .bipush 7, 2), (7, .newarray .int, 2), (9, .putfield 11, 3), (12, .aload_n 0, 1), (13, .bipush 6, 2), (15, .newarray .int, 2), (17, .putfield 17, 3), (20, .aload_n 0, 1), (21, .sipush 896, 3), (24, .newarray .int, 2), (26, .putfield 20, 3), (29, .return_, 1)]
theorem p_X3_init : pj_tab cX3_init P_X3_init = true := by decide +kernel
def P_X3_lookAt : List (Nat × Instr × Nat) := [(0, .iconst 0, 1), (1, .istore_n 3, 1), (2, .iload_n 3, 1), (3, .aload_n 1, 1), (4, .invokevirtual 23, 3), (7, .if_icmp .ge 24, 3), (10, .aload_n 0, 1), (11, .getfield 11, 3), (14, .iload_n 3, 1), (15, .aload_n 1, 1), (16, .iload_n 3, 1), (17, .invokevirtual 27, 3), (20, .iload_n 2, 1), (21, .invokevirtual 31, 3), (24, .iastore, 1), (25, .iinc 3 1, 3), (28, .goto (-26), 3), (31, .return_, 1)]
theorem p_X3_lookAt : pj_tab cX3_lookAt P_X3_lookAt = true := by decide +kernel
def P_X3_alikeWith : List (Nat × Instr × Nat) := [(0, .aload_n 0, 1), (1, .aload_n 1, 1), (2, .aload_n 1, 1), (3, .iload_n 3, 1), (4, .invokevirtual 37, 3), (7, .invokevirtual 40, 3), (10, .iconst 0, 1), (11, .istore 4, 2), (13, .iconst 0, 1), (14, .istore 5, 2), (16, .iload 5, 2), (18, .aload_n 1, 1), (19, .invokevirtual 23, 3), (22, .if_icmp .ge 34, 3), (25, .aload_n 0, 1), (26, .getfield 11, 3), (29, .iload 5, 2), (31, .iaload, 1), (32, .aload_n 0, 1), (33, .getfield 11, 3), (36, .iload_n 2, 1), (37, .iaload, 1), (38, .if_icmp .ne 12, 3), (41, .iload 4, 2), (43, .iconst 1, 1), (44, .iload 5, 2), (46, .ishl, 1), (47, .ior, 1), (48, .istore 4, 2), (50, .iinc 5 1, 3), (53, .goto (-37), 3), (56, .iload 4, 2), (58, .ireturn, 1)]
theorem p_X3_alikeWith : pj_tab cX3_alikeWith P_X3_alikeWith = true := by decide +kernel
def P_X3_unlikeLooks : List (Nat × Instr × Nat) := [(0, .iconst 0, 1), (1, .istore_n 3, 1), (2, .iconst 0, 1), (3, .istore 4, 2), (5, .iload 4, 2), (7, .aload_n 1, 1), (8, .invokevirtual 23, 3), (11, .if_icmp .ge 34, 3), (14, .iconst 1, 1), (15, .iload 4, 2), (17, .ishl, 1), (18, .iconst 1, 1), (19, .isub, 1), (20, .istore 5, 2), (22, .aload_n 0, 1), (23, .aload_n 1, 1), (24, .iload 4, 2), (26, .iload_n 2, 1), (27, .invokevirtual 44, 3), (30, .iload 5, 2), (32, .iand, 1), (33, .ifCond .ne 6, 3), (36, .iinc 3 1, 3), (39, .iinc 4 1, 3), (42, .goto (-37), 3), (45, .iload_n 3, 1), (46, .ireturn, 1)]
theorem p_X3_unlikeLooks : pj_tab cX3_unlikeLooks P_X3_unlikeLooks = true := by decide +kernel
def P_X3_harmOfDays : List (Nat × Instr × Nat) := [(0, .iconst 0, 1), (1, .istore_n 3, 1), (2, .iconst 0, 1), (3, .istore 4, 2), (5, .iload 4, 2), (7, .iload_n 2, 1), (8, .if_icmp .ge 22, 3), (11, .iload_n 3, 1), (12, .aload_n 1, 1), (13, .aload_n 1, 1), (14, .iload 4, 2), (16, .invokevirtual 37, 3), (19, .invokevirtual 48, 3), (22, .iadd, 1), (23, .istore_n 3, 1), (24, .iinc 4 1, 3), (27, .goto (-22), 3), (30, .iload_n 3, 1), (31, .ireturn, 1)]
theorem p_X3_harmOfDays : pj_tab cX3_harmOfDays P_X3_harmOfDays = true := by decide +kernel
def P_X3_clearDays : List (Nat × Instr × Nat) := [(0, .iconst 0, 1), (1, .istore_n 2, 1), (2, .iconst 0, 1), (3, .istore_n 3, 1), (4, .iload_n 3, 1), (5, .bipush 7, 2), (7, .if_icmp .ge 27, 3), (10, .aload_n 1, 1), (11, .aload_n 1, 1), (12, .iload_n 3, 1), (13, .invokevirtual 37, 3), (16, .invokevirtual 48, 3), (19, .ifCond .ne 9, 3), (22, .iload_n 2, 1), (23, .iconst 1, 1), (24, .iload_n 3, 1), (25, .ishl, 1), (26, .ior, 1), (27, .istore_n 2, 1), (28, .iinc 3 1, 3), (31, .goto (-27), 3), (34, .iload_n 2, 1), (35, .ireturn, 1)]
theorem p_X3_clearDays : pj_tab cX3_clearDays P_X3_clearDays = true := by decide +kernel
def P_X3_worstDay : List (Nat × Instr × Nat) := [(0, .iconst 0, 1), (1, .istore_n 2, 1), (2, .iconst (-1), 1), (3, .istore_n 3, 1), (4, .iconst 0, 1), (5, .istore 4, 2), (7, .iload 4, 2), (9, .bipush 7, 2), (11, .if_icmp .ge 33, 3), (14, .aload_n 1, 1), (15, .aload_n 1, 1), (16, .iload 4, 2), (18, .invokevirtual 37, 3), (21, .invokevirtual 48, 3), (24, .istore 5, 2), (26, .iload 5, 2), (28, .iload_n 3, 1), (29, .if_icmp .le 9, 3), (32, .iload 5, 2), (34, .istore_n 3, 1), (35, .iload 4, 2), (37, .istore_n 2, 1), (38, .iinc 4 1, 3), (41, .goto (-34), 3), (44, .iload_n 2, 1), (45, .ireturn, 1)]
theorem p_X3_worstDay : pj_tab cX3_worstDay P_X3_worstDay = true := by decide +kernel
def P_X3_leastHarmPaint : List (Nat × Instr × Nat) := [(0, .aload_n 0, 1), (1, .aload_n 1, 1), (2, .bipush 7, 2), (4, .invokevirtual 51, 3), (7, .istore_n 3, 1), (8, .ldc 55, 2), (10, .istore 4, 2), (12, .ldc 55, 2), (14, .istore 5, 2), (16, .iconst 0, 1), (17, .istore 6, 2), (19, .iload 6, 2), (21, .aload_n 1, 1), (22, .invokevirtual 23, 3), (25, .if_icmp .ge 100, 3), (28, .aload_n 1, 1), (29, .iload 6, 2), (31, .invokevirtual 27, 3), (34, .invokevirtual 56, 3), (37, .ifCond .ne 6, 3), (40, .goto 79, 3), (43, .iload_n 3, 1), (44, .aload_n 1, 1), (45, .iload 6, 2), (47, .aload_n 1, 1), (48, .iload 6, 2), (50, .invokevirtual 27, 3), (53, .invokevirtual 60, 3), (56, .invokestatic 63, 3), (59, .isub, 1), (60, .istore 7, 2), (62, .iconst 1, 1), (63, .istore 8, 2), (65, .iload 8, 2), (67, .bipush 31, 2), (69, .if_icmp .gt 50, 3), (72, .iload 7, 2), (74, .aload_n 1, 1), (75, .iload 6, 2), (77, .iload 8, 2), (79, .invokestatic 63, 3), (82, .iadd, 1), (83, .istore 9, 2), (85, .iload 4, 2), (87, .ldc 55, 2), (89, .if_icmp .eq 10, 3), (92, .iload 9, 2), (94, .iload 5, 2), (96, .if_icmp .ge 17, 3), (99, .bipush 32, 2), (101, .iload 6, 2), (103, .imul, 1), (104, .iload 8, 2), (106, .iadd, 1), (107, .istore 4, 2), (109, .iload 9, 2), (111, .istore 5, 2), (113, .iinc 8 1, 3), (116, .goto (-51), 3), (119, .iinc 6 1, 3), (122, .goto (-103), 3), (125, .iload_n 2, 1), (126, .ifCond .ne 8, 3), (129, .iload 4, 2), (131, .goto 5, 3), (134, .iload 5, 2), (136, .ireturn, 1)]
theorem p_X3_leastHarmPaint : pj_tab cX3_leastHarmPaint P_X3_leastHarmPaint = true := by decide +kernel
def P_X3_weekHarmWith : List (Nat × Instr × Nat) := [(0, .iconst 0, 1), (1, .istore_n 3, 1), (2, .iconst 0, 1), (3, .istore 4, 2), (5, .iload 4, 2), (7, .aload_n 0, 1), (8, .invokevirtual 23, 3), (11, .if_icmp .ge 47, 3), (14, .iload 4, 2), (16, .iload_n 1, 1), (17, .if_icmp .ne 7, 3), (20, .iconst 0, 1), (21, .goto 10, 3), (24, .aload_n 0, 1), (25, .iload_n 1, 1), (26, .iload 4, 2), (28, .invokevirtual 66, 3), (31, .istore 5, 2), (33, .iload 5, 2), (35, .ifCond .eq 17, 3), (38, .iload_n 3, 1), (39, .iload 5, 2), (41, .aload_n 0, 1), (42, .iload_n 1, 1), (43, .iload_n 2, 1), (44, .iload 4, 2), (46, .invokestatic 70, 3), (49, .imul, 1), (50, .iadd, 1), (51, .istore_n 3, 1), (52, .iinc 4 1, 3), (55, .goto (-50), 3), (58, .iload_n 3, 1), (59, .ireturn, 1)]
theorem p_X3_weekHarmWith : pj_tab cX3_weekHarmWith P_X3_weekHarmWith = true := by decide +kernel
def P_X3_daysAlike : List (Nat × Instr × Nat) := [(0, .iconst 0, 1), (1, .istore 4, 2), (3, .iconst 0, 1), (4, .istore 5, 2), (6, .iload 5, 2), (8, .bipush 7, 2), (10, .if_icmp .ge 44, 3), (13, .aload_n 0, 1), (14, .iload 5, 2), (16, .invokevirtual 74, 3), (19, .istore 6, 2), (21, .aload_n 0, 1), (22, .iload_n 1, 1), (23, .invokevirtual 27, 3), (26, .iload_n 2, 1), (27, .iload 6, 2), (29, .invokevirtual 77, 3), (32, .aload_n 0, 1), (33, .iload_n 3, 1), (34, .invokevirtual 27, 3), (37, .iload 6, 2), (39, .invokevirtual 31, 3), (42, .if_icmp .ne 6, 3), (45, .iinc 4 1, 3), (48, .iinc 5 1, 3), (51, .goto (-45), 3), (54, .iload 4, 2), (56, .ireturn, 1)]
theorem p_X3_daysAlike : pj_tab cX3_daysAlike P_X3_daysAlike = true := by decide +kernel
def P_X3_countDyePairs : List (Nat × Instr × Nat) := [(0, .iconst 0, 1), (1, .istore_n 2, 1), (2, .iconst 1, 1), (3, .istore_n 3, 1), (4, .iload_n 3, 1), (5, .bipush 31, 2), (7, .if_icmp .gt 40, 3), (10, .iload_n 3, 1), (11, .iconst 1, 1), (12, .iadd, 1), (13, .istore 4, 2), (15, .iload 4, 2), (17, .bipush 31, 2), (19, .if_icmp .gt 22, 3), (22, .aload_n 1, 1), (23, .iload_n 3, 1), (24, .iload 4, 2), (26, .invokestatic 80, 3), (29, .ifCond .eq 6, 3), (32, .iinc 2 1, 3), (35, .iinc 4 1, 3), (38, .goto (-23), 3), (41, .iinc 3 1, 3), (44, .goto (-40), 3), (47, .iload_n 2, 1), (48, .ireturn, 1)]
theorem p_X3_countDyePairs : pj_tab cX3_countDyePairs P_X3_countDyePairs = true := by decide +kernel
def P_X3_dyeOfFirstRow : List (Nat × Instr × Nat) := [(0, .aload_n 0, 1), (1, .aload_n 1, 1), (2, .iload_n 2, 1), (3, .iconst 0, 1), (4, .invokevirtual 84, 3), (7, .istore 4, 2), (9, .iload 4, 2), (11, .ifCond .eq 22, 3), (14, .iload_n 3, 1), (15, .ifCond .lt 18, 3), (18, .iload_n 3, 1), (19, .bipush 6, 2), (21, .if_icmp .ge 12, 3), (24, .aload_n 0, 1), (25, .getfield 17, 3), (28, .iload_n 3, 1), (29, .iaload, 1), (30, .goto 5, 3), (33, .ldc 55, 2), (35, .ireturn, 1)]
theorem p_X3_dyeOfFirstRow : pj_tab cX3_dyeOfFirstRow P_X3_dyeOfFirstRow = true := by decide +kernel
def P_X3_fillDyes : List (Nat × Instr × Nat) := [(0, .iload_n 3, 1), (1, .iload_n 2, 1), (2, .if_icmp .ge 9, 3), (5, .iload_n 3, 1), (6, .bipush 6, 2), (8, .if_icmp .lt 5, 3), (11, .iconst 1, 1), (12, .ireturn, 1), (13, .iload_n 3, 1), (14, .ifCond .ne 7, 3), (17, .iconst 1, 1), (18, .goto 13, 3), (21, .aload_n 0, 1), (22, .getfield 17, 3), (25, .iload_n 3, 1), (26, .iconst 1, 1), (27, .isub, 1), (28, .iaload, 1), (29, .iconst 1, 1), (30, .iadd, 1), (31, .istore 4, 2), (33, .iload 4, 2), (35, .istore 5, 2), (37, .iload 5, 2), (39, .bipush 31, 2), (41, .if_icmp .gt 42, 3), (44, .aload_n 0, 1), (45, .aload_n 1, 1), (46, .iload 5, 2), (48, .iload_n 3, 1), (49, .invokevirtual 87, 3), (52, .ifCond .eq 25, 3), (55, .aload_n 0, 1), (56, .getfield 17, 3), (59, .iload_n 3, 1), (60, .iload 5, 2), (62, .iastore, 1), (63, .aload_n 0, 1), (64, .aload_n 1, 1), (65, .iload_n 2, 1), (66, .iload_n 3, 1), (67, .iconst 1, 1), (68, .iadd, 1), (69, .invokevirtual 84, 3), (72, .ifCond .eq 5, 3), (75, .iconst 1, 1), (76, .ireturn, 1), (77, .iinc 5 1, 3), (80, .goto (-43), 3), (83, .iconst 0, 1), (84, .ireturn, 1)]
theorem p_X3_fillDyes : pj_tab cX3_fillDyes P_X3_fillDyes = true := by decide +kernel
def P_X3_isApartFromRow : List (Nat × Instr × Nat) := [(0, .iconst 0, 1), (1, .istore 4, 2), (3, .iload 4, 2), (5, .iload_n 3, 1), (6, .if_icmp .ge 33, 3), (9, .iload 4, 2), (11, .bipush 6, 2), (13, .if_icmp .ge 26, 3), (16, .aload_n 1, 1), (17, .aload_n 0, 1), (18, .getfield 17, 3), (21, .iload 4, 2), (23, .iaload, 1), (24, .iload_n 2, 1), (25, .invokestatic 80, 3), (28, .ifCond .ne 5, 3), (31, .iconst 0, 1), (32, .ireturn, 1), (33, .iinc 4 1, 3), (36, .goto (-33), 3), (39, .iconst 1, 1), (40, .ireturn, 1)]
theorem p_X3_isApartFromRow : pj_tab cX3_isApartFromRow P_X3_isApartFromRow = true := by decide +kernel
def P_X3_areApart : List (Nat × Instr × Nat) := [(0, .iconst 0, 1), (1, .istore_n 3, 1), (2, .iload_n 3, 1), (3, .bipush 7, 2), (5, .if_icmp .ge 33, 3), (8, .aload_n 0, 1), (9, .iload_n 3, 1), (10, .invokevirtual 74, 3), (13, .istore 4, 2), (15, .iload_n 1, 1), (16, .iload 4, 2), (18, .iconst (-1), 1), (19, .ixor, 1), (20, .iand, 1), (21, .iload_n 2, 1), (22, .iload 4, 2), (24, .iconst (-1), 1), (25, .ixor, 1), (26, .iand, 1), (27, .if_icmp .ne 5, 3), (30, .iconst 0, 1), (31, .ireturn, 1), (32, .iinc 3 1, 3), (35, .goto (-33), 3), (38, .iconst 1, 1), (39, .ireturn, 1)]
theorem p_X3_areApart : pj_tab cX3_areApart P_X3_areApart = true := by decide +kernel
def P_X3_bestHiding : List (Nat × Instr × Nat) := [(0, .ldc 55, 2), (2, .istore_n 3, 1), (3, .ldc 55, 2), (5, .istore 4, 2), (7, .iconst 0, 1), (8, .istore 5, 2), (10, .iload 5, 2), (12, .bipush 7, 2), (14, .if_icmp .ge 63, 3), (17, .iconst 0, 1), (18, .istore 6, 2), (20, .iload 6, 2), (22, .aload_n 1, 1), (23, .invokevirtual 23, 3), (26, .if_icmp .ge 45, 3), (29, .aload_n 0, 1), (30, .aload_n 1, 1), (31, .iload 6, 2), (33, .iload 5, 2), (35, .invokevirtual 44, 3), (38, .invokestatic 90, 3), (41, .iconst 1, 1), (42, .isub, 1), (43, .istore 7, 2), (45, .iload 7, 2), (47, .iload 4, 2), (49, .if_icmp .le 16, 3), (52, .bipush 7, 2), (54, .iload 5, 2), (56, .imul, 1), (57, .iload 6, 2), (59, .iadd, 1), (60, .istore_n 3, 1), (61, .iload 7, 2), (63, .istore 4, 2), (65, .iinc 6 1, 3), (68, .goto (-48), 3), (71, .iinc 5 1, 3), (74, .goto (-64), 3), (77, .iload_n 2, 1), (78, .ifCond .ne 7, 3), (81, .iload_n 3, 1), (82, .goto 5, 3), (85, .iload 4, 2), (87, .ireturn, 1)]
theorem p_X3_bestHiding : pj_tab cX3_bestHiding P_X3_bestHiding = true := by decide +kernel
def P_X3_weekdaysSeen : List (Nat × Instr × Nat) := [(0, .iconst 0, 1), (1, .istore 5, 2), (3, .iconst 0, 1), (4, .istore 6, 2), (6, .iload 6, 2), (8, .bipush 7, 2), (10, .if_icmp .ge 87, 3), (13, .aload_n 0, 1), (14, .aload_n 1, 1), (15, .aload_n 1, 1), (16, .iload 6, 2), (18, .invokevirtual 74, 3), (21, .invokevirtual 40, 3), (24, .iconst 1, 1), (25, .istore 7, 2), (27, .iconst 0, 1), (28, .istore 8, 2), (30, .iload 8, 2), (32, .aload_n 1, 1), (33, .invokevirtual 23, 3), (36, .if_icmp .ge 41, 3), (39, .iload 7, 2), (41, .ifCond .eq 27, 3), (44, .aload_n 2, 1), (45, .iload_n 3, 1), (46, .iload 4, 2), (48, .iload 8, 2), (50, .iadd, 1), (51, .invokevirtual 95, 3), (54, .aload_n 0, 1), (55, .getfield 11, 3), (58, .iload 8, 2), (60, .iaload, 1), (61, .if_icmp .ne 7, 3), (64, .iconst 1, 1), (65, .goto 4, 3), (68, .iconst 0, 1), (69, .istore 7, 2), (71, .iinc 8 1, 3), (74, .goto (-44), 3), (77, .iload 7, 2), (79, .ifCond .eq 12, 3), (82, .iload 5, 2), (84, .iconst 1, 1), (85, .iload 6, 2), (87, .ishl, 1), (88, .ior, 1), (89, .istore 5, 2), (91, .iinc 6 1, 3), (94, .goto (-88), 3), (97, .iload 5, 2), (99, .ireturn, 1)]
theorem p_X3_weekdaysSeen : pj_tab cX3_weekdaysSeen P_X3_weekdaysSeen = true := by decide +kernel
def P_X3_countOrders : List (Nat × Instr × Nat) := [(0, .aload_n 0, 1), (1, .aload_n 1, 1), (2, .iload_n 2, 1), (3, .invokevirtual 100, 3), (6, .iconst 0, 1), (7, .istore_n 3, 1), (8, .iconst 0, 1), (9, .istore 4, 2), (11, .iload 4, 2), (13, .aload_n 1, 1), (14, .invokevirtual 23, 3), (17, .if_icmp .ge 26, 3), (20, .iload_n 3, 1), (21, .aload_n 0, 1), (22, .getfield 20, 3), (25, .iconst 1, 1), (26, .iload 4, 2), (28, .ishl, 1), (29, .iload 4, 2), (31, .invokestatic 103, 3), (34, .iaload, 1), (35, .iadd, 1), (36, .istore_n 3, 1), (37, .iinc 4 1, 3), (40, .goto (-29), 3), (43, .aload_n 1, 1), (44, .invokevirtual 23, 3), (47, .ifCond .ne 7, 3), (50, .iconst 1, 1), (51, .goto 4, 3), (54, .iload_n 3, 1), (55, .ireturn, 1)]
theorem p_X3_countOrders : pj_tab cX3_countOrders P_X3_countOrders = true := by decide +kernel
def P_X3_placeOfFirstOrder : List (Nat × Instr × Nat) := [(0, .aload_n 0, 1), (1, .aload_n 1, 1), (2, .iload_n 2, 1), (3, .invokevirtual 100, 3), (6, .iload_n 3, 1), (7, .aload_n 1, 1), (8, .invokevirtual 23, 3), (11, .if_icmp .lt 6, 3), (14, .ldc 55, 2), (16, .ireturn, 1), (17, .iconst 0, 1), (18, .istore 4, 2), (20, .ldc 55, 2), (22, .istore 5, 2), (24, .iconst 0, 1), (25, .istore 6, 2), (27, .iload 6, 2), (29, .iload_n 3, 1), (30, .if_icmp .gt 39, 3), (33, .aload_n 0, 1), (34, .aload_n 1, 1), (35, .iload 4, 2), (37, .iload 5, 2), (39, .invokevirtual 106, 3), (42, .istore 5, 2), (44, .iload 5, 2), (46, .ldc 55, 2), (48, .if_icmp .ne 6, 3), (51, .ldc 55, 2), (53, .ireturn, 1), (54, .iload 4, 2), (56, .iconst 1, 1), (57, .iload 5, 2), (59, .ishl, 1), (60, .ior, 1), (61, .istore 4, 2), (63, .iinc 6 1, 3), (66, .goto (-39), 3), (69, .iload 5, 2), (71, .ireturn, 1)]
theorem p_X3_placeOfFirstOrder : pj_tab cX3_placeOfFirstOrder P_X3_placeOfFirstOrder = true := by decide +kernel
def P_X3_countEndings : List (Nat × Instr × Nat) := [(0, .aload_n 0, 1), (1, .aload_n 1, 1), (2, .aload_n 1, 1), (3, .iload_n 2, 1), (4, .invokevirtual 37, 3), (7, .invokevirtual 40, 3), (10, .iconst 1, 1), (11, .aload_n 1, 1), (12, .invokevirtual 23, 3), (15, .ishl, 1), (16, .iconst 1, 1), (17, .isub, 1), (18, .istore_n 3, 1), (19, .iload_n 3, 1), (20, .istore 4, 2), (22, .iload 4, 2), (24, .ifCond .le 58, 3), (27, .iconst 0, 1), (28, .istore 5, 2), (30, .iload 5, 2), (32, .aload_n 1, 1), (33, .invokevirtual 23, 3), (36, .if_icmp .ge 40, 3), (39, .aload_n 0, 1), (40, .getfield 20, 3), (43, .iload 4, 2), (45, .iload 5, 2), (47, .invokestatic 103, 3), (50, .iload 4, 2), (52, .iload_n 3, 1), (53, .if_icmp .ne 7, 3), (56, .iconst 1, 1), (57, .goto 12, 3), (60, .aload_n 0, 1), (61, .aload_n 1, 1), (62, .iload 4, 2), (64, .iload 5, 2), (66, .invokevirtual 109, 3), (69, .iastore, 1), (70, .iinc 5 1, 3), (73, .goto (-43), 3), (76, .iinc 4 (-1), 3), (79, .goto (-57), 3), (82, .return_, 1)]
theorem p_X3_countEndings : pj_tab cX3_countEndings P_X3_countEndings = true := by decide +kernel
def P_X3_waysOn : List (Nat × Instr × Nat) := [(0, .iconst 0, 1), (1, .istore 4, 2), (3, .iconst 0, 1), (4, .istore 5, 2), (6, .iload 5, 2), (8, .aload_n 1, 1), (9, .invokevirtual 23, 3), (12, .if_icmp .ge 41, 3), (15, .aload_n 0, 1), (16, .iload_n 2, 1), (17, .iload_n 3, 1), (18, .iload 5, 2), (20, .invokevirtual 112, 3), (23, .ifCond .eq 24, 3), (26, .iload 4, 2), (28, .aload_n 0, 1), (29, .getfield 20, 3), (32, .iload_n 2, 1), (33, .iconst 1, 1), (34, .iload 5, 2), (36, .ishl, 1), (37, .ior, 1), (38, .iload 5, 2), (40, .invokestatic 103, 3), (43, .iaload, 1), (44, .iadd, 1), (45, .istore 4, 2), (47, .iinc 5 1, 3), (50, .goto (-44), 3), (53, .iload 4, 2), (55, .ireturn, 1)]
theorem p_X3_waysOn : pj_tab cX3_waysOn P_X3_waysOn = true := by decide +kernel
def P_X3_nextOnShelf : List (Nat × Instr × Nat) := [(0, .iconst 0, 1), (1, .istore 4, 2), (3, .iload 4, 2), (5, .aload_n 1, 1), (6, .invokevirtual 23, 3), (9, .if_icmp .ge 42, 3), (12, .aload_n 0, 1), (13, .iload_n 2, 1), (14, .iload_n 3, 1), (15, .iload 4, 2), (17, .invokevirtual 112, 3), (20, .ifCond .eq 25, 3), (23, .aload_n 0, 1), (24, .getfield 20, 3), (27, .iload_n 2, 1), (28, .iconst 1, 1), (29, .iload 4, 2), (31, .ishl, 1), (32, .ior, 1), (33, .iload 4, 2), (35, .invokestatic 103, 3), (38, .iaload, 1), (39, .ifCond .le 6, 3), (42, .iload 4, 2), (44, .ireturn, 1), (45, .iinc 4 1, 3), (48, .goto (-45), 3), (51, .ldc 55, 2), (53, .ireturn, 1)]
theorem p_X3_nextOnShelf : pj_tab cX3_nextOnShelf P_X3_nextOnShelf = true := by decide +kernel
def P_X3_canFollow : List (Nat × Instr × Nat) := [(0, .iload_n 1, 1), (1, .iload_n 3, 1), (2, .ishr, 1), (3, .iconst 1, 1), (4, .iand, 1), (5, .ifCond .eq 5, 3), (8, .iconst 0, 1), (9, .ireturn, 1), (10, .iload_n 2, 1), (11, .ifCond .lt 18, 3), (14, .aload_n 0, 1), (15, .getfield 11, 3), (18, .iload_n 2, 1), (19, .iaload, 1), (20, .aload_n 0, 1), (21, .getfield 11, 3), (24, .iload_n 3, 1), (25, .iaload, 1), (26, .if_icmp .eq 7, 3), (29, .iconst 1, 1), (30, .goto 4, 3), (33, .iconst 0, 1), (34, .ireturn, 1)]
theorem p_X3_canFollow : pj_tab cX3_canFollow P_X3_canFollow = true := by decide +kernel
def P_X3_placeOfEnding : List (Nat × Instr × Nat) := [(0, .iload_n 0, 1), (1, .bipush 7, 2), (3, .imul, 1), (4, .iload_n 1, 1), (5, .iadd, 1), (6, .ireturn, 1)]
theorem p_X3_placeOfEnding : pj_tab cX3_placeOfEnding P_X3_placeOfEnding = true := by decide +kernel
def P_X3_countParting : List (Nat × Instr × Nat) := [(0, .iconst 0, 1), (1, .istore 4, 2), (3, .iconst 0, 1), (4, .istore 5, 2), (6, .iload 5, 2), (8, .aload_n 1, 1), (9, .invokevirtual 23, 3), (12, .if_icmp .ge 46, 3), (15, .iload 5, 2), (17, .iconst 1, 1), (18, .iadd, 1), (19, .istore 6, 2), (21, .iload 6, 2), (23, .aload_n 1, 1), (24, .invokevirtual 23, 3), (27, .if_icmp .ge 25, 3), (30, .aload_n 1, 1), (31, .iload 5, 2), (33, .iload 6, 2), (35, .iload_n 2, 1), (36, .iload_n 3, 1), (37, .invokestatic 116, 3), (40, .ifCond .eq 6, 3), (43, .iinc 4 1, 3), (46, .iinc 6 1, 3), (49, .goto (-28), 3), (52, .iinc 5 1, 3), (55, .goto (-49), 3), (58, .iload 4, 2), (60, .ireturn, 1)]
theorem p_X3_countParting : pj_tab cX3_countParting P_X3_countParting = true := by decide +kernel
def P_X3_firstParting : List (Nat × Instr × Nat) := [(0, .iconst 0, 1), (1, .istore 4, 2), (3, .iload 4, 2), (5, .aload_n 1, 1), (6, .invokevirtual 23, 3), (9, .if_icmp .ge 52, 3), (12, .iload 4, 2), (14, .iconst 1, 1), (15, .iadd, 1), (16, .istore 5, 2), (18, .iload 5, 2), (20, .aload_n 1, 1), (21, .invokevirtual 23, 3), (24, .if_icmp .ge 31, 3), (27, .aload_n 1, 1), (28, .iload 4, 2), (30, .iload 5, 2), (32, .iload_n 2, 1), (33, .iload_n 3, 1), (34, .invokestatic 116, 3), (37, .ifCond .eq 12, 3), (40, .bipush 7, 2), (42, .iload 4, 2), (44, .imul, 1), (45, .iload 5, 2), (47, .iadd, 1), (48, .ireturn, 1), (49, .iinc 5 1, 3), (52, .goto (-34), 3), (55, .iinc 4 1, 3), (58, .goto (-55), 3), (61, .ldc 55, 2), (63, .ireturn, 1)]
theorem p_X3_firstParting : pj_tab cX3_firstParting P_X3_firstParting = true := by decide +kernel
def P_X3_partsBy : List (Nat × Instr × Nat) := [(0, .aload_n 0, 1), (1, .iload_n 1, 1), (2, .iload_n 2, 1), (3, .aload_n 0, 1), (4, .iload_n 3, 1), (5, .invokevirtual 37, 3), (8, .invokevirtual 120, 3), (11, .ifCond .eq 22, 3), (14, .aload_n 0, 1), (15, .iload_n 1, 1), (16, .iload_n 2, 1), (17, .aload_n 0, 1), (18, .iload 4, 2), (20, .invokevirtual 37, 3), (23, .invokevirtual 120, 3), (26, .ifCond .ne 7, 3), (29, .iconst 1, 1), (30, .goto 4, 3), (33, .iconst 0, 1), (34, .ireturn, 1)]
theorem p_X3_partsBy : pj_tab cX3_partsBy P_X3_partsBy = true := by decide +kernel
def P_X3_fewestMissing : List (Nat × Instr × Nat) := [(0, .ldc 55, 2), (2, .istore 4, 2), (4, .iconst 0, 1), (5, .istore 5, 2), (7, .iload 5, 2), (9, .bipush 31, 2), (11, .if_icmp .gt 56, 3), (14, .iload 4, 2), (16, .ldc 55, 2), (18, .if_icmp .eq 16, 3), (21, .iload 5, 2), (23, .invokestatic 90, 3), (26, .iload 4, 2), (28, .invokestatic 90, 3), (31, .if_icmp .ge 7, 3), (34, .iconst 1, 1), (35, .goto 4, 3), (38, .iconst 0, 1), (39, .istore 6, 2), (41, .iload 6, 2), (43, .ifCond .eq 18, 3), (46, .aload_n 1, 1), (47, .iload_n 2, 1), (48, .iload_n 3, 1), (49, .iload 5, 2), (51, .invokevirtual 120, 3), (54, .ifCond .eq 7, 3), (57, .iload 5, 2), (59, .istore 4, 2), (61, .iinc 5 1, 3), (64, .goto (-57), 3), (67, .iload 4, 2), (69, .ireturn, 1)]
theorem p_X3_fewestMissing : pj_tab cX3_fewestMissing P_X3_fewestMissing = true := by decide +kernel
def P_X3_bestTest : List (Nat × Instr × Nat) := [(0, .aload_n 0, 1), (1, .aload_n 1, 1), (2, .aload_n 1, 1), (3, .iload_n 2, 1), (4, .invokevirtual 37, 3), (7, .invokevirtual 40, 3), (10, .iconst (-1), 1), (11, .istore 6, 2), (13, .iconst 0, 1), (14, .istore 7, 2), (16, .iconst 0, 1), (17, .istore 8, 2), (19, .iload 8, 2), (21, .iconst 4, 1), (22, .if_icmp .ge 101, 3), (25, .iload 8, 2), (27, .iconst 1, 1), (28, .iand, 1), (29, .ifCond .eq 7, 3), (32, .iconst 1, 1), (33, .goto 4, 3), (36, .iconst 0, 1), (37, .istore 9, 2), (39, .iload 8, 2), (41, .iconst 2, 1), (42, .iand, 1), (43, .ifCond .eq 7, 3), (46, .iconst 1, 1), (47, .goto 4, 3), (50, .iconst 0, 1), (51, .istore 10, 2), (53, .iload 9, 2), (55, .ifCond .eq 7, 3), (58, .iload_n 3, 1), (59, .goto 4, 3), (62, .iconst 0, 1), (63, .iload 10, 2), (65, .ifCond .eq 8, 3), (68, .iload 4, 2), (70, .goto 4, 3), (73, .iconst 0, 1), (74, .iadd, 1), (75, .istore 11, 2), (77, .aload_n 0, 1), (78, .aload_n 1, 1), (79, .iload 9, 2), (81, .iload 10, 2), (83, .invokevirtual 123, 3), (86, .istore 12, 2), (88, .iload 12, 2), (90, .iload 6, 2), (92, .if_icmp .gt 17, 3), (95, .iload 12, 2), (97, .iload 6, 2), (99, .if_icmp .ne 18, 3), (102, .iload 11, 2), (104, .iload 7, 2), (106, .if_icmp .ge 11, 3), (109, .iload 12, 2), (111, .istore 6, 2), (113, .iload 11, 2), (115, .istore 7, 2), (117, .iinc 8 1, 3), (120, .goto (-101), 3), (123, .iload 5, 2), (125, .ifCond .ne 8, 3), (128, .iload 6, 2), (130, .goto 5, 3), (133, .iload 7, 2), (135, .ireturn, 1)]
theorem p_X3_bestTest : pj_tab cX3_bestTest P_X3_bestTest = true := by decide +kernel
def P_X3_countTold : List (Nat × Instr × Nat) := [(0, .iconst 0, 1), (1, .istore 4, 2), (3, .iconst 0, 1), (4, .istore 5, 2), (6, .iload 5, 2), (8, .aload_n 1, 1), (9, .invokevirtual 23, 3), (12, .if_icmp .ge 24, 3), (15, .aload_n 0, 1), (16, .aload_n 1, 1), (17, .iload 5, 2), (19, .iload_n 2, 1), (20, .iload_n 3, 1), (21, .invokevirtual 127, 3), (24, .ifCond .eq 6, 3), (27, .iinc 4 1, 3), (30, .iinc 5 1, 3), (33, .goto (-27), 3), (36, .iload 4, 2), (38, .ireturn, 1)]
theorem p_X3_countTold : pj_tab cX3_countTold P_X3_countTold = true := by decide +kernel
def P_X3_isTold : List (Nat × Instr × Nat) := [(0, .iconst 0, 1), (1, .istore 5, 2), (3, .iload 5, 2), (5, .aload_n 1, 1), (6, .invokevirtual 23, 3), (9, .if_icmp .ge 86, 3), (12, .iload_n 3, 1), (13, .ifCond .eq 23, 3), (16, .aload_n 0, 1), (17, .getfield 11, 3), (20, .iload_n 2, 1), (21, .iaload, 1), (22, .aload_n 0, 1), (23, .getfield 11, 3), (26, .iload 5, 2), (28, .iaload, 1), (29, .if_icmp .eq 7, 3), (32, .iconst 1, 1), (33, .goto 4, 3), (36, .iconst 0, 1), (37, .istore 6, 2), (39, .iload 4, 2), (41, .ifCond .eq 27, 3), (44, .aload_n 1, 1), (45, .iload_n 2, 1), (46, .invokevirtual 27, 3), (49, .invokevirtual 131, 3), (52, .aload_n 1, 1), (53, .iload 5, 2), (55, .invokevirtual 27, 3), (58, .invokevirtual 131, 3), (61, .if_icmp .eq 7, 3), (64, .iconst 1, 1), (65, .goto 4, 3), (68, .iconst 0, 1), (69, .istore 7, 2), (71, .iload 5, 2), (73, .iload_n 2, 1), (74, .if_icmp .eq 15, 3), (77, .iload 6, 2), (79, .ifCond .ne 10, 3), (82, .iload 7, 2), (84, .ifCond .ne 5, 3), (87, .iconst 0, 1), (88, .ireturn, 1), (89, .iinc 5 1, 3), (92, .goto (-89), 3), (95, .iconst 1, 1), (96, .ireturn, 1)]
theorem p_X3_isTold : pj_tab cX3_isTold P_X3_isTold = true := by decide +kernel
def P_X3_likelihood : List (Nat × Instr × Nat) := [(0, .lconst 0, 1), (1, .lstore_n 3, 1), (2, .lconst 0, 1), (3, .lstore 5, 2), (5, .iconst 0, 1), (6, .istore 7, 2), (8, .iload 7, 2), (10, .iload_n 0, 1), (11, .if_icmp .gt 46, 3), (14, .iload_n 0, 1), (15, .iload 7, 2), (17, .invokestatic 134, 3), (20, .ldc2_w 138, 3), (23, .iload_n 0, 1), (24, .iload 7, 2), (26, .isub, 1), (27, .invokestatic 140, 3), (30, .lmul, 1), (31, .lstore 8, 2), (33, .lload 5, 2), (35, .lload 8, 2), (37, .ladd, 1), (38, .lstore 5, 2), (40, .iload 7, 2), (42, .iload_n 1, 1), (43, .if_icmp .lt 8, 3), (46, .lload_n 3, 1), (47, .lload 8, 2), (49, .ladd, 1), (50, .lstore_n 3, 1), (51, .iinc 7 1, 3), (54, .goto (-46), 3), (57, .lload_n 3, 1), (58, .lload 5, 2), (60, .invokestatic 144, 3), (63, .lstore 7, 2), (65, .lload 7, 2), (67, .lconst 0, 1), (68, .lcmp, 1), (69, .ifCond .ne 5, 3), (72, .lconst 0, 1), (73, .lreturn, 1), (74, .iload_n 2, 1), (75, .ifCond .ne 7, 3), (78, .lload_n 3, 1), (79, .goto 5, 3), (82, .lload 5, 2), (84, .lload 7, 2), (86, .ldiv, 1), (87, .lreturn, 1)]
theorem p_X3_likelihood : pj_tab cX3_likelihood P_X3_likelihood = true := by decide +kernel
def P_X3_ways : List (Nat × Instr × Nat) := [(0, .lconst 1, 1), (1, .lstore_n 2, 1), (2, .iconst 1, 1), (3, .istore 4, 2), (5, .iload 4, 2), (7, .iload_n 1, 1), (8, .if_icmp .gt 23, 3), (11, .lload_n 2, 1), (12, .iload_n 0, 1), (13, .iload_n 1, 1), (14, .isub, 1), (15, .iload 4, 2), (17, .iadd, 1), (18, .i2l, 1), (19, .lmul, 1), (20, .iload 4, 2), (22, .i2l, 1), (23, .ldiv, 1), (24, .lstore_n 2, 1), (25, .iinc 4 1, 3), (28, .goto (-23), 3), (31, .lload_n 2, 1), (32, .lreturn, 1)]
theorem p_X3_ways : pj_tab cX3_ways P_X3_ways = true := by decide +kernel
def P_X3_power : List (Nat × Instr × Nat) := [(0, .lconst 1, 1), (1, .lstore_n 3, 1), (2, .iconst 0, 1), (3, .istore 5, 2), (5, .iload 5, 2), (7, .iload_n 2, 1), (8, .if_icmp .ge 13, 3), (11, .lload_n 3, 1), (12, .lload_n 0, 1), (13, .lmul, 1), (14, .lstore_n 3, 1), (15, .iinc 5 1, 3), (18, .goto (-13), 3), (21, .lload_n 3, 1), (22, .lreturn, 1)]
theorem p_X3_power : pj_tab cX3_power P_X3_power = true := by decide +kernel
def P_X3_greatestShared : List (Nat × Instr × Nat) := [(0, .lload_n 0, 1), (1, .lstore 4, 2), (3, .lload_n 2, 1), (4, .lstore 6, 2), (6, .iconst 0, 1), (7, .istore 8, 2), (9, .iload 8, 2), (11, .bipush 100, 2), (13, .if_icmp .ge 31, 3), (16, .lload 6, 2), (18, .lconst 0, 1), (19, .lcmp, 1), (20, .ifCond .eq 24, 3), (23, .lload 4, 2), (25, .lload 6, 2), (27, .lrem, 1), (28, .lstore 9, 2), (30, .lload 6, 2), (32, .lstore 4, 2), (34, .lload 9, 2), (36, .lstore 6, 2), (38, .iinc 8 1, 3), (41, .goto (-32), 3), (44, .lload 4, 2), (46, .lreturn, 1)]
theorem p_X3_greatestShared : pj_tab cX3_greatestShared P_X3_greatestShared = true := by decide +kernel
def P_X3_drawnYear : List (Nat × Instr × Nat) := [(0, .iload_n 3, 1), (1, .i2l, 1), (2, .lstore 5, 2), (4, .iconst 0, 1), (5, .istore 7, 2), (7, .iconst 0, 1), (8, .istore 8, 2), (10, .iconst 0, 1), (11, .istore 9, 2), (13, .iload 9, 2), (15, .iload_n 2, 1), (16, .if_icmp .ge 52, 3), (19, .lload 5, 2), (21, .ldc2_w 148, 3), (24, .lmul, 1), (25, .ldc2_w 150, 3), (28, .lrem, 1), (29, .lstore 5, 2), (31, .aload_n 1, 1), (32, .lload 5, 2), (34, .ldc2_w 152, 3), (37, .lrem, 1), (38, .l2i, 1), (39, .invokestatic 154, 3), (42, .invokevirtual 48, 3), (45, .istore 10, 2), (47, .iload 7, 2), (49, .iload 10, 2), (51, .iadd, 1), (52, .istore 7, 2), (54, .iload 10, 2), (56, .ifCond .ne 6, 3), (59, .iinc 8 1, 3), (62, .iinc 9 1, 3), (65, .goto (-52), 3), (68, .iload 4, 2), (70, .ifCond .ne 8, 3), (73, .iload 7, 2), (75, .goto 5, 3), (78, .iload 8, 2), (80, .ireturn, 1)]
theorem p_X3_drawnYear : pj_tab cX3_drawnYear P_X3_drawnYear = true := by decide +kernel
def P_X4_init : List (Nat × Instr × Nat) := [(0, .aload_n 0, 1), (1, .iload_n 1, 1), (2, .iload_n 2, 1), (3, .iload_n 3, 1), (4, .invokespecial 1, 3), (7, .return_, 1)]
theorem p_X4_init : pj_tab cX4_init P_X4_init = true := by decide +kernel
def P_X4_kindTold : List (Nat × Instr × Nat) := [(0, .iconst 4, 1), (1, .ireturn, 1)]
theorem p_X4_kindTold : pj_tab cX4_kindTold P_X4_kindTold = true := by decide +kernel
def P_X4_lookOf : List (Nat × Instr × Nat) := [(0, .iload_n 1, 1), (1, .ireturn, 1)]
theorem p_X4_lookOf : pj_tab cX4_lookOf P_X4_lookOf = true := by decide +kernel
def P_X4_sizeAsked : List (Nat × Instr × Nat) := [(0, .aload_n 1, 1), (1, .bipush 13, 2), (3, .invokevirtual 9, 3), (6, .aload_n 0, 1), (7, .aload_n 1, 1), (8, .invokespecial 15, 3), (11, .bipush 100, 2), (13, .isub, 1), (14, .ireturn, 1)]
theorem p_X4_sizeAsked : pj_tab cX4_sizeAsked P_X4_sizeAsked = true := by decide +kernel
def P_X4_markAsked : List (Nat × Instr × Nat) := [(0, .aload_n 1, 1), (1, .bipush 23, 2), (3, .invokevirtual 9, 3), (6, .aload_n 0, 1), (7, .aload_n 1, 1), (8, .invokespecial 19, 3), (11, .istore_n 2, 1), (12, .iload_n 2, 1), (13, .aload_n 0, 1), (14, .aload_n 1, 1), (15, .invokevirtual 22, 3), (18, .isub, 1), (19, .ireturn, 1)]
theorem p_X4_markAsked : pj_tab cX4_markAsked P_X4_markAsked = true := by decide +kernel
def P_X5_init : List (Nat × Instr × Nat) := [(0, .aload_n 0, 1), (1, .invokespecial 1, 3), (4, .aload_n 0, 1), (5, .bipush 8, 2), (7, .bipush 40, 2), (9, .multianewarray 9 2, 4), (13, .putfield 11, 3), (16, .aload_n 0, 1), (17, .bipush 8, 2), (19, .newarray .int, 2), (21, .putfield 14, 3), (24, .aload_n 0, 1), (25, .bipush 8, 2), (27, .newarray .int, 2), (29, .putfield 18, 3), (32, .aload_n 0, 1), (33, .getfield 14, 3), (36, .iconst (-1), 1), (37, .invokestatic 21, 3), (40, .return_, 1)]
theorem p_X5_init : pj_tab cX5_init P_X5_init = true := by decide +kernel
def P_X5_isNumber : List (Nat × Instr × Nat) := [(0, .iload_n 0, 1), (1, .ifCond .lt 13, 3), (4, .iload_n 0, 1), (5, .bipush 8, 2), (7, .if_icmp .ge 7, 3), (10, .iconst 1, 1), (11, .goto 4, 3), (14, .iconst 0, 1), (15, .ireturn, 1)]
theorem p_X5_isNumber : pj_tab cX5_isNumber P_X5_isNumber = true := by decide +kernel
def P_X5_isThere : List (Nat × Instr × Nat) := [(0, .iload_n 1, 1), (1, .invokestatic 27, 3), (4, .ifCond .eq 17, 3), (7, .aload_n 0, 1), (8, .getfield 14, 3), (11, .iload_n 1, 1), (12, .iaload, 1), (13, .iconst (-1), 1), (14, .if_icmp .eq 7, 3), (17, .iconst 1, 1), (18, .goto 4, 3), (21, .iconst 0, 1), (22, .ireturn, 1)]
theorem p_X5_isThere : pj_tab cX5_isThere P_X5_isThere = true := by decide +kernel
def P_X5_haveOneLane : List (Nat × Instr × Nat) := [(0, .aload_n 0, 1), (1, .iload_n 1, 1), (2, .invokevirtual 31, 3), (5, .ifCond .eq 30, 3), (8, .aload_n 0, 1), (9, .iload_n 2, 1), (10, .invokevirtual 31, 3), (13, .ifCond .eq 22, 3), (16, .aload_n 0, 1), (17, .getfield 14, 3), (20, .iload_n 1, 1), (21, .iaload, 1), (22, .aload_n 0, 1), (23, .getfield 14, 3), (26, .iload_n 2, 1), (27, .iaload, 1), (28, .if_icmp .ne 7, 3), (31, .iconst 1, 1), (32, .goto 4, 3), (35, .iconst 0, 1), (36, .ireturn, 1)]
theorem p_X5_haveOneLane : pj_tab cX5_haveOneLane P_X5_haveOneLane = true := by decide +kernel
def P_X5_hasPlaces : List (Nat × Instr × Nat) := [(0, .aload_n 0, 1), (1, .iload_n 1, 1), (2, .invokevirtual 31, 3), (5, .ifCond .eq 27, 3), (8, .iload_n 2, 1), (9, .ifCond .lt 23, 3), (12, .iload_n 3, 1), (13, .ifCond .lt 19, 3), (16, .iload_n 2, 1), (17, .aload_n 0, 1), (18, .getfield 18, 3), (21, .iload_n 1, 1), (22, .iaload, 1), (23, .iload_n 3, 1), (24, .isub, 1), (25, .if_icmp .gt 7, 3), (28, .iconst 1, 1), (29, .goto 4, 3), (32, .iconst 0, 1), (33, .ireturn, 1)]
theorem p_X5_hasPlaces : pj_tab cX5_hasPlaces P_X5_hasPlaces = true := by decide +kernel
def P_X5_make : List (Nat × Instr × Nat) := [(0, .iload_n 1, 1), (1, .invokestatic 27, 3), (4, .ifCond .eq 13, 3), (7, .iload_n 3, 1), (8, .ifCond .lt 9, 3), (11, .iload_n 3, 1), (12, .bipush 40, 2), (14, .if_icmp .le 4, 3), (17, .return_, 1), (18, .aload_n 0, 1), (19, .getfield 14, 3), (22, .iload_n 1, 1), (23, .iload_n 2, 1), (24, .iastore, 1), (25, .aload_n 0, 1), (26, .getfield 18, 3), (29, .iload_n 1, 1), (30, .iload_n 3, 1), (31, .iastore, 1), (32, .aload_n 0, 1), (33, .getfield 11, 3), (36, .iload_n 1, 1), (37, .aaload, 1), (38, .iconst 0, 1), (39, .invokestatic 21, 3), (42, .return_, 1)]
theorem p_X5_make : pj_tab cX5_make P_X5_make = true := by decide +kernel
def P_X5_put : List (Nat × Instr × Nat) := [(0, .aload_n 0, 1), (1, .iload_n 1, 1), (2, .iload_n 2, 1), (3, .iconst 1, 1), (4, .invokevirtual 34, 3), (7, .ifCond .ne 5, 3), (10, .iconst 0, 1), (11, .ireturn, 1), (12, .aload_n 0, 1), (13, .getfield 11, 3), (16, .iload_n 1, 1), (17, .aaload, 1), (18, .iload_n 2, 1), (19, .aload_n 0, 1), (20, .getfield 14, 3), (23, .iload_n 1, 1), (24, .iaload, 1), (25, .iload_n 3, 1), (26, .invokestatic 38, 3), (29, .iastore, 1), (30, .aload_n 0, 1), (31, .getfield 11, 3), (34, .iload_n 1, 1), (35, .aaload, 1), (36, .iload_n 2, 1), (37, .iaload, 1), (38, .ireturn, 1)]
theorem p_X5_put : pj_tab cX5_put P_X5_put = true := by decide +kernel
def P_X5_itemAt : List (Nat × Instr × Nat) := [(0, .aload_n 0, 1), (1, .iload_n 1, 1), (2, .iload_n 2, 1), (3, .iconst 1, 1), (4, .invokevirtual 34, 3), (7, .ifCond .eq 14, 3), (10, .aload_n 0, 1), (11, .getfield 11, 3), (14, .iload_n 1, 1), (15, .aaload, 1), (16, .iload_n 2, 1), (17, .iaload, 1), (18, .goto 4, 3), (21, .iconst 0, 1), (22, .ireturn, 1)]
theorem p_X5_itemAt : pj_tab cX5_itemAt P_X5_itemAt = true := by decide +kernel
def P_X5_move : List (Nat × Instr × Nat) := [(0, .aload_n 0, 1), (1, .iload_n 1, 1), (2, .iload_n 2, 1), (3, .iload 5, 2), (5, .invokevirtual 34, 3), (8, .ifCond .eq 35, 3), (11, .aload_n 0, 1), (12, .iload_n 3, 1), (13, .iload 4, 2), (15, .iload 5, 2), (17, .invokevirtual 34, 3), (20, .ifCond .eq 23, 3), (23, .aload_n 0, 1), (24, .getfield 11, 3), (27, .iload_n 1, 1), (28, .aaload, 1), (29, .iload_n 2, 1), (30, .aload_n 0, 1), (31, .getfield 11, 3), (34, .iload_n 3, 1), (35, .aaload, 1), (36, .iload 4, 2), (38, .iload 5, 2), (40, .invokestatic 42, 3), (43, .return_, 1)]
theorem p_X5_move : pj_tab cX5_move P_X5_move = true := by decide +kernel
def P_X5_remove : List (Nat × Instr × Nat) := [(0, .aload_n 0, 1), (1, .iload_n 1, 1), (2, .invokevirtual 31, 3), (5, .ifCond .ne 5, 3), (8, .iconst 0, 1), (9, .ireturn, 1), (10, .aload_n 0, 1), (11, .getfield 14, 3), (14, .iload_n 1, 1), (15, .iconst (-1), 1), (16, .iastore, 1), (17, .aload_n 0, 1), (18, .getfield 18, 3), (21, .iload_n 1, 1), (22, .iaload, 1), (23, .ireturn, 1)]
theorem p_X5_remove : pj_tab cX5_remove P_X5_remove = true := by decide +kernel
def P_X5_present : List (Nat × Instr × Nat) := [(0, .iconst 0, 1), (1, .istore_n 1, 1), (2, .iconst 0, 1), (3, .istore_n 2, 1), (4, .iload_n 2, 1), (5, .bipush 8, 2), (7, .if_icmp .ge 20, 3), (10, .aload_n 0, 1), (11, .iload_n 2, 1), (12, .invokevirtual 31, 3), (15, .ifCond .eq 6, 3), (18, .iinc 1 1, 3), (21, .iinc 2 1, 3), (24, .goto (-20), 3), (27, .iload_n 1, 1), (28, .ireturn, 1)]
theorem p_X5_present : pj_tab cX5_present P_X5_present = true := by decide +kernel
def P_X5_cut : List (Nat × Instr × Nat) := [(0, .iload_n 0, 1), (1, .lookupswitch 33 #[(0, 27), (1, 30)], 27), (28, .iload_n 1, 1), (29, .i2b, 1), (30, .ireturn, 1), (31, .iload_n 1, 1), (32, .i2s, 1), (33, .ireturn, 1), (34, .iload_n 1, 1), (35, .ireturn, 1)]
theorem p_X5_cut : pj_tab cX5_cut P_X5_cut = true := by decide +kernel
def P_X6_init : List (Nat × Instr × Nat) := [(0, .aload_n 0, 1), (1, .iload_n 1, 1), (2, .iload_n 2, 1), (3, .iload_n 3, 1), (4, .invokespecial 1, 3), (7, .return_, 1)]
theorem p_X6_init : pj_tab cX6_init P_X6_init = true := by decide +kernel
def P_X6_kindTold : List (Nat × Instr × Nat) := [(0, .iconst 3, 1), (1, .ireturn, 1)]
theorem p_X6_kindTold : pj_tab cX6_kindTold P_X6_kindTold = true := by decide +kernel
def P_X6_lookOf : List (Nat × Instr × Nat) := [(0, .iload_n 1, 1), (1, .iload_n 2, 1), (2, .iconst (-1), 1), (3, .ixor, 1), (4, .iand, 1), (5, .bipush 32, 2), (7, .iconst 1, 1), (8, .aload_n 0, 1), (9, .invokevirtual 9, 3), (12, .iadd, 1), (13, .imul, 1), (14, .iadd, 1), (15, .ireturn, 1)]
theorem p_X6_lookOf : pj_tab cX6_lookOf P_X6_lookOf = true := by decide +kernel
def P_X6_markAsked : List (Nat × Instr × Nat) := [(0, .aload_n 1, 1), (1, .bipush 22, 2), (3, .invokevirtual 15, 3), (6, .aload_n 0, 1), (7, .aload_n 1, 1), (8, .invokespecial 21, 3), (11, .sipush 1000, 3), (14, .isub, 1), (15, .ireturn, 1)]
theorem p_X6_markAsked : pj_tab cX6_markAsked P_X6_markAsked = true := by decide +kernel
def P_X7_init : List (Nat × Instr × Nat) := [(0, .aload_n 0, 1), (1, .invokespecial 1, 3), (4, .aload_n 0, 1), (5, .bipush 120, 2), (7, .newarray .int, 2), (9, .putfield 9, 3), (12, .return_, 1)]
theorem p_X7_init : pj_tab cX7_init P_X7_init = true := by decide +kernel
def P_X7_put : List (Nat × Instr × Nat) := [(0, .aload_n 0, 1), (1, .getfield 13, 3), (4, .bipush 120, 2), (6, .if_icmp .lt 5, 3), (9, .iconst 0, 1), (10, .ireturn, 1), (11, .aload_n 0, 1), (12, .getfield 9, 3), (15, .aload_n 0, 1), (16, .getfield 13, 3), (19, .iload_n 1, 1), (20, .iastore, 1), (21, .aload_n 0, 1), (22, .dup, 1), (23, .getfield 13, 3), (26, .iconst 1, 1), (27, .iadd, 1), (28, .putfield 13, 3), (31, .iconst 1, 1), (32, .ireturn, 1)]
theorem p_X7_put : pj_tab cX7_put P_X7_put = true := by decide +kernel
def P_X7_length : List (Nat × Instr × Nat) := [(0, .aload_n 0, 1), (1, .getfield 13, 3), (4, .ireturn, 1)]
theorem p_X7_length : pj_tab cX7_length P_X7_length = true := by decide +kernel
def P_X7_faultNumber : List (Nat × Instr × Nat) := [(0, .aload_n 0, 1), (1, .getfield 17, 3), (4, .ireturn, 1)]
theorem p_X7_faultNumber : pj_tab cX7_faultNumber P_X7_faultNumber = true := by decide +kernel
def P_X7_faultPlace : List (Nat × Instr × Nat) := [(0, .aload_n 0, 1), (1, .getfield 20, 3), (4, .ireturn, 1)]
theorem p_X7_faultPlace : pj_tab cX7_faultPlace P_X7_faultPlace = true := by decide +kernel
def P_X7_read : List (Nat × Instr × Nat) := [(0, .aload_n 0, 1), (1, .iconst 0, 1), (2, .putfield 23, 3), (5, .aload_n 0, 1), (6, .iconst 0, 1), (7, .putfield 17, 3), (10, .aload_n 0, 1), (11, .iconst 0, 1), (12, .putfield 20, 3), (15, .new 26, 3), (18, .dup, 1), (19, .invokespecial 28, 3), (22, .astore_n 1, 1), (23, .aload_n 0, 1), (24, .aload_n 1, 1), (25, .invokevirtual 29, 3), (28, .aload_n 0, 1), (29, .aload_n 1, 1), (30, .invokevirtual 33, 3), (33, .aload_n 0, 1), (34, .aload_n 1, 1), (35, .invokevirtual 36, 3), (38, .aload_n 0, 1), (39, .getfield 23, 3), (42, .aload_n 0, 1), (43, .getfield 13, 3), (46, .if_icmp .ge 12, 3), (49, .aload_n 0, 1), (50, .aload_n 0, 1), (51, .getfield 23, 3), (54, .iconst 1, 1), (55, .invokevirtual 39, 3), (58, .aload_n 0, 1), (59, .iconst 0, 1), (60, .putfield 13, 3), (63, .aload_n 0, 1), (64, .invokevirtual 43, 3), (67, .ifCond .eq 7, 3), (70, .aload_n 1, 1), (71, .goto 4, 3), (74, .aconst_null, 1), (75, .areturn, 1)]
theorem p_X7_read : pj_tab cX7_read P_X7_read = true := by decide +kernel
def P_X7_readLaw : List (Nat × Instr × Nat) := [(0, .aload_n 0, 1), (1, .bipush 99, 2), (3, .invokevirtual 47, 3), (6, .iconst 0, 1), (7, .istore_n 2, 1), (8, .iload_n 2, 1), (9, .bipush 7, 2), (11, .if_icmp .ge 30, 3), (14, .iload_n 2, 1), (15, .ifCond .le 9, 3), (18, .aload_n 0, 1), (19, .bipush 44, 2), (21, .invokevirtual 47, 3), (24, .aload_n 1, 1), (25, .iload_n 2, 1), (26, .aload_n 0, 1), (27, .iconst 0, 1), (28, .iconst 5, 1), (29, .invokevirtual 51, 3), (32, .invokevirtual 55, 3), (35, .iinc 2 1, 3), (38, .goto (-30), 3), (41, .aload_n 0, 1), (42, .bipush 59, 2), (44, .invokevirtual 47, 3), (47, .return_, 1)]
theorem p_X7_readLaw : pj_tab cX7_readLaw P_X7_readLaw = true := by decide +kernel
def P_X7_readThings : List (Nat × Instr × Nat) := [(0, .iconst 0, 1), (1, .istore_n 2, 1), (2, .iload_n 2, 1), (3, .bipush 7, 2), (5, .if_icmp .gt 53, 3), (8, .aload_n 0, 1), (9, .invokevirtual 43, 3), (12, .ifCond .eq 46, 3), (15, .aload_n 0, 1), (16, .invokevirtual 58, 3), (19, .invokestatic 62, 3), (22, .istore_n 3, 1), (23, .iload_n 3, 1), (24, .ifCond .ne 4, 3), (27, .return_, 1), (28, .iload_n 2, 1), (29, .bipush 7, 2), (31, .if_icmp .ne 15, 3), (34, .aload_n 0, 1), (35, .aload_n 0, 1), (36, .getfield 23, 3), (39, .iconst 3, 1), (40, .invokevirtual 39, 3), (43, .goto 9, 3), (46, .aload_n 0, 1), (47, .aload_n 1, 1), (48, .iload_n 3, 1), (49, .invokevirtual 66, 3), (52, .iinc 2 1, 3), (55, .goto (-53), 3), (58, .return_, 1)]
theorem p_X7_readThings : pj_tab cX7_readThings P_X7_readThings = true := by decide +kernel
def P_X7_readThing : List (Nat × Instr × Nat) := [(0, .aload_n 0, 1), (1, .dup, 1), (2, .getfield 23, 3), (5, .iconst 1, 1), (6, .iadd, 1), (7, .putfield 23, 3), (10, .aload_n 0, 1), (11, .iconst 0, 1), (12, .bipush 31, 2), (14, .invokevirtual 51, 3), (17, .istore_n 3, 1), (18, .aload_n 0, 1), (19, .bipush 44, 2), (21, .invokevirtual 47, 3), (24, .aload_n 0, 1), (25, .iconst 0, 1), (26, .iconst 3, 1), (27, .invokevirtual 51, 3), (30, .istore 4, 2), (32, .aload_n 0, 1), (33, .bipush 59, 2), (35, .invokevirtual 47, 3), (38, .aload_n 0, 1), (39, .invokevirtual 43, 3), (42, .ifCond .eq 11, 3), (45, .aload_n 1, 1), (46, .iload_n 2, 1), (47, .iload_n 3, 1), (48, .iload 4, 2), (50, .invokevirtual 70, 3), (53, .return_, 1)]
theorem p_X7_readThing : pj_tab cX7_readThing P_X7_readThing = true := by decide +kernel
def P_X7_readPairs : List (Nat × Instr × Nat) := [(0, .iconst 0, 1), (1, .istore_n 2, 1), (2, .iload_n 2, 1), (3, .bipush 8, 2), (5, .if_icmp .gt 48, 3), (8, .aload_n 0, 1), (9, .invokevirtual 43, 3), (12, .ifCond .eq 41, 3), (15, .aload_n 0, 1), (16, .invokevirtual 58, 3), (19, .bipush 109, 2), (21, .if_icmp .ne 32, 3), (24, .iload_n 2, 1), (25, .bipush 8, 2), (27, .if_icmp .ne 15, 3), (30, .aload_n 0, 1), (31, .aload_n 0, 1), (32, .getfield 23, 3), (35, .iconst 3, 1), (36, .invokevirtual 39, 3), (39, .goto 8, 3), (42, .aload_n 0, 1), (43, .aload_n 1, 1), (44, .invokevirtual 74, 3), (47, .iinc 2 1, 3), (50, .goto (-48), 3), (53, .return_, 1)]
theorem p_X7_readPairs : pj_tab cX7_readPairs P_X7_readPairs = true := by decide +kernel
def P_X7_readPair : List (Nat × Instr × Nat) := [(0, .aload_n 0, 1), (1, .dup, 1), (2, .getfield 23, 3), (5, .iconst 1, 1), (6, .iadd, 1), (7, .putfield 23, 3), (10, .aload_n 1, 1), (11, .invokevirtual 77, 3), (14, .iconst 1, 1), (15, .isub, 1), (16, .istore_n 2, 1), (17, .aload_n 0, 1), (18, .iconst 0, 1), (19, .iload_n 2, 1), (20, .invokevirtual 51, 3), (23, .istore_n 3, 1), (24, .aload_n 0, 1), (25, .bipush 44, 2), (27, .invokevirtual 47, 3), (30, .aload_n 0, 1), (31, .getfield 23, 3), (34, .istore 4, 2), (36, .aload_n 0, 1), (37, .iconst 0, 1), (38, .iload_n 2, 1), (39, .invokevirtual 51, 3), (42, .istore 5, 2), (44, .iload_n 3, 1), (45, .iload 5, 2), (47, .if_icmp .eq 13, 3), (50, .aload_n 1, 1), (51, .iload_n 3, 1), (52, .iload 5, 2), (54, .invokevirtual 80, 3), (57, .ifCond .eq 10, 3), (60, .aload_n 0, 1), (61, .iload 4, 2), (63, .iconst 2, 1), (64, .invokevirtual 39, 3), (67, .aload_n 0, 1), (68, .bipush 44, 2), (70, .invokevirtual 47, 3), (73, .aload_n 0, 1), (74, .iconst 1, 1), (75, .bipush 20, 2), (77, .invokevirtual 51, 3), (80, .istore 6, 2), (82, .aload_n 0, 1), (83, .bipush 59, 2), (85, .invokevirtual 47, 3), (88, .aload_n 0, 1), (89, .invokevirtual 43, 3), (92, .ifCond .eq 12, 3), (95, .aload_n 1, 1), (96, .iload_n 3, 1), (97, .iload 5, 2), (99, .iload 6, 2), (101, .invokevirtual 83, 3), (104, .return_, 1)]
theorem p_X7_readPair : pj_tab cX7_readPair P_X7_readPair = true := by decide +kernel
def P_X7_takeByte : List (Nat × Instr × Nat) := [(0, .aload_n 0, 1), (1, .invokevirtual 43, 3), (4, .ifCond .ne 4, 3), (7, .return_, 1), (8, .aload_n 0, 1), (9, .invokevirtual 58, 3), (12, .iload_n 1, 1), (13, .if_icmp .ne 16, 3), (16, .aload_n 0, 1), (17, .dup, 1), (18, .getfield 23, 3), (21, .iconst 1, 1), (22, .iadd, 1), (23, .putfield 23, 3), (26, .goto 12, 3), (29, .aload_n 0, 1), (30, .aload_n 0, 1), (31, .getfield 23, 3), (34, .iconst 1, 1), (35, .invokevirtual 39, 3), (38, .return_, 1)]
theorem p_X7_takeByte : pj_tab cX7_takeByte P_X7_takeByte = true := by decide +kernel
def P_X7_takeNumber : List (Nat × Instr × Nat) := [(0, .aload_n 0, 1), (1, .invokevirtual 43, 3), (4, .ifCond .ne 5, 3), (7, .iconst 0, 1), (8, .ireturn, 1), (9, .aload_n 0, 1), (10, .invokevirtual 86, 3), (13, .istore_n 3, 1), (14, .iload_n 3, 1), (15, .iconst 1, 1), (16, .if_icmp .lt 8, 3), (19, .iload_n 3, 1), (20, .iconst 2, 1), (21, .if_icmp .le 14, 3), (24, .aload_n 0, 1), (25, .aload_n 0, 1), (26, .getfield 23, 3), (29, .iconst 1, 1), (30, .invokevirtual 39, 3), (33, .iconst 0, 1), (34, .ireturn, 1), (35, .iconst 0, 1), (36, .istore 4, 2), (38, .aload_n 0, 1), (39, .getfield 23, 3), (42, .istore 5, 2), (44, .iload 5, 2), (46, .aload_n 0, 1), (47, .getfield 23, 3), (50, .iload_n 3, 1), (51, .iadd, 1), (52, .if_icmp .ge 36, 3), (55, .iload 5, 2), (57, .aload_n 0, 1), (58, .getfield 13, 3), (61, .if_icmp .ge 27, 3), (64, .iload 4, 2), (66, .bipush 10, 2), (68, .imul, 1), (69, .aload_n 0, 1), (70, .getfield 9, 3), (73, .iload 5, 2), (75, .iaload, 1), (76, .iadd, 1), (77, .bipush 48, 2), (79, .isub, 1), (80, .istore 4, 2), (82, .iinc 5 1, 3), (85, .goto (-41), 3), (88, .iload 4, 2), (90, .iload_n 1, 1), (91, .if_icmp .lt 9, 3), (94, .iload 4, 2), (96, .iload_n 2, 1), (97, .if_icmp .le 14, 3), (100, .aload_n 0, 1), (101, .aload_n 0, 1), (102, .getfield 23, 3), (105, .iconst 2, 1), (106, .invokevirtual 39, 3), (109, .iconst 0, 1), (110, .ireturn, 1), (111, .aload_n 0, 1), (112, .dup, 1), (113, .getfield 23, 3), (116, .iload_n 3, 1), (117, .iadd, 1), (118, .putfield 23, 3), (121, .iload 4, 2), (123, .ireturn, 1)]
theorem p_X7_takeNumber : pj_tab cX7_takeNumber P_X7_takeNumber = true := by decide +kernel
def P_X7_figuresHere : List (Nat × Instr × Nat) := [(0, .aload_n 0, 1), (1, .getfield 23, 3), (4, .istore_n 1, 1), (5, .aload_n 0, 1), (6, .getfield 23, 3), (9, .istore_n 2, 1), (10, .iload_n 2, 1), (11, .aload_n 0, 1), (12, .getfield 13, 3), (15, .if_icmp .ge 35, 3), (18, .aload_n 0, 1), (19, .getfield 9, 3), (22, .iload_n 2, 1), (23, .iaload, 1), (24, .bipush 48, 2), (26, .if_icmp .lt 24, 3), (29, .aload_n 0, 1), (30, .getfield 9, 3), (33, .iload_n 2, 1), (34, .iaload, 1), (35, .bipush 57, 2), (37, .if_icmp .gt 13, 3), (40, .iload_n 2, 1), (41, .iconst 1, 1), (42, .iadd, 1), (43, .istore_n 1, 1), (44, .iinc 2 1, 3), (47, .goto (-37), 3), (50, .iload_n 1, 1), (51, .aload_n 0, 1), (52, .getfield 23, 3), (55, .isub, 1), (56, .ireturn, 1)]
theorem p_X7_figuresHere : pj_tab cX7_figuresHere P_X7_figuresHere = true := by decide +kernel
def P_X7_byteHere : List (Nat × Instr × Nat) := [(0, .aload_n 0, 1), (1, .getfield 23, 3), (4, .aload_n 0, 1), (5, .getfield 13, 3), (8, .if_icmp .ge 15, 3), (11, .aload_n 0, 1), (12, .getfield 9, 3), (15, .aload_n 0, 1), (16, .getfield 23, 3), (19, .iaload, 1), (20, .goto 4, 3), (23, .iconst (-1), 1), (24, .ireturn, 1)]
theorem p_X7_byteHere : pj_tab cX7_byteHere P_X7_byteHere = true := by decide +kernel
def P_X7_isSound : List (Nat × Instr × Nat) := [(0, .aload_n 0, 1), (1, .getfield 17, 3), (4, .ifCond .ne 7, 3), (7, .iconst 1, 1), (8, .goto 4, 3), (11, .iconst 0, 1), (12, .ireturn, 1)]
theorem p_X7_isSound : pj_tab cX7_isSound P_X7_isSound = true := by decide +kernel
def P_X7_faultAt : List (Nat × Instr × Nat) := [(0, .aload_n 0, 1), (1, .invokevirtual 43, 3), (4, .ifCond .eq 13, 3), (7, .aload_n 0, 1), (8, .iload_n 1, 1), (9, .putfield 20, 3), (12, .aload_n 0, 1), (13, .iload_n 2, 1), (14, .putfield 17, 3), (17, .return_, 1)]
theorem p_X7_faultAt : pj_tab cX7_faultAt P_X7_faultAt = true := by decide +kernel
def P_X7_kindOfSort : List (Nat × Instr × Nat) := [(0, .iload_n 0, 1), (1, .lookupswitch 61 #[(100, 51), (102, 59), (105, 57), (115, 55), (119, 53)], 51), (52, .iconst 1, 1), (53, .ireturn, 1), (54, .iconst 2, 1), (55, .ireturn, 1), (56, .iconst 3, 1), (57, .ireturn, 1), (58, .iconst 4, 1), (59, .ireturn, 1), (60, .iconst 5, 1), (61, .ireturn, 1), (62, .iconst 0, 1), (63, .ireturn, 1)]
theorem p_X7_kindOfSort : pj_tab cX7_kindOfSort P_X7_kindOfSort = true := by decide +kernel
def P_X8_init : List (Nat × Instr × Nat) := [(0, .aload_n 0, 1), (1, .invokespecial 1, 3), (4, .aload_n 0, 1), (5, .iload_n 1, 1), (6, .putfield 7, 3), (9, .aload_n 0, 1), (10, .iload_n 2, 1), (11, .putfield 13, 3), (14, .aload_n 0, 1), (15, .iload_n 3, 1), (16, .putfield 16, 3), (19, .return_, 1)]
theorem p_X8_init : pj_tab cX8_init P_X8_init = true := by decide +kernel
def P_X8_takesPaint : List (Nat × Instr × Nat) := [(0, .aload_n 0, 1), (1, .instanceof 19, 3), (4, .ifCond .ne 7, 3), (7, .iconst 1, 1), (8, .goto 4, 3), (11, .iconst 0, 1), (12, .ireturn, 1)]
theorem p_X8_takesPaint : pj_tab cX8_takesPaint P_X8_takesPaint = true := by decide +kernel
def P_X8_mixed : List (Nat × Instr × Nat) := [(0, .aload_n 0, 1), (1, .getfield 13, 3), (4, .ireturn, 1)]
theorem p_X8_mixed : pj_tab cX8_mixed P_X8_mixed = true := by decide +kernel
def P_X8_shaped : List (Nat × Instr × Nat) := [(0, .aload_n 0, 1), (1, .getfield 16, 3), (4, .ireturn, 1)]
theorem p_X8_shaped : pj_tab cX8_shaped P_X8_shaped = true := by decide +kernel
def P_X8_mixAnew : List (Nat × Instr × Nat) := [(0, .aload_n 0, 1), (1, .iload_n 1, 1), (2, .putfield 13, 3), (5, .return_, 1)]
theorem p_X8_mixAnew : pj_tab cX8_mixAnew P_X8_mixAnew = true := by decide +kernel
def P_X8_lookWithout : List (Nat × Instr × Nat) := [(0, .aload_n 0, 1), (1, .aload_n 0, 1), (2, .getfield 13, 3), (5, .iload_n 1, 1), (6, .invokevirtual 21, 3), (9, .ireturn, 1)]
theorem p_X8_lookWithout : pj_tab cX8_lookWithout P_X8_lookWithout = true := by decide +kernel
def P_X8_sizeAsked : List (Nat × Instr × Nat) := [(0, .aload_n 1, 1), (1, .bipush 10, 2), (3, .invokevirtual 25, 3), (6, .aload_n 0, 1), (7, .getfield 13, 3), (10, .ireturn, 1)]
theorem p_X8_sizeAsked : pj_tab cX8_sizeAsked P_X8_sizeAsked = true := by decide +kernel
def P_X8_markAsked : List (Nat × Instr × Nat) := [(0, .aload_n 1, 1), (1, .bipush 20, 2), (3, .invokevirtual 25, 3), (6, .aload_n 0, 1), (7, .getfield 7, 3), (10, .ireturn, 1)]
theorem p_X8_markAsked : pj_tab cX8_markAsked P_X8_markAsked = true := by decide +kernel
def P_X9_init : List (Nat × Instr × Nat) := [(0, .aload_n 0, 1), (1, .invokespecial 1, 3), (4, .aload_n 0, 1), (5, .bipush 7, 2), (7, .newarray .int, 2), (9, .putfield 9, 3), (12, .aload_n 0, 1), (13, .bipush 7, 2), (15, .anewarray 13, 3), (18, .putfield 15, 3), (21, .aload_n 0, 1), (22, .bipush 8, 2), (24, .newarray .int, 2), (26, .putfield 19, 3), (29, .aload_n 0, 1), (30, .bipush 8, 2), (32, .newarray .int, 2), (34, .putfield 22, 3), (37, .aload_n 0, 1), (38, .bipush 8, 2), (40, .newarray .int, 2), (42, .putfield 25, 3), (45, .aload_n 0, 1), (46, .bipush 24, 2), (48, .newarray .int, 2), (50, .putfield 28, 3), (53, .aload_n 0, 1), (54, .bipush 24, 2), (56, .newarray .int, 2), (58, .putfield 31, 3), (61, .aload_n 0, 1), (62, .bipush 24, 2), (64, .newarray .int, 2), (66, .putfield 34, 3), (69, .return_, 1)]
theorem p_X9_init : pj_tab cX9_init P_X9_init = true := by decide +kernel
def P_X9_duplicate : List (Nat × Instr × Nat) := [(0, .new 7, 3), (3, .dup, 1), (4, .invokespecial 37, 3), (7, .astore_n 1, 1), (8, .iconst 0, 1), (9, .istore_n 2, 1), (10, .iload_n 2, 1), (11, .bipush 7, 2), (13, .if_icmp .ge 21, 3), (16, .aload_n 1, 1), (17, .getfield 9, 3), (20, .iload_n 2, 1), (21, .aload_n 0, 1), (22, .getfield 9, 3), (25, .iload_n 2, 1), (26, .iaload, 1), (27, .iastore, 1), (28, .iinc 2 1, 3), (31, .goto (-21), 3), (34, .iconst 0, 1), (35, .istore_n 2, 1), (36, .iload_n 2, 1), (37, .aload_n 0, 1), (38, .getfield 38, 3), (41, .if_icmp .ge 40, 3), (44, .aload_n 1, 1), (45, .aload_n 0, 1), (46, .getfield 15, 3), (49, .iload_n 2, 1), (50, .aaload, 1), (51, .invokevirtual 42, 3), (54, .aload_n 0, 1), (55, .getfield 15, 3), (58, .iload_n 2, 1), (59, .aaload, 1), (60, .invokevirtual 46, 3), (63, .aload_n 0, 1), (64, .getfield 15, 3), (67, .iload_n 2, 1), (68, .aaload, 1), (69, .invokevirtual 49, 3), (72, .invokevirtual 52, 3), (75, .iinc 2 1, 3), (78, .goto (-42), 3), (81, .iconst 0, 1), (82, .istore_n 2, 1), (83, .iload_n 2, 1), (84, .aload_n 0, 1), (85, .getfield 56, 3), (88, .if_icmp .ge 31, 3), (91, .aload_n 1, 1), (92, .aload_n 0, 1), (93, .getfield 19, 3), (96, .iload_n 2, 1), (97, .iaload, 1), (98, .aload_n 0, 1), (99, .getfield 22, 3), (102, .iload_n 2, 1), (103, .iaload, 1), (104, .aload_n 0, 1), (105, .getfield 25, 3), (108, .iload_n 2, 1), (109, .iaload, 1), (110, .invokevirtual 59, 3), (113, .iinc 2 1, 3), (116, .goto (-33), 3), (119, .aload_n 1, 1), (120, .aload_n 0, 1), (121, .getfield 62, 3), (124, .putfield 62, 3), (127, .aload_n 1, 1), (128, .areturn, 1)]
theorem p_X9_duplicate : pj_tab cX9_duplicate P_X9_duplicate = true := by decide +kernel
def P_X9_setColourOn : List (Nat × Instr × Nat) := [(0, .iload_n 1, 1), (1, .ifCond .lt 16, 3), (4, .iload_n 1, 1), (5, .bipush 7, 2), (7, .if_icmp .ge 10, 3), (10, .aload_n 0, 1), (11, .getfield 9, 3), (14, .iload_n 1, 1), (15, .iload_n 2, 1), (16, .iastore, 1), (17, .return_, 1)]
theorem p_X9_setColourOn : pj_tab cX9_setColourOn P_X9_setColourOn = true := by decide +kernel
def P_X9_addThing : List (Nat × Instr × Nat) := [(0, .aload_n 0, 1), (1, .getfield 38, 3), (4, .bipush 7, 2), (6, .if_icmp .ge 32, 3), (9, .aload_n 0, 1), (10, .getfield 15, 3), (13, .aload_n 0, 1), (14, .getfield 38, 3), (17, .iload_n 1, 1), (18, .aload_n 0, 1), (19, .getfield 38, 3), (22, .iload_n 2, 1), (23, .iload_n 3, 1), (24, .invokestatic 65, 3), (27, .aastore, 1), (28, .aload_n 0, 1), (29, .dup, 1), (30, .getfield 38, 3), (33, .iconst 1, 1), (34, .iadd, 1), (35, .putfield 38, 3), (38, .return_, 1)]
theorem p_X9_addThing : pj_tab cX9_addThing P_X9_addThing = true := by decide +kernel
def P_X9_addPair : List (Nat × Instr × Nat) := [(0, .aload_n 0, 1), (1, .getfield 56, 3), (4, .bipush 8, 2), (6, .if_icmp .ge 43, 3), (9, .aload_n 0, 1), (10, .getfield 19, 3), (13, .aload_n 0, 1), (14, .getfield 56, 3), (17, .iload_n 1, 1), (18, .iastore, 1), (19, .aload_n 0, 1), (20, .getfield 22, 3), (23, .aload_n 0, 1), (24, .getfield 56, 3), (27, .iload_n 2, 1), (28, .iastore, 1), (29, .aload_n 0, 1), (30, .getfield 25, 3), (33, .aload_n 0, 1), (34, .getfield 56, 3), (37, .iload_n 3, 1), (38, .iastore, 1), (39, .aload_n 0, 1), (40, .dup, 1), (41, .getfield 56, 3), (44, .iconst 1, 1), (45, .iadd, 1), (46, .putfield 56, 3), (49, .return_, 1)]
theorem p_X9_addPair : pj_tab cX9_addPair P_X9_addPair = true := by decide +kernel
def P_X9_newThing : List (Nat × Instr × Nat) := [(0, .iload_n 0, 1), (1, .tableswitch 75 2 5 #[31, 42, 53, 64], 31), (32, .new 69, 3), (35, .dup, 1), (36, .iload_n 1, 1), (37, .iload_n 2, 1), (38, .iload_n 3, 1), (39, .invokespecial 71, 3), (42, .areturn, 1), (43, .new 73, 3), (46, .dup, 1), (47, .iload_n 1, 1), (48, .iload_n 2, 1), (49, .iload_n 3, 1), (50, .invokespecial 75, 3), (53, .areturn, 1), (54, .new 76, 3), (57, .dup, 1), (58, .iload_n 1, 1), (59, .iload_n 2, 1), (60, .iload_n 3, 1), (61, .invokespecial 78, 3), (64, .areturn, 1), (65, .new 79, 3), (68, .dup, 1), (69, .iload_n 1, 1), (70, .iload_n 2, 1), (71, .iload_n 3, 1), (72, .invokespecial 81, 3), (75, .areturn, 1), (76, .new 82, 3), (79, .dup, 1), (80, .iload_n 1, 1), (81, .iload_n 2, 1), (82, .iload_n 3, 1), (83, .invokespecial 84, 3), (86, .areturn, 1)]
theorem p_X9_newThing : pj_tab cX9_newThing P_X9_newThing = true := by decide +kernel
def P_X9_hasThing : List (Nat × Instr × Nat) := [(0, .iload_n 1, 1), (1, .ifCond .lt 15, 3), (4, .iload_n 1, 1), (5, .aload_n 0, 1), (6, .getfield 38, 3), (9, .if_icmp .ge 7, 3), (12, .iconst 1, 1), (13, .goto 4, 3), (16, .iconst 0, 1), (17, .ireturn, 1)]
theorem p_X9_hasThing : pj_tab cX9_hasThing P_X9_hasThing = true := by decide +kernel
def P_X9_thingAt : List (Nat × Instr × Nat) := [(0, .aload_n 0, 1), (1, .getfield 15, 3), (4, .iload_n 1, 1), (5, .aaload, 1), (6, .areturn, 1)]
theorem p_X9_thingAt : pj_tab cX9_thingAt P_X9_thingAt = true := by decide +kernel
def P_X9_thingCount : List (Nat × Instr × Nat) := [(0, .aload_n 0, 1), (1, .getfield 38, 3), (4, .ireturn, 1)]
theorem p_X9_thingCount : pj_tab cX9_thingCount P_X9_thingCount = true := by decide +kernel
def P_X9_pairCount : List (Nat × Instr × Nat) := [(0, .aload_n 0, 1), (1, .getfield 56, 3), (4, .ireturn, 1)]
theorem p_X9_pairCount : pj_tab cX9_pairCount P_X9_pairCount = true := by decide +kernel
def P_X9_actCount : List (Nat × Instr × Nat) := [(0, .aload_n 0, 1), (1, .getfield 85, 3), (4, .ireturn, 1)]
theorem p_X9_actCount : pj_tab cX9_actCount P_X9_actCount = true := by decide +kernel
def P_X9_today : List (Nat × Instr × Nat) := [(0, .aload_n 0, 1), (1, .getfield 62, 3), (4, .ireturn, 1)]
theorem p_X9_today : pj_tab cX9_today P_X9_today = true := by decide +kernel
def P_X9_colourOn : List (Nat × Instr × Nat) := [(0, .iload_n 1, 1), (1, .ifCond .lt 18, 3), (4, .iload_n 1, 1), (5, .bipush 7, 2), (7, .if_icmp .ge 12, 3), (10, .aload_n 0, 1), (11, .getfield 9, 3), (14, .iload_n 1, 1), (15, .iaload, 1), (16, .goto 4, 3), (19, .iconst 5, 1), (20, .ireturn, 1)]
theorem p_X9_colourOn : pj_tab cX9_colourOn P_X9_colourOn = true := by decide +kernel
def P_X9_missingIn : List (Nat × Instr × Nat) := [(0, .aload_n 0, 1), (1, .aload_n 0, 1), (2, .getfield 62, 3), (5, .iload_n 1, 1), (6, .iadd, 1), (7, .bipush 7, 2), (9, .irem, 1), (10, .invokevirtual 88, 3), (13, .ireturn, 1)]
theorem p_X9_missingIn : pj_tab cX9_missingIn P_X9_missingIn = true := by decide +kernel
def P_X9_missingOn : List (Nat × Instr × Nat) := [(0, .iload_n 1, 1), (1, .ifCond .lt 21, 3), (4, .iload_n 1, 1), (5, .bipush 7, 2), (7, .if_icmp .ge 15, 3), (10, .aload_n 0, 1), (11, .getfield 9, 3), (14, .iload_n 1, 1), (15, .iaload, 1), (16, .invokestatic 92, 3), (19, .goto 4, 3), (22, .iconst 0, 1), (23, .ireturn, 1)]
theorem p_X9_missingOn : pj_tab cX9_missingOn P_X9_missingOn = true := by decide +kernel
def P_X9_setOf : List (Nat × Instr × Nat) := [(0, .iload_n 0, 1), (1, .ifCond .lt 14, 3), (4, .iload_n 0, 1), (5, .iconst 5, 1), (6, .if_icmp .ge 9, 3), (9, .iconst 1, 1), (10, .iload_n 0, 1), (11, .ishl, 1), (12, .goto 4, 3), (15, .iconst 0, 1), (16, .ireturn, 1)]
theorem p_X9_setOf : pj_tab cX9_setOf P_X9_setOf = true := by decide +kernel
def P_X9_areAlike : List (Nat × Instr × Nat) := [(0, .aload_n 0, 1), (1, .iload_n 1, 1), (2, .invokevirtual 95, 3), (5, .ifCond .eq 38, 3), (8, .aload_n 0, 1), (9, .iload_n 2, 1), (10, .invokevirtual 95, 3), (13, .ifCond .eq 30, 3), (16, .aload_n 0, 1), (17, .getfield 15, 3), (20, .iload_n 1, 1), (21, .aaload, 1), (22, .iload_n 3, 1), (23, .invokevirtual 99, 3), (26, .aload_n 0, 1), (27, .getfield 15, 3), (30, .iload_n 2, 1), (31, .aaload, 1), (32, .iload_n 3, 1), (33, .invokevirtual 99, 3), (36, .if_icmp .ne 7, 3), (39, .iconst 1, 1), (40, .goto 4, 3), (43, .iconst 0, 1), (44, .ireturn, 1)]
theorem p_X9_areAlike : pj_tab cX9_areAlike P_X9_areAlike = true := by decide +kernel
def P_X9_harmWithout : List (Nat × Instr × Nat) := [(0, .iconst 0, 1), (1, .istore_n 2, 1), (2, .iconst 0, 1), (3, .istore_n 3, 1), (4, .iload_n 3, 1), (5, .aload_n 0, 1), (6, .getfield 56, 3), (9, .if_icmp .ge 38, 3), (12, .aload_n 0, 1), (13, .aload_n 0, 1), (14, .getfield 19, 3), (17, .iload_n 3, 1), (18, .iaload, 1), (19, .aload_n 0, 1), (20, .getfield 22, 3), (23, .iload_n 3, 1), (24, .iaload, 1), (25, .iload_n 1, 1), (26, .invokevirtual 102, 3), (29, .ifCond .eq 12, 3), (32, .iload_n 2, 1), (33, .aload_n 0, 1), (34, .getfield 25, 3), (37, .iload_n 3, 1), (38, .iaload, 1), (39, .iadd, 1), (40, .istore_n 2, 1), (41, .iinc 3 1, 3), (44, .goto (-40), 3), (47, .iload_n 2, 1), (48, .ireturn, 1)]
theorem p_X9_harmWithout : pj_tab cX9_harmWithout P_X9_harmWithout = true := by decide +kernel
def P_X9_harmOfPair : List (Nat × Instr × Nat) := [(0, .iconst 0, 1), (1, .istore_n 3, 1), (2, .iload_n 3, 1), (3, .aload_n 0, 1), (4, .getfield 56, 3), (7, .if_icmp .ge 34, 3), (10, .aload_n 0, 1), (11, .iload_n 1, 1), (12, .iload_n 3, 1), (13, .invokevirtual 106, 3), (16, .ifCond .eq 19, 3), (19, .aload_n 0, 1), (20, .iload_n 2, 1), (21, .iload_n 3, 1), (22, .invokevirtual 106, 3), (25, .ifCond .eq 10, 3), (28, .aload_n 0, 1), (29, .getfield 25, 3), (32, .iload_n 3, 1), (33, .iaload, 1), (34, .ireturn, 1), (35, .iinc 3 1, 3), (38, .goto (-36), 3), (41, .iconst 0, 1), (42, .ireturn, 1)]
theorem p_X9_harmOfPair : pj_tab cX9_harmOfPair P_X9_harmOfPair = true := by decide +kernel
def P_X9_harmOfPairsWith : List (Nat × Instr × Nat) := [(0, .iconst 0, 1), (1, .istore_n 2, 1), (2, .iconst 0, 1), (3, .istore_n 3, 1), (4, .iload_n 3, 1), (5, .aload_n 0, 1), (6, .getfield 56, 3), (9, .if_icmp .ge 27, 3), (12, .aload_n 0, 1), (13, .iload_n 1, 1), (14, .iload_n 3, 1), (15, .invokevirtual 106, 3), (18, .ifCond .eq 12, 3), (21, .iload_n 2, 1), (22, .aload_n 0, 1), (23, .getfield 25, 3), (26, .iload_n 3, 1), (27, .iaload, 1), (28, .iadd, 1), (29, .istore_n 2, 1), (30, .iinc 3 1, 3), (33, .goto (-29), 3), (36, .iload_n 2, 1), (37, .ireturn, 1)]
theorem p_X9_harmOfPairsWith : pj_tab cX9_harmOfPairsWith P_X9_harmOfPairsWith = true := by decide +kernel
def P_X9_isOfPair : List (Nat × Instr × Nat) := [(0, .aload_n 0, 1), (1, .getfield 19, 3), (4, .iload_n 2, 1), (5, .iaload, 1), (6, .iload_n 1, 1), (7, .if_icmp .eq 13, 3), (10, .aload_n 0, 1), (11, .getfield 22, 3), (14, .iload_n 2, 1), (15, .iaload, 1), (16, .iload_n 1, 1), (17, .if_icmp .ne 7, 3), (20, .iconst 1, 1), (21, .goto 4, 3), (24, .iconst 0, 1), (25, .ireturn, 1)]
theorem p_X9_isOfPair : pj_tab cX9_isOfPair P_X9_isOfPair = true := by decide +kernel
def P_X9_passDays : List (Nat × Instr × Nat) := [(0, .iconst 0, 1), (1, .istore_n 2, 1), (2, .iload_n 2, 1), (3, .iload_n 1, 1), (4, .if_icmp .ge 29, 3), (7, .aload_n 0, 1), (8, .iconst 0, 1), (9, .iconst 0, 1), (10, .aload_n 0, 1), (11, .getfield 62, 3), (14, .invokevirtual 110, 3), (17, .aload_n 0, 1), (18, .dup, 1), (19, .getfield 62, 3), (22, .iconst 1, 1), (23, .iadd, 1), (24, .putfield 62, 3), (27, .iinc 2 1, 3), (30, .goto (-28), 3), (33, .return_, 1)]
theorem p_X9_passDays : pj_tab cX9_passDays P_X9_passDays = true := by decide +kernel
def P_X9_repaint : List (Nat × Instr × Nat) := [(0, .aload_n 0, 1), (1, .iload_n 1, 1), (2, .invokevirtual 95, 3), (5, .ifCond .ne 5, 3), (8, .iconst 0, 1), (9, .ireturn, 1), (10, .aload_n 0, 1), (11, .getfield 15, 3), (14, .iload_n 1, 1), (15, .aaload, 1), (16, .invokevirtual 46, 3), (19, .istore_n 3, 1), (20, .aload_n 0, 1), (21, .iconst 1, 1), (22, .iload_n 1, 1), (23, .iload_n 3, 1), (24, .invokevirtual 110, 3), (27, .aload_n 0, 1), (28, .getfield 15, 3), (31, .iload_n 1, 1), (32, .aaload, 1), (33, .iload_n 2, 1), (34, .invokevirtual 113, 3), (37, .iload_n 3, 1), (38, .ireturn, 1)]
theorem p_X9_repaint : pj_tab cX9_repaint P_X9_repaint = true := by decide +kernel
def P_X9_changeWeek : List (Nat × Instr × Nat) := [(0, .aload_n 0, 1), (1, .iload_n 1, 1), (2, .invokevirtual 117, 3), (5, .istore_n 3, 1), (6, .aload_n 0, 1), (7, .iconst 2, 1), (8, .iload_n 1, 1), (9, .iload_n 3, 1), (10, .invokevirtual 110, 3), (13, .aload_n 0, 1), (14, .iload_n 1, 1), (15, .iload_n 2, 1), (16, .invokevirtual 120, 3), (19, .iload_n 3, 1), (20, .ireturn, 1)]
theorem p_X9_changeWeek : pj_tab cX9_changeWeek P_X9_changeWeek = true := by decide +kernel
def P_X9_keepAct : List (Nat × Instr × Nat) := [(0, .aload_n 0, 1), (1, .getfield 85, 3), (4, .bipush 24, 2), (6, .if_icmp .lt 7, 3), (9, .aload_n 0, 1), (10, .invokevirtual 124, 3), (13, .aload_n 0, 1), (14, .getfield 28, 3), (17, .aload_n 0, 1), (18, .getfield 85, 3), (21, .iload_n 1, 1), (22, .iastore, 1), (23, .aload_n 0, 1), (24, .getfield 31, 3), (27, .aload_n 0, 1), (28, .getfield 85, 3), (31, .iload_n 2, 1), (32, .iastore, 1), (33, .aload_n 0, 1), (34, .getfield 34, 3), (37, .aload_n 0, 1), (38, .getfield 85, 3), (41, .iload_n 3, 1), (42, .iastore, 1), (43, .aload_n 0, 1), (44, .dup, 1), (45, .getfield 85, 3), (48, .iconst 1, 1), (49, .iadd, 1), (50, .putfield 85, 3), (53, .return_, 1)]
theorem p_X9_keepAct : pj_tab cX9_keepAct P_X9_keepAct = true := by decide +kernel
def P_X9_forgetOldestAct : List (Nat × Instr × Nat) := [(0, .aload_n 0, 1), (1, .bipush 23, 2), (3, .putfield 85, 3), (6, .aload_n 0, 1), (7, .getfield 28, 3), (10, .iconst 1, 1), (11, .aload_n 0, 1), (12, .getfield 28, 3), (15, .iconst 0, 1), (16, .aload_n 0, 1), (17, .getfield 85, 3), (20, .invokestatic 127, 3), (23, .aload_n 0, 1), (24, .getfield 31, 3), (27, .iconst 1, 1), (28, .aload_n 0, 1), (29, .getfield 31, 3), (32, .iconst 0, 1), (33, .aload_n 0, 1), (34, .getfield 85, 3), (37, .invokestatic 127, 3), (40, .aload_n 0, 1), (41, .getfield 34, 3), (44, .iconst 1, 1), (45, .aload_n 0, 1), (46, .getfield 34, 3), (49, .iconst 0, 1), (50, .aload_n 0, 1), (51, .getfield 85, 3), (54, .invokestatic 127, 3), (57, .return_, 1)]
theorem p_X9_forgetOldestAct : pj_tab cX9_forgetOldestAct P_X9_forgetOldestAct = true := by decide +kernel
def P_X9_undoLatest : List (Nat × Instr × Nat) := [(0, .aload_n 0, 1), (1, .getfield 85, 3), (4, .ifCond .ne 4, 3), (7, .return_, 1), (8, .aload_n 0, 1), (9, .dup, 1), (10, .getfield 85, 3), (13, .iconst 1, 1), (14, .isub, 1), (15, .putfield 85, 3), (18, .aload_n 0, 1), (19, .getfield 31, 3), (22, .aload_n 0, 1), (23, .getfield 85, 3), (26, .iaload, 1), (27, .istore_n 1, 1), (28, .aload_n 0, 1), (29, .getfield 34, 3), (32, .aload_n 0, 1), (33, .getfield 85, 3), (36, .iaload, 1), (37, .istore_n 2, 1), (38, .aload_n 0, 1), (39, .getfield 28, 3), (42, .aload_n 0, 1), (43, .getfield 85, 3), (46, .iaload, 1), (47, .ifCond .ne 11, 3), (50, .aload_n 0, 1), (51, .iload_n 2, 1), (52, .putfield 62, 3), (55, .goto 43, 3), (58, .aload_n 0, 1), (59, .getfield 28, 3), (62, .aload_n 0, 1), (63, .getfield 85, 3), (66, .iaload, 1), (67, .iconst 2, 1), (68, .if_icmp .ne 12, 3), (71, .aload_n 0, 1), (72, .iload_n 1, 1), (73, .iload_n 2, 1), (74, .invokevirtual 120, 3), (77, .goto 21, 3), (80, .aload_n 0, 1), (81, .iload_n 1, 1), (82, .invokevirtual 95, 3), (85, .ifCond .eq 13, 3), (88, .aload_n 0, 1), (89, .getfield 15, 3), (92, .iload_n 1, 1), (93, .aaload, 1), (94, .iload_n 2, 1), (95, .invokevirtual 113, 3), (98, .return_, 1)]
theorem p_X9_undoLatest : pj_tab cX9_undoLatest P_X9_undoLatest = true := by decide +kernel
def P_X10_init : List (Nat × Instr × Nat) := [(0, .aload_n 0, 1), (1, .iload_n 1, 1), (2, .iload_n 2, 1), (3, .iload_n 3, 1), (4, .invokespecial 1, 3), (7, .return_, 1)]
theorem p_X10_init : pj_tab cX10_init P_X10_init = true := by decide +kernel
def P_X10_kindTold : List (Nat × Instr × Nat) := [(0, .iconst 2, 1), (1, .ireturn, 1)]
theorem p_X10_kindTold : pj_tab cX10_kindTold P_X10_kindTold = true := by decide +kernel
def P_X10_lookOf : List (Nat × Instr × Nat) := [(0, .iload_n 1, 1), (1, .iload_n 2, 1), (2, .iconst (-1), 1), (3, .ixor, 1), (4, .iand, 1), (5, .istore_n 3, 1), (6, .iload_n 3, 1), (7, .iload_n 3, 1), (8, .iconst 1, 1), (9, .isub, 1), (10, .iand, 1), (11, .istore 4, 2), (13, .iload 4, 2), (15, .ifCond .ne 7, 3), (18, .iload_n 3, 1), (19, .goto 5, 3), (22, .iload 4, 2), (24, .ireturn, 1)]
theorem p_X10_lookOf : pj_tab cX10_lookOf P_X10_lookOf = true := by decide +kernel
def P_X10_sizeAsked : List (Nat × Instr × Nat) := [(0, .aload_n 1, 1), (1, .bipush 12, 2), (3, .invokevirtual 9, 3), (6, .aload_n 0, 1), (7, .aload_n 1, 1), (8, .invokespecial 15, 3), (11, .ineg, 1), (12, .ireturn, 1)]
theorem p_X10_sizeAsked : pj_tab cX10_sizeAsked P_X10_sizeAsked = true := by decide +kernel
def P_X10_markAsked : List (Nat × Instr × Nat) := [(0, .aload_n 1, 1), (1, .bipush 24, 2), (3, .invokevirtual 9, 3), (6, .iconst 2, 1), (7, .aload_n 0, 1), (8, .aload_n 1, 1), (9, .invokespecial 19, 3), (12, .imul, 1), (13, .ireturn, 1)]
theorem p_X10_markAsked : pj_tab cX10_markAsked P_X10_markAsked = true := by decide +kernel
def P_X11_init : List (Nat × Instr × Nat) := [(0, .aload_n 0, 1), (1, .invokespecial 1, 3), (4, .aload_n 0, 1), (5, .new 7, 3), (8, .dup, 1), (9, .invokespecial 9, 3), (12, .putfield 10, 3), (15, .aload_n 0, 1), (16, .new 16, 3), (19, .dup, 1), (20, .invokespecial 18, 3), (23, .putfield 19, 3), (26, .aload_n 0, 1), (27, .new 23, 3), (30, .dup, 1), (31, .invokespecial 25, 3), (34, .putfield 26, 3), (37, .aload_n 0, 1), (38, .new 30, 3), (41, .dup, 1), (42, .invokespecial 32, 3), (45, .putfield 33, 3), (48, .aload_n 0, 1), (49, .iconst 2, 1), (50, .anewarray 37, 3), (53, .putfield 39, 3), (56, .return_, 1)]
theorem p_X11_init : pj_tab cX11_init P_X11_init = true := by decide +kernel
def P_X11_row : List (Nat × Instr × Nat) := [(0, .iload_n 1, 1), (1, .invokestatic 43, 3), (4, .ifCond .eq 18, 3), (7, .iload_n 2, 1), (8, .ifCond .lt 14, 3), (11, .iload_n 2, 1), (12, .iconst 3, 1), (13, .if_icmp .ge 9, 3), (16, .iload_n 3, 1), (17, .bipush 40, 2), (19, .if_icmp .le 6, 3), (22, .ldc 47, 2), (24, .ireturn, 1), (25, .aload_n 0, 1), (26, .iload_n 3, 1), (27, .ifCond .ge 7, 3), (30, .iconst 4, 1), (31, .goto 4, 3), (34, .iconst 0, 1), (35, .invokevirtual 48, 3), (38, .ifCond .eq 8, 3), (41, .aload_n 0, 1), (42, .invokevirtual 51, 3), (45, .ireturn, 1), (46, .aload_n 0, 1), (47, .getfield 10, 3), (50, .iload_n 1, 1), (51, .iload_n 2, 1), (52, .iload_n 3, 1), (53, .invokevirtual 55, 3), (56, .iload_n 3, 1), (57, .ireturn, 1)]
theorem p_X11_row : pj_tab cX11_row P_X11_row = true := by decide +kernel
def P_X11_set : List (Nat × Instr × Nat) := [(0, .iload_n 1, 1), (1, .invokestatic 43, 3), (4, .ifCond .ne 6, 3), (7, .ldc 47, 2), (9, .ireturn, 1), (10, .aload_n 0, 1), (11, .aload_n 0, 1), (12, .iload_n 1, 1), (13, .iload_n 2, 1), (14, .iconst 1, 1), (15, .invokevirtual 59, 3), (18, .invokevirtual 48, 3), (21, .ifCond .eq 8, 3), (24, .aload_n 0, 1), (25, .invokevirtual 51, 3), (28, .ireturn, 1), (29, .aload_n 0, 1), (30, .getfield 10, 3), (33, .iload_n 1, 1), (34, .iload_n 2, 1), (35, .iload_n 3, 1), (36, .invokevirtual 63, 3), (39, .ireturn, 1)]
theorem p_X11_set : pj_tab cX11_set P_X11_set = true := by decide +kernel
def P_X11_copy : List (Nat × Instr × Nat) := [(0, .iload_n 1, 1), (1, .invokestatic 43, 3), (4, .ifCond .eq 10, 3), (7, .iload_n 3, 1), (8, .invokestatic 43, 3), (11, .ifCond .ne 6, 3), (14, .ldc 47, 2), (16, .ireturn, 1), (17, .aload_n 0, 1), (18, .aload_n 0, 1), (19, .iload_n 1, 1), (20, .iload_n 2, 1), (21, .iload_n 3, 1), (22, .iload 4, 2), (24, .iload 5, 2), (26, .invokevirtual 66, 3), (29, .invokevirtual 48, 3), (32, .ifCond .eq 8, 3), (35, .aload_n 0, 1), (36, .invokevirtual 51, 3), (39, .ireturn, 1), (40, .aload_n 0, 1), (41, .getfield 10, 3), (44, .iload_n 1, 1), (45, .iload_n 2, 1), (46, .iload_n 3, 1), (47, .iload 4, 2), (49, .iload 5, 2), (51, .invokevirtual 70, 3), (54, .iload 5, 2), (56, .ireturn, 1)]
theorem p_X11_copy : pj_tab cX11_copy P_X11_copy = true := by decide +kernel
def P_X11_drop : List (Nat × Instr × Nat) := [(0, .iload_n 1, 1), (1, .invokestatic 43, 3), (4, .ifCond .ne 6, 3), (7, .ldc 47, 2), (9, .ireturn, 1), (10, .aload_n 0, 1), (11, .aload_n 0, 1), (12, .getfield 10, 3), (15, .iload_n 1, 1), (16, .invokevirtual 74, 3), (19, .ifCond .eq 7, 3), (22, .iconst 0, 1), (23, .goto 4, 3), (26, .iconst 1, 1), (27, .invokevirtual 48, 3), (30, .ifCond .eq 8, 3), (33, .aload_n 0, 1), (34, .invokevirtual 51, 3), (37, .ireturn, 1), (38, .aload_n 0, 1), (39, .getfield 10, 3), (42, .iload_n 1, 1), (43, .invokevirtual 77, 3), (46, .ireturn, 1)]
theorem p_X11_drop : pj_tab cX11_drop P_X11_drop = true := by decide +kernel
def P_X11_feed : List (Nat × Instr × Nat) := [(0, .iload_n 1, 1), (1, .ifCond .lt 10, 3), (4, .iload_n 1, 1), (5, .sipush 255, 3), (8, .if_icmp .le 6, 3), (11, .ldc 47, 2), (13, .ireturn, 1), (14, .aload_n 0, 1), (15, .getfield 19, 3), (18, .iload_n 1, 1), (19, .invokevirtual 81, 3), (22, .ifCond .eq 13, 3), (25, .aload_n 0, 1), (26, .getfield 19, 3), (29, .invokevirtual 83, 3), (32, .goto 5, 3), (35, .ldc 86, 2), (37, .ireturn, 1)]
theorem p_X11_feed : pj_tab cX11_feed P_X11_feed = true := by decide +kernel
def P_X11_town : List (Nat × Instr × Nat) := [(0, .aload_n 0, 1), (1, .getfield 19, 3), (4, .invokevirtual 87, 3), (7, .astore_n 1, 1), (8, .aload_n 1, 1), (9, .ifnonnull 25, 3), (12, .aload_n 0, 1), (13, .aload_n 0, 1), (14, .getfield 19, 3), (17, .invokevirtual 91, 3), (20, .putfield 94, 3), (23, .ldc 98, 2), (25, .aload_n 0, 1), (26, .getfield 19, 3), (29, .invokevirtual 99, 3), (32, .isub, 1), (33, .ireturn, 1), (34, .aload_n 0, 1), (35, .aload_n 1, 1), (36, .putfield 102, 3), (39, .aload_n 1, 1), (40, .invokevirtual 106, 3), (43, .ireturn, 1)]
theorem p_X11_town : pj_tab cX11_town P_X11_town = true := by decide +kernel
def P_X11_fault : List (Nat × Instr × Nat) := [(0, .aload_n 0, 1), (1, .getfield 94, 3), (4, .ireturn, 1)]
theorem p_X11_fault : pj_tab cX11_fault P_X11_fault = true := by decide +kernel
def P_X11_undo : List (Nat × Instr × Nat) := [(0, .aload_n 0, 1), (1, .getfield 102, 3), (4, .ifnull 13, 3), (7, .aload_n 0, 1), (8, .getfield 102, 3), (11, .invokevirtual 109, 3), (14, .ifCond .ne 6, 3), (17, .ldc 112, 2), (19, .ireturn, 1), (20, .aload_n 0, 1), (21, .getfield 102, 3), (24, .invokevirtual 113, 3), (27, .aload_n 0, 1), (28, .getfield 102, 3), (31, .invokevirtual 109, 3), (34, .ireturn, 1)]
theorem p_X11_undo : pj_tab cX11_undo P_X11_undo = true := by decide +kernel
def P_X11_days : List (Nat × Instr × Nat) := [(0, .aload_n 0, 1), (1, .getfield 102, 3), (4, .ifnonnull 6, 3), (7, .ldc 112, 2), (9, .ireturn, 1), (10, .iload_n 1, 1), (11, .iconst 1, 1), (12, .if_icmp .lt 9, 3), (15, .iload_n 1, 1), (16, .bipush 24, 2), (18, .if_icmp .le 6, 3), (21, .ldc 47, 2), (23, .ireturn, 1), (24, .aload_n 0, 1), (25, .getfield 102, 3), (28, .invokevirtual 116, 3), (31, .iload_n 1, 1), (32, .iadd, 1), (33, .sipush 999, 3), (36, .if_icmp .le 6, 3), (39, .ldc 86, 2), (41, .ireturn, 1), (42, .aload_n 0, 1), (43, .getfield 102, 3), (46, .iload_n 1, 1), (47, .invokevirtual 119, 3), (50, .aload_n 0, 1), (51, .getfield 102, 3), (54, .invokevirtual 116, 3), (57, .ireturn, 1)]
theorem p_X11_days : pj_tab cX11_days P_X11_days = true := by decide +kernel
def P_X11_paint : List (Nat × Instr × Nat) := [(0, .aload_n 0, 1), (1, .iload_n 1, 1), (2, .invokevirtual 123, 3), (5, .ifCond .eq 10, 3), (8, .iload_n 2, 1), (9, .invokestatic 126, 3), (12, .ifCond .ne 6, 3), (15, .ldc 47, 2), (17, .ireturn, 1), (18, .aload_n 0, 1), (19, .getfield 102, 3), (22, .iload_n 1, 1), (23, .invokevirtual 129, 3), (26, .invokevirtual 133, 3), (29, .ifCond .ne 6, 3), (32, .ldc 112, 2), (34, .ireturn, 1), (35, .aload_n 0, 1), (36, .getfield 102, 3), (39, .iload_n 1, 1), (40, .iload_n 2, 1), (41, .invokevirtual 139, 3), (44, .ireturn, 1)]
theorem p_X11_paint : pj_tab cX11_paint P_X11_paint = true := by decide +kernel
def P_X11_miss : List (Nat × Instr × Nat) := [(0, .aload_n 0, 1), (1, .getfield 102, 3), (4, .ifnonnull 6, 3), (7, .ldc 112, 2), (9, .ireturn, 1), (10, .iload_n 1, 1), (11, .invokestatic 143, 3), (14, .ifCond .eq 12, 3), (17, .iload_n 2, 1), (18, .ifCond .lt 8, 3), (21, .iload_n 2, 1), (22, .iconst 5, 1), (23, .if_icmp .le 6, 3), (26, .ldc 47, 2), (28, .ireturn, 1), (29, .aload_n 0, 1), (30, .getfield 102, 3), (33, .iload_n 1, 1), (34, .iload_n 2, 1), (35, .invokevirtual 146, 3), (38, .ireturn, 1)]
theorem p_X11_miss : pj_tab cX11_miss P_X11_miss = true := by decide +kernel
def P_X11_thing : List (Nat × Instr × Nat) := [(0, .aload_n 0, 1), (1, .iload_n 1, 1), (2, .invokevirtual 123, 3), (5, .ifCond .ne 6, 3), (8, .ldc 47, 2), (10, .ireturn, 1), (11, .iload_n 2, 1), (12, .tableswitch 85 0 3 #[32, 44, 56, 76], 32), (44, .aload_n 0, 1), (45, .getfield 102, 3), (48, .iload_n 1, 1), (49, .invokevirtual 129, 3), (52, .invokevirtual 149, 3), (55, .ireturn, 1), (56, .aload_n 0, 1), (57, .getfield 102, 3), (60, .iload_n 1, 1), (61, .invokevirtual 129, 3), (64, .invokevirtual 152, 3), (67, .ireturn, 1), (68, .aload_n 0, 1), (69, .getfield 102, 3), (72, .iload_n 1, 1), (73, .invokevirtual 129, 3), (76, .aload_n 0, 1), (77, .getfield 102, 3), (80, .iconst 0, 1), (81, .invokevirtual 155, 3), (84, .invokevirtual 158, 3), (87, .ireturn, 1), (88, .aload_n 0, 1), (89, .getfield 102, 3), (92, .iload_n 1, 1), (93, .invokevirtual 161, 3), (96, .ireturn, 1), (97, .ldc 47, 2), (99, .ireturn, 1)]
theorem p_X11_thing : pj_tab cX11_thing P_X11_thing = true := by decide +kernel
def P_X11_missing : List (Nat × Instr × Nat) := [(0, .aload_n 0, 1), (1, .getfield 102, 3), (4, .ifnonnull 6, 3), (7, .ldc 112, 2), (9, .ireturn, 1), (10, .iload_n 1, 1), (11, .invokestatic 143, 3), (14, .ifCond .eq 14, 3), (17, .aload_n 0, 1), (18, .getfield 102, 3), (21, .iload_n 1, 1), (22, .invokevirtual 164, 3), (25, .goto 5, 3), (28, .ldc 47, 2), (30, .ireturn, 1)]
theorem p_X11_missing : pj_tab cX11_missing P_X11_missing = true := by decide +kernel
def P_X11_pair : List (Nat × Instr × Nat) := [(0, .aload_n 0, 1), (1, .iload_n 1, 1), (2, .iload_n 2, 1), (3, .invokevirtual 167, 3), (6, .ifCond .eq 15, 3), (9, .aload_n 0, 1), (10, .getfield 102, 3), (13, .iload_n 1, 1), (14, .iload_n 2, 1), (15, .invokevirtual 171, 3), (18, .goto 5, 3), (21, .ldc 47, 2), (23, .ireturn, 1)]
theorem p_X11_pair : pj_tab cX11_pair P_X11_pair = true := by decide +kernel
def P_X11_look : List (Nat × Instr × Nat) := [(0, .aload_n 0, 1), (1, .iload_n 1, 1), (2, .invokevirtual 123, 3), (5, .ifCond .eq 10, 3), (8, .iload_n 2, 1), (9, .invokestatic 126, 3), (12, .ifCond .ne 6, 3), (15, .ldc 47, 2), (17, .ireturn, 1), (18, .aload_n 0, 1), (19, .getfield 102, 3), (22, .iload_n 1, 1), (23, .invokevirtual 129, 3), (26, .iload_n 2, 1), (27, .invokevirtual 158, 3), (30, .ireturn, 1)]
theorem p_X11_look : pj_tab cX11_look P_X11_look = true := by decide +kernel
def P_X11_alike : List (Nat × Instr × Nat) := [(0, .aload_n 0, 1), (1, .iload_n 1, 1), (2, .iload_n 2, 1), (3, .invokevirtual 167, 3), (6, .ifCond .eq 10, 3), (9, .iload_n 3, 1), (10, .invokestatic 174, 3), (13, .ifCond .ne 6, 3), (16, .ldc 47, 2), (18, .ireturn, 1), (19, .aload_n 0, 1), (20, .getfield 102, 3), (23, .iload_n 1, 1), (24, .iload_n 2, 1), (25, .aload_n 0, 1), (26, .getfield 102, 3), (29, .iload_n 3, 1), (30, .invokevirtual 155, 3), (33, .invokevirtual 177, 3), (36, .ifCond .eq 7, 3), (39, .iconst 1, 1), (40, .goto 4, 3), (43, .iconst 0, 1), (44, .ireturn, 1)]
theorem p_X11_alike : pj_tab cX11_alike P_X11_alike = true := by decide +kernel
def P_X11_like : List (Nat × Instr × Nat) := [(0, .aload_n 0, 1), (1, .iload_n 1, 1), (2, .invokevirtual 123, 3), (5, .ifCond .eq 10, 3), (8, .iload_n 2, 1), (9, .invokestatic 174, 3), (12, .ifCond .ne 6, 3), (15, .ldc 47, 2), (17, .ireturn, 1), (18, .aload_n 0, 1), (19, .getfield 26, 3), (22, .aload_n 0, 1), (23, .getfield 102, 3), (26, .iload_n 1, 1), (27, .iload_n 2, 1), (28, .invokevirtual 181, 3), (31, .ireturn, 1)]
theorem p_X11_like : pj_tab cX11_like P_X11_like = true := by decide +kernel
def P_X11_looks : List (Nat × Instr × Nat) := [(0, .aload_n 0, 1), (1, .getfield 102, 3), (4, .ifnonnull 6, 3), (7, .ldc 112, 2), (9, .ireturn, 1), (10, .iload_n 1, 1), (11, .invokestatic 174, 3), (14, .ifCond .eq 18, 3), (17, .aload_n 0, 1), (18, .getfield 26, 3), (21, .aload_n 0, 1), (22, .getfield 102, 3), (25, .iload_n 1, 1), (26, .invokevirtual 185, 3), (29, .goto 5, 3), (32, .ldc 47, 2), (34, .ireturn, 1)]
theorem p_X11_looks : pj_tab cX11_looks P_X11_looks = true := by decide +kernel
def P_X11_harm : List (Nat × Instr × Nat) := [(0, .aload_n 0, 1), (1, .getfield 102, 3), (4, .ifnonnull 6, 3), (7, .ldc 112, 2), (9, .ireturn, 1), (10, .iload_n 1, 1), (11, .invokestatic 174, 3), (14, .ifCond .eq 21, 3), (17, .aload_n 0, 1), (18, .getfield 102, 3), (21, .aload_n 0, 1), (22, .getfield 102, 3), (25, .iload_n 1, 1), (26, .invokevirtual 155, 3), (29, .invokevirtual 189, 3), (32, .goto 5, 3), (35, .ldc 47, 2), (37, .ireturn, 1)]
theorem p_X11_harm : pj_tab cX11_harm P_X11_harm = true := by decide +kernel
def P_X11_harms : List (Nat × Instr × Nat) := [(0, .aload_n 0, 1), (1, .getfield 102, 3), (4, .ifnonnull 6, 3), (7, .ldc 112, 2), (9, .ireturn, 1), (10, .iload_n 1, 1), (11, .iconst 1, 1), (12, .if_icmp .lt 24, 3), (15, .iload_n 1, 1), (16, .bipush 100, 2), (18, .if_icmp .gt 18, 3), (21, .aload_n 0, 1), (22, .getfield 26, 3), (25, .aload_n 0, 1), (26, .getfield 102, 3), (29, .iload_n 1, 1), (30, .invokevirtual 192, 3), (33, .goto 5, 3), (36, .ldc 47, 2), (38, .ireturn, 1)]
theorem p_X11_harms : pj_tab cX11_harms P_X11_harms = true := by decide +kernel
def P_X11_week : List (Nat × Instr × Nat) := [(0, .aload_n 0, 1), (1, .getfield 102, 3), (4, .ifnonnull 6, 3), (7, .ldc 112, 2), (9, .ireturn, 1), (10, .iload_n 1, 1), (11, .invokestatic 195, 3), (14, .ifCond .ne 6, 3), (17, .ldc 47, 2), (19, .ireturn, 1), (20, .iload_n 1, 1), (21, .ifCond .ne 17, 3), (24, .aload_n 0, 1), (25, .getfield 26, 3), (28, .aload_n 0, 1), (29, .getfield 102, 3), (32, .invokevirtual 198, 3), (35, .goto 14, 3), (38, .aload_n 0, 1), (39, .getfield 26, 3), (42, .aload_n 0, 1), (43, .getfield 102, 3), (46, .invokevirtual 202, 3), (49, .ireturn, 1)]
theorem p_X11_week : pj_tab cX11_week P_X11_week = true := by decide +kernel
def P_X11_bestPaint : List (Nat × Instr × Nat) := [(0, .aload_n 0, 1), (1, .getfield 102, 3), (4, .ifnonnull 6, 3), (7, .ldc 112, 2), (9, .ireturn, 1), (10, .iload_n 1, 1), (11, .invokestatic 195, 3), (14, .ifCond .eq 18, 3), (17, .aload_n 0, 1), (18, .getfield 26, 3), (21, .aload_n 0, 1), (22, .getfield 102, 3), (25, .iload_n 1, 1), (26, .invokevirtual 205, 3), (29, .goto 5, 3), (32, .ldc 47, 2), (34, .ireturn, 1)]
theorem p_X11_bestPaint : pj_tab cX11_bestPaint P_X11_bestPaint = true := by decide +kernel
def P_X11_dyes : List (Nat × Instr × Nat) := [(0, .aload_n 0, 1), (1, .getfield 102, 3), (4, .ifnonnull 6, 3), (7, .ldc 112, 2), (9, .ireturn, 1), (10, .iload_n 1, 1), (11, .iconst 1, 1), (12, .if_icmp .lt 19, 3), (15, .iload_n 1, 1), (16, .bipush 6, 2), (18, .if_icmp .gt 13, 3), (21, .iload_n 2, 1), (22, .iconst (-1), 1), (23, .if_icmp .lt 8, 3), (26, .iload_n 2, 1), (27, .iload_n 1, 1), (28, .if_icmp .lt 6, 3), (31, .ldc 47, 2), (33, .ireturn, 1), (34, .iload_n 2, 1), (35, .ifCond .ge 17, 3), (38, .aload_n 0, 1), (39, .getfield 26, 3), (42, .aload_n 0, 1), (43, .getfield 102, 3), (46, .invokevirtual 208, 3), (49, .goto 16, 3), (52, .aload_n 0, 1), (53, .getfield 26, 3), (56, .aload_n 0, 1), (57, .getfield 102, 3), (60, .iload_n 1, 1), (61, .iload_n 2, 1), (62, .invokevirtual 211, 3), (65, .ireturn, 1)]
theorem p_X11_dyes : pj_tab cX11_dyes P_X11_dyes = true := by decide +kernel
def P_X11_thief : List (Nat × Instr × Nat) := [(0, .aload_n 0, 1), (1, .getfield 102, 3), (4, .ifnonnull 6, 3), (7, .ldc 112, 2), (9, .ireturn, 1), (10, .iload_n 1, 1), (11, .invokestatic 195, 3), (14, .ifCond .eq 18, 3), (17, .aload_n 0, 1), (18, .getfield 26, 3), (21, .aload_n 0, 1), (22, .getfield 102, 3), (25, .iload_n 1, 1), (26, .invokevirtual 214, 3), (29, .goto 5, 3), (32, .ldc 47, 2), (34, .ireturn, 1)]
theorem p_X11_thief : pj_tab cX11_thief P_X11_thief = true := by decide +kernel
def P_X11_seen : List (Nat × Instr × Nat) := [(0, .aload_n 0, 1), (1, .getfield 102, 3), (4, .ifnonnull 6, 3), (7, .ldc 112, 2), (9, .ireturn, 1), (10, .iload_n 1, 1), (11, .invokestatic 43, 3), (14, .ifCond .ne 6, 3), (17, .ldc 47, 2), (19, .ireturn, 1), (20, .aload_n 0, 1), (21, .aload_n 0, 1), (22, .iload_n 1, 1), (23, .iload_n 2, 1), (24, .aload_n 0, 1), (25, .getfield 102, 3), (28, .invokevirtual 106, 3), (31, .invokevirtual 59, 3), (34, .invokevirtual 48, 3), (37, .ifCond .eq 8, 3), (40, .aload_n 0, 1), (41, .invokevirtual 51, 3), (44, .ireturn, 1), (45, .aload_n 0, 1), (46, .getfield 26, 3), (49, .aload_n 0, 1), (50, .getfield 102, 3), (53, .aload_n 0, 1), (54, .getfield 10, 3), (57, .iload_n 1, 1), (58, .iload_n 2, 1), (59, .invokevirtual 217, 3), (62, .ireturn, 1)]
theorem p_X11_seen : pj_tab cX11_seen P_X11_seen = true := by decide +kernel
def P_X11_shelf : List (Nat × Instr × Nat) := [(0, .aload_n 0, 1), (1, .getfield 102, 3), (4, .ifnonnull 6, 3), (7, .ldc 112, 2), (9, .ireturn, 1), (10, .iload_n 1, 1), (11, .invokestatic 174, 3), (14, .ifCond .eq 14, 3), (17, .iload_n 2, 1), (18, .iconst (-1), 1), (19, .if_icmp .lt 9, 3), (22, .iload_n 2, 1), (23, .bipush 7, 2), (25, .if_icmp .lt 6, 3), (28, .ldc 47, 2), (30, .ireturn, 1), (31, .iload_n 2, 1), (32, .ifCond .ge 18, 3), (35, .aload_n 0, 1), (36, .getfield 26, 3), (39, .aload_n 0, 1), (40, .getfield 102, 3), (43, .iload_n 1, 1), (44, .invokevirtual 221, 3), (47, .goto 16, 3), (50, .aload_n 0, 1), (51, .getfield 26, 3), (54, .aload_n 0, 1), (55, .getfield 102, 3), (58, .iload_n 1, 1), (59, .iload_n 2, 1), (60, .invokevirtual 224, 3), (63, .ireturn, 1)]
theorem p_X11_shelf : pj_tab cX11_shelf P_X11_shelf = true := by decide +kernel
def P_X11_parted : List (Nat × Instr × Nat) := [(0, .aload_n 0, 1), (1, .getfield 102, 3), (4, .ifnonnull 6, 3), (7, .ldc 112, 2), (9, .ireturn, 1), (10, .iload_n 1, 1), (11, .invokestatic 174, 3), (14, .ifCond .eq 17, 3), (17, .iload_n 2, 1), (18, .invokestatic 174, 3), (21, .ifCond .eq 10, 3), (24, .iload_n 3, 1), (25, .invokestatic 195, 3), (28, .ifCond .ne 6, 3), (31, .ldc 47, 2), (33, .ireturn, 1), (34, .iload_n 3, 1), (35, .ifCond .ne 19, 3), (38, .aload_n 0, 1), (39, .getfield 26, 3), (42, .aload_n 0, 1), (43, .getfield 102, 3), (46, .iload_n 1, 1), (47, .iload_n 2, 1), (48, .invokevirtual 227, 3), (51, .goto 16, 3), (54, .aload_n 0, 1), (55, .getfield 26, 3), (58, .aload_n 0, 1), (59, .getfield 102, 3), (62, .iload_n 1, 1), (63, .iload_n 2, 1), (64, .invokevirtual 230, 3), (67, .ireturn, 1)]
theorem p_X11_parted : pj_tab cX11_parted P_X11_parted = true := by decide +kernel
def P_X11_merged : List (Nat × Instr × Nat) := [(0, .aload_n 0, 1), (1, .iload_n 1, 1), (2, .iload_n 2, 1), (3, .invokevirtual 167, 3), (6, .ifCond .eq 19, 3), (9, .aload_n 0, 1), (10, .getfield 26, 3), (13, .aload_n 0, 1), (14, .getfield 102, 3), (17, .iload_n 1, 1), (18, .iload_n 2, 1), (19, .invokevirtual 233, 3), (22, .goto 5, 3), (25, .ldc 47, 2), (27, .ireturn, 1)]
theorem p_X11_merged : pj_tab cX11_merged P_X11_merged = true := by decide +kernel
def P_X11_tests : List (Nat × Instr × Nat) := [(0, .aload_n 0, 1), (1, .getfield 102, 3), (4, .ifnonnull 6, 3), (7, .ldc 112, 2), (9, .ireturn, 1), (10, .iload_n 1, 1), (11, .invokestatic 174, 3), (14, .ifCond .eq 25, 3), (17, .iload_n 2, 1), (18, .invokestatic 236, 3), (21, .ifCond .eq 18, 3), (24, .iload_n 3, 1), (25, .invokestatic 236, 3), (28, .ifCond .eq 11, 3), (31, .iload 4, 2), (33, .invokestatic 195, 3), (36, .ifCond .ne 6, 3), (39, .ldc 47, 2), (41, .ireturn, 1), (42, .aload_n 0, 1), (43, .getfield 26, 3), (46, .aload_n 0, 1), (47, .getfield 102, 3), (50, .iload_n 1, 1), (51, .iload_n 2, 1), (52, .iload_n 3, 1), (53, .iload 4, 2), (55, .invokevirtual 239, 3), (58, .ireturn, 1)]
theorem p_X11_tests : pj_tab cX11_tests P_X11_tests = true := by decide +kernel
def P_X11_bet : List (Nat × Instr × Nat) := [(0, .iload_n 1, 1), (1, .ifCond .lt 25, 3), (4, .iload_n 1, 1), (5, .bipush 12, 2), (7, .if_icmp .gt 19, 3), (10, .iload_n 2, 1), (11, .ifCond .lt 15, 3), (14, .iload_n 2, 1), (15, .iload_n 1, 1), (16, .if_icmp .gt 10, 3), (19, .iload_n 3, 1), (20, .invokestatic 195, 3), (23, .ifCond .ne 7, 3), (26, .ldc2_w 243, 3), (29, .lreturn, 1), (30, .iload_n 1, 1), (31, .iload_n 2, 1), (32, .iload_n 3, 1), (33, .invokestatic 245, 3), (36, .lreturn, 1)]
theorem p_X11_bet : pj_tab cX11_bet P_X11_bet = true := by decide +kernel
def P_X11_year : List (Nat × Instr × Nat) := [(0, .aload_n 0, 1), (1, .getfield 102, 3), (4, .ifnonnull 6, 3), (7, .ldc 112, 2), (9, .ireturn, 1), (10, .iload_n 1, 1), (11, .ifCond .lt 28, 3), (14, .iload_n 1, 1), (15, .sipush 200, 3), (18, .if_icmp .gt 21, 3), (21, .iload_n 2, 1), (22, .iconst 1, 1), (23, .if_icmp .lt 16, 3), (26, .iload_n 2, 1), (27, .ldc 249, 2), (29, .if_icmp .gt 10, 3), (32, .iload_n 3, 1), (33, .invokestatic 195, 3), (36, .ifCond .ne 6, 3), (39, .ldc 47, 2), (41, .ireturn, 1), (42, .aload_n 0, 1), (43, .getfield 26, 3), (46, .aload_n 0, 1), (47, .getfield 102, 3), (50, .iload_n 1, 1), (51, .iload_n 2, 1), (52, .iload_n 3, 1), (53, .invokevirtual 250, 3), (56, .ireturn, 1)]
theorem p_X11_year : pj_tab cX11_year P_X11_year = true := by decide +kernel
def P_X11_image : List (Nat × Instr × Nat) := [(0, .iload_n 1, 1), (1, .ifCond .lt 8, 3), (4, .iload_n 1, 1), (5, .iconst 2, 1), (6, .if_icmp .lt 6, 3), (9, .ldc 47, 2), (11, .ireturn, 1), (12, .aload_n 0, 1), (13, .getfield 102, 3), (16, .ifnonnull 6, 3), (19, .ldc 112, 2), (21, .ireturn, 1), (22, .aload_n 0, 1), (23, .getfield 39, 3), (26, .iload_n 1, 1), (27, .aload_n 0, 1), (28, .getfield 102, 3), (31, .invokevirtual 254, 3), (34, .aastore, 1), (35, .iconst 1, 1), (36, .ireturn, 1)]
theorem p_X11_image : pj_tab cX11_image P_X11_image = true := by decide +kernel
def P_X11_restore : List (Nat × Instr × Nat) := [(0, .iload_n 1, 1), (1, .ifCond .lt 8, 3), (4, .iload_n 1, 1), (5, .iconst 2, 1), (6, .if_icmp .lt 6, 3), (9, .ldc 47, 2), (11, .ireturn, 1), (12, .aload_n 0, 1), (13, .getfield 39, 3), (16, .iload_n 1, 1), (17, .aaload, 1), (18, .astore_n 2, 1), (19, .aload_n 2, 1), (20, .ifnonnull 6, 3), (23, .ldc 112, 2), (25, .ireturn, 1), (26, .aload_n 0, 1), (27, .aload_n 2, 1), (28, .invokevirtual 254, 3), (31, .putfield 102, 3), (34, .iconst 1, 1), (35, .ireturn, 1)]
theorem p_X11_restore : pj_tab cX11_restore P_X11_restore = true := by decide +kernel
def P_X11_kind : List (Nat × Instr × Nat) := [(0, .aload_n 0, 1), (1, .iload_n 1, 1), (2, .invokevirtual 123, 3), (5, .ifCond .eq 17, 3), (8, .aload_n 0, 1), (9, .getfield 102, 3), (12, .iload_n 1, 1), (13, .invokevirtual 129, 3), (16, .invokevirtual 257, 3), (19, .goto 5, 3), (22, .ldc 47, 2), (24, .ireturn, 1)]
theorem p_X11_kind : pj_tab cX11_kind P_X11_kind = true := by decide +kernel
def P_X11_as : List (Nat × Instr × Nat) := [(0, .aload_n 0, 1), (1, .iload_n 1, 1), (2, .invokevirtual 123, 3), (5, .ifCond .eq 12, 3), (8, .iload_n 2, 1), (9, .ifCond .lt 8, 3), (12, .iload_n 2, 1), (13, .iconst 5, 1), (14, .if_icmp .le 6, 3), (17, .ldc 47, 2), (19, .ireturn, 1), (20, .aload_n 0, 1), (21, .aload_n 0, 1), (22, .getfield 102, 3), (25, .iload_n 1, 1), (26, .invokevirtual 129, 3), (29, .iload_n 2, 1), (30, .invokestatic 260, 3), (33, .ifCond .eq 7, 3), (36, .iconst 0, 1), (37, .goto 4, 3), (40, .iconst 3, 1), (41, .invokevirtual 48, 3), (44, .ifCond .eq 10, 3), (47, .aload_n 0, 1), (48, .invokevirtual 51, 3), (51, .goto 4, 3), (54, .iload_n 1, 1), (55, .ireturn, 1)]
theorem p_X11_as : pj_tab cX11_as P_X11_as = true := by decide +kernel
def P_X11_ask : List (Nat × Instr × Nat) := [(0, .aload_n 0, 1), (1, .iload_n 1, 1), (2, .invokevirtual 123, 3), (5, .ifCond .eq 10, 3), (8, .iload_n 2, 1), (9, .invokestatic 195, 3), (12, .ifCond .ne 6, 3), (15, .ldc 47, 2), (17, .ireturn, 1), (18, .aload_n 0, 1), (19, .getfield 102, 3), (22, .iload_n 1, 1), (23, .invokevirtual 129, 3), (26, .astore_n 3, 1), (27, .aload_n 0, 1), (28, .getfield 33, 3), (31, .aload_n 0, 1), (32, .getfield 102, 3), (35, .iconst 0, 1), (36, .invokevirtual 155, 3), (39, .invokevirtual 264, 3), (42, .iload_n 2, 1), (43, .ifCond .ne 14, 3), (46, .aload_n 3, 1), (47, .aload_n 0, 1), (48, .getfield 33, 3), (51, .invokevirtual 267, 3), (54, .goto 11, 3), (57, .aload_n 3, 1), (58, .aload_n 0, 1), (59, .getfield 33, 3), (62, .invokevirtual 271, 3), (65, .ireturn, 1)]
theorem p_X11_ask : pj_tab cX11_ask P_X11_ask = true := by decide +kernel
def P_X11_trace : List (Nat × Instr × Nat) := [(0, .aload_n 0, 1), (1, .getfield 33, 3), (4, .iload_n 1, 1), (5, .invokevirtual 274, 3), (8, .ireturn, 1)]
theorem p_X11_trace : pj_tab cX11_trace P_X11_trace = true := by decide +kernel
def P_X11_count : List (Nat × Instr × Nat) := [(0, .iload_n 1, 1), (1, .ifCond .ne 11, 3), (4, .aload_n 0, 1), (5, .getfield 10, 3), (8, .invokevirtual 277, 3), (11, .ireturn, 1), (12, .iload_n 1, 1), (13, .bipush 6, 2), (15, .if_icmp .ne 11, 3), (18, .aload_n 0, 1), (19, .getfield 19, 3), (22, .invokevirtual 83, 3), (25, .ireturn, 1), (26, .iload_n 1, 1), (27, .ifCond .lt 9, 3), (30, .iload_n 1, 1), (31, .bipush 6, 2), (33, .if_icmp .le 6, 3), (36, .ldc 47, 2), (38, .ireturn, 1), (39, .aload_n 0, 1), (40, .getfield 102, 3), (43, .ifnonnull 7, 3), (46, .iconst 0, 1), (47, .goto 8, 3), (50, .aload_n 0, 1), (51, .iload_n 1, 1), (52, .invokevirtual 279, 3), (55, .ireturn, 1)]
theorem p_X11_count : pj_tab cX11_count P_X11_count = true := by decide +kernel
def P_X11_status : List (Nat × Instr × Nat) := [(0, .aload_n 0, 1), (1, .getfield 282, 3), (4, .ireturn, 1)]
theorem p_X11_status : pj_tab cX11_status P_X11_status = true := by decide +kernel
def P_X11_countOfTown : List (Nat × Instr × Nat) := [(0, .iload_n 1, 1), (1, .tableswitch 71 1 4 #[31, 39, 47, 55], 31), (32, .aload_n 0, 1), (33, .getfield 102, 3), (36, .invokevirtual 106, 3), (39, .ireturn, 1), (40, .aload_n 0, 1), (41, .getfield 102, 3), (44, .invokevirtual 285, 3), (47, .ireturn, 1), (48, .aload_n 0, 1), (49, .getfield 102, 3), (52, .invokevirtual 116, 3), (55, .ireturn, 1), (56, .aload_n 0, 1), (57, .getfield 102, 3), (60, .aload_n 0, 1), (61, .getfield 102, 3), (64, .iconst 0, 1), (65, .invokevirtual 155, 3), (68, .invokevirtual 189, 3), (71, .ireturn, 1), (72, .aload_n 0, 1), (73, .getfield 102, 3), (76, .invokevirtual 109, 3), (79, .ireturn, 1)]
theorem p_X11_countOfTown : pj_tab cX11_countOfTown P_X11_countOfTown = true := by decide +kernel
def P_X11_finds : List (Nat × Instr × Nat) := [(0, .aload_n 0, 1), (1, .iload_n 1, 1), (2, .putfield 282, 3), (5, .iload_n 1, 1), (6, .ifCond .eq 7, 3), (9, .iconst 1, 1), (10, .goto 4, 3), (13, .iconst 0, 1), (14, .ireturn, 1)]
theorem p_X11_finds : pj_tab cX11_finds P_X11_finds = true := by decide +kernel
def P_X11_finding : List (Nat × Instr × Nat) := [(0, .ldc_w 288, 3), (3, .aload_n 0, 1), (4, .getfield 282, 3), (7, .isub, 1), (8, .ireturn, 1)]
theorem p_X11_finding : pj_tab cX11_finding P_X11_finding = true := by decide +kernel
def P_X11_findingOfPlaces : List (Nat × Instr × Nat) := [(0, .aload_n 0, 1), (1, .getfield 10, 3), (4, .iload_n 1, 1), (5, .invokevirtual 74, 3), (8, .ifCond .ne 5, 3), (11, .iconst 1, 1), (12, .ireturn, 1), (13, .aload_n 0, 1), (14, .getfield 10, 3), (17, .iload_n 1, 1), (18, .iload_n 2, 1), (19, .iload_n 3, 1), (20, .invokevirtual 289, 3), (23, .ifCond .eq 7, 3), (26, .iconst 0, 1), (27, .goto 4, 3), (30, .iconst 2, 1), (31, .ireturn, 1)]
theorem p_X11_findingOfPlaces : pj_tab cX11_findingOfPlaces P_X11_findingOfPlaces = true := by decide +kernel
def P_X11_findingOfMove : List (Nat × Instr × Nat) := [(0, .aload_n 0, 1), (1, .getfield 10, 3), (4, .iload_n 1, 1), (5, .invokevirtual 74, 3), (8, .ifCond .eq 14, 3), (11, .aload_n 0, 1), (12, .getfield 10, 3), (15, .iload_n 3, 1), (16, .invokevirtual 74, 3), (19, .ifCond .ne 5, 3), (22, .iconst 1, 1), (23, .ireturn, 1), (24, .aload_n 0, 1), (25, .getfield 10, 3), (28, .iload_n 1, 1), (29, .iload_n 3, 1), (30, .invokevirtual 292, 3), (33, .ifCond .ne 5, 3), (36, .iconst 5, 1), (37, .ireturn, 1), (38, .aload_n 0, 1), (39, .getfield 10, 3), (42, .iload_n 1, 1), (43, .iload_n 2, 1), (44, .iload 5, 2), (46, .invokevirtual 289, 3), (49, .ifCond .eq 22, 3), (52, .aload_n 0, 1), (53, .getfield 10, 3), (56, .iload_n 3, 1), (57, .iload 4, 2), (59, .iload 5, 2), (61, .invokevirtual 289, 3), (64, .ifCond .eq 7, 3), (67, .iconst 0, 1), (68, .goto 4, 3), (71, .iconst 2, 1), (72, .ireturn, 1)]
theorem p_X11_findingOfMove : pj_tab cX11_findingOfMove P_X11_findingOfMove = true := by decide +kernel
def P_X11_isThing : List (Nat × Instr × Nat) := [(0, .aload_n 0, 1), (1, .getfield 102, 3), (4, .ifnull 18, 3), (7, .aload_n 0, 1), (8, .getfield 102, 3), (11, .iload_n 1, 1), (12, .invokevirtual 295, 3), (15, .ifCond .eq 7, 3), (18, .iconst 1, 1), (19, .goto 4, 3), (22, .iconst 0, 1), (23, .ireturn, 1)]
theorem p_X11_isThing : pj_tab cX11_isThing P_X11_isThing = true := by decide +kernel
def P_X11_areTwo : List (Nat × Instr × Nat) := [(0, .aload_n 0, 1), (1, .iload_n 1, 1), (2, .invokevirtual 123, 3), (5, .ifCond .eq 20, 3), (8, .aload_n 0, 1), (9, .iload_n 2, 1), (10, .invokevirtual 123, 3), (13, .ifCond .eq 12, 3), (16, .iload_n 1, 1), (17, .iload_n 2, 1), (18, .if_icmp .eq 7, 3), (21, .iconst 1, 1), (22, .goto 4, 3), (25, .iconst 0, 1), (26, .ireturn, 1)]
theorem p_X11_areTwo : pj_tab cX11_areTwo P_X11_areTwo = true := by decide +kernel
def P_X11_isOfKind : List (Nat × Instr × Nat) := [(0, .iload_n 1, 1), (1, .tableswitch 66 0 5 #[39, 41, 46, 51, 56, 61], 39), (40, .iconst 1, 1), (41, .ireturn, 1), (42, .aload_n 0, 1), (43, .instanceof 298, 3), (46, .ireturn, 1), (47, .aload_n 0, 1), (48, .instanceof 300, 3), (51, .ireturn, 1), (52, .aload_n 0, 1), (53, .instanceof 302, 3), (56, .ireturn, 1), (57, .aload_n 0, 1), (58, .instanceof 304, 3), (61, .ireturn, 1), (62, .aload_n 0, 1), (63, .instanceof 306, 3), (66, .ireturn, 1), (67, .iconst 0, 1), (68, .ireturn, 1)]
theorem p_X11_isOfKind : pj_tab cX11_isOfKind P_X11_isOfKind = true := by decide +kernel
def P_X11_isSet : List (Nat × Instr × Nat) := [(0, .iload_n 0, 1), (1, .ifCond .lt 13, 3), (4, .iload_n 0, 1), (5, .bipush 31, 2), (7, .if_icmp .gt 7, 3), (10, .iconst 1, 1), (11, .goto 4, 3), (14, .iconst 0, 1), (15, .ireturn, 1)]
theorem p_X11_isSet : pj_tab cX11_isSet P_X11_isSet = true := by decide +kernel
def P_X11_isWeekday : List (Nat × Instr × Nat) := [(0, .iload_n 0, 1), (1, .ifCond .lt 13, 3), (4, .iload_n 0, 1), (5, .bipush 7, 2), (7, .if_icmp .ge 7, 3), (10, .iconst 1, 1), (11, .goto 4, 3), (14, .iconst 0, 1), (15, .ireturn, 1)]
theorem p_X11_isWeekday : pj_tab cX11_isWeekday P_X11_isWeekday = true := by decide +kernel
def P_X11_isAhead : List (Nat × Instr × Nat) := [(0, .iload_n 0, 1), (1, .ifCond .lt 13, 3), (4, .iload_n 0, 1), (5, .bipush 100, 2), (7, .if_icmp .gt 7, 3), (10, .iconst 1, 1), (11, .goto 4, 3), (14, .iconst 0, 1), (15, .ireturn, 1)]
theorem p_X11_isAhead : pj_tab cX11_isAhead P_X11_isAhead = true := by decide +kernel
def P_X11_isChoice : List (Nat × Instr × Nat) := [(0, .iload_n 0, 1), (1, .ifCond .eq 8, 3), (4, .iload_n 0, 1), (5, .iconst 1, 1), (6, .if_icmp .ne 7, 3), (9, .iconst 1, 1), (10, .goto 4, 3), (13, .iconst 0, 1), (14, .ireturn, 1)]
theorem p_X11_isChoice : pj_tab cX11_isChoice P_X11_isChoice = true := by decide +kernel
def P_X11_isCost : List (Nat × Instr × Nat) := [(0, .iload_n 0, 1), (1, .ifCond .lt 13, 3), (4, .iload_n 0, 1), (5, .bipush 20, 2), (7, .if_icmp .gt 7, 3), (10, .iconst 1, 1), (11, .goto 4, 3), (14, .iconst 0, 1), (15, .ireturn, 1)]
theorem p_X11_isCost : pj_tab cX11_isCost P_X11_isCost = true := by decide +kernel
def P_X12_init : List (Nat × Instr × Nat) := [(0, .aload_n 0, 1), (1, .invokespecial 1, 3), (4, .aload_n 0, 1), (5, .bipush 8, 2), (7, .newarray .int, 2), (9, .dup, 1), (10, .iconst 0, 1), (11, .iconst (-1), 1), (12, .iastore, 1), (13, .dup, 1), (14, .iconst 1, 1), (15, .iconst (-1), 1), (16, .iastore, 1), (17, .dup, 1), (18, .iconst 2, 1), (19, .iconst (-1), 1), (20, .iastore, 1), (21, .dup, 1), (22, .iconst 3, 1), (23, .iconst (-1), 1), (24, .iastore, 1), (25, .dup, 1), (26, .iconst 4, 1), (27, .iconst (-1), 1), (28, .iastore, 1), (29, .dup, 1), (30, .iconst 5, 1), (31, .iconst (-1), 1), (32, .iastore, 1), (33, .dup, 1), (34, .bipush 6, 2), (36, .iconst (-1), 1), (37, .iastore, 1), (38, .dup, 1), (39, .bipush 7, 2), (41, .iconst (-1), 1), (42, .iastore, 1), (43, .putfield 7, 3), (46, .aload_n 0, 1), (47, .bipush 8, 2), (49, .newarray .int, 2), (51, .putfield 13, 3), (54, .aload_n 0, 1), (55, .sipush 320, 3), (58, .newarray .int, 2), (60, .putfield 16, 3), (63, .aload_n 0, 1), (64, .bipush 56, 2), (66, .newarray .int, 2), (68, .putfield 19, 3), (71, .aload_n 0, 1), (72, .bipush 56, 2), (74, .newarray .int, 2), (76, .putfield 22, 3), (79, .aload_n 0, 1), (80, .sipush 1344, 3), (83, .newarray .int, 2), (85, .putfield 25, 3), (88, .aload_n 0, 1), (89, .bipush 120, 2), (91, .newarray .int, 2), (93, .putfield 28, 3), (96, .aload_n 0, 1), (97, .bipush 6, 2), (99, .newarray .int, 2), (101, .putfield 31, 3), (104, .aload_n 0, 1), (105, .sipush 896, 3), (108, .newarray .int, 2), (110, .putfield 34, 3), (113, .aload_n 0, 1), (114, .iconst 2, 1), (115, .newarray .boolean, 2), (117, .putfield 37, 3), (120, .aload_n 0, 1), (121, .bipush 112, 2), (123, .newarray .int, 2), (125, .putfield 41, 3), (128, .aload_n 0, 1), (129, .bipush 16, 2), (131, .newarray .int, 2), (133, .putfield 44, 3), (136, .return_, 1)]
theorem p_X12_init : pj_tab cX12_init P_X12_init = true := by decide +kernel
def P_X12_in : List (Nat × Instr × Nat) := [(0, .lload_n 0, 1), (1, .lload_n 2, 1), (2, .lcmp, 1), (3, .ifCond .lt 14, 3), (6, .lload_n 0, 1), (7, .lload 4, 2), (9, .lcmp, 1), (10, .ifCond .gt 7, 3), (13, .iconst 1, 1), (14, .goto 4, 3), (17, .iconst 0, 1), (18, .ireturn, 1)]
theorem p_X12_in : pj_tab cX12_in P_X12_in = true := by decide +kernel
def P_X12_finding : List (Nat × Instr × Nat) := [(0, .aload_n 0, 1), (1, .iload_n 1, 1), (2, .putfield 51, 3), (5, .ldc 54, 2), (7, .iload_n 1, 1), (8, .isub, 1), (9, .ireturn, 1)]
theorem p_X12_finding : pj_tab cX12_finding P_X12_finding = true := by decide +kernel
def P_X12_isRow : List (Nat × Instr × Nat) := [(0, .iload_n 0, 1), (1, .i2l, 1), (2, .lconst 0, 1), (3, .ldc2_w 55, 3), (6, .invokestatic 57, 3), (9, .ireturn, 1)]
theorem p_X12_isRow : pj_tab cX12_isRow P_X12_isRow = true := by decide +kernel
def P_X12_row : List (Nat × Instr × Nat) := [(0, .aload_n 0, 1), (1, .iconst 0, 1), (2, .putfield 47, 3), (5, .iload_n 1, 1), (6, .invokestatic 61, 3), (9, .ifCond .eq 21, 3), (12, .iload_n 2, 1), (13, .i2l, 1), (14, .lconst 0, 1), (15, .ldc2_w 65, 3), (18, .invokestatic 57, 3), (21, .ifCond .eq 9, 3), (24, .iload_n 3, 1), (25, .bipush 40, 2), (27, .if_icmp .le 6, 3), (30, .ldc 67, 2), (32, .ireturn, 1), (33, .aload_n 0, 1), (34, .iconst 0, 1), (35, .putfield 51, 3), (38, .iload_n 3, 1), (39, .ifCond .ge 9, 3), (42, .aload_n 0, 1), (43, .iconst 4, 1), (44, .invokevirtual 68, 3), (47, .ireturn, 1), (48, .aload_n 0, 1), (49, .getfield 7, 3), (52, .iload_n 1, 1), (53, .iload_n 2, 1), (54, .iastore, 1), (55, .aload_n 0, 1), (56, .getfield 13, 3), (59, .iload_n 1, 1), (60, .iload_n 3, 1), (61, .iastore, 1), (62, .iconst 0, 1), (63, .istore 4, 2), (65, .iload 4, 2), (67, .bipush 40, 2), (69, .if_icmp .ge 22, 3), (72, .aload_n 0, 1), (73, .getfield 16, 3), (76, .bipush 40, 2), (78, .iload_n 1, 1), (79, .imul, 1), (80, .iload 4, 2), (82, .iadd, 1), (83, .iconst 0, 1), (84, .iastore, 1), (85, .iinc 4 1, 3), (88, .goto (-23), 3), (91, .iload_n 3, 1), (92, .ireturn, 1)]
theorem p_X12_row : pj_tab cX12_row P_X12_row = true := by decide +kernel
def P_X12_set : List (Nat × Instr × Nat) := [(0, .aload_n 0, 1), (1, .iconst 0, 1), (2, .putfield 47, 3), (5, .iload_n 1, 1), (6, .invokestatic 61, 3), (9, .ifCond .ne 6, 3), (12, .ldc 67, 2), (14, .ireturn, 1), (15, .aload_n 0, 1), (16, .iconst 0, 1), (17, .putfield 51, 3), (20, .aload_n 0, 1), (21, .getfield 7, 3), (24, .iload_n 1, 1), (25, .iaload, 1), (26, .ifCond .ge 9, 3), (29, .aload_n 0, 1), (30, .iconst 1, 1), (31, .invokevirtual 68, 3), (34, .ireturn, 1), (35, .iload_n 2, 1), (36, .i2l, 1), (37, .lconst 0, 1), (38, .aload_n 0, 1), (39, .getfield 13, 3), (42, .iload_n 1, 1), (43, .iaload, 1), (44, .iconst 1, 1), (45, .isub, 1), (46, .i2l, 1), (47, .invokestatic 57, 3), (50, .ifCond .ne 9, 3), (53, .aload_n 0, 1), (54, .iconst 2, 1), (55, .invokevirtual 68, 3), (58, .ireturn, 1), (59, .aload_n 0, 1), (60, .getfield 16, 3), (63, .bipush 40, 2), (65, .iload_n 1, 1), (66, .imul, 1), (67, .iload_n 2, 1), (68, .iadd, 1), (69, .aload_n 0, 1), (70, .getfield 7, 3), (73, .iload_n 1, 1), (74, .iaload, 1), (75, .ifCond .ne 8, 3), (78, .iload_n 3, 1), (79, .i2b, 1), (80, .goto 19, 3), (83, .aload_n 0, 1), (84, .getfield 7, 3), (87, .iload_n 1, 1), (88, .iaload, 1), (89, .iconst 1, 1), (90, .if_icmp .ne 8, 3), (93, .iload_n 3, 1), (94, .i2s, 1), (95, .goto 4, 3), (98, .iload_n 3, 1), (99, .iastore, 1), (100, .aload_n 0, 1), (101, .getfield 16, 3), (104, .bipush 40, 2), (106, .iload_n 1, 1), (107, .imul, 1), (108, .iload_n 2, 1), (109, .iadd, 1), (110, .iaload, 1), (111, .ireturn, 1)]
theorem p_X12_set : pj_tab cX12_set P_X12_set = true := by decide +kernel
def P_X12_copy : List (Nat × Instr × Nat) := [(0, .aload_n 0, 1), (1, .iconst 0, 1), (2, .putfield 47, 3), (5, .iload_n 1, 1), (6, .invokestatic 61, 3), (9, .ifCond .eq 10, 3), (12, .iload_n 3, 1), (13, .invokestatic 61, 3), (16, .ifCond .ne 6, 3), (19, .ldc 67, 2), (21, .ireturn, 1), (22, .aload_n 0, 1), (23, .iconst 0, 1), (24, .putfield 51, 3), (27, .aload_n 0, 1), (28, .getfield 7, 3), (31, .iload_n 1, 1), (32, .iaload, 1), (33, .ifCond .lt 12, 3), (36, .aload_n 0, 1), (37, .getfield 7, 3), (40, .iload_n 3, 1), (41, .iaload, 1), (42, .ifCond .ge 9, 3), (45, .aload_n 0, 1), (46, .iconst 1, 1), (47, .invokevirtual 68, 3), (50, .ireturn, 1), (51, .aload_n 0, 1), (52, .getfield 7, 3), (55, .iload_n 1, 1), (56, .iaload, 1), (57, .aload_n 0, 1), (58, .getfield 7, 3), (61, .iload_n 3, 1), (62, .iaload, 1), (63, .if_icmp .eq 9, 3), (66, .aload_n 0, 1), (67, .iconst 5, 1), (68, .invokevirtual 68, 3), (71, .ireturn, 1), (72, .iload_n 2, 1), (73, .ifCond .lt 48, 3), (76, .iload 4, 2), (78, .ifCond .lt 43, 3), (81, .iload 5, 2), (83, .ifCond .lt 38, 3), (86, .iload_n 2, 1), (87, .i2l, 1), (88, .iload 5, 2), (90, .i2l, 1), (91, .ladd, 1), (92, .aload_n 0, 1), (93, .getfield 13, 3), (96, .iload_n 1, 1), (97, .iaload, 1), (98, .i2l, 1), (99, .lcmp, 1), (100, .ifCond .gt 21, 3), (103, .iload 4, 2), (105, .i2l, 1), (106, .iload 5, 2), (108, .i2l, 1), (109, .ladd, 1), (110, .aload_n 0, 1), (111, .getfield 13, 3), (114, .iload_n 3, 1), (115, .iaload, 1), (116, .i2l, 1), (117, .lcmp, 1), (118, .ifCond .le 9, 3), (121, .aload_n 0, 1), (122, .iconst 2, 1), (123, .invokevirtual 68, 3), (126, .ireturn, 1), (127, .iload_n 2, 1), (128, .iload 4, 2), (130, .if_icmp .lt 7, 3), (133, .iconst 1, 1), (134, .goto 4, 3), (137, .iconst 0, 1), (138, .istore 6, 2), (140, .iconst 0, 1), (141, .istore 7, 2), (143, .iload 7, 2), (145, .iload 5, 2), (147, .if_icmp .ge 57, 3), (150, .iload 6, 2), (152, .ifCond .eq 8, 3), (155, .iload 7, 2), (157, .goto 10, 3), (160, .iload 5, 2), (162, .iconst 1, 1), (163, .isub, 1), (164, .iload 7, 2), (166, .isub, 1), (167, .istore 8, 2), (169, .aload_n 0, 1), (170, .getfield 16, 3), (173, .bipush 40, 2), (175, .iload_n 3, 1), (176, .imul, 1), (177, .iload 4, 2), (179, .iadd, 1), (180, .iload 8, 2), (182, .iadd, 1), (183, .aload_n 0, 1), (184, .getfield 16, 3), (187, .bipush 40, 2), (189, .iload_n 1, 1), (190, .imul, 1), (191, .iload_n 2, 1), (192, .iadd, 1), (193, .iload 8, 2), (195, .iadd, 1), (196, .iaload, 1), (197, .iastore, 1), (198, .iinc 7 1, 3), (201, .goto (-58), 3), (204, .iload 5, 2), (206, .ireturn, 1)]
theorem p_X12_copy : pj_tab cX12_copy P_X12_copy = true := by decide +kernel
def P_X12_drop : List (Nat × Instr × Nat) := [(0, .aload_n 0, 1), (1, .iconst 0, 1), (2, .putfield 47, 3), (5, .iload_n 1, 1), (6, .invokestatic 61, 3), (9, .ifCond .ne 6, 3), (12, .ldc 67, 2), (14, .ireturn, 1), (15, .aload_n 0, 1), (16, .iconst 0, 1), (17, .putfield 51, 3), (20, .aload_n 0, 1), (21, .getfield 7, 3), (24, .iload_n 1, 1), (25, .iaload, 1), (26, .ifCond .ge 9, 3), (29, .aload_n 0, 1), (30, .iconst 1, 1), (31, .invokevirtual 68, 3), (34, .ireturn, 1), (35, .aload_n 0, 1), (36, .getfield 7, 3), (39, .iload_n 1, 1), (40, .iconst (-1), 1), (41, .iastore, 1), (42, .aload_n 0, 1), (43, .getfield 13, 3), (46, .iload_n 1, 1), (47, .iaload, 1), (48, .ireturn, 1)]
theorem p_X12_drop : pj_tab cX12_drop P_X12_drop = true := by decide +kernel
def P_X12_feed : List (Nat × Instr × Nat) := [(0, .aload_n 0, 1), (1, .iconst 0, 1), (2, .putfield 47, 3), (5, .iload_n 1, 1), (6, .i2l, 1), (7, .lconst 0, 1), (8, .ldc2_w 72, 3), (11, .invokestatic 57, 3), (14, .ifCond .ne 6, 3), (17, .ldc 67, 2), (19, .ireturn, 1), (20, .aload_n 0, 1), (21, .getfield 74, 3), (24, .bipush 120, 2), (26, .if_icmp .ne 6, 3), (29, .ldc 77, 2), (31, .ireturn, 1), (32, .aload_n 0, 1), (33, .getfield 28, 3), (36, .aload_n 0, 1), (37, .getfield 74, 3), (40, .iload_n 1, 1), (41, .iastore, 1), (42, .aload_n 0, 1), (43, .dup, 1), (44, .getfield 74, 3), (47, .iconst 1, 1), (48, .iadd, 1), (49, .putfield 74, 3), (52, .aload_n 0, 1), (53, .getfield 74, 3), (56, .ireturn, 1)]
theorem p_X12_feed : pj_tab cX12_feed P_X12_feed = true := by decide +kernel
def P_X12_bad : List (Nat × Instr × Nat) := [(0, .aload_n 0, 1), (1, .getfield 78, 3), (4, .ifCond .ne 16, 3), (7, .aload_n 0, 1), (8, .iload_n 1, 1), (9, .putfield 78, 3), (12, .aload_n 0, 1), (13, .aload_n 0, 1), (14, .getfield 81, 3), (17, .putfield 84, 3), (20, .return_, 1)]
theorem p_X12_bad : pj_tab cX12_bad P_X12_bad = true := by decide +kernel
def P_X12_nextToken : List (Nat × Instr × Nat) := [(0, .aload_n 0, 1), (1, .aload_n 0, 1), (2, .getfield 87, 3), (5, .putfield 81, 3), (8, .aload_n 0, 1), (9, .aload_n 0, 1), (10, .getfield 87, 3), (13, .aload_n 0, 1), (14, .getfield 74, 3), (17, .if_icmp .ge 15, 3), (20, .aload_n 0, 1), (21, .getfield 28, 3), (24, .aload_n 0, 1), (25, .getfield 87, 3), (28, .iaload, 1), (29, .goto 5, 3), (32, .ldc 90, 2), (34, .putfield 91, 3), (37, .aload_n 0, 1), (38, .aload_n 0, 1), (39, .getfield 87, 3), (42, .aload_n 0, 1), (43, .getfield 74, 3), (46, .if_icmp .ne 7, 3), (49, .iconst 1, 1), (50, .goto 68, 3), (53, .aload_n 0, 1), (54, .getfield 91, 3), (57, .i2l, 1), (58, .ldc2_w 94, 3), (61, .ldc2_w 96, 3), (64, .invokestatic 57, 3), (67, .ifCond .eq 7, 3), (70, .iconst 2, 1), (71, .goto 47, 3), (74, .aload_n 0, 1), (75, .getfield 91, 3), (78, .i2l, 1), (79, .ldc2_w 98, 3), (82, .ldc2_w 100, 3), (85, .invokestatic 57, 3), (88, .ifCond .eq 7, 3), (91, .iconst 3, 1), (92, .goto 26, 3), (95, .aload_n 0, 1), (96, .getfield 91, 3), (99, .bipush 44, 2), (101, .if_icmp .eq 12, 3), (104, .aload_n 0, 1), (105, .getfield 91, 3), (108, .bipush 59, 2), (110, .if_icmp .ne 7, 3), (113, .iconst 4, 1), (114, .goto 4, 3), (117, .iconst 0, 1), (118, .putfield 102, 3), (121, .aload_n 0, 1), (122, .dup, 1), (123, .getfield 87, 3), (126, .aload_n 0, 1), (127, .getfield 87, 3), (130, .aload_n 0, 1), (131, .getfield 74, 3), (134, .if_icmp .ge 7, 3), (137, .iconst 1, 1), (138, .goto 4, 3), (141, .iconst 0, 1), (142, .iadd, 1), (143, .putfield 87, 3), (146, .aload_n 0, 1), (147, .getfield 102, 3), (150, .iconst 3, 1), (151, .if_icmp .ne 126, 3), (154, .aload_n 0, 1), (155, .dup, 1), (156, .getfield 91, 3), (159, .bipush 48, 2), (161, .isub, 1), (162, .putfield 91, 3), (165, .aload_n 0, 1), (166, .getfield 87, 3), (169, .aload_n 0, 1), (170, .getfield 74, 3), (173, .if_icmp .ge 82, 3), (176, .aload_n 0, 1), (177, .getfield 28, 3), (180, .aload_n 0, 1), (181, .getfield 87, 3), (184, .iaload, 1), (185, .i2l, 1), (186, .ldc2_w 98, 3), (189, .ldc2_w 100, 3), (192, .invokestatic 57, 3), (195, .ifCond .eq 60, 3), (198, .aload_n 0, 1), (199, .aload_n 0, 1), (200, .getfield 87, 3), (203, .aload_n 0, 1), (204, .getfield 81, 3), (207, .isub, 1), (208, .iconst 2, 1), (209, .if_icmp .ge 26, 3), (212, .bipush 10, 2), (214, .aload_n 0, 1), (215, .getfield 91, 3), (218, .imul, 1), (219, .aload_n 0, 1), (220, .getfield 28, 3), (223, .aload_n 0, 1), (224, .getfield 87, 3), (227, .iaload, 1), (228, .iadd, 1), (229, .bipush 48, 2), (231, .isub, 1), (232, .goto 7, 3), (235, .aload_n 0, 1), (236, .getfield 91, 3), (239, .putfield 91, 3), (242, .aload_n 0, 1), (243, .dup, 1), (244, .getfield 87, 3), (247, .iconst 1, 1), (248, .iadd, 1), (249, .putfield 87, 3), (252, .goto (-87), 3), (255, .aload_n 0, 1), (256, .aload_n 0, 1), (257, .getfield 87, 3), (260, .aload_n 0, 1), (261, .getfield 81, 3), (264, .isub, 1), (265, .iconst 2, 1), (266, .if_icmp .le 7, 3), (269, .iconst 0, 1), (270, .goto 4, 3), (273, .iconst 3, 1), (274, .putfield 102, 3), (277, .return_, 1)]
theorem p_X12_nextToken : pj_tab cX12_nextToken P_X12_nextToken = true := by decide +kernel
def P_X12_must : List (Nat × Instr × Nat) := [(0, .iload_n 1, 1), (1, .ifCond .ne 8, 3), (4, .aload_n 0, 1), (5, .iconst 1, 1), (6, .invokevirtual 105, 3), (9, .aload_n 0, 1), (10, .getfield 78, 3), (13, .ifCond .ne 7, 3), (16, .aload_n 0, 1), (17, .invokevirtual 109, 3), (20, .return_, 1)]
theorem p_X12_must : pj_tab cX12_must P_X12_must = true := by decide +kernel
def P_X12_isLetter : List (Nat × Instr × Nat) := [(0, .aload_n 0, 1), (1, .getfield 78, 3), (4, .ifCond .ne 23, 3), (7, .aload_n 0, 1), (8, .getfield 102, 3), (11, .iconst 2, 1), (12, .if_icmp .ne 15, 3), (15, .aload_n 0, 1), (16, .getfield 91, 3), (19, .iload_n 1, 1), (20, .if_icmp .ne 7, 3), (23, .iconst 1, 1), (24, .goto 4, 3), (27, .iconst 0, 1), (28, .ireturn, 1)]
theorem p_X12_isLetter : pj_tab cX12_isLetter P_X12_isLetter = true := by decide +kernel
def P_X12_number : List (Nat × Instr × Nat) := [(0, .aload_n 0, 1), (1, .getfield 78, 3), (4, .ifCond .ne 16, 3), (7, .aload_n 0, 1), (8, .getfield 102, 3), (11, .iconst 3, 1), (12, .if_icmp .eq 8, 3), (15, .aload_n 0, 1), (16, .iconst 1, 1), (17, .invokevirtual 105, 3), (20, .aload_n 0, 1), (21, .getfield 78, 3), (24, .ifCond .ne 23, 3), (27, .aload_n 0, 1), (28, .getfield 91, 3), (31, .i2l, 1), (32, .iload_n 1, 1), (33, .i2l, 1), (34, .iload_n 2, 1), (35, .i2l, 1), (36, .invokestatic 57, 3), (39, .ifCond .ne 8, 3), (42, .aload_n 0, 1), (43, .iconst 2, 1), (44, .invokevirtual 105, 3), (47, .aload_n 0, 1), (48, .getfield 78, 3), (51, .ifCond .ne 10, 3), (54, .aload_n 0, 1), (55, .getfield 91, 3), (58, .goto 4, 3), (61, .iload_n 1, 1), (62, .istore_n 3, 1), (63, .aload_n 0, 1), (64, .iconst 1, 1), (65, .invokevirtual 112, 3), (68, .iload_n 3, 1), (69, .ireturn, 1)]
theorem p_X12_number : pj_tab cX12_number P_X12_number = true := by decide +kernel
def P_X12_mustSign : List (Nat × Instr × Nat) := [(0, .aload_n 0, 1), (1, .aload_n 0, 1), (2, .getfield 102, 3), (5, .iconst 4, 1), (6, .if_icmp .ne 15, 3), (9, .aload_n 0, 1), (10, .getfield 91, 3), (13, .iload_n 1, 1), (14, .if_icmp .ne 7, 3), (17, .iconst 1, 1), (18, .goto 4, 3), (21, .iconst 0, 1), (22, .invokevirtual 112, 3), (25, .return_, 1)]
theorem p_X12_mustSign : pj_tab cX12_mustSign P_X12_mustSign = true := by decide +kernel
def P_X12_begin : List (Nat × Instr × Nat) := [(0, .aload_n 0, 1), (1, .iconst 0, 1), (2, .putfield 87, 3), (5, .aload_n 0, 1), (6, .iconst 0, 1), (7, .putfield 78, 3), (10, .aload_n 0, 1), (11, .invokevirtual 109, 3), (14, .return_, 1)]
theorem p_X12_begin : pj_tab cX12_begin P_X12_begin = true := by decide +kernel
def P_X12_failed : List (Nat × Instr × Nat) := [(0, .aload_n 0, 1), (1, .getfield 78, 3), (4, .ifCond .ne 16, 3), (7, .aload_n 0, 1), (8, .getfield 102, 3), (11, .iconst 1, 1), (12, .if_icmp .eq 8, 3), (15, .aload_n 0, 1), (16, .iconst 1, 1), (17, .invokevirtual 105, 3), (20, .aload_n 0, 1), (21, .iconst 0, 1), (22, .putfield 74, 3), (25, .aload_n 0, 1), (26, .aload_n 0, 1), (27, .getfield 78, 3), (30, .ifCond .le 10, 3), (33, .aload_n 0, 1), (34, .getfield 78, 3), (37, .goto 7, 3), (40, .aload_n 0, 1), (41, .getfield 116, 3), (44, .putfield 116, 3), (47, .aload_n 0, 1), (48, .getfield 78, 3), (51, .ifCond .le 7, 3), (54, .iconst 1, 1), (55, .goto 4, 3), (58, .iconst 0, 1), (59, .ireturn, 1)]
theorem p_X12_failed : pj_tab cX12_failed P_X12_failed = true := by decide +kernel
def P_X12_fault : List (Nat × Instr × Nat) := [(0, .aload_n 0, 1), (1, .iconst 0, 1), (2, .putfield 47, 3), (5, .aload_n 0, 1), (6, .getfield 116, 3), (9, .ireturn, 1)]
theorem p_X12_fault : pj_tab cX12_fault P_X12_fault = true := by decide +kernel
def P_X12_kindBy : List (Nat × Instr × Nat) := [(0, .iload_n 0, 1), (1, .bipush 100, 2), (3, .if_icmp .ne 7, 3), (6, .iconst 1, 1), (7, .goto 45, 3), (10, .iload_n 0, 1), (11, .bipush 119, 2), (13, .if_icmp .ne 7, 3), (16, .iconst 2, 1), (17, .goto 35, 3), (20, .iload_n 0, 1), (21, .bipush 115, 2), (23, .if_icmp .ne 7, 3), (26, .iconst 3, 1), (27, .goto 25, 3), (30, .iload_n 0, 1), (31, .bipush 105, 2), (33, .if_icmp .ne 7, 3), (36, .iconst 4, 1), (37, .goto 15, 3), (40, .iload_n 0, 1), (41, .bipush 102, 2), (43, .if_icmp .ne 7, 3), (46, .iconst 5, 1), (47, .goto 5, 3), (50, .ldc 90, 2), (52, .ireturn, 1)]
theorem p_X12_kindBy : pj_tab cX12_kindBy P_X12_kindBy = true := by decide +kernel
def P_X12_readThing : List (Nat × Instr × Nat) := [(0, .aload_n 0, 1), (1, .getfield 91, 3), (4, .invokestatic 119, 3), (7, .istore_n 1, 1), (8, .aload_n 0, 1), (9, .getfield 22, 3), (12, .iconst 1, 1), (13, .iaload, 1), (14, .bipush 7, 2), (16, .if_icmp .ne 8, 3), (19, .aload_n 0, 1), (20, .iconst 3, 1), (21, .invokevirtual 105, 3), (24, .aload_n 0, 1), (25, .iconst 1, 1), (26, .invokevirtual 112, 3), (29, .aload_n 0, 1), (30, .iconst 0, 1), (31, .bipush 31, 2), (33, .invokevirtual 122, 3), (36, .istore_n 2, 1), (37, .aload_n 0, 1), (38, .bipush 44, 2), (40, .invokevirtual 126, 3), (43, .aload_n 0, 1), (44, .iconst 0, 1), (45, .iconst 3, 1), (46, .invokevirtual 122, 3), (49, .istore_n 3, 1), (50, .aload_n 0, 1), (51, .bipush 59, 2), (53, .invokevirtual 126, 3), (56, .aload_n 0, 1), (57, .getfield 78, 3), (60, .ifCond .ne 54, 3), (63, .bipush 11, 2), (65, .iconst 3, 1), (66, .aload_n 0, 1), (67, .getfield 22, 3), (70, .iconst 1, 1), (71, .iaload, 1), (72, .imul, 1), (73, .iadd, 1), (74, .istore 4, 2), (76, .aload_n 0, 1), (77, .getfield 22, 3), (80, .iload 4, 2), (82, .iload_n 1, 1), (83, .iastore, 1), (84, .aload_n 0, 1), (85, .getfield 22, 3), (88, .iload 4, 2), (90, .iconst 1, 1), (91, .iadd, 1), (92, .iload_n 2, 1), (93, .iastore, 1), (94, .aload_n 0, 1), (95, .getfield 22, 3), (98, .iload 4, 2), (100, .iconst 2, 1), (101, .iadd, 1), (102, .iload_n 3, 1), (103, .iastore, 1), (104, .aload_n 0, 1), (105, .getfield 22, 3), (108, .iconst 1, 1), (109, .dup2, 1), (110, .iaload, 1), (111, .iconst 1, 1), (112, .iadd, 1), (113, .iastore, 1), (114, .return_, 1)]
theorem p_X12_readThing : pj_tab cX12_readThing P_X12_readThing = true := by decide +kernel
def P_X12_isTold : List (Nat × Instr × Nat) := [(0, .iconst 0, 1), (1, .istore_n 3, 1), (2, .iconst 0, 1), (3, .istore 4, 2), (5, .iload 4, 2), (7, .aload_n 0, 1), (8, .iconst 2, 1), (9, .iaload, 1), (10, .if_icmp .ge 67, 3), (13, .aload_n 0, 1), (14, .bipush 32, 2), (16, .iconst 3, 1), (17, .iload 4, 2), (19, .imul, 1), (20, .iadd, 1), (21, .iaload, 1), (22, .istore 5, 2), (24, .aload_n 0, 1), (25, .bipush 32, 2), (27, .iconst 3, 1), (28, .iload 4, 2), (30, .imul, 1), (31, .iadd, 1), (32, .iconst 1, 1), (33, .iadd, 1), (34, .iaload, 1), (35, .istore 6, 2), (37, .iload_n 3, 1), (38, .ifCond .ne 27, 3), (41, .iload 5, 2), (43, .iload_n 1, 1), (44, .if_icmp .ne 9, 3), (47, .iload 6, 2), (49, .iload_n 2, 1), (50, .if_icmp .eq 15, 3), (53, .iload 5, 2), (55, .iload_n 2, 1), (56, .if_icmp .ne 13, 3), (59, .iload 6, 2), (61, .iload_n 1, 1), (62, .if_icmp .ne 7, 3), (65, .iconst 1, 1), (66, .goto 4, 3), (69, .iconst 0, 1), (70, .istore_n 3, 1), (71, .iinc 4 1, 3), (74, .goto (-69), 3), (77, .iload_n 3, 1), (78, .ireturn, 1)]
theorem p_X12_isTold : pj_tab cX12_isTold P_X12_isTold = true := by decide +kernel
def P_X12_readPair : List (Nat × Instr × Nat) := [(0, .aload_n 0, 1), (1, .getfield 22, 3), (4, .iconst 2, 1), (5, .iaload, 1), (6, .bipush 8, 2), (8, .if_icmp .ne 8, 3), (11, .aload_n 0, 1), (12, .iconst 3, 1), (13, .invokevirtual 105, 3), (16, .aload_n 0, 1), (17, .iconst 1, 1), (18, .invokevirtual 112, 3), (21, .aload_n 0, 1), (22, .iconst 0, 1), (23, .aload_n 0, 1), (24, .getfield 22, 3), (27, .iconst 1, 1), (28, .iaload, 1), (29, .iconst 1, 1), (30, .isub, 1), (31, .invokevirtual 122, 3), (34, .istore_n 1, 1), (35, .aload_n 0, 1), (36, .bipush 44, 2), (38, .invokevirtual 126, 3), (41, .aload_n 0, 1), (42, .getfield 78, 3), (45, .ifCond .ne 39, 3), (48, .aload_n 0, 1), (49, .getfield 102, 3), (52, .iconst 3, 1), (53, .if_icmp .ne 31, 3), (56, .aload_n 0, 1), (57, .getfield 91, 3), (60, .iload_n 1, 1), (61, .if_icmp .eq 18, 3), (64, .aload_n 0, 1), (65, .getfield 22, 3), (68, .iload_n 1, 1), (69, .aload_n 0, 1), (70, .getfield 91, 3), (73, .invokestatic 129, 3), (76, .ifCond .eq 8, 3), (79, .aload_n 0, 1), (80, .iconst 2, 1), (81, .invokevirtual 105, 3), (84, .aload_n 0, 1), (85, .iconst 0, 1), (86, .aload_n 0, 1), (87, .getfield 22, 3), (90, .iconst 1, 1), (91, .iaload, 1), (92, .iconst 1, 1), (93, .isub, 1), (94, .invokevirtual 122, 3), (97, .istore_n 2, 1), (98, .aload_n 0, 1), (99, .bipush 44, 2), (101, .invokevirtual 126, 3), (104, .aload_n 0, 1), (105, .iconst 1, 1), (106, .bipush 20, 2), (108, .invokevirtual 122, 3), (111, .istore_n 3, 1), (112, .aload_n 0, 1), (113, .bipush 59, 2), (115, .invokevirtual 126, 3), (118, .aload_n 0, 1), (119, .getfield 78, 3), (122, .ifCond .ne 54, 3), (125, .bipush 32, 2), (127, .iconst 3, 1), (128, .aload_n 0, 1), (129, .getfield 22, 3), (132, .iconst 2, 1), (133, .iaload, 1), (134, .imul, 1), (135, .iadd, 1), (136, .istore 4, 2), (138, .aload_n 0, 1), (139, .getfield 22, 3), (142, .iload 4, 2), (144, .iload_n 1, 1), (145, .iastore, 1), (146, .aload_n 0, 1), (147, .getfield 22, 3), (150, .iload 4, 2), (152, .iconst 1, 1), (153, .iadd, 1), (154, .iload_n 2, 1), (155, .iastore, 1), (156, .aload_n 0, 1), (157, .getfield 22, 3), (160, .iload 4, 2), (162, .iconst 2, 1), (163, .iadd, 1), (164, .iload_n 3, 1), (165, .iastore, 1), (166, .aload_n 0, 1), (167, .getfield 22, 3), (170, .iconst 2, 1), (171, .dup2, 1), (172, .iaload, 1), (173, .iconst 1, 1), (174, .iadd, 1), (175, .iastore, 1), (176, .return_, 1)]
theorem p_X12_readPair : pj_tab cX12_readPair P_X12_readPair = true := by decide +kernel
def P_X12_town : List (Nat × Instr × Nat) := [(0, .aload_n 0, 1), (1, .iconst 0, 1), (2, .putfield 47, 3), (5, .aload_n 0, 1), (6, .invokevirtual 133, 3), (9, .iconst 0, 1), (10, .istore_n 1, 1), (11, .iload_n 1, 1), (12, .bipush 56, 2), (14, .if_icmp .ge 16, 3), (17, .aload_n 0, 1), (18, .getfield 22, 3), (21, .iload_n 1, 1), (22, .iconst 0, 1), (23, .iastore, 1), (24, .iinc 1 1, 3), (27, .goto (-16), 3), (30, .aload_n 0, 1), (31, .getfield 22, 3), (34, .iconst 0, 1), (35, .iconst 1, 1), (36, .iastore, 1), (37, .aload_n 0, 1), (38, .aload_n 0, 1), (39, .bipush 99, 2), (41, .invokevirtual 136, 3), (44, .invokevirtual 112, 3), (47, .iconst 0, 1), (48, .istore_n 1, 1), (49, .iload_n 1, 1), (50, .bipush 7, 2), (52, .if_icmp .ge 40, 3), (55, .aload_n 0, 1), (56, .getfield 22, 3), (59, .iconst 4, 1), (60, .iload_n 1, 1), (61, .iadd, 1), (62, .aload_n 0, 1), (63, .iconst 0, 1), (64, .iconst 5, 1), (65, .invokevirtual 122, 3), (68, .iastore, 1), (69, .aload_n 0, 1), (70, .iload_n 1, 1), (71, .bipush 6, 2), (73, .if_icmp .ge 8, 3), (76, .bipush 44, 2), (78, .goto 5, 3), (81, .bipush 59, 2), (83, .invokevirtual 126, 3), (86, .iinc 1 1, 3), (89, .goto (-40), 3), (92, .aload_n 0, 1), (93, .getfield 78, 3), (96, .ifCond .ne 30, 3), (99, .aload_n 0, 1), (100, .getfield 102, 3), (103, .iconst 2, 1), (104, .if_icmp .ne 22, 3), (107, .aload_n 0, 1), (108, .getfield 91, 3), (111, .invokestatic 119, 3), (114, .ldc 90, 2), (116, .if_icmp .eq 10, 3), (119, .aload_n 0, 1), (120, .invokevirtual 139, 3), (123, .goto (-31), 3), (126, .aload_n 0, 1), (127, .bipush 109, 2), (129, .invokevirtual 136, 3), (132, .ifCond .eq 10, 3), (135, .aload_n 0, 1), (136, .invokevirtual 142, 3), (139, .goto (-13), 3), (142, .aload_n 0, 1), (143, .invokevirtual 145, 3), (146, .ifCond .eq 11, 3), (149, .ldc 149, 2), (151, .aload_n 0, 1), (152, .getfield 84, 3), (155, .isub, 1), (156, .ireturn, 1), (157, .aload_n 0, 1), (158, .iconst 0, 1), (159, .putfield 150, 3), (162, .iconst 0, 1), (163, .istore_n 1, 1), (164, .iload_n 1, 1), (165, .bipush 56, 2), (167, .if_icmp .ge 21, 3), (170, .aload_n 0, 1), (171, .getfield 19, 3), (174, .iload_n 1, 1), (175, .aload_n 0, 1), (176, .getfield 22, 3), (179, .iload_n 1, 1), (180, .iaload, 1), (181, .iastore, 1), (182, .iinc 1 1, 3), (185, .goto (-21), 3), (188, .aload_n 0, 1), (189, .getfield 19, 3), (192, .iconst 1, 1), (193, .iaload, 1), (194, .ireturn, 1)]
theorem p_X12_town : pj_tab cX12_town P_X12_town = true := by decide +kernel
def P_X12_isThere : List (Nat × Instr × Nat) := [(0, .aload_n 0, 1), (1, .getfield 19, 3), (4, .iconst 0, 1), (5, .iaload, 1), (6, .iconst 1, 1), (7, .if_icmp .ne 7, 3), (10, .iconst 1, 1), (11, .goto 4, 3), (14, .iconst 0, 1), (15, .ireturn, 1)]
theorem p_X12_isThere : pj_tab cX12_isThere P_X12_isThere = true := by decide +kernel
def P_X12_isThing : List (Nat × Instr × Nat) := [(0, .iload_n 1, 1), (1, .i2l, 1), (2, .lconst 0, 1), (3, .aload_n 0, 1), (4, .getfield 19, 3), (7, .iconst 1, 1), (8, .iaload, 1), (9, .iconst 1, 1), (10, .isub, 1), (11, .i2l, 1), (12, .invokestatic 57, 3), (15, .ireturn, 1)]
theorem p_X12_isThing : pj_tab cX12_isThing P_X12_isThing = true := by decide +kernel
def P_X12_areTwo : List (Nat × Instr × Nat) := [(0, .aload_n 0, 1), (1, .iload_n 1, 1), (2, .invokevirtual 153, 3), (5, .ifCond .eq 20, 3), (8, .aload_n 0, 1), (9, .iload_n 2, 1), (10, .invokevirtual 153, 3), (13, .ifCond .eq 12, 3), (16, .iload_n 1, 1), (17, .iload_n 2, 1), (18, .if_icmp .eq 7, 3), (21, .iconst 1, 1), (22, .goto 4, 3), (25, .iconst 0, 1), (26, .ireturn, 1)]
theorem p_X12_areTwo : pj_tab cX12_areTwo P_X12_areTwo = true := by decide +kernel
def P_X12_of : List (Nat × Instr × Nat) := [(0, .aload_n 0, 1), (1, .getfield 19, 3), (4, .bipush 11, 2), (6, .iconst 3, 1), (7, .iload_n 1, 1), (8, .imul, 1), (9, .iadd, 1), (10, .iload_n 2, 1), (11, .iadd, 1), (12, .iaload, 1), (13, .ireturn, 1)]
theorem p_X12_of : pj_tab cX12_of P_X12_of = true := by decide +kernel
def P_X12_isFar : List (Nat × Instr × Nat) := [(0, .iload_n 0, 1), (1, .i2l, 1), (2, .lconst 0, 1), (3, .ldc2_w 156, 3), (6, .invokestatic 57, 3), (9, .ireturn, 1)]
theorem p_X12_isFar : pj_tab cX12_isFar P_X12_isFar = true := by decide +kernel
def P_X12_bits : List (Nat × Instr × Nat) := [(0, .iconst 0, 1), (1, .istore_n 1, 1), (2, .iconst 0, 1), (3, .istore_n 2, 1), (4, .iload_n 2, 1), (5, .bipush 7, 2), (7, .if_icmp .ge 17, 3), (10, .iload_n 1, 1), (11, .iload_n 0, 1), (12, .iload_n 2, 1), (13, .ishr, 1), (14, .iconst 1, 1), (15, .iand, 1), (16, .iadd, 1), (17, .istore_n 1, 1), (18, .iinc 2 1, 3), (21, .goto (-17), 3), (24, .iload_n 1, 1), (25, .ireturn, 1)]
theorem p_X12_bits : pj_tab cX12_bits P_X12_bits = true := by decide +kernel
def P_X12_lookOf : List (Nat × Instr × Nat) := [(0, .aload_n 0, 1), (1, .iload_n 1, 1), (2, .iconst 1, 1), (3, .invokevirtual 158, 3), (6, .iload_n 2, 1), (7, .iconst (-1), 1), (8, .ixor, 1), (9, .iand, 1), (10, .istore_n 3, 1), (11, .aload_n 0, 1), (12, .iload_n 1, 1), (13, .iconst 0, 1), (14, .invokevirtual 158, 3), (17, .tableswitch 72 1 4 #[31, 33, 51, 65], 31), (48, .iload_n 3, 1), (49, .ireturn, 1), (50, .iload_n 3, 1), (51, .invokestatic 161, 3), (54, .iconst 1, 1), (55, .if_icmp .le 11, 3), (58, .iload_n 3, 1), (59, .iload_n 3, 1), (60, .iconst 1, 1), (61, .isub, 1), (62, .iand, 1), (63, .goto 4, 3), (66, .iload_n 3, 1), (67, .ireturn, 1), (68, .iload_n 3, 1), (69, .bipush 32, 2), (71, .iconst 1, 1), (72, .aload_n 0, 1), (73, .iload_n 1, 1), (74, .iconst 2, 1), (75, .invokevirtual 158, 3), (78, .iadd, 1), (79, .imul, 1), (80, .iadd, 1), (81, .ireturn, 1), (82, .aload_n 0, 1), (83, .iload_n 1, 1), (84, .iconst 1, 1), (85, .invokevirtual 158, 3), (88, .ireturn, 1), (89, .iconst 0, 1), (90, .ireturn, 1)]
theorem p_X12_lookOf : pj_tab cX12_lookOf P_X12_lookOf = true := by decide +kernel
def P_X12_setOf : List (Nat × Instr × Nat) := [(0, .iload_n 0, 1), (1, .iconst 5, 1), (2, .if_icmp .ge 9, 3), (5, .iconst 1, 1), (6, .iload_n 0, 1), (7, .ishl, 1), (8, .goto 4, 3), (11, .iconst 0, 1), (12, .ireturn, 1)]
theorem p_X12_setOf : pj_tab cX12_setOf P_X12_setOf = true := by decide +kernel
def P_X12_missingOn : List (Nat × Instr × Nat) := [(0, .aload_n 0, 1), (1, .getfield 19, 3), (4, .iconst 4, 1), (5, .aload_n 0, 1), (6, .getfield 19, 3), (9, .iconst 3, 1), (10, .iaload, 1), (11, .iload_n 1, 1), (12, .iadd, 1), (13, .bipush 7, 2), (15, .irem, 1), (16, .iadd, 1), (17, .iaload, 1), (18, .invokestatic 164, 3), (21, .ireturn, 1)]
theorem p_X12_missingOn : pj_tab cX12_missingOn P_X12_missingOn = true := by decide +kernel
def P_X12_harmBy : List (Nat × Instr × Nat) := [(0, .iconst 0, 1), (1, .istore_n 2, 1), (2, .iconst 0, 1), (3, .istore_n 3, 1), (4, .iload_n 3, 1), (5, .aload_n 0, 1), (6, .getfield 19, 3), (9, .iconst 2, 1), (10, .iaload, 1), (11, .if_icmp .ge 74, 3), (14, .aload_n 0, 1), (15, .getfield 19, 3), (18, .bipush 32, 2), (20, .iconst 3, 1), (21, .iload_n 3, 1), (22, .imul, 1), (23, .iadd, 1), (24, .iaload, 1), (25, .istore 4, 2), (27, .aload_n 0, 1), (28, .getfield 19, 3), (31, .bipush 32, 2), (33, .iconst 3, 1), (34, .iload_n 3, 1), (35, .imul, 1), (36, .iadd, 1), (37, .iconst 1, 1), (38, .iadd, 1), (39, .iaload, 1), (40, .istore 5, 2), (42, .iload_n 2, 1), (43, .aload_n 0, 1), (44, .iload 4, 2), (46, .iload_n 1, 1), (47, .invokevirtual 167, 3), (50, .aload_n 0, 1), (51, .iload 5, 2), (53, .iload_n 1, 1), (54, .invokevirtual 167, 3), (57, .if_icmp .ne 19, 3), (60, .aload_n 0, 1), (61, .getfield 19, 3), (64, .bipush 32, 2), (66, .iconst 3, 1), (67, .iload_n 3, 1), (68, .imul, 1), (69, .iadd, 1), (70, .iconst 2, 1), (71, .iadd, 1), (72, .iaload, 1), (73, .goto 4, 3), (76, .iconst 0, 1), (77, .iadd, 1), (78, .istore_n 2, 1), (79, .iinc 3 1, 3), (82, .goto (-78), 3), (85, .iload_n 2, 1), (86, .ireturn, 1)]
theorem p_X12_harmBy : pj_tab cX12_harmBy P_X12_harmBy = true := by decide +kernel
def P_X12_harmsOf : List (Nat × Instr × Nat) := [(0, .iconst 0, 1), (1, .istore_n 2, 1), (2, .iconst 0, 1), (3, .istore_n 3, 1), (4, .iload_n 3, 1), (5, .iload_n 1, 1), (6, .if_icmp .ge 21, 3), (9, .iload_n 2, 1), (10, .aload_n 0, 1), (11, .aload_n 0, 1), (12, .iload_n 3, 1), (13, .invokevirtual 170, 3), (16, .invokevirtual 173, 3), (19, .iadd, 1), (20, .istore_n 2, 1), (21, .iinc 3 1, 3), (24, .goto (-20), 3), (27, .iload_n 2, 1), (28, .ireturn, 1)]
theorem p_X12_harmsOf : pj_tab cX12_harmsOf P_X12_harmsOf = true := by decide +kernel
def P_X12_likeBy : List (Nat × Instr × Nat) := [(0, .iconst 0, 1), (1, .istore_n 3, 1), (2, .iconst 0, 1), (3, .istore 4, 2), (5, .iload 4, 2), (7, .aload_n 0, 1), (8, .getfield 19, 3), (11, .iconst 1, 1), (12, .iaload, 1), (13, .if_icmp .ge 36, 3), (16, .iload_n 3, 1), (17, .aload_n 0, 1), (18, .iload 4, 2), (20, .iload_n 2, 1), (21, .invokevirtual 167, 3), (24, .aload_n 0, 1), (25, .iload_n 1, 1), (26, .iload_n 2, 1), (27, .invokevirtual 167, 3), (30, .if_icmp .ne 10, 3), (33, .iconst 1, 1), (34, .iload 4, 2), (36, .ishl, 1), (37, .goto 4, 3), (40, .iconst 0, 1), (41, .ior, 1), (42, .istore_n 3, 1), (43, .iinc 4 1, 3), (46, .goto (-41), 3), (49, .iload_n 3, 1), (50, .ireturn, 1)]
theorem p_X12_likeBy : pj_tab cX12_likeBy P_X12_likeBy = true := by decide +kernel
def P_X12_keep : List (Nat × Instr × Nat) := [(0, .aload_n 0, 1), (1, .getfield 150, 3), (4, .bipush 24, 2), (6, .if_icmp .ne 43, 3), (9, .iconst 0, 1), (10, .istore_n 1, 1), (11, .iload_n 1, 1), (12, .sipush 1288, 3), (15, .if_icmp .ge 24, 3), (18, .aload_n 0, 1), (19, .getfield 25, 3), (22, .iload_n 1, 1), (23, .aload_n 0, 1), (24, .getfield 25, 3), (27, .iload_n 1, 1), (28, .bipush 56, 2), (30, .iadd, 1), (31, .iaload, 1), (32, .iastore, 1), (33, .iinc 1 1, 3), (36, .goto (-25), 3), (39, .aload_n 0, 1), (40, .dup, 1), (41, .getfield 150, 3), (44, .iconst 1, 1), (45, .isub, 1), (46, .putfield 150, 3), (49, .iconst 0, 1), (50, .istore_n 1, 1), (51, .iload_n 1, 1), (52, .bipush 56, 2), (54, .if_icmp .ge 29, 3), (57, .aload_n 0, 1), (58, .getfield 25, 3), (61, .bipush 56, 2), (63, .aload_n 0, 1), (64, .getfield 150, 3), (67, .imul, 1), (68, .iload_n 1, 1), (69, .iadd, 1), (70, .aload_n 0, 1), (71, .getfield 19, 3), (74, .iload_n 1, 1), (75, .iaload, 1), (76, .iastore, 1), (77, .iinc 1 1, 3), (80, .goto (-29), 3), (83, .aload_n 0, 1), (84, .dup, 1), (85, .getfield 150, 3), (88, .iconst 1, 1), (89, .iadd, 1), (90, .putfield 150, 3), (93, .return_, 1)]
theorem p_X12_keep : pj_tab cX12_keep P_X12_keep = true := by decide +kernel
def P_X12_days : List (Nat × Instr × Nat) := [(0, .aload_n 0, 1), (1, .iconst 0, 1), (2, .putfield 47, 3), (5, .aload_n 0, 1), (6, .invokevirtual 176, 3), (9, .ifCond .ne 6, 3), (12, .ldc 179, 2), (14, .ireturn, 1), (15, .iload_n 1, 1), (16, .i2l, 1), (17, .lconst 1, 1), (18, .ldc2_w 180, 3), (21, .invokestatic 57, 3), (24, .ifCond .ne 6, 3), (27, .ldc 67, 2), (29, .ireturn, 1), (30, .aload_n 0, 1), (31, .getfield 19, 3), (34, .iconst 3, 1), (35, .iaload, 1), (36, .iload_n 1, 1), (37, .iadd, 1), (38, .sipush 999, 3), (41, .if_icmp .le 6, 3), (44, .ldc 77, 2), (46, .ireturn, 1), (47, .iconst 0, 1), (48, .istore_n 2, 1), (49, .iload_n 2, 1), (50, .iload_n 1, 1), (51, .if_icmp .ge 23, 3), (54, .aload_n 0, 1), (55, .invokevirtual 182, 3), (58, .aload_n 0, 1), (59, .getfield 19, 3), (62, .iconst 3, 1), (63, .dup2, 1), (64, .iaload, 1), (65, .iconst 1, 1), (66, .iadd, 1), (67, .iastore, 1), (68, .iinc 2 1, 3), (71, .goto (-22), 3), (74, .aload_n 0, 1), (75, .getfield 19, 3), (78, .iconst 3, 1), (79, .iaload, 1), (80, .ireturn, 1)]
theorem p_X12_days : pj_tab cX12_days P_X12_days = true := by decide +kernel
def P_X12_paint : List (Nat × Instr × Nat) := [(0, .aload_n 0, 1), (1, .iconst 0, 1), (2, .putfield 47, 3), (5, .aload_n 0, 1), (6, .iload_n 1, 1), (7, .invokevirtual 153, 3), (10, .ifCond .eq 15, 3), (13, .iload_n 2, 1), (14, .i2l, 1), (15, .lconst 0, 1), (16, .ldc2_w 185, 3), (19, .invokestatic 57, 3), (22, .ifCond .ne 6, 3), (25, .ldc 67, 2), (27, .ireturn, 1), (28, .aload_n 0, 1), (29, .iload_n 1, 1), (30, .iconst 0, 1), (31, .invokevirtual 158, 3), (34, .iconst 4, 1), (35, .if_icmp .lt 6, 3), (38, .ldc 179, 2), (40, .ireturn, 1), (41, .aload_n 0, 1), (42, .invokevirtual 182, 3), (45, .aload_n 0, 1), (46, .iload_n 1, 1), (47, .iconst 1, 1), (48, .invokevirtual 158, 3), (51, .istore_n 3, 1), (52, .aload_n 0, 1), (53, .getfield 19, 3), (56, .bipush 11, 2), (58, .iconst 3, 1), (59, .iload_n 1, 1), (60, .imul, 1), (61, .iadd, 1), (62, .iconst 1, 1), (63, .iadd, 1), (64, .iload_n 2, 1), (65, .iastore, 1), (66, .iload_n 3, 1), (67, .ireturn, 1)]
theorem p_X12_paint : pj_tab cX12_paint P_X12_paint = true := by decide +kernel
def P_X12_miss : List (Nat × Instr × Nat) := [(0, .aload_n 0, 1), (1, .iconst 0, 1), (2, .putfield 47, 3), (5, .aload_n 0, 1), (6, .invokevirtual 176, 3), (9, .ifCond .ne 6, 3), (12, .ldc 179, 2), (14, .ireturn, 1), (15, .iload_n 1, 1), (16, .i2l, 1), (17, .lconst 0, 1), (18, .ldc2_w 187, 3), (21, .invokestatic 57, 3), (24, .ifCond .eq 15, 3), (27, .iload_n 2, 1), (28, .i2l, 1), (29, .lconst 0, 1), (30, .ldc2_w 189, 3), (33, .invokestatic 57, 3), (36, .ifCond .ne 6, 3), (39, .ldc 67, 2), (41, .ireturn, 1), (42, .aload_n 0, 1), (43, .invokevirtual 182, 3), (46, .aload_n 0, 1), (47, .getfield 19, 3), (50, .iconst 4, 1), (51, .iload_n 1, 1), (52, .iadd, 1), (53, .iaload, 1), (54, .istore_n 3, 1), (55, .aload_n 0, 1), (56, .getfield 19, 3), (59, .iconst 4, 1), (60, .iload_n 1, 1), (61, .iadd, 1), (62, .iload_n 2, 1), (63, .iastore, 1), (64, .iload_n 3, 1), (65, .ireturn, 1)]
theorem p_X12_miss : pj_tab cX12_miss P_X12_miss = true := by decide +kernel
def P_X12_undo : List (Nat × Instr × Nat) := [(0, .aload_n 0, 1), (1, .iconst 0, 1), (2, .putfield 47, 3), (5, .aload_n 0, 1), (6, .getfield 150, 3), (9, .ifCond .ne 6, 3), (12, .ldc 179, 2), (14, .ireturn, 1), (15, .aload_n 0, 1), (16, .dup, 1), (17, .getfield 150, 3), (20, .iconst 1, 1), (21, .isub, 1), (22, .putfield 150, 3), (25, .iconst 0, 1), (26, .istore_n 1, 1), (27, .iload_n 1, 1), (28, .bipush 56, 2), (30, .if_icmp .ge 29, 3), (33, .aload_n 0, 1), (34, .getfield 19, 3), (37, .iload_n 1, 1), (38, .aload_n 0, 1), (39, .getfield 25, 3), (42, .bipush 56, 2), (44, .aload_n 0, 1), (45, .getfield 150, 3), (48, .imul, 1), (49, .iload_n 1, 1), (50, .iadd, 1), (51, .iaload, 1), (52, .iastore, 1), (53, .iinc 1 1, 3), (56, .goto (-29), 3), (59, .aload_n 0, 1), (60, .getfield 150, 3), (63, .ireturn, 1)]
theorem p_X12_undo : pj_tab cX12_undo P_X12_undo = true := by decide +kernel
def P_X12_thing : List (Nat × Instr × Nat) := [(0, .aload_n 0, 1), (1, .iconst 0, 1), (2, .putfield 47, 3), (5, .aload_n 0, 1), (6, .iload_n 1, 1), (7, .invokevirtual 153, 3), (10, .ifCond .ne 6, 3), (13, .ldc 67, 2), (15, .ireturn, 1), (16, .iconst 0, 1), (17, .istore_n 3, 1), (18, .iconst 0, 1), (19, .istore 4, 2), (21, .iload 4, 2), (23, .aload_n 0, 1), (24, .getfield 19, 3), (27, .iconst 2, 1), (28, .iaload, 1), (29, .if_icmp .ge 64, 3), (32, .iload_n 3, 1), (33, .aload_n 0, 1), (34, .getfield 19, 3), (37, .bipush 32, 2), (39, .iconst 3, 1), (40, .iload 4, 2), (42, .imul, 1), (43, .iadd, 1), (44, .iaload, 1), (45, .iload_n 1, 1), (46, .if_icmp .eq 21, 3), (49, .aload_n 0, 1), (50, .getfield 19, 3), (53, .bipush 32, 2), (55, .iconst 3, 1), (56, .iload 4, 2), (58, .imul, 1), (59, .iadd, 1), (60, .iconst 1, 1), (61, .iadd, 1), (62, .iaload, 1), (63, .iload_n 1, 1), (64, .if_icmp .ne 20, 3), (67, .aload_n 0, 1), (68, .getfield 19, 3), (71, .bipush 32, 2), (73, .iconst 3, 1), (74, .iload 4, 2), (76, .imul, 1), (77, .iadd, 1), (78, .iconst 2, 1), (79, .iadd, 1), (80, .iaload, 1), (81, .goto 4, 3), (84, .iconst 0, 1), (85, .iadd, 1), (86, .istore_n 3, 1), (87, .iinc 4 1, 3), (90, .goto (-69), 3), (93, .iload_n 2, 1), (94, .tableswitch 52 0 3 #[30, 30, 39, 50], 30), (124, .aload_n 0, 1), (125, .iload_n 1, 1), (126, .iconst 1, 1), (127, .iload_n 2, 1), (128, .iadd, 1), (129, .invokevirtual 158, 3), (132, .ireturn, 1), (133, .aload_n 0, 1), (134, .iload_n 1, 1), (135, .aload_n 0, 1), (136, .iconst 0, 1), (137, .invokevirtual 170, 3), (140, .invokevirtual 167, 3), (143, .ireturn, 1), (144, .iload_n 3, 1), (145, .ireturn, 1), (146, .ldc 67, 2), (148, .ireturn, 1)]
theorem p_X12_thing : pj_tab cX12_thing P_X12_thing = true := by decide +kernel
def P_X12_missing : List (Nat × Instr × Nat) := [(0, .aload_n 0, 1), (1, .iconst 0, 1), (2, .putfield 47, 3), (5, .aload_n 0, 1), (6, .invokevirtual 176, 3), (9, .ifCond .ne 8, 3), (12, .ldc 179, 2), (14, .goto 28, 3), (17, .iload_n 1, 1), (18, .i2l, 1), (19, .lconst 0, 1), (20, .ldc2_w 187, 3), (23, .invokestatic 57, 3), (26, .ifCond .eq 14, 3), (29, .aload_n 0, 1), (30, .getfield 19, 3), (33, .iconst 4, 1), (34, .iload_n 1, 1), (35, .iadd, 1), (36, .iaload, 1), (37, .goto 5, 3), (40, .ldc 67, 2), (42, .ireturn, 1)]
theorem p_X12_missing : pj_tab cX12_missing P_X12_missing = true := by decide +kernel
def P_X12_pair : List (Nat × Instr × Nat) := [(0, .aload_n 0, 1), (1, .iconst 0, 1), (2, .putfield 47, 3), (5, .aload_n 0, 1), (6, .iload_n 1, 1), (7, .iload_n 2, 1), (8, .invokevirtual 191, 3), (11, .ifCond .ne 6, 3), (14, .ldc 67, 2), (16, .ireturn, 1), (17, .iconst 0, 1), (18, .istore_n 3, 1), (19, .iload_n 3, 1), (20, .aload_n 0, 1), (21, .getfield 19, 3), (24, .iconst 2, 1), (25, .iaload, 1), (26, .if_icmp .ge 75, 3), (29, .aload_n 0, 1), (30, .getfield 19, 3), (33, .bipush 32, 2), (35, .iconst 3, 1), (36, .iload_n 3, 1), (37, .imul, 1), (38, .iadd, 1), (39, .iaload, 1), (40, .istore 4, 2), (42, .aload_n 0, 1), (43, .getfield 19, 3), (46, .bipush 32, 2), (48, .iconst 3, 1), (49, .iload_n 3, 1), (50, .imul, 1), (51, .iadd, 1), (52, .iconst 1, 1), (53, .iadd, 1), (54, .iaload, 1), (55, .istore 5, 2), (57, .iload 4, 2), (59, .iload_n 1, 1), (60, .if_icmp .ne 9, 3), (63, .iload 5, 2), (65, .iload_n 2, 1), (66, .if_icmp .eq 15, 3), (69, .iload 4, 2), (71, .iload_n 2, 1), (72, .if_icmp .ne 23, 3), (75, .iload 5, 2), (77, .iload_n 1, 1), (78, .if_icmp .ne 17, 3), (81, .aload_n 0, 1), (82, .getfield 19, 3), (85, .bipush 32, 2), (87, .iconst 3, 1), (88, .iload_n 3, 1), (89, .imul, 1), (90, .iadd, 1), (91, .iconst 2, 1), (92, .iadd, 1), (93, .iaload, 1), (94, .ireturn, 1), (95, .iinc 3 1, 3), (98, .goto (-79), 3), (101, .iconst 0, 1), (102, .ireturn, 1)]
theorem p_X12_pair : pj_tab cX12_pair P_X12_pair = true := by decide +kernel
def P_X12_look : List (Nat × Instr × Nat) := [(0, .aload_n 0, 1), (1, .iconst 0, 1), (2, .putfield 47, 3), (5, .aload_n 0, 1), (6, .iload_n 1, 1), (7, .invokevirtual 153, 3), (10, .ifCond .eq 24, 3), (13, .iload_n 2, 1), (14, .i2l, 1), (15, .lconst 0, 1), (16, .ldc2_w 185, 3), (19, .invokestatic 57, 3), (22, .ifCond .eq 12, 3), (25, .aload_n 0, 1), (26, .iload_n 1, 1), (27, .iload_n 2, 1), (28, .invokevirtual 167, 3), (31, .goto 5, 3), (34, .ldc 67, 2), (36, .ireturn, 1)]
theorem p_X12_look : pj_tab cX12_look P_X12_look = true := by decide +kernel
def P_X12_areAlike : List (Nat × Instr × Nat) := [(0, .aload_n 0, 1), (1, .iload_n 1, 1), (2, .aload_n 0, 1), (3, .iload_n 3, 1), (4, .invokevirtual 170, 3), (7, .invokevirtual 167, 3), (10, .aload_n 0, 1), (11, .iload_n 2, 1), (12, .aload_n 0, 1), (13, .iload_n 3, 1), (14, .invokevirtual 170, 3), (17, .invokevirtual 167, 3), (20, .if_icmp .ne 7, 3), (23, .iconst 1, 1), (24, .goto 4, 3), (27, .iconst 0, 1), (28, .ireturn, 1)]
theorem p_X12_areAlike : pj_tab cX12_areAlike P_X12_areAlike = true := by decide +kernel
def P_X12_alike : List (Nat × Instr × Nat) := [(0, .aload_n 0, 1), (1, .iconst 0, 1), (2, .putfield 47, 3), (5, .aload_n 0, 1), (6, .iload_n 1, 1), (7, .iload_n 2, 1), (8, .invokevirtual 191, 3), (11, .ifCond .eq 10, 3), (14, .iload_n 3, 1), (15, .invokestatic 195, 3), (18, .ifCond .ne 8, 3), (21, .ldc 67, 2), (23, .goto 18, 3), (26, .aload_n 0, 1), (27, .iload_n 1, 1), (28, .iload_n 2, 1), (29, .iload_n 3, 1), (30, .invokevirtual 198, 3), (33, .ifCond .eq 7, 3), (36, .iconst 1, 1), (37, .goto 4, 3), (40, .iconst 0, 1), (41, .ireturn, 1)]
theorem p_X12_alike : pj_tab cX12_alike P_X12_alike = true := by decide +kernel
def P_X12_like : List (Nat × Instr × Nat) := [(0, .aload_n 0, 1), (1, .iconst 0, 1), (2, .putfield 47, 3), (5, .aload_n 0, 1), (6, .iload_n 1, 1), (7, .invokevirtual 153, 3), (10, .ifCond .eq 23, 3), (13, .iload_n 2, 1), (14, .invokestatic 195, 3), (17, .ifCond .eq 16, 3), (20, .aload_n 0, 1), (21, .iload_n 1, 1), (22, .aload_n 0, 1), (23, .iload_n 2, 1), (24, .invokevirtual 170, 3), (27, .invokevirtual 202, 3), (30, .goto 5, 3), (33, .ldc 67, 2), (35, .ireturn, 1)]
theorem p_X12_like : pj_tab cX12_like P_X12_like = true := by decide +kernel
def P_X12_looks : List (Nat × Instr × Nat) := [(0, .aload_n 0, 1), (1, .iconst 0, 1), (2, .putfield 47, 3), (5, .aload_n 0, 1), (6, .invokevirtual 176, 3), (9, .ifCond .ne 6, 3), (12, .ldc 179, 2), (14, .ireturn, 1), (15, .iload_n 1, 1), (16, .invokestatic 195, 3), (19, .ifCond .ne 6, 3), (22, .ldc 67, 2), (24, .ireturn, 1), (25, .iconst 0, 1), (26, .istore_n 2, 1), (27, .iconst 0, 1), (28, .istore_n 3, 1), (29, .iload_n 3, 1), (30, .aload_n 0, 1), (31, .getfield 19, 3), (34, .iconst 1, 1), (35, .iaload, 1), (36, .if_icmp .ge 36, 3), (39, .iload_n 2, 1), (40, .aload_n 0, 1), (41, .iload_n 3, 1), (42, .aload_n 0, 1), (43, .iload_n 1, 1), (44, .invokevirtual 170, 3), (47, .invokevirtual 202, 3), (50, .iconst 1, 1), (51, .iload_n 3, 1), (52, .ishl, 1), (53, .iconst 1, 1), (54, .isub, 1), (55, .iand, 1), (56, .ifCond .ne 7, 3), (59, .iconst 1, 1), (60, .goto 4, 3), (63, .iconst 0, 1), (64, .iadd, 1), (65, .istore_n 2, 1), (66, .iinc 3 1, 3), (69, .goto (-40), 3), (72, .iload_n 2, 1), (73, .ireturn, 1)]
theorem p_X12_looks : pj_tab cX12_looks P_X12_looks = true := by decide +kernel
def P_X12_harm : List (Nat × Instr × Nat) := [(0, .aload_n 0, 1), (1, .iconst 0, 1), (2, .putfield 47, 3), (5, .aload_n 0, 1), (6, .invokevirtual 176, 3), (9, .ifCond .ne 8, 3), (12, .ldc 179, 2), (14, .goto 24, 3), (17, .iload_n 1, 1), (18, .invokestatic 195, 3), (21, .ifCond .eq 15, 3), (24, .aload_n 0, 1), (25, .aload_n 0, 1), (26, .iload_n 1, 1), (27, .invokevirtual 170, 3), (30, .invokevirtual 173, 3), (33, .goto 5, 3), (36, .ldc 67, 2), (38, .ireturn, 1)]
theorem p_X12_harm : pj_tab cX12_harm P_X12_harm = true := by decide +kernel
def P_X12_harms : List (Nat × Instr × Nat) := [(0, .aload_n 0, 1), (1, .iconst 0, 1), (2, .putfield 47, 3), (5, .aload_n 0, 1), (6, .invokevirtual 176, 3), (9, .ifCond .ne 8, 3), (12, .ldc 179, 2), (14, .goto 25, 3), (17, .iload_n 1, 1), (18, .i2l, 1), (19, .lconst 1, 1), (20, .ldc2_w 156, 3), (23, .invokestatic 57, 3), (26, .ifCond .eq 11, 3), (29, .aload_n 0, 1), (30, .iload_n 1, 1), (31, .invokevirtual 205, 3), (34, .goto 5, 3), (37, .ldc 67, 2), (39, .ireturn, 1)]
theorem p_X12_harms : pj_tab cX12_harms P_X12_harms = true := by decide +kernel
def P_X12_week : List (Nat × Instr × Nat) := [(0, .aload_n 0, 1), (1, .iconst 0, 1), (2, .putfield 47, 3), (5, .aload_n 0, 1), (6, .invokevirtual 176, 3), (9, .ifCond .ne 6, 3), (12, .ldc 179, 2), (14, .ireturn, 1), (15, .iload_n 1, 1), (16, .i2l, 1), (17, .lconst 0, 1), (18, .lconst 1, 1), (19, .invokestatic 57, 3), (22, .ifCond .ne 6, 3), (25, .ldc 67, 2), (27, .ireturn, 1), (28, .iconst 0, 1), (29, .istore_n 2, 1), (30, .iconst 0, 1), (31, .istore_n 3, 1), (32, .iconst 0, 1), (33, .istore 4, 2), (35, .iload 4, 2), (37, .bipush 7, 2), (39, .if_icmp .ge 62, 3), (42, .iload_n 2, 1), (43, .aload_n 0, 1), (44, .aload_n 0, 1), (45, .iload 4, 2), (47, .invokevirtual 170, 3), (50, .invokevirtual 173, 3), (53, .ifCond .ne 10, 3), (56, .iconst 1, 1), (57, .iload 4, 2), (59, .ishl, 1), (60, .goto 4, 3), (63, .iconst 0, 1), (64, .ior, 1), (65, .istore_n 2, 1), (66, .aload_n 0, 1), (67, .aload_n 0, 1), (68, .iload 4, 2), (70, .invokevirtual 170, 3), (73, .invokevirtual 173, 3), (76, .aload_n 0, 1), (77, .aload_n 0, 1), (78, .iload_n 3, 1), (79, .invokevirtual 170, 3), (82, .invokevirtual 173, 3), (85, .if_icmp .le 8, 3), (88, .iload 4, 2), (90, .goto 4, 3), (93, .iload_n 3, 1), (94, .istore_n 3, 1), (95, .iinc 4 1, 3), (98, .goto (-63), 3), (101, .iload_n 1, 1), (102, .ifCond .ne 7, 3), (105, .iload_n 2, 1), (106, .goto 4, 3), (109, .iload_n 3, 1), (110, .ireturn, 1)]
theorem p_X12_week : pj_tab cX12_week P_X12_week = true := by decide +kernel
def P_X12_bestPaint : List (Nat × Instr × Nat) := [(0, .aload_n 0, 1), (1, .iconst 0, 1), (2, .putfield 47, 3), (5, .aload_n 0, 1), (6, .invokevirtual 176, 3), (9, .ifCond .ne 6, 3), (12, .ldc 179, 2), (14, .ireturn, 1), (15, .iload_n 1, 1), (16, .i2l, 1), (17, .lconst 0, 1), (18, .lconst 1, 1), (19, .invokestatic 57, 3), (22, .ifCond .ne 6, 3), (25, .ldc 67, 2), (27, .ireturn, 1), (28, .ldc 90, 2), (30, .istore_n 2, 1), (31, .ldc 90, 2), (33, .istore_n 3, 1), (34, .iconst 0, 1), (35, .istore 4, 2), (37, .iload 4, 2), (39, .aload_n 0, 1), (40, .getfield 19, 3), (43, .iconst 1, 1), (44, .iaload, 1), (45, .if_icmp .ge 134, 3), (48, .aload_n 0, 1), (49, .iload 4, 2), (51, .iconst 1, 1), (52, .invokevirtual 158, 3), (55, .istore 5, 2), (57, .iconst 1, 1), (58, .istore 6, 2), (60, .iload 6, 2), (62, .bipush 32, 2), (64, .if_icmp .ge 93, 3), (67, .aload_n 0, 1), (68, .iload 4, 2), (70, .iconst 0, 1), (71, .invokevirtual 158, 3), (74, .iconst 4, 1), (75, .if_icmp .ge 82, 3), (78, .aload_n 0, 1), (79, .getfield 19, 3), (82, .bipush 11, 2), (84, .iconst 3, 1), (85, .iload 4, 2), (87, .imul, 1), (88, .iadd, 1), (89, .iconst 1, 1), (90, .iadd, 1), (91, .iload 6, 2), (93, .iastore, 1), (94, .aload_n 0, 1), (95, .bipush 7, 2), (97, .invokevirtual 205, 3), (100, .istore 7, 2), (102, .iload_n 2, 1), (103, .ldc 90, 2), (105, .if_icmp .eq 9, 3), (108, .iload 7, 2), (110, .iload_n 3, 1), (111, .if_icmp .ge 7, 3), (114, .iconst 1, 1), (115, .goto 4, 3), (118, .iconst 0, 1), (119, .istore 8, 2), (121, .iload 8, 2), (123, .ifCond .eq 14, 3), (126, .bipush 32, 2), (128, .iload 4, 2), (130, .imul, 1), (131, .iload 6, 2), (133, .iadd, 1), (134, .goto 4, 3), (137, .iload_n 2, 1), (138, .istore_n 2, 1), (139, .iload 8, 2), (141, .ifCond .eq 8, 3), (144, .iload 7, 2), (146, .goto 4, 3), (149, .iload_n 3, 1), (150, .istore_n 3, 1), (151, .iinc 6 1, 3), (154, .goto (-94), 3), (157, .aload_n 0, 1), (158, .getfield 19, 3), (161, .bipush 11, 2), (163, .iconst 3, 1), (164, .iload 4, 2), (166, .imul, 1), (167, .iadd, 1), (168, .iconst 1, 1), (169, .iadd, 1), (170, .iload 5, 2), (172, .iastore, 1), (173, .iinc 4 1, 3), (176, .goto (-139), 3), (179, .iload_n 1, 1), (180, .ifCond .ne 7, 3), (183, .iload_n 2, 1), (184, .goto 4, 3), (187, .iload_n 3, 1), (188, .ireturn, 1)]
theorem p_X12_bestPaint : pj_tab cX12_bestPaint P_X12_bestPaint = true := by decide +kernel
def P_X12_areApart : List (Nat × Instr × Nat) := [(0, .iconst 1, 1), (1, .istore_n 3, 1), (2, .iconst 0, 1), (3, .istore 4, 2), (5, .iload 4, 2), (7, .bipush 7, 2), (9, .if_icmp .ge 48, 3), (12, .aload_n 0, 1), (13, .getfield 19, 3), (16, .iconst 4, 1), (17, .iload 4, 2), (19, .iadd, 1), (20, .iaload, 1), (21, .invokestatic 164, 3), (24, .istore 5, 2), (26, .iload_n 3, 1), (27, .ifCond .eq 22, 3), (30, .iload_n 1, 1), (31, .iload 5, 2), (33, .iconst (-1), 1), (34, .ixor, 1), (35, .iand, 1), (36, .iload_n 2, 1), (37, .iload 5, 2), (39, .iconst (-1), 1), (40, .ixor, 1), (41, .iand, 1), (42, .if_icmp .eq 7, 3), (45, .iconst 1, 1), (46, .goto 4, 3), (49, .iconst 0, 1), (50, .istore_n 3, 1), (51, .iinc 4 1, 3), (54, .goto (-49), 3), (57, .iload_n 3, 1), (58, .ireturn, 1)]
theorem p_X12_areApart : pj_tab cX12_areApart P_X12_areApart = true := by decide +kernel
def P_X12_areMixes : List (Nat × Instr × Nat) := [(0, .iconst 0, 1), (1, .istore_n 2, 1), (2, .aload_n 0, 1), (3, .getfield 31, 3), (6, .iconst 0, 1), (7, .iconst 0, 1), (8, .iastore, 1), (9, .iload_n 2, 1), (10, .ifCond .lt 111, 3), (13, .iload_n 2, 1), (14, .iload_n 1, 1), (15, .if_icmp .ge 106, 3), (18, .aload_n 0, 1), (19, .getfield 31, 3), (22, .iload_n 2, 1), (23, .dup2, 1), (24, .iaload, 1), (25, .iconst 1, 1), (26, .iadd, 1), (27, .iastore, 1), (28, .aload_n 0, 1), (29, .getfield 31, 3), (32, .iload_n 2, 1), (33, .iaload, 1), (34, .bipush 31, 2), (36, .if_icmp .le 9, 3), (39, .iinc 2 (-1), 3), (42, .goto (-33), 3), (45, .iconst 1, 1), (46, .istore_n 3, 1), (47, .iconst 0, 1), (48, .istore 4, 2), (50, .iload 4, 2), (52, .iload_n 2, 1), (53, .if_icmp .ge 39, 3), (56, .iload_n 3, 1), (57, .ifCond .eq 27, 3), (60, .aload_n 0, 1), (61, .aload_n 0, 1), (62, .getfield 31, 3), (65, .iload 4, 2), (67, .iaload, 1), (68, .aload_n 0, 1), (69, .getfield 31, 3), (72, .iload_n 2, 1), (73, .iaload, 1), (74, .invokevirtual 208, 3), (77, .ifCond .eq 7, 3), (80, .iconst 1, 1), (81, .goto 4, 3), (84, .iconst 0, 1), (85, .istore_n 3, 1), (86, .iinc 4 1, 3), (89, .goto (-39), 3), (92, .iload_n 3, 1), (93, .ifCond .eq 25, 3), (96, .iinc 2 1, 3), (99, .iload_n 2, 1), (100, .iload_n 1, 1), (101, .if_icmp .ge 17, 3), (104, .aload_n 0, 1), (105, .getfield 31, 3), (108, .iload_n 2, 1), (109, .aload_n 0, 1), (110, .getfield 31, 3), (113, .iload_n 2, 1), (114, .iconst 1, 1), (115, .isub, 1), (116, .iaload, 1), (117, .iastore, 1), (118, .goto (-109), 3), (121, .iload_n 2, 1), (122, .iload_n 1, 1), (123, .if_icmp .ne 7, 3), (126, .iconst 1, 1), (127, .goto 4, 3), (130, .iconst 0, 1), (131, .ireturn, 1)]
theorem p_X12_areMixes : pj_tab cX12_areMixes P_X12_areMixes = true := by decide +kernel
def P_X12_dyes : List (Nat × Instr × Nat) := [(0, .aload_n 0, 1), (1, .iconst 0, 1), (2, .putfield 47, 3), (5, .aload_n 0, 1), (6, .invokevirtual 176, 3), (9, .ifCond .ne 6, 3), (12, .ldc 179, 2), (14, .ireturn, 1), (15, .iload_n 1, 1), (16, .i2l, 1), (17, .lconst 1, 1), (18, .ldc2_w 187, 3), (21, .invokestatic 57, 3), (24, .ifCond .eq 18, 3), (27, .iload_n 2, 1), (28, .i2l, 1), (29, .ldc2_w 211, 3), (32, .iload_n 1, 1), (33, .iconst 1, 1), (34, .isub, 1), (35, .i2l, 1), (36, .invokestatic 57, 3), (39, .ifCond .ne 6, 3), (42, .ldc 67, 2), (44, .ireturn, 1), (45, .iload_n 2, 1), (46, .ifCond .lt 23, 3), (49, .aload_n 0, 1), (50, .iload_n 1, 1), (51, .invokevirtual 213, 3), (54, .ifCond .eq 12, 3), (57, .aload_n 0, 1), (58, .getfield 31, 3), (61, .iload_n 2, 1), (62, .iaload, 1), (63, .goto 5, 3), (66, .ldc 90, 2), (68, .ireturn, 1), (69, .iconst 0, 1), (70, .istore_n 3, 1), (71, .iconst 1, 1), (72, .istore 4, 2), (74, .iload 4, 2), (76, .bipush 32, 2), (78, .if_icmp .ge 47, 3), (81, .iload 4, 2), (83, .iconst 1, 1), (84, .iadd, 1), (85, .istore 5, 2), (87, .iload 5, 2), (89, .bipush 32, 2), (91, .if_icmp .ge 28, 3), (94, .iload_n 3, 1), (95, .aload_n 0, 1), (96, .iload 4, 2), (98, .iload 5, 2), (100, .invokevirtual 208, 3), (103, .ifCond .eq 7, 3), (106, .iconst 1, 1), (107, .goto 4, 3), (110, .iconst 0, 1), (111, .iadd, 1), (112, .istore_n 3, 1), (113, .iinc 5 1, 3), (116, .goto (-29), 3), (119, .iinc 4 1, 3), (122, .goto (-48), 3), (125, .iload_n 3, 1), (126, .ireturn, 1)]
theorem p_X12_dyes : pj_tab cX12_dyes P_X12_dyes = true := by decide +kernel
def P_X12_thief : List (Nat × Instr × Nat) := [(0, .aload_n 0, 1), (1, .iconst 0, 1), (2, .putfield 47, 3), (5, .aload_n 0, 1), (6, .invokevirtual 176, 3), (9, .ifCond .ne 6, 3), (12, .ldc 179, 2), (14, .ireturn, 1), (15, .iload_n 1, 1), (16, .i2l, 1), (17, .lconst 0, 1), (18, .lconst 1, 1), (19, .invokestatic 57, 3), (22, .ifCond .ne 6, 3), (25, .ldc 67, 2), (27, .ireturn, 1), (28, .ldc 90, 2), (30, .istore_n 2, 1), (31, .ldc 90, 2), (33, .istore_n 3, 1), (34, .iconst 0, 1), (35, .istore 4, 2), (37, .iload 4, 2), (39, .bipush 7, 2), (41, .if_icmp .ge 80, 3), (44, .iconst 0, 1), (45, .istore 5, 2), (47, .iload 5, 2), (49, .aload_n 0, 1), (50, .getfield 19, 3), (53, .iconst 1, 1), (54, .iaload, 1), (55, .if_icmp .ge 60, 3), (58, .aload_n 0, 1), (59, .iload 5, 2), (61, .aload_n 0, 1), (62, .iload 4, 2), (64, .invokevirtual 170, 3), (67, .invokevirtual 202, 3), (70, .invokestatic 161, 3), (73, .iconst 1, 1), (74, .isub, 1), (75, .istore 6, 2), (77, .iload 6, 2), (79, .iload_n 3, 1), (80, .if_icmp .le 14, 3), (83, .bipush 7, 2), (85, .iload 4, 2), (87, .imul, 1), (88, .iload 5, 2), (90, .iadd, 1), (91, .goto 4, 3), (94, .iload_n 2, 1), (95, .istore_n 2, 1), (96, .iload 6, 2), (98, .iload_n 3, 1), (99, .if_icmp .le 8, 3), (102, .iload 6, 2), (104, .goto 4, 3), (107, .iload_n 3, 1), (108, .istore_n 3, 1), (109, .iinc 5 1, 3), (112, .goto (-65), 3), (115, .iinc 4 1, 3), (118, .goto (-81), 3), (121, .iload_n 1, 1), (122, .ifCond .ne 7, 3), (125, .iload_n 2, 1), (126, .goto 4, 3), (129, .iload_n 3, 1), (130, .ireturn, 1)]
theorem p_X12_thief : pj_tab cX12_thief P_X12_thief = true := by decide +kernel
def P_X12_seen : List (Nat × Instr × Nat) := [(0, .aload_n 0, 1), (1, .iconst 0, 1), (2, .putfield 47, 3), (5, .aload_n 0, 1), (6, .invokevirtual 176, 3), (9, .ifCond .ne 6, 3), (12, .ldc 179, 2), (14, .ireturn, 1), (15, .iload_n 1, 1), (16, .invokestatic 61, 3), (19, .ifCond .ne 6, 3), (22, .ldc 67, 2), (24, .ireturn, 1), (25, .aload_n 0, 1), (26, .getfield 7, 3), (29, .iload_n 1, 1), (30, .iaload, 1), (31, .ifCond .ge 9, 3), (34, .aload_n 0, 1), (35, .iconst 1, 1), (36, .invokevirtual 68, 3), (39, .ireturn, 1), (40, .iload_n 2, 1), (41, .ifCond .lt 24, 3), (44, .iload_n 2, 1), (45, .i2l, 1), (46, .aload_n 0, 1), (47, .getfield 19, 3), (50, .iconst 1, 1), (51, .iaload, 1), (52, .i2l, 1), (53, .ladd, 1), (54, .aload_n 0, 1), (55, .getfield 13, 3), (58, .iload_n 1, 1), (59, .iaload, 1), (60, .i2l, 1), (61, .lcmp, 1), (62, .ifCond .le 9, 3), (65, .aload_n 0, 1), (66, .iconst 2, 1), (67, .invokevirtual 68, 3), (70, .ireturn, 1), (71, .aload_n 0, 1), (72, .iconst 0, 1), (73, .putfield 51, 3), (76, .iconst 0, 1), (77, .istore_n 3, 1), (78, .iconst 0, 1), (79, .istore 4, 2), (81, .iload 4, 2), (83, .bipush 7, 2), (85, .if_icmp .ge 95, 3), (88, .iconst 1, 1), (89, .istore 5, 2), (91, .iconst 0, 1), (92, .istore 6, 2), (94, .iload 6, 2), (96, .aload_n 0, 1), (97, .getfield 19, 3), (100, .iconst 1, 1), (101, .iaload, 1), (102, .if_icmp .ge 56, 3), (105, .iload 5, 2), (107, .ifCond .eq 42, 3), (110, .aload_n 0, 1), (111, .iload 6, 2), (113, .aload_n 0, 1), (114, .getfield 19, 3), (117, .iconst 4, 1), (118, .iload 4, 2), (120, .iadd, 1), (121, .iaload, 1), (122, .invokestatic 164, 3), (125, .invokevirtual 167, 3), (128, .aload_n 0, 1), (129, .getfield 16, 3), (132, .bipush 40, 2), (134, .iload_n 1, 1), (135, .imul, 1), (136, .iload_n 2, 1), (137, .iadd, 1), (138, .iload 6, 2), (140, .iadd, 1), (141, .iaload, 1), (142, .if_icmp .ne 7, 3), (145, .iconst 1, 1), (146, .goto 4, 3), (149, .iconst 0, 1), (150, .istore 5, 2), (152, .iinc 6 1, 3), (155, .goto (-61), 3), (158, .iload_n 3, 1), (159, .iload 5, 2), (161, .ifCond .eq 10, 3), (164, .iconst 1, 1), (165, .iload 4, 2), (167, .ishl, 1), (168, .goto 4, 3), (171, .iconst 0, 1), (172, .ior, 1), (173, .istore_n 3, 1), (174, .iinc 4 1, 3), (177, .goto (-96), 3), (180, .iload_n 3, 1), (181, .ireturn, 1)]
theorem p_X12_seen : pj_tab cX12_seen P_X12_seen = true := by decide +kernel
def P_X12_follow : List (Nat × Instr × Nat) := [(0, .iconst 1, 1), (1, .aload_n 0, 1), (2, .getfield 19, 3), (5, .iconst 1, 1), (6, .iaload, 1), (7, .ishl, 1), (8, .iconst 1, 1), (9, .isub, 1), (10, .istore 4, 2), (12, .iload_n 1, 1), (13, .iload 4, 2), (15, .if_icmp .ne 7, 3), (18, .iconst 1, 1), (19, .goto 4, 3), (22, .iconst 0, 1), (23, .istore 5, 2), (25, .iconst 0, 1), (26, .istore 6, 2), (28, .iload 6, 2), (30, .aload_n 0, 1), (31, .getfield 19, 3), (34, .iconst 1, 1), (35, .iaload, 1), (36, .if_icmp .ge 55, 3), (39, .iload 5, 2), (41, .iload_n 1, 1), (42, .iload 6, 2), (44, .ishr, 1), (45, .iconst 1, 1), (46, .iand, 1), (47, .ifCond .ne 34, 3), (50, .aload_n 0, 1), (51, .iload 6, 2), (53, .iload_n 2, 1), (54, .iload_n 3, 1), (55, .invokevirtual 198, 3), (58, .ifCond .ne 23, 3), (61, .aload_n 0, 1), (62, .getfield 34, 3), (65, .bipush 7, 2), (67, .iload_n 1, 1), (68, .iconst 1, 1), (69, .iload 6, 2), (71, .ishl, 1), (72, .ior, 1), (73, .imul, 1), (74, .iload 6, 2), (76, .iadd, 1), (77, .iaload, 1), (78, .goto 4, 3), (81, .iconst 0, 1), (82, .iadd, 1), (83, .istore 5, 2), (85, .iinc 6 1, 3), (88, .goto (-60), 3), (91, .iload 5, 2), (93, .ireturn, 1)]
theorem p_X12_follow : pj_tab cX12_follow P_X12_follow = true := by decide +kernel
def P_X12_shelf : List (Nat × Instr × Nat) := [(0, .aload_n 0, 1), (1, .iconst 0, 1), (2, .putfield 47, 3), (5, .aload_n 0, 1), (6, .invokevirtual 176, 3), (9, .ifCond .ne 6, 3), (12, .ldc 179, 2), (14, .ireturn, 1), (15, .iload_n 1, 1), (16, .invokestatic 195, 3), (19, .ifCond .eq 17, 3), (22, .iload_n 2, 1), (23, .i2l, 1), (24, .ldc2_w 211, 3), (27, .ldc2_w 187, 3), (30, .invokestatic 57, 3), (33, .ifCond .ne 6, 3), (36, .ldc 67, 2), (38, .ireturn, 1), (39, .aload_n 0, 1), (40, .getfield 19, 3), (43, .iconst 1, 1), (44, .iaload, 1), (45, .istore_n 3, 1), (46, .iload_n 3, 1), (47, .ifCond .ne 7, 3), (50, .iconst 1, 1), (51, .goto 4, 3), (54, .iconst 0, 1), (55, .istore 4, 2), (57, .iconst 1, 1), (58, .iload_n 3, 1), (59, .ishl, 1), (60, .iconst 1, 1), (61, .isub, 1), (62, .istore 5, 2), (64, .iload 5, 2), (66, .ifCond .le 61, 3), (69, .iconst 0, 1), (70, .istore 6, 2), (72, .iload 6, 2), (74, .iload_n 3, 1), (75, .if_icmp .ge 46, 3), (78, .aload_n 0, 1), (79, .getfield 34, 3), (82, .bipush 7, 2), (84, .iload 5, 2), (86, .imul, 1), (87, .iload 6, 2), (89, .iadd, 1), (90, .iload 5, 2), (92, .iload 6, 2), (94, .ishr, 1), (95, .iconst 1, 1), (96, .iand, 1), (97, .iconst 1, 1), (98, .if_icmp .ne 15, 3), (101, .aload_n 0, 1), (102, .iload 5, 2), (104, .iload 6, 2), (106, .iload_n 1, 1), (107, .invokevirtual 216, 3), (110, .goto 4, 3), (113, .iconst 0, 1), (114, .iastore, 1), (115, .iinc 6 1, 3), (118, .goto (-46), 3), (121, .iinc 5 (-1), 3), (124, .goto (-60), 3), (127, .iconst 0, 1), (128, .istore 5, 2), (130, .iload 5, 2), (132, .iload_n 3, 1), (133, .if_icmp .ge 29, 3), (136, .iload 4, 2), (138, .aload_n 0, 1), (139, .getfield 34, 3), (142, .bipush 7, 2), (144, .iconst 1, 1), (145, .iload 5, 2), (147, .ishl, 1), (148, .imul, 1), (149, .iload 5, 2), (151, .iadd, 1), (152, .iaload, 1), (153, .iadd, 1), (154, .istore 4, 2), (156, .iinc 5 1, 3), (159, .goto (-29), 3), (162, .iload_n 2, 1), (163, .ifCond .ge 6, 3), (166, .iload 4, 2), (168, .ireturn, 1), (169, .iload 4, 2), (171, .ifCond .eq 8, 3), (174, .iload_n 2, 1), (175, .iload_n 3, 1), (176, .if_icmp .lt 6, 3), (179, .ldc 90, 2), (181, .ireturn, 1), (182, .iconst 0, 1), (183, .istore 5, 2), (185, .ldc 90, 2), (187, .istore 6, 2), (189, .iconst 0, 1), (190, .istore 7, 2), (192, .iload 7, 2), (194, .iload_n 2, 1), (195, .if_icmp .gt 82, 3), (198, .iconst 0, 1), (199, .istore 8, 2), (201, .iload 5, 2), (203, .iload 8, 2), (205, .ishr, 1), (206, .iconst 1, 1), (207, .iand, 1), (208, .iconst 1, 1), (209, .if_icmp .eq 43, 3), (212, .iload 6, 2), (214, .ldc 90, 2), (216, .if_icmp .eq 15, 3), (219, .aload_n 0, 1), (220, .iload 8, 2), (222, .iload 6, 2), (224, .iload_n 1, 1), (225, .invokevirtual 198, 3), (228, .ifCond .ne 24, 3), (231, .aload_n 0, 1), (232, .getfield 34, 3), (235, .bipush 7, 2), (237, .iload 5, 2), (239, .iconst 1, 1), (240, .iload 8, 2), (242, .ishl, 1), (243, .ior, 1), (244, .imul, 1), (245, .iload 8, 2), (247, .iadd, 1), (248, .iaload, 1), (249, .ifCond .ne 9, 3), (252, .iinc 8 1, 3), (255, .goto (-54), 3), (258, .iload 5, 2), (260, .iconst 1, 1), (261, .iload 8, 2), (263, .ishl, 1), (264, .ior, 1), (265, .istore 5, 2), (267, .iload 8, 2), (269, .istore 6, 2), (271, .iinc 7 1, 3), (274, .goto (-82), 3), (277, .iload 6, 2), (279, .ireturn, 1)]
theorem p_X12_shelf : pj_tab cX12_shelf P_X12_shelf = true := by decide +kernel
def P_X12_parted : List (Nat × Instr × Nat) := [(0, .aload_n 0, 1), (1, .iconst 0, 1), (2, .putfield 47, 3), (5, .aload_n 0, 1), (6, .invokevirtual 176, 3), (9, .ifCond .ne 6, 3), (12, .ldc 179, 2), (14, .ireturn, 1), (15, .iload_n 1, 1), (16, .invokestatic 195, 3), (19, .ifCond .eq 20, 3), (22, .iload_n 2, 1), (23, .invokestatic 195, 3), (26, .ifCond .eq 13, 3), (29, .iload_n 3, 1), (30, .i2l, 1), (31, .lconst 0, 1), (32, .lconst 1, 1), (33, .invokestatic 57, 3), (36, .ifCond .ne 6, 3), (39, .ldc 67, 2), (41, .ireturn, 1), (42, .iconst 0, 1), (43, .istore 4, 2), (45, .ldc 90, 2), (47, .istore 5, 2), (49, .iconst 0, 1), (50, .istore 6, 2), (52, .iload 6, 2), (54, .aload_n 0, 1), (55, .getfield 19, 3), (58, .iconst 1, 1), (59, .iaload, 1), (60, .if_icmp .ge 103, 3), (63, .iload 6, 2), (65, .iconst 1, 1), (66, .iadd, 1), (67, .istore 7, 2), (69, .iload 7, 2), (71, .aload_n 0, 1), (72, .getfield 19, 3), (75, .iconst 1, 1), (76, .iaload, 1), (77, .if_icmp .ge 80, 3), (80, .aload_n 0, 1), (81, .iload 6, 2), (83, .iload 7, 2), (85, .iload_n 1, 1), (86, .invokevirtual 198, 3), (89, .ifCond .eq 19, 3), (92, .aload_n 0, 1), (93, .iload 6, 2), (95, .iload 7, 2), (97, .iload_n 2, 1), (98, .invokevirtual 198, 3), (101, .ifCond .ne 7, 3), (104, .iconst 1, 1), (105, .goto 4, 3), (108, .iconst 0, 1), (109, .istore 8, 2), (111, .iload 8, 2), (113, .ifCond .eq 19, 3), (116, .iload 4, 2), (118, .ifCond .ne 14, 3), (121, .bipush 7, 2), (123, .iload 6, 2), (125, .imul, 1), (126, .iload 7, 2), (128, .iadd, 1), (129, .goto 5, 3), (132, .iload 5, 2), (134, .istore 5, 2), (136, .iload 4, 2), (138, .iload 8, 2), (140, .ifCond .eq 7, 3), (143, .iconst 1, 1), (144, .goto 4, 3), (147, .iconst 0, 1), (148, .iadd, 1), (149, .istore 4, 2), (151, .iinc 7 1, 3), (154, .goto (-85), 3), (157, .iinc 6 1, 3), (160, .goto (-108), 3), (163, .iload_n 3, 1), (164, .ifCond .ne 8, 3), (167, .iload 4, 2), (169, .goto 5, 3), (172, .iload 5, 2), (174, .ireturn, 1)]
theorem p_X12_parted : pj_tab cX12_parted P_X12_parted = true := by decide +kernel
def P_X12_merged : List (Nat × Instr × Nat) := [(0, .aload_n 0, 1), (1, .iconst 0, 1), (2, .putfield 47, 3), (5, .aload_n 0, 1), (6, .iload_n 1, 1), (7, .iload_n 2, 1), (8, .invokevirtual 191, 3), (11, .ifCond .ne 6, 3), (14, .ldc 67, 2), (16, .ireturn, 1), (17, .ldc 90, 2), (19, .istore_n 3, 1), (20, .iconst 0, 1), (21, .istore 4, 2), (23, .iload 4, 2), (25, .bipush 32, 2), (27, .if_icmp .ge 51, 3), (30, .aload_n 0, 1), (31, .iload_n 1, 1), (32, .iload 4, 2), (34, .invokevirtual 167, 3), (37, .aload_n 0, 1), (38, .iload_n 2, 1), (39, .iload 4, 2), (41, .invokevirtual 167, 3), (44, .if_icmp .ne 26, 3), (47, .iload_n 3, 1), (48, .ldc 90, 2), (50, .if_icmp .eq 15, 3), (53, .iload 4, 2), (55, .invokestatic 161, 3), (58, .iload_n 3, 1), (59, .invokestatic 161, 3), (62, .if_icmp .ge 8, 3), (65, .iload 4, 2), (67, .goto 4, 3), (70, .iload_n 3, 1), (71, .istore_n 3, 1), (72, .iinc 4 1, 3), (75, .goto (-52), 3), (78, .iload_n 3, 1), (79, .ireturn, 1)]
theorem p_X12_merged : pj_tab cX12_merged P_X12_merged = true := by decide +kernel
def P_X12_toldBy : List (Nat × Instr × Nat) := [(0, .iconst 0, 1), (1, .istore_n 3, 1), (2, .iconst 0, 1), (3, .istore 4, 2), (5, .iload 4, 2), (7, .aload_n 0, 1), (8, .getfield 19, 3), (11, .iconst 1, 1), (12, .iaload, 1), (13, .if_icmp .ge 117, 3), (16, .iconst 1, 1), (17, .istore 5, 2), (19, .iconst 0, 1), (20, .istore 6, 2), (22, .iload 6, 2), (24, .aload_n 0, 1), (25, .getfield 19, 3), (28, .iconst 1, 1), (29, .iaload, 1), (30, .if_icmp .ge 81, 3), (33, .iload_n 1, 1), (34, .iconst 1, 1), (35, .iand, 1), (36, .iconst 1, 1), (37, .if_icmp .ne 15, 3), (40, .aload_n 0, 1), (41, .iload 4, 2), (43, .iload 6, 2), (45, .iload_n 2, 1), (46, .invokevirtual 198, 3), (49, .ifCond .eq 25, 3), (52, .iload_n 1, 1), (53, .iconst 1, 1), (54, .if_icmp .le 24, 3), (57, .aload_n 0, 1), (58, .iload 4, 2), (60, .iconst 2, 1), (61, .invokevirtual 158, 3), (64, .aload_n 0, 1), (65, .iload 6, 2), (67, .iconst 2, 1), (68, .invokevirtual 158, 3), (71, .if_icmp .eq 7, 3), (74, .iconst 1, 1), (75, .goto 4, 3), (78, .iconst 0, 1), (79, .istore 7, 2), (81, .iload 5, 2), (83, .ifCond .eq 19, 3), (86, .iload 4, 2), (88, .iload 6, 2), (90, .if_icmp .eq 8, 3), (93, .iload 7, 2), (95, .ifCond .eq 7, 3), (98, .iconst 1, 1), (99, .goto 4, 3), (102, .iconst 0, 1), (103, .istore 5, 2), (105, .iinc 6 1, 3), (108, .goto (-86), 3), (111, .iload_n 3, 1), (112, .iload 5, 2), (114, .ifCond .eq 7, 3), (117, .iconst 1, 1), (118, .goto 4, 3), (121, .iconst 0, 1), (122, .iadd, 1), (123, .istore_n 3, 1), (124, .iinc 4 1, 3), (127, .goto (-122), 3), (130, .iload_n 3, 1), (131, .ireturn, 1)]
theorem p_X12_toldBy : pj_tab cX12_toldBy P_X12_toldBy = true := by decide +kernel
def P_X12_tests : List (Nat × Instr × Nat) := [(0, .aload_n 0, 1), (1, .iconst 0, 1), (2, .putfield 47, 3), (5, .aload_n 0, 1), (6, .invokevirtual 176, 3), (9, .ifCond .ne 6, 3), (12, .ldc 179, 2), (14, .ireturn, 1), (15, .iload_n 1, 1), (16, .invokestatic 195, 3), (19, .ifCond .eq 38, 3), (22, .iload_n 2, 1), (23, .i2l, 1), (24, .lconst 0, 1), (25, .ldc2_w 220, 3), (28, .invokestatic 57, 3), (31, .ifCond .eq 26, 3), (34, .iload_n 3, 1), (35, .i2l, 1), (36, .lconst 0, 1), (37, .ldc2_w 220, 3), (40, .invokestatic 57, 3), (43, .ifCond .eq 14, 3), (46, .iload 4, 2), (48, .i2l, 1), (49, .lconst 0, 1), (50, .lconst 1, 1), (51, .invokestatic 57, 3), (54, .ifCond .ne 6, 3), (57, .ldc 67, 2), (59, .ireturn, 1), (60, .ldc 90, 2), (62, .istore 5, 2), (64, .iconst 0, 1), (65, .istore 6, 2), (67, .iconst 0, 1), (68, .istore 7, 2), (70, .iload 7, 2), (72, .iconst 4, 1), (73, .if_icmp .ge 89, 3), (76, .aload_n 0, 1), (77, .iload 7, 2), (79, .iload_n 1, 1), (80, .invokevirtual 222, 3), (83, .istore 8, 2), (85, .iload 7, 2), (87, .iconst 1, 1), (88, .iand, 1), (89, .iload_n 2, 1), (90, .imul, 1), (91, .iload 7, 2), (93, .iconst 1, 1), (94, .ishr, 1), (95, .iload_n 3, 1), (96, .imul, 1), (97, .iadd, 1), (98, .istore 9, 2), (100, .iload 8, 2), (102, .iload 5, 2), (104, .if_icmp .gt 17, 3), (107, .iload 8, 2), (109, .iload 5, 2), (111, .if_icmp .ne 14, 3), (114, .iload 9, 2), (116, .iload 6, 2), (118, .if_icmp .ge 7, 3), (121, .iconst 1, 1), (122, .goto 4, 3), (125, .iconst 0, 1), (126, .istore 10, 2), (128, .iload 10, 2), (130, .ifCond .eq 8, 3), (133, .iload 8, 2), (135, .goto 5, 3), (138, .iload 5, 2), (140, .istore 5, 2), (142, .iload 10, 2), (144, .ifCond .eq 8, 3), (147, .iload 9, 2), (149, .goto 5, 3), (152, .iload 6, 2), (154, .istore 6, 2), (156, .iinc 7 1, 3), (159, .goto (-89), 3), (162, .iload 4, 2), (164, .ifCond .ne 8, 3), (167, .iload 5, 2), (169, .goto 5, 3), (172, .iload 6, 2), (174, .ireturn, 1)]
theorem p_X12_tests : pj_tab cX12_tests P_X12_tests = true := by decide +kernel
def P_X12_bet : List (Nat × Instr × Nat) := [(0, .aload_n 0, 1), (1, .iconst 0, 1), (2, .putfield 47, 3), (5, .iload_n 1, 1), (6, .i2l, 1), (7, .lconst 0, 1), (8, .ldc2_w 225, 3), (11, .invokestatic 57, 3), (14, .ifCond .eq 24, 3), (17, .iload_n 2, 1), (18, .i2l, 1), (19, .lconst 0, 1), (20, .iload_n 1, 1), (21, .i2l, 1), (22, .invokestatic 57, 3), (25, .ifCond .eq 13, 3), (28, .iload_n 3, 1), (29, .i2l, 1), (30, .lconst 0, 1), (31, .lconst 1, 1), (32, .invokestatic 57, 3), (35, .ifCond .ne 7, 3), (38, .ldc2_w 227, 3), (41, .lreturn, 1), (42, .lconst 1, 1), (43, .lstore 4, 2), (45, .lconst 1, 1), (46, .lstore 6, 2), (48, .iconst 0, 1), (49, .istore 8, 2), (51, .iload 8, 2), (53, .iload_n 1, 1), (54, .if_icmp .ge 25, 3), (57, .lload 4, 2), (59, .ldc2_w 189, 3), (62, .lmul, 1), (63, .lstore 4, 2), (65, .lload 6, 2), (67, .ldc2_w 229, 3), (70, .lmul, 1), (71, .lstore 6, 2), (73, .iinc 8 1, 3), (76, .goto (-25), 3), (79, .lconst 0, 1), (80, .lstore 8, 2), (82, .iconst 0, 1), (83, .istore 10, 2), (85, .iload 10, 2), (87, .iload_n 1, 1), (88, .if_icmp .gt 46, 3), (91, .lload 8, 2), (93, .iload 10, 2), (95, .iload_n 2, 1), (96, .if_icmp .lt 8, 3), (99, .lload 6, 2), (101, .goto 4, 3), (104, .lconst 0, 1), (105, .ladd, 1), (106, .lstore 8, 2), (108, .lload 6, 2), (110, .iload_n 1, 1), (111, .iload 10, 2), (113, .isub, 1), (114, .i2l, 1), (115, .lmul, 1), (116, .ldc2_w 229, 3), (119, .iload 10, 2), (121, .iconst 1, 1), (122, .iadd, 1), (123, .i2l, 1), (124, .lmul, 1), (125, .ldiv, 1), (126, .lstore 6, 2), (128, .iinc 10 1, 3), (131, .goto (-46), 3), (134, .lload 8, 2), (136, .lstore 10, 2), (138, .lload 4, 2), (140, .lstore 12, 2), (142, .lload 12, 2), (144, .lconst 0, 1), (145, .lcmp, 1), (146, .ifCond .eq 21, 3), (149, .lload 10, 2), (151, .lload 12, 2), (153, .lrem, 1), (154, .lstore 14, 2), (156, .lload 12, 2), (158, .lstore 10, 2), (160, .lload 14, 2), (162, .lstore 12, 2), (164, .goto (-22), 3), (167, .iload_n 3, 1), (168, .ifCond .ne 8, 3), (171, .lload 8, 2), (173, .goto 5, 3), (176, .lload 4, 2), (178, .lload 10, 2), (180, .ldiv, 1), (181, .lreturn, 1)]
theorem p_X12_bet : pj_tab cX12_bet P_X12_bet = true := by decide +kernel
def P_X12_year : List (Nat × Instr × Nat) := [(0, .aload_n 0, 1), (1, .iconst 0, 1), (2, .putfield 47, 3), (5, .aload_n 0, 1), (6, .invokevirtual 176, 3), (9, .ifCond .ne 6, 3), (12, .ldc 179, 2), (14, .ireturn, 1), (15, .iload_n 1, 1), (16, .i2l, 1), (17, .lconst 0, 1), (18, .ldc2_w 231, 3), (21, .invokestatic 57, 3), (24, .ifCond .eq 25, 3), (27, .iload_n 2, 1), (28, .i2l, 1), (29, .lconst 1, 1), (30, .ldc2_w 233, 3), (33, .invokestatic 57, 3), (36, .ifCond .eq 13, 3), (39, .iload_n 3, 1), (40, .i2l, 1), (41, .lconst 0, 1), (42, .lconst 1, 1), (43, .invokestatic 57, 3), (46, .ifCond .ne 6, 3), (49, .ldc 67, 2), (51, .ireturn, 1), (52, .iload_n 2, 1), (53, .i2l, 1), (54, .lstore 4, 2), (56, .iconst 0, 1), (57, .istore 6, 2), (59, .iconst 0, 1), (60, .istore 7, 2), (62, .iconst 0, 1), (63, .istore 8, 2), (65, .iload 8, 2), (67, .iload_n 1, 1), (68, .if_icmp .ge 59, 3), (71, .lload 4, 2), (73, .ldc2_w 235, 3), (76, .lmul, 1), (77, .ldc2_w 237, 3), (80, .lrem, 1), (81, .lstore 4, 2), (83, .aload_n 0, 1), (84, .lload 4, 2), (86, .ldc2_w 187, 3), (89, .lrem, 1), (90, .l2i, 1), (91, .invokestatic 164, 3), (94, .invokevirtual 173, 3), (97, .istore 9, 2), (99, .iload 6, 2), (101, .iload 9, 2), (103, .iadd, 1), (104, .istore 6, 2), (106, .iload 7, 2), (108, .iload 9, 2), (110, .ifCond .ne 7, 3), (113, .iconst 1, 1), (114, .goto 4, 3), (117, .iconst 0, 1), (118, .iadd, 1), (119, .istore 7, 2), (121, .iinc 8 1, 3), (124, .goto (-59), 3), (127, .iload_n 3, 1), (128, .ifCond .ne 8, 3), (131, .iload 6, 2), (133, .goto 5, 3), (136, .iload 7, 2), (138, .ireturn, 1)]
theorem p_X12_year : pj_tab cX12_year P_X12_year = true := by decide +kernel
def P_X12_image : List (Nat × Instr × Nat) := [(0, .aload_n 0, 1), (1, .iconst 0, 1), (2, .putfield 47, 3), (5, .iload_n 1, 1), (6, .i2l, 1), (7, .lconst 0, 1), (8, .lconst 1, 1), (9, .invokestatic 57, 3), (12, .ifCond .ne 6, 3), (15, .ldc 67, 2), (17, .ireturn, 1), (18, .aload_n 0, 1), (19, .invokevirtual 176, 3), (22, .ifCond .ne 6, 3), (25, .ldc 179, 2), (27, .ireturn, 1), (28, .iconst 0, 1), (29, .istore_n 2, 1), (30, .iload_n 2, 1), (31, .bipush 56, 2), (33, .if_icmp .ge 26, 3), (36, .aload_n 0, 1), (37, .getfield 41, 3), (40, .bipush 56, 2), (42, .iload_n 1, 1), (43, .imul, 1), (44, .iload_n 2, 1), (45, .iadd, 1), (46, .aload_n 0, 1), (47, .getfield 19, 3), (50, .iload_n 2, 1), (51, .iaload, 1), (52, .iastore, 1), (53, .iinc 2 1, 3), (56, .goto (-26), 3), (59, .aload_n 0, 1), (60, .getfield 37, 3), (63, .iload_n 1, 1), (64, .iconst 1, 1), (65, .bastore, 1), (66, .iconst 1, 1), (67, .ireturn, 1)]
theorem p_X12_image : pj_tab cX12_image P_X12_image = true := by decide +kernel
def P_X12_restore : List (Nat × Instr × Nat) := [(0, .aload_n 0, 1), (1, .iconst 0, 1), (2, .putfield 47, 3), (5, .iload_n 1, 1), (6, .i2l, 1), (7, .lconst 0, 1), (8, .lconst 1, 1), (9, .invokestatic 57, 3), (12, .ifCond .ne 6, 3), (15, .ldc 67, 2), (17, .ireturn, 1), (18, .aload_n 0, 1), (19, .getfield 37, 3), (22, .iload_n 1, 1), (23, .baload, 1), (24, .ifCond .ne 6, 3), (27, .ldc 179, 2), (29, .ireturn, 1), (30, .iconst 0, 1), (31, .istore_n 2, 1), (32, .iload_n 2, 1), (33, .bipush 56, 2), (35, .if_icmp .ge 26, 3), (38, .aload_n 0, 1), (39, .getfield 19, 3), (42, .iload_n 2, 1), (43, .aload_n 0, 1), (44, .getfield 41, 3), (47, .bipush 56, 2), (49, .iload_n 1, 1), (50, .imul, 1), (51, .iload_n 2, 1), (52, .iadd, 1), (53, .iaload, 1), (54, .iastore, 1), (55, .iinc 2 1, 3), (58, .goto (-26), 3), (61, .aload_n 0, 1), (62, .iconst 0, 1), (63, .putfield 150, 3), (66, .iconst 1, 1), (67, .ireturn, 1)]
theorem p_X12_restore : pj_tab cX12_restore P_X12_restore = true := by decide +kernel
def P_X12_isOf : List (Nat × Instr × Nat) := [(0, .iload_n 1, 1), (1, .ifCond .eq 28, 3), (4, .iload_n 0, 1), (5, .iload_n 1, 1), (6, .if_icmp .eq 23, 3), (9, .iload_n 1, 1), (10, .iconst 1, 1), (11, .if_icmp .ne 8, 3), (14, .iload_n 0, 1), (15, .iconst 4, 1), (16, .if_icmp .lt 13, 3), (19, .iload_n 1, 1), (20, .iconst 4, 1), (21, .if_icmp .ne 12, 3), (24, .iload_n 0, 1), (25, .iconst 5, 1), (26, .if_icmp .ne 7, 3), (29, .iconst 1, 1), (30, .goto 4, 3), (33, .iconst 0, 1), (34, .ireturn, 1)]
theorem p_X12_isOf : pj_tab cX12_isOf P_X12_isOf = true := by decide +kernel
def P_X12_kind : List (Nat × Instr × Nat) := [(0, .aload_n 0, 1), (1, .iconst 0, 1), (2, .putfield 47, 3), (5, .aload_n 0, 1), (6, .iload_n 1, 1), (7, .invokevirtual 153, 3), (10, .ifCond .eq 12, 3), (13, .aload_n 0, 1), (14, .iload_n 1, 1), (15, .iconst 0, 1), (16, .invokevirtual 158, 3), (19, .goto 5, 3), (22, .ldc 67, 2), (24, .ireturn, 1)]
theorem p_X12_kind : pj_tab cX12_kind P_X12_kind = true := by decide +kernel
def P_X12_as : List (Nat × Instr × Nat) := [(0, .aload_n 0, 1), (1, .iconst 0, 1), (2, .putfield 47, 3), (5, .aload_n 0, 1), (6, .iload_n 1, 1), (7, .invokevirtual 153, 3), (10, .ifCond .eq 15, 3), (13, .iload_n 2, 1), (14, .i2l, 1), (15, .lconst 0, 1), (16, .ldc2_w 189, 3), (19, .invokestatic 57, 3), (22, .ifCond .ne 6, 3), (25, .ldc 67, 2), (27, .ireturn, 1), (28, .aload_n 0, 1), (29, .iconst 0, 1), (30, .putfield 51, 3), (33, .aload_n 0, 1), (34, .iload_n 1, 1), (35, .iconst 0, 1), (36, .invokevirtual 158, 3), (39, .iload_n 2, 1), (40, .invokestatic 239, 3), (43, .ifCond .eq 7, 3), (46, .iload_n 1, 1), (47, .goto 8, 3), (50, .aload_n 0, 1), (51, .iconst 3, 1), (52, .invokevirtual 68, 3), (55, .ireturn, 1)]
theorem p_X12_as : pj_tab cX12_as P_X12_as = true := by decide +kernel
def P_X12_began : List (Nat × Instr × Nat) := [(0, .aload_n 0, 1), (1, .getfield 242, 3), (4, .bipush 16, 2), (6, .if_icmp .ge 23, 3), (9, .aload_n 0, 1), (10, .getfield 44, 3), (13, .aload_n 0, 1), (14, .getfield 242, 3), (17, .iload_n 1, 1), (18, .iastore, 1), (19, .aload_n 0, 1), (20, .dup, 1), (21, .getfield 242, 3), (24, .iconst 1, 1), (25, .iadd, 1), (26, .putfield 242, 3), (29, .return_, 1)]
theorem p_X12_began : pj_tab cX12_began P_X12_began = true := by decide +kernel
def P_X12_plainSize : List (Nat × Instr × Nat) := [(0, .aload_n 0, 1), (1, .bipush 10, 2), (3, .invokevirtual 245, 3), (6, .aload_n 0, 1), (7, .iload_n 1, 1), (8, .iconst 1, 1), (9, .invokevirtual 158, 3), (12, .ireturn, 1)]
theorem p_X12_plainSize : pj_tab cX12_plainSize P_X12_plainSize = true := by decide +kernel
def P_X12_inkSize : List (Nat × Instr × Nat) := [(0, .aload_n 0, 1), (1, .iload_n 1, 1), (2, .iconst 0, 1), (3, .invokevirtual 158, 3), (6, .iconst 5, 1), (7, .if_icmp .ne 9, 3), (10, .aload_n 0, 1), (11, .bipush 14, 2), (13, .invokevirtual 245, 3), (16, .aload_n 0, 1), (17, .bipush 13, 2), (19, .invokevirtual 245, 3), (22, .aload_n 0, 1), (23, .iload_n 1, 1), (24, .invokevirtual 248, 3), (27, .bipush 100, 2), (29, .isub, 1), (30, .istore_n 2, 1), (31, .aload_n 0, 1), (32, .iload_n 1, 1), (33, .iconst 0, 1), (34, .invokevirtual 158, 3), (37, .iconst 5, 1), (38, .if_icmp .ne 9, 3), (41, .iconst 2, 1), (42, .iload_n 2, 1), (43, .imul, 1), (44, .goto 4, 3), (47, .iload_n 2, 1), (48, .ireturn, 1)]
theorem p_X12_inkSize : pj_tab cX12_inkSize P_X12_inkSize = true := by decide +kernel
def P_X12_markOf : List (Nat × Instr × Nat) := [(0, .aload_n 0, 1), (1, .iload_n 1, 1), (2, .iconst 0, 1), (3, .invokevirtual 158, 3), (6, .istore_n 2, 1), (7, .iload_n 2, 1), (8, .iconst 4, 1), (9, .if_icmp .lt 23, 3), (12, .aload_n 0, 1), (13, .bipush 23, 2), (15, .invokevirtual 245, 3), (18, .aload_n 0, 1), (19, .bipush 20, 2), (21, .invokevirtual 245, 3), (24, .iload_n 1, 1), (25, .aload_n 0, 1), (26, .iload_n 1, 1), (27, .invokevirtual 251, 3), (30, .isub, 1), (31, .ireturn, 1), (32, .iload_n 2, 1), (33, .iconst 1, 1), (34, .if_icmp .eq 19, 3), (37, .aload_n 0, 1), (38, .iload_n 2, 1), (39, .iconst 3, 1), (40, .if_icmp .ne 8, 3), (43, .bipush 22, 2), (45, .goto 5, 3), (48, .bipush 24, 2), (50, .invokevirtual 245, 3), (53, .aload_n 0, 1), (54, .bipush 21, 2), (56, .invokevirtual 245, 3), (59, .aload_n 0, 1), (60, .bipush 20, 2), (62, .invokevirtual 245, 3), (65, .iload_n 1, 1), (66, .aload_n 0, 1), (67, .iload_n 1, 1), (68, .aload_n 0, 1), (69, .iconst 0, 1), (70, .invokevirtual 170, 3), (73, .invokevirtual 167, 3), (76, .iadd, 1), (77, .istore_n 3, 1), (78, .iload_n 2, 1), (79, .iconst 1, 1), (80, .if_icmp .ne 7, 3), (83, .iload_n 3, 1), (84, .goto 19, 3), (87, .iload_n 2, 1), (88, .iconst 3, 1), (89, .if_icmp .ne 11, 3), (92, .iload_n 3, 1), (93, .sipush 1000, 3), (96, .isub, 1), (97, .goto 6, 3), (100, .iconst 2, 1), (101, .iload_n 3, 1), (102, .imul, 1), (103, .ireturn, 1)]
theorem p_X12_markOf : pj_tab cX12_markOf P_X12_markOf = true := by decide +kernel
def P_X12_sizeOf : List (Nat × Instr × Nat) := [(0, .aload_n 0, 1), (1, .iload_n 1, 1), (2, .iconst 0, 1), (3, .invokevirtual 158, 3), (6, .istore_n 2, 1), (7, .iload_n 2, 1), (8, .iconst 4, 1), (9, .if_icmp .lt 9, 3), (12, .aload_n 0, 1), (13, .iload_n 1, 1), (14, .invokevirtual 251, 3), (17, .ireturn, 1), (18, .iload_n 2, 1), (19, .iconst 2, 1), (20, .if_icmp .ne 9, 3), (23, .aload_n 0, 1), (24, .bipush 12, 2), (26, .invokevirtual 245, 3), (29, .aload_n 0, 1), (30, .bipush 11, 2), (32, .invokevirtual 245, 3), (35, .aload_n 0, 1), (36, .iload_n 1, 1), (37, .invokevirtual 248, 3), (40, .istore_n 3, 1), (41, .iload_n 3, 1), (42, .aload_n 0, 1), (43, .iload_n 1, 1), (44, .invokevirtual 254, 3), (47, .iadd, 1), (48, .istore_n 3, 1), (49, .iload_n 2, 1), (50, .iconst 2, 1), (51, .if_icmp .ne 8, 3), (54, .iload_n 3, 1), (55, .ineg, 1), (56, .goto 4, 3), (59, .iload_n 3, 1), (60, .ireturn, 1)]
theorem p_X12_sizeOf : pj_tab cX12_sizeOf P_X12_sizeOf = true := by decide +kernel
def P_X12_ask : List (Nat × Instr × Nat) := [(0, .aload_n 0, 1), (1, .iconst 0, 1), (2, .putfield 47, 3), (5, .aload_n 0, 1), (6, .iload_n 1, 1), (7, .invokevirtual 153, 3), (10, .ifCond .eq 13, 3), (13, .iload_n 2, 1), (14, .i2l, 1), (15, .lconst 0, 1), (16, .lconst 1, 1), (17, .invokestatic 57, 3), (20, .ifCond .ne 6, 3), (23, .ldc 67, 2), (25, .ireturn, 1), (26, .aload_n 0, 1), (27, .iconst 0, 1), (28, .putfield 242, 3), (31, .iload_n 2, 1), (32, .ifCond .ne 11, 3), (35, .aload_n 0, 1), (36, .iload_n 1, 1), (37, .invokevirtual 257, 3), (40, .goto 8, 3), (43, .aload_n 0, 1), (44, .iload_n 1, 1), (45, .invokevirtual 254, 3), (48, .ireturn, 1)]
theorem p_X12_ask : pj_tab cX12_ask P_X12_ask = true := by decide +kernel
def P_X12_trace : List (Nat × Instr × Nat) := [(0, .aload_n 0, 1), (1, .iconst 0, 1), (2, .putfield 47, 3), (5, .iload_n 1, 1), (6, .i2l, 1), (7, .lconst 0, 1), (8, .aload_n 0, 1), (9, .getfield 242, 3), (12, .iconst 1, 1), (13, .isub, 1), (14, .i2l, 1), (15, .invokestatic 57, 3), (18, .ifCond .eq 12, 3), (21, .aload_n 0, 1), (22, .getfield 44, 3), (25, .iload_n 1, 1), (26, .iaload, 1), (27, .goto 5, 3), (30, .ldc 90, 2), (32, .ireturn, 1)]
theorem p_X12_trace : pj_tab cX12_trace P_X12_trace = true := by decide +kernel
def P_X12_count : List (Nat × Instr × Nat) := [(0, .aload_n 0, 1), (1, .iconst 0, 1), (2, .putfield 47, 3), (5, .iconst 0, 1), (6, .istore_n 2, 1), (7, .iload_n 1, 1), (8, .tableswitch 129 0 6 #[44, 77, 84, 91, 98, 119, 124], 44), (52, .iconst 0, 1), (53, .istore_n 3, 1), (54, .iload_n 3, 1), (55, .bipush 8, 2), (57, .if_icmp .ge 26, 3), (60, .iload_n 2, 1), (61, .aload_n 0, 1), (62, .getfield 7, 3), (65, .iload_n 3, 1), (66, .iaload, 1), (67, .ifCond .lt 7, 3), (70, .iconst 1, 1), (71, .goto 4, 3), (74, .iconst 0, 1), (75, .iadd, 1), (76, .istore_n 2, 1), (77, .iinc 3 1, 3), (80, .goto (-26), 3), (83, .iload_n 2, 1), (84, .ireturn, 1), (85, .aload_n 0, 1), (86, .getfield 19, 3), (89, .iconst 1, 1), (90, .iaload, 1), (91, .ireturn, 1), (92, .aload_n 0, 1), (93, .getfield 19, 3), (96, .iconst 2, 1), (97, .iaload, 1), (98, .ireturn, 1), (99, .aload_n 0, 1), (100, .getfield 19, 3), (103, .iconst 3, 1), (104, .iaload, 1), (105, .ireturn, 1), (106, .aload_n 0, 1), (107, .invokevirtual 176, 3), (110, .ifCond .eq 15, 3), (113, .aload_n 0, 1), (114, .aload_n 0, 1), (115, .iconst 0, 1), (116, .invokevirtual 170, 3), (119, .invokevirtual 173, 3), (122, .goto 4, 3), (125, .iconst 0, 1), (126, .ireturn, 1), (127, .aload_n 0, 1), (128, .getfield 150, 3), (131, .ireturn, 1), (132, .aload_n 0, 1), (133, .getfield 74, 3), (136, .ireturn, 1), (137, .ldc 67, 2), (139, .ireturn, 1)]
theorem p_X12_count : pj_tab cX12_count P_X12_count = true := by decide +kernel
def P_X12_status : List (Nat × Instr × Nat) := [(0, .aload_n 0, 1), (1, .iconst 0, 1), (2, .putfield 47, 3), (5, .aload_n 0, 1), (6, .getfield 51, 3), (9, .ireturn, 1)]
theorem p_X12_status : pj_tab cX12_status P_X12_status = true := by decide +kernel
def P_J6_bitCount_0f7a4 : List (Nat × Instr × Nat) := [(0, .iload_n 0, 1), (1, .iload_n 0, 1), (2, .iconst 1, 1), (3, .iushr, 1), (4, .ldc_w 265, 3), (7, .iand, 1), (8, .isub, 1), (9, .istore_n 0, 1), (10, .iload_n 0, 1), (11, .ldc_w 266, 3), (14, .iand, 1), (15, .iload_n 0, 1), (16, .iconst 2, 1), (17, .iushr, 1), (18, .ldc_w 266, 3), (21, .iand, 1), (22, .iadd, 1), (23, .istore_n 0, 1), (24, .iload_n 0, 1), (25, .iload_n 0, 1), (26, .iconst 4, 1), (27, .iushr, 1), (28, .iadd, 1), (29, .ldc_w 267, 3), (32, .iand, 1), (33, .istore_n 0, 1), (34, .iload_n 0, 1), (35, .iload_n 0, 1), (36, .bipush 8, 2), (38, .iushr, 1), (39, .iadd, 1), (40, .istore_n 0, 1), (41, .iload_n 0, 1), (42, .iload_n 0, 1), (43, .bipush 16, 2), (45, .iushr, 1), (46, .iadd, 1), (47, .istore_n 0, 1), (48, .iload_n 0, 1), (49, .bipush 63, 2), (51, .iand, 1), (52, .ireturn, 1)]
theorem p_J6_bitCount_0f7a4 : pj_tab cJ6_bitCount_0f7a4 P_J6_bitCount_0f7a4 = true := by decide +kernel
def P_J7_fill_53178 : List (Nat × Instr × Nat) := [(0, .iconst 0, 1), (1, .istore_n 2, 1), (2, .aload_n 0, 1), (3, .arraylength, 1), (4, .istore_n 3, 1), (5, .iload_n 2, 1), (6, .iload_n 3, 1), (7, .if_icmp .ge 13, 3), (10, .aload_n 0, 1), (11, .iload_n 2, 1), (12, .iload_n 1, 1), (13, .iastore, 1), (14, .iinc 2 1, 3), (17, .goto (-12), 3), (20, .return_, 1)]
theorem p_J7_fill_53178 : pj_tab cJ7_fill_53178 P_J7_fill_53178 = true := by decide +kernel
end
section
theorem uX11_133_X1 : pj_okU RX11 133 RX1 ⟨"GreyDays$Thing", "takesPaint", "()Z"⟩ "GreyDays$Thing" Y_X8_takesPaint 0 := ⟨ok_X8_takesPaint, pj_m 540 (by decide +kernel), pj_m 542 (by decide +kernel), Or.inr ⟨pj_m 541 (by decide +kernel), _, _, _, ok_X8_takesPaint.1⟩, pj_m 543 (by decide +kernel), pj_m 541 (by decide +kernel), ⟨by decide +kernel, by decide +kernel⟩, by decide +kernel⟩
theorem uX11_133_X2 : pj_okU RX11 133 RX2 ⟨"GreyDays$Thing", "takesPaint", "()Z"⟩ "GreyDays$Thing" Y_X8_takesPaint 0 := ⟨ok_X8_takesPaint, pj_m 540 (by decide +kernel), pj_m 542 (by decide +kernel), Or.inr ⟨pj_m 541 (by decide +kernel), _, _, _, ok_X8_takesPaint.1⟩, pj_m 544 (by decide +kernel), pj_m 541 (by decide +kernel), ⟨by decide +kernel, by decide +kernel⟩, by decide +kernel⟩
theorem uX11_133_X4 : pj_okU RX11 133 RX4 ⟨"GreyDays$Thing", "takesPaint", "()Z"⟩ "GreyDays$Thing" Y_X8_takesPaint 0 := ⟨ok_X8_takesPaint, pj_m 540 (by decide +kernel), pj_m 542 (by decide +kernel), Or.inr ⟨pj_m 541 (by decide +kernel), _, _, _, ok_X8_takesPaint.1⟩, pj_m 545 (by decide +kernel), pj_m 541 (by decide +kernel), ⟨by decide +kernel, by decide +kernel⟩, by decide +kernel⟩
theorem uX11_133_X6 : pj_okU RX11 133 RX6 ⟨"GreyDays$Thing", "takesPaint", "()Z"⟩ "GreyDays$Thing" Y_X8_takesPaint 0 := ⟨ok_X8_takesPaint, pj_m 540 (by decide +kernel), pj_m 542 (by decide +kernel), Or.inr ⟨pj_m 541 (by decide +kernel), _, _, _, ok_X8_takesPaint.1⟩, pj_m 546 (by decide +kernel), pj_m 541 (by decide +kernel), ⟨by decide +kernel, by decide +kernel⟩, by decide +kernel⟩
theorem uX11_133_X10 : pj_okU RX11 133 RX10 ⟨"GreyDays$Thing", "takesPaint", "()Z"⟩ "GreyDays$Thing" Y_X8_takesPaint 0 := ⟨ok_X8_takesPaint, pj_m 540 (by decide +kernel), pj_m 542 (by decide +kernel), Or.inr ⟨pj_m 541 (by decide +kernel), _, _, _, ok_X8_takesPaint.1⟩, pj_m 547 (by decide +kernel), pj_m 541 (by decide +kernel), ⟨by decide +kernel, by decide +kernel⟩, by decide +kernel⟩
theorem uX11_149_X1 : pj_okU RX11 149 RX1 ⟨"GreyDays$Thing", "mixed", "()I"⟩ "GreyDays$Thing" Y_X8_mixed 0 := ⟨ok_X8_mixed, pj_m 582 (by decide +kernel), pj_m 556 (by decide +kernel), Or.inr ⟨pj_m 555 (by decide +kernel), _, _, _, ok_X8_mixed.1⟩, pj_m 557 (by decide +kernel), pj_m 555 (by decide +kernel), ⟨by decide +kernel, by decide +kernel⟩, by decide +kernel⟩
theorem uX11_149_X2 : pj_okU RX11 149 RX2 ⟨"GreyDays$Thing", "mixed", "()I"⟩ "GreyDays$Thing" Y_X8_mixed 0 := ⟨ok_X8_mixed, pj_m 582 (by decide +kernel), pj_m 556 (by decide +kernel), Or.inr ⟨pj_m 555 (by decide +kernel), _, _, _, ok_X8_mixed.1⟩, pj_m 558 (by decide +kernel), pj_m 555 (by decide +kernel), ⟨by decide +kernel, by decide +kernel⟩, by decide +kernel⟩
theorem uX11_149_X4 : pj_okU RX11 149 RX4 ⟨"GreyDays$Thing", "mixed", "()I"⟩ "GreyDays$Thing" Y_X8_mixed 0 := ⟨ok_X8_mixed, pj_m 582 (by decide +kernel), pj_m 556 (by decide +kernel), Or.inr ⟨pj_m 555 (by decide +kernel), _, _, _, ok_X8_mixed.1⟩, pj_m 559 (by decide +kernel), pj_m 555 (by decide +kernel), ⟨by decide +kernel, by decide +kernel⟩, by decide +kernel⟩
theorem uX11_149_X6 : pj_okU RX11 149 RX6 ⟨"GreyDays$Thing", "mixed", "()I"⟩ "GreyDays$Thing" Y_X8_mixed 0 := ⟨ok_X8_mixed, pj_m 582 (by decide +kernel), pj_m 556 (by decide +kernel), Or.inr ⟨pj_m 555 (by decide +kernel), _, _, _, ok_X8_mixed.1⟩, pj_m 560 (by decide +kernel), pj_m 555 (by decide +kernel), ⟨by decide +kernel, by decide +kernel⟩, by decide +kernel⟩
theorem uX11_149_X10 : pj_okU RX11 149 RX10 ⟨"GreyDays$Thing", "mixed", "()I"⟩ "GreyDays$Thing" Y_X8_mixed 0 := ⟨ok_X8_mixed, pj_m 582 (by decide +kernel), pj_m 556 (by decide +kernel), Or.inr ⟨pj_m 555 (by decide +kernel), _, _, _, ok_X8_mixed.1⟩, pj_m 561 (by decide +kernel), pj_m 555 (by decide +kernel), ⟨by decide +kernel, by decide +kernel⟩, by decide +kernel⟩
theorem uX11_152_X1 : pj_okU RX11 152 RX1 ⟨"GreyDays$Thing", "shaped", "()I"⟩ "GreyDays$Thing" Y_X8_shaped 0 := ⟨ok_X8_shaped, pj_m 583 (by decide +kernel), pj_m 585 (by decide +kernel), Or.inl (pj_m 629 (by decide +kernel)), pj_m 586 (by decide +kernel), pj_m 584 (by decide +kernel), ⟨by decide +kernel, by decide +kernel⟩, by decide +kernel⟩
theorem uX11_152_X2 : pj_okU RX11 152 RX2 ⟨"GreyDays$Thing", "shaped", "()I"⟩ "GreyDays$Thing" Y_X8_shaped 0 := ⟨ok_X8_shaped, pj_m 583 (by decide +kernel), pj_m 585 (by decide +kernel), Or.inl (pj_m 629 (by decide +kernel)), pj_m 587 (by decide +kernel), pj_m 584 (by decide +kernel), ⟨by decide +kernel, by decide +kernel⟩, by decide +kernel⟩
theorem uX11_152_X4 : pj_okU RX11 152 RX4 ⟨"GreyDays$Thing", "shaped", "()I"⟩ "GreyDays$Thing" Y_X8_shaped 0 := ⟨ok_X8_shaped, pj_m 583 (by decide +kernel), pj_m 585 (by decide +kernel), Or.inl (pj_m 629 (by decide +kernel)), pj_m 588 (by decide +kernel), pj_m 584 (by decide +kernel), ⟨by decide +kernel, by decide +kernel⟩, by decide +kernel⟩
theorem uX11_152_X6 : pj_okU RX11 152 RX6 ⟨"GreyDays$Thing", "shaped", "()I"⟩ "GreyDays$Thing" Y_X8_shaped 0 := ⟨ok_X8_shaped, pj_m 583 (by decide +kernel), pj_m 585 (by decide +kernel), Or.inl (pj_m 629 (by decide +kernel)), pj_m 589 (by decide +kernel), pj_m 584 (by decide +kernel), ⟨by decide +kernel, by decide +kernel⟩, by decide +kernel⟩
theorem uX11_152_X10 : pj_okU RX11 152 RX10 ⟨"GreyDays$Thing", "shaped", "()I"⟩ "GreyDays$Thing" Y_X8_shaped 0 := ⟨ok_X8_shaped, pj_m 583 (by decide +kernel), pj_m 585 (by decide +kernel), Or.inl (pj_m 629 (by decide +kernel)), pj_m 590 (by decide +kernel), pj_m 584 (by decide +kernel), ⟨by decide +kernel, by decide +kernel⟩, by decide +kernel⟩
theorem uX11_158_X1 : pj_okU RX11 158 RX1 ⟨"GreyDays$Thing", "lookWithout", "(I)I"⟩ "GreyDays$Thing" Y_X8_lookWithout 1 := ⟨ok_X8_lookWithout, pj_m 603 (by decide +kernel), pj_m 605 (by decide +kernel), Or.inl (pj_m 998 (by decide +kernel)), pj_m 606 (by decide +kernel), pj_m 604 (by decide +kernel), ⟨by decide +kernel, by decide +kernel⟩, by decide +kernel⟩
theorem uX11_158_X2 : pj_okU RX11 158 RX2 ⟨"GreyDays$Thing", "lookWithout", "(I)I"⟩ "GreyDays$Thing" Y_X8_lookWithout 1 := ⟨ok_X8_lookWithout, pj_m 603 (by decide +kernel), pj_m 605 (by decide +kernel), Or.inl (pj_m 998 (by decide +kernel)), pj_m 607 (by decide +kernel), pj_m 604 (by decide +kernel), ⟨by decide +kernel, by decide +kernel⟩, by decide +kernel⟩
theorem uX11_158_X4 : pj_okU RX11 158 RX4 ⟨"GreyDays$Thing", "lookWithout", "(I)I"⟩ "GreyDays$Thing" Y_X8_lookWithout 1 := ⟨ok_X8_lookWithout, pj_m 603 (by decide +kernel), pj_m 605 (by decide +kernel), Or.inl (pj_m 998 (by decide +kernel)), pj_m 608 (by decide +kernel), pj_m 604 (by decide +kernel), ⟨by decide +kernel, by decide +kernel⟩, by decide +kernel⟩
theorem uX11_158_X6 : pj_okU RX11 158 RX6 ⟨"GreyDays$Thing", "lookWithout", "(I)I"⟩ "GreyDays$Thing" Y_X8_lookWithout 1 := ⟨ok_X8_lookWithout, pj_m 603 (by decide +kernel), pj_m 605 (by decide +kernel), Or.inl (pj_m 998 (by decide +kernel)), pj_m 609 (by decide +kernel), pj_m 604 (by decide +kernel), ⟨by decide +kernel, by decide +kernel⟩, by decide +kernel⟩
theorem uX11_158_X10 : pj_okU RX11 158 RX10 ⟨"GreyDays$Thing", "lookWithout", "(I)I"⟩ "GreyDays$Thing" Y_X8_lookWithout 1 := ⟨ok_X8_lookWithout, pj_m 603 (by decide +kernel), pj_m 605 (by decide +kernel), Or.inl (pj_m 998 (by decide +kernel)), pj_m 610 (by decide +kernel), pj_m 604 (by decide +kernel), ⟨by decide +kernel, by decide +kernel⟩, by decide +kernel⟩
theorem uX11_257_X1 : pj_okU RX11 257 RX1 ⟨"GreyDays$Thing", "kindTold", "()I"⟩ "GreyDays$Thing" Y_X1_kindTold 0 := ⟨ok_X1_kindTold, pj_m 941 (by decide +kernel), pj_m 914 (by decide +kernel), Or.inl (pj_m 913 (by decide +kernel)), pj_m 915 (by decide +kernel), pj_m 916 (by decide +kernel), ⟨by decide +kernel, by decide +kernel⟩, by decide +kernel⟩
theorem uX11_257_X2 : pj_okU RX11 257 RX2 ⟨"GreyDays$Thing", "kindTold", "()I"⟩ "GreyDays$Thing" Y_X2_kindTold 0 := ⟨ok_X2_kindTold, pj_m 941 (by decide +kernel), pj_m 914 (by decide +kernel), Or.inl (pj_m 913 (by decide +kernel)), pj_m 918 (by decide +kernel), pj_m 919 (by decide +kernel), ⟨by decide +kernel, by decide +kernel⟩, by decide +kernel⟩
theorem uX11_257_X4 : pj_okU RX11 257 RX4 ⟨"GreyDays$Thing", "kindTold", "()I"⟩ "GreyDays$Thing" Y_X4_kindTold 0 := ⟨ok_X4_kindTold, pj_m 941 (by decide +kernel), pj_m 914 (by decide +kernel), Or.inl (pj_m 913 (by decide +kernel)), pj_m 921 (by decide +kernel), pj_m 922 (by decide +kernel), ⟨by decide +kernel, by decide +kernel⟩, by decide +kernel⟩
theorem uX11_257_X6 : pj_okU RX11 257 RX6 ⟨"GreyDays$Thing", "kindTold", "()I"⟩ "GreyDays$Thing" Y_X6_kindTold 0 := ⟨ok_X6_kindTold, pj_m 941 (by decide +kernel), pj_m 914 (by decide +kernel), Or.inl (pj_m 913 (by decide +kernel)), pj_m 924 (by decide +kernel), pj_m 925 (by decide +kernel), ⟨by decide +kernel, by decide +kernel⟩, by decide +kernel⟩
theorem uX11_257_X10 : pj_okU RX11 257 RX10 ⟨"GreyDays$Thing", "kindTold", "()I"⟩ "GreyDays$Thing" Y_X10_kindTold 0 := ⟨ok_X10_kindTold, pj_m 941 (by decide +kernel), pj_m 914 (by decide +kernel), Or.inl (pj_m 913 (by decide +kernel)), pj_m 927 (by decide +kernel), pj_m 928 (by decide +kernel), ⟨by decide +kernel, by decide +kernel⟩, by decide +kernel⟩
theorem uX11_267_X1 : pj_okU RX11 267 RX1 ⟨"GreyDays$Thing", "sizeAsked", "(LGreyDays$Asking;)I"⟩ "GreyDays$Thing" Y_X1_sizeAsked 1 := ⟨ok_X1_sizeAsked, pj_m 962 (by decide +kernel), pj_m 964 (by decide +kernel), Or.inr ⟨pj_m 963 (by decide +kernel), _, _, _, ok_X8_sizeAsked.1⟩, pj_m 965 (by decide +kernel), pj_m 966 (by decide +kernel), ⟨by decide +kernel, by decide +kernel⟩, by decide +kernel⟩
theorem uX11_267_X2 : pj_okU RX11 267 RX2 ⟨"GreyDays$Thing", "sizeAsked", "(LGreyDays$Asking;)I"⟩ "GreyDays$Thing" Y_X2_sizeAsked 1 := ⟨ok_X2_sizeAsked, pj_m 962 (by decide +kernel), pj_m 964 (by decide +kernel), Or.inr ⟨pj_m 963 (by decide +kernel), _, _, _, ok_X8_sizeAsked.1⟩, pj_m 1002 (by decide +kernel), pj_m 1003 (by decide +kernel), ⟨by decide +kernel, by decide +kernel⟩, by decide +kernel⟩
theorem uX11_267_X4 : pj_okU RX11 267 RX4 ⟨"GreyDays$Thing", "sizeAsked", "(LGreyDays$Asking;)I"⟩ "GreyDays$Thing" Y_X4_sizeAsked 1 := ⟨ok_X4_sizeAsked, pj_m 962 (by decide +kernel), pj_m 964 (by decide +kernel), Or.inr ⟨pj_m 963 (by decide +kernel), _, _, _, ok_X8_sizeAsked.1⟩, pj_m 1011 (by decide +kernel), pj_m 1007 (by decide +kernel), ⟨by decide +kernel, by decide +kernel⟩, by decide +kernel⟩
theorem uX11_267_X6 : pj_okU RX11 267 RX6 ⟨"GreyDays$Thing", "sizeAsked", "(LGreyDays$Asking;)I"⟩ "GreyDays$Thing" Y_X1_sizeAsked 1 := ⟨ok_X1_sizeAsked, pj_m 962 (by decide +kernel), pj_m 964 (by decide +kernel), Or.inr ⟨pj_m 963 (by decide +kernel), _, _, _, ok_X8_sizeAsked.1⟩, pj_m 1012 (by decide +kernel), pj_m 966 (by decide +kernel), ⟨by decide +kernel, by decide +kernel⟩, by decide +kernel⟩
theorem uX11_267_X10 : pj_okU RX11 267 RX10 ⟨"GreyDays$Thing", "sizeAsked", "(LGreyDays$Asking;)I"⟩ "GreyDays$Thing" Y_X10_sizeAsked 1 := ⟨ok_X10_sizeAsked, pj_m 962 (by decide +kernel), pj_m 964 (by decide +kernel), Or.inr ⟨pj_m 963 (by decide +kernel), _, _, _, ok_X8_sizeAsked.1⟩, pj_m 1013 (by decide +kernel), pj_m 1014 (by decide +kernel), ⟨by decide +kernel, by decide +kernel⟩, by decide +kernel⟩
theorem uX11_271_X1 : pj_okU RX11 271 RX1 ⟨"GreyDays$Thing", "markAsked", "(LGreyDays$Asking;)I"⟩ "GreyDays$Thing" Y_X1_markAsked 1 := ⟨ok_X1_markAsked, pj_m 1018 (by decide +kernel), pj_m 1463 (by decide +kernel), Or.inr ⟨pj_m 989 (by decide +kernel), _, _, _, ok_X8_markAsked.1⟩, pj_m 1466 (by decide +kernel), pj_m 974 (by decide +kernel), ⟨by decide +kernel, by decide +kernel⟩, by decide +kernel⟩
theorem uX11_271_X2 : pj_okU RX11 271 RX2 ⟨"GreyDays$Thing", "markAsked", "(LGreyDays$Asking;)I"⟩ "GreyDays$Thing" Y_X4_markAsked 1 := ⟨ok_X4_markAsked, pj_m 1018 (by decide +kernel), pj_m 1463 (by decide +kernel), Or.inr ⟨pj_m 989 (by decide +kernel), _, _, _, ok_X8_markAsked.1⟩, pj_m 1467 (by decide +kernel), pj_m 1019 (by decide +kernel), ⟨by decide +kernel, by decide +kernel⟩, by decide +kernel⟩
theorem uX11_271_X4 : pj_okU RX11 271 RX4 ⟨"GreyDays$Thing", "markAsked", "(LGreyDays$Asking;)I"⟩ "GreyDays$Thing" Y_X4_markAsked 1 := ⟨ok_X4_markAsked, pj_m 1018 (by decide +kernel), pj_m 1463 (by decide +kernel), Or.inr ⟨pj_m 989 (by decide +kernel), _, _, _, ok_X8_markAsked.1⟩, pj_m 1470 (by decide +kernel), pj_m 1019 (by decide +kernel), ⟨by decide +kernel, by decide +kernel⟩, by decide +kernel⟩
theorem uX11_271_X6 : pj_okU RX11 271 RX6 ⟨"GreyDays$Thing", "markAsked", "(LGreyDays$Asking;)I"⟩ "GreyDays$Thing" Y_X6_markAsked 1 := ⟨ok_X6_markAsked, pj_m 1018 (by decide +kernel), pj_m 1463 (by decide +kernel), Or.inr ⟨pj_m 989 (by decide +kernel), _, _, _, ok_X8_markAsked.1⟩, pj_m 1471 (by decide +kernel), pj_m 978 (by decide +kernel), ⟨by decide +kernel, by decide +kernel⟩, by decide +kernel⟩
theorem uX11_271_X10 : pj_okU RX11 271 RX10 ⟨"GreyDays$Thing", "markAsked", "(LGreyDays$Asking;)I"⟩ "GreyDays$Thing" Y_X10_markAsked 1 := ⟨ok_X10_markAsked, pj_m 1018 (by decide +kernel), pj_m 1463 (by decide +kernel), Or.inr ⟨pj_m 989 (by decide +kernel), _, _, _, ok_X8_markAsked.1⟩, pj_m 1472 (by decide +kernel), pj_m 983 (by decide +kernel), ⟨by decide +kernel, by decide +kernel⟩, by decide +kernel⟩
theorem uX1_15_X1 : pj_okU RX1 15 RX1 ⟨"GreyDays$Thing", "sizeAsked", "(LGreyDays$Asking;)I"⟩ "GreyDays$Thing" Y_X1_sizeAsked 1 := ⟨ok_X1_sizeAsked, pj_m 972 (by decide +kernel), pj_m 964 (by decide +kernel), Or.inr ⟨pj_m 963 (by decide +kernel), _, _, _, ok_X8_sizeAsked.1⟩, pj_m 965 (by decide +kernel), pj_m 966 (by decide +kernel), ⟨by decide +kernel, by decide +kernel⟩, by decide +kernel⟩
theorem uX1_15_X2 : pj_okU RX1 15 RX2 ⟨"GreyDays$Thing", "sizeAsked", "(LGreyDays$Asking;)I"⟩ "GreyDays$Thing" Y_X2_sizeAsked 1 := ⟨ok_X2_sizeAsked, pj_m 972 (by decide +kernel), pj_m 964 (by decide +kernel), Or.inr ⟨pj_m 963 (by decide +kernel), _, _, _, ok_X8_sizeAsked.1⟩, pj_m 1002 (by decide +kernel), pj_m 1003 (by decide +kernel), ⟨by decide +kernel, by decide +kernel⟩, by decide +kernel⟩
theorem uX1_15_X4 : pj_okU RX1 15 RX4 ⟨"GreyDays$Thing", "sizeAsked", "(LGreyDays$Asking;)I"⟩ "GreyDays$Thing" Y_X4_sizeAsked 1 := ⟨ok_X4_sizeAsked, pj_m 972 (by decide +kernel), pj_m 964 (by decide +kernel), Or.inr ⟨pj_m 963 (by decide +kernel), _, _, _, ok_X8_sizeAsked.1⟩, pj_m 1011 (by decide +kernel), pj_m 1007 (by decide +kernel), ⟨by decide +kernel, by decide +kernel⟩, by decide +kernel⟩
theorem uX1_15_X6 : pj_okU RX1 15 RX6 ⟨"GreyDays$Thing", "sizeAsked", "(LGreyDays$Asking;)I"⟩ "GreyDays$Thing" Y_X1_sizeAsked 1 := ⟨ok_X1_sizeAsked, pj_m 972 (by decide +kernel), pj_m 964 (by decide +kernel), Or.inr ⟨pj_m 963 (by decide +kernel), _, _, _, ok_X8_sizeAsked.1⟩, pj_m 1012 (by decide +kernel), pj_m 966 (by decide +kernel), ⟨by decide +kernel, by decide +kernel⟩, by decide +kernel⟩
theorem uX1_15_X10 : pj_okU RX1 15 RX10 ⟨"GreyDays$Thing", "sizeAsked", "(LGreyDays$Asking;)I"⟩ "GreyDays$Thing" Y_X10_sizeAsked 1 := ⟨ok_X10_sizeAsked, pj_m 972 (by decide +kernel), pj_m 964 (by decide +kernel), Or.inr ⟨pj_m 963 (by decide +kernel), _, _, _, ok_X8_sizeAsked.1⟩, pj_m 1013 (by decide +kernel), pj_m 1014 (by decide +kernel), ⟨by decide +kernel, by decide +kernel⟩, by decide +kernel⟩
theorem xX1_15 : pj_okX RX1 15 Y_X8_sizeAsked 1 := ⟨ok_X8_sizeAsked, pj_m 972 (by decide +kernel), pj_m 964 (by decide +kernel), pj_m 437 (by decide +kernel), pj_m 963 (by decide +kernel), by decide +kernel⟩
theorem uX1_19_X6 : pj_okU RX1 19 RX6 ⟨"GreyDays$Dyed", "markAsked", "(LGreyDays$Asking;)I"⟩ "GreyDays$Dyed" Y_X6_markAsked 1 := ⟨ok_X6_markAsked, pj_m 973 (by decide +kernel), pj_m 976 (by decide +kernel), Or.inr ⟨pj_m 974 (by decide +kernel), _, _, _, ok_X1_markAsked.1⟩, pj_m 977 (by decide +kernel), pj_m 978 (by decide +kernel), ⟨by decide +kernel, by decide +kernel⟩, by decide +kernel⟩
theorem uX1_19_X10 : pj_okU RX1 19 RX10 ⟨"GreyDays$Dyed", "markAsked", "(LGreyDays$Asking;)I"⟩ "GreyDays$Dyed" Y_X10_markAsked 1 := ⟨ok_X10_markAsked, pj_m 973 (by decide +kernel), pj_m 976 (by decide +kernel), Or.inr ⟨pj_m 974 (by decide +kernel), _, _, _, ok_X1_markAsked.1⟩, pj_m 982 (by decide +kernel), pj_m 983 (by decide +kernel), ⟨by decide +kernel, by decide +kernel⟩, by decide +kernel⟩
theorem uX1_24_X1 : pj_okU RX1 24 RX1 ⟨"GreyDays$Thing", "markAsked", "(LGreyDays$Asking;)I"⟩ "GreyDays$Thing" Y_X1_markAsked 1 := ⟨ok_X1_markAsked, pj_m 988 (by decide +kernel), pj_m 1463 (by decide +kernel), Or.inr ⟨pj_m 989 (by decide +kernel), _, _, _, ok_X8_markAsked.1⟩, pj_m 1466 (by decide +kernel), pj_m 974 (by decide +kernel), ⟨by decide +kernel, by decide +kernel⟩, by decide +kernel⟩
theorem uX1_24_X2 : pj_okU RX1 24 RX2 ⟨"GreyDays$Thing", "markAsked", "(LGreyDays$Asking;)I"⟩ "GreyDays$Thing" Y_X4_markAsked 1 := ⟨ok_X4_markAsked, pj_m 988 (by decide +kernel), pj_m 1463 (by decide +kernel), Or.inr ⟨pj_m 989 (by decide +kernel), _, _, _, ok_X8_markAsked.1⟩, pj_m 1467 (by decide +kernel), pj_m 1019 (by decide +kernel), ⟨by decide +kernel, by decide +kernel⟩, by decide +kernel⟩
theorem uX1_24_X4 : pj_okU RX1 24 RX4 ⟨"GreyDays$Thing", "markAsked", "(LGreyDays$Asking;)I"⟩ "GreyDays$Thing" Y_X4_markAsked 1 := ⟨ok_X4_markAsked, pj_m 988 (by decide +kernel), pj_m 1463 (by decide +kernel), Or.inr ⟨pj_m 989 (by decide +kernel), _, _, _, ok_X8_markAsked.1⟩, pj_m 1470 (by decide +kernel), pj_m 1019 (by decide +kernel), ⟨by decide +kernel, by decide +kernel⟩, by decide +kernel⟩
theorem uX1_24_X6 : pj_okU RX1 24 RX6 ⟨"GreyDays$Thing", "markAsked", "(LGreyDays$Asking;)I"⟩ "GreyDays$Thing" Y_X6_markAsked 1 := ⟨ok_X6_markAsked, pj_m 988 (by decide +kernel), pj_m 1463 (by decide +kernel), Or.inr ⟨pj_m 989 (by decide +kernel), _, _, _, ok_X8_markAsked.1⟩, pj_m 1471 (by decide +kernel), pj_m 978 (by decide +kernel), ⟨by decide +kernel, by decide +kernel⟩, by decide +kernel⟩
theorem uX1_24_X10 : pj_okU RX1 24 RX10 ⟨"GreyDays$Thing", "markAsked", "(LGreyDays$Asking;)I"⟩ "GreyDays$Thing" Y_X10_markAsked 1 := ⟨ok_X10_markAsked, pj_m 988 (by decide +kernel), pj_m 1463 (by decide +kernel), Or.inr ⟨pj_m 989 (by decide +kernel), _, _, _, ok_X8_markAsked.1⟩, pj_m 1472 (by decide +kernel), pj_m 983 (by decide +kernel), ⟨by decide +kernel, by decide +kernel⟩, by decide +kernel⟩
theorem xX1_24 : pj_okX RX1 24 Y_X8_markAsked 1 := ⟨ok_X8_markAsked, pj_m 988 (by decide +kernel), pj_m 1463 (by decide +kernel), pj_m 437 (by decide +kernel), pj_m 989 (by decide +kernel), by decide +kernel⟩
theorem uX1_29_X1 : pj_okU RX1 29 RX1 ⟨"GreyDays$Dyed", "lookWithout", "(I)I"⟩ "GreyDays$Thing" Y_X8_lookWithout 1 := ⟨ok_X8_lookWithout, pj_m 996 (by decide +kernel), pj_m 997 (by decide +kernel), Or.inl (pj_m 998 (by decide +kernel)), pj_m 999 (by decide +kernel), pj_m 604 (by decide +kernel), ⟨by decide +kernel, by decide +kernel⟩, by decide +kernel⟩
theorem uX1_29_X6 : pj_okU RX1 29 RX6 ⟨"GreyDays$Dyed", "lookWithout", "(I)I"⟩ "GreyDays$Thing" Y_X8_lookWithout 1 := ⟨ok_X8_lookWithout, pj_m 996 (by decide +kernel), pj_m 997 (by decide +kernel), Or.inl (pj_m 998 (by decide +kernel)), pj_m 1000 (by decide +kernel), pj_m 604 (by decide +kernel), ⟨by decide +kernel, by decide +kernel⟩, by decide +kernel⟩
theorem uX1_29_X10 : pj_okU RX1 29 RX10 ⟨"GreyDays$Dyed", "lookWithout", "(I)I"⟩ "GreyDays$Thing" Y_X8_lookWithout 1 := ⟨ok_X8_lookWithout, pj_m 996 (by decide +kernel), pj_m 997 (by decide +kernel), Or.inl (pj_m 998 (by decide +kernel)), pj_m 1001 (by decide +kernel), pj_m 604 (by decide +kernel), ⟨by decide +kernel, by decide +kernel⟩, by decide +kernel⟩
theorem uX2_15_X2 : pj_okU RX2 15 RX2 ⟨"GreyDays$Ink", "sizeAsked", "(LGreyDays$Asking;)I"⟩ "GreyDays$Ink" Y_X2_sizeAsked 1 := ⟨ok_X2_sizeAsked, pj_m 1006 (by decide +kernel), pj_m 1464 (by decide +kernel), Or.inr ⟨pj_m 1007 (by decide +kernel), _, _, _, ok_X4_sizeAsked.1⟩, pj_m 1468 (by decide +kernel), pj_m 1003 (by decide +kernel), ⟨by decide +kernel, by decide +kernel⟩, by decide +kernel⟩
theorem xX2_15 : pj_okX RX2 15 Y_X4_sizeAsked 1 := ⟨ok_X4_sizeAsked, pj_m 1006 (by decide +kernel), pj_m 1464 (by decide +kernel), pj_m 430 (by decide +kernel), pj_m 1007 (by decide +kernel), by decide +kernel⟩
theorem uX3_31_X1 : pj_okU RX3 31 RX1 ⟨"GreyDays$Thing", "lookWithout", "(I)I"⟩ "GreyDays$Thing" Y_X8_lookWithout 1 := ⟨ok_X8_lookWithout, pj_m 683 (by decide +kernel), pj_m 605 (by decide +kernel), Or.inl (pj_m 998 (by decide +kernel)), pj_m 606 (by decide +kernel), pj_m 604 (by decide +kernel), ⟨by decide +kernel, by decide +kernel⟩, by decide +kernel⟩
theorem uX3_31_X2 : pj_okU RX3 31 RX2 ⟨"GreyDays$Thing", "lookWithout", "(I)I"⟩ "GreyDays$Thing" Y_X8_lookWithout 1 := ⟨ok_X8_lookWithout, pj_m 683 (by decide +kernel), pj_m 605 (by decide +kernel), Or.inl (pj_m 998 (by decide +kernel)), pj_m 607 (by decide +kernel), pj_m 604 (by decide +kernel), ⟨by decide +kernel, by decide +kernel⟩, by decide +kernel⟩
theorem uX3_31_X4 : pj_okU RX3 31 RX4 ⟨"GreyDays$Thing", "lookWithout", "(I)I"⟩ "GreyDays$Thing" Y_X8_lookWithout 1 := ⟨ok_X8_lookWithout, pj_m 683 (by decide +kernel), pj_m 605 (by decide +kernel), Or.inl (pj_m 998 (by decide +kernel)), pj_m 608 (by decide +kernel), pj_m 604 (by decide +kernel), ⟨by decide +kernel, by decide +kernel⟩, by decide +kernel⟩
theorem uX3_31_X6 : pj_okU RX3 31 RX6 ⟨"GreyDays$Thing", "lookWithout", "(I)I"⟩ "GreyDays$Thing" Y_X8_lookWithout 1 := ⟨ok_X8_lookWithout, pj_m 683 (by decide +kernel), pj_m 605 (by decide +kernel), Or.inl (pj_m 998 (by decide +kernel)), pj_m 609 (by decide +kernel), pj_m 604 (by decide +kernel), ⟨by decide +kernel, by decide +kernel⟩, by decide +kernel⟩
theorem uX3_31_X10 : pj_okU RX3 31 RX10 ⟨"GreyDays$Thing", "lookWithout", "(I)I"⟩ "GreyDays$Thing" Y_X8_lookWithout 1 := ⟨ok_X8_lookWithout, pj_m 683 (by decide +kernel), pj_m 605 (by decide +kernel), Or.inl (pj_m 998 (by decide +kernel)), pj_m 610 (by decide +kernel), pj_m 604 (by decide +kernel), ⟨by decide +kernel, by decide +kernel⟩, by decide +kernel⟩
theorem uX3_56_X1 : pj_okU RX3 56 RX1 ⟨"GreyDays$Thing", "takesPaint", "()Z"⟩ "GreyDays$Thing" Y_X8_takesPaint 0 := ⟨ok_X8_takesPaint, pj_m 736 (by decide +kernel), pj_m 542 (by decide +kernel), Or.inr ⟨pj_m 541 (by decide +kernel), _, _, _, ok_X8_takesPaint.1⟩, pj_m 543 (by decide +kernel), pj_m 541 (by decide +kernel), ⟨by decide +kernel, by decide +kernel⟩, by decide +kernel⟩
theorem uX3_56_X2 : pj_okU RX3 56 RX2 ⟨"GreyDays$Thing", "takesPaint", "()Z"⟩ "GreyDays$Thing" Y_X8_takesPaint 0 := ⟨ok_X8_takesPaint, pj_m 736 (by decide +kernel), pj_m 542 (by decide +kernel), Or.inr ⟨pj_m 541 (by decide +kernel), _, _, _, ok_X8_takesPaint.1⟩, pj_m 544 (by decide +kernel), pj_m 541 (by decide +kernel), ⟨by decide +kernel, by decide +kernel⟩, by decide +kernel⟩
theorem uX3_56_X4 : pj_okU RX3 56 RX4 ⟨"GreyDays$Thing", "takesPaint", "()Z"⟩ "GreyDays$Thing" Y_X8_takesPaint 0 := ⟨ok_X8_takesPaint, pj_m 736 (by decide +kernel), pj_m 542 (by decide +kernel), Or.inr ⟨pj_m 541 (by decide +kernel), _, _, _, ok_X8_takesPaint.1⟩, pj_m 545 (by decide +kernel), pj_m 541 (by decide +kernel), ⟨by decide +kernel, by decide +kernel⟩, by decide +kernel⟩
theorem uX3_56_X6 : pj_okU RX3 56 RX6 ⟨"GreyDays$Thing", "takesPaint", "()Z"⟩ "GreyDays$Thing" Y_X8_takesPaint 0 := ⟨ok_X8_takesPaint, pj_m 736 (by decide +kernel), pj_m 542 (by decide +kernel), Or.inr ⟨pj_m 541 (by decide +kernel), _, _, _, ok_X8_takesPaint.1⟩, pj_m 546 (by decide +kernel), pj_m 541 (by decide +kernel), ⟨by decide +kernel, by decide +kernel⟩, by decide +kernel⟩
theorem uX3_56_X10 : pj_okU RX3 56 RX10 ⟨"GreyDays$Thing", "takesPaint", "()Z"⟩ "GreyDays$Thing" Y_X8_takesPaint 0 := ⟨ok_X8_takesPaint, pj_m 736 (by decide +kernel), pj_m 542 (by decide +kernel), Or.inr ⟨pj_m 541 (by decide +kernel), _, _, _, ok_X8_takesPaint.1⟩, pj_m 547 (by decide +kernel), pj_m 541 (by decide +kernel), ⟨by decide +kernel, by decide +kernel⟩, by decide +kernel⟩
theorem uX3_60_X1 : pj_okU RX3 60 RX1 ⟨"GreyDays$Thing", "mixed", "()I"⟩ "GreyDays$Thing" Y_X8_mixed 0 := ⟨ok_X8_mixed, pj_m 737 (by decide +kernel), pj_m 556 (by decide +kernel), Or.inr ⟨pj_m 555 (by decide +kernel), _, _, _, ok_X8_mixed.1⟩, pj_m 557 (by decide +kernel), pj_m 555 (by decide +kernel), ⟨by decide +kernel, by decide +kernel⟩, by decide +kernel⟩
theorem uX3_60_X2 : pj_okU RX3 60 RX2 ⟨"GreyDays$Thing", "mixed", "()I"⟩ "GreyDays$Thing" Y_X8_mixed 0 := ⟨ok_X8_mixed, pj_m 737 (by decide +kernel), pj_m 556 (by decide +kernel), Or.inr ⟨pj_m 555 (by decide +kernel), _, _, _, ok_X8_mixed.1⟩, pj_m 558 (by decide +kernel), pj_m 555 (by decide +kernel), ⟨by decide +kernel, by decide +kernel⟩, by decide +kernel⟩
theorem uX3_60_X4 : pj_okU RX3 60 RX4 ⟨"GreyDays$Thing", "mixed", "()I"⟩ "GreyDays$Thing" Y_X8_mixed 0 := ⟨ok_X8_mixed, pj_m 737 (by decide +kernel), pj_m 556 (by decide +kernel), Or.inr ⟨pj_m 555 (by decide +kernel), _, _, _, ok_X8_mixed.1⟩, pj_m 559 (by decide +kernel), pj_m 555 (by decide +kernel), ⟨by decide +kernel, by decide +kernel⟩, by decide +kernel⟩
theorem uX3_60_X6 : pj_okU RX3 60 RX6 ⟨"GreyDays$Thing", "mixed", "()I"⟩ "GreyDays$Thing" Y_X8_mixed 0 := ⟨ok_X8_mixed, pj_m 737 (by decide +kernel), pj_m 556 (by decide +kernel), Or.inr ⟨pj_m 555 (by decide +kernel), _, _, _, ok_X8_mixed.1⟩, pj_m 560 (by decide +kernel), pj_m 555 (by decide +kernel), ⟨by decide +kernel, by decide +kernel⟩, by decide +kernel⟩
theorem uX3_60_X10 : pj_okU RX3 60 RX10 ⟨"GreyDays$Thing", "mixed", "()I"⟩ "GreyDays$Thing" Y_X8_mixed 0 := ⟨ok_X8_mixed, pj_m 737 (by decide +kernel), pj_m 556 (by decide +kernel), Or.inr ⟨pj_m 555 (by decide +kernel), _, _, _, ok_X8_mixed.1⟩, pj_m 561 (by decide +kernel), pj_m 555 (by decide +kernel), ⟨by decide +kernel, by decide +kernel⟩, by decide +kernel⟩
theorem uX3_77_X1 : pj_okU RX3 77 RX1 ⟨"GreyDays$Thing", "lookOf", "(II)I"⟩ "GreyDays$Thing" Y_X1_lookOf 2 := ⟨ok_X1_lookOf, pj_m 746 (by decide +kernel), pj_m 614 (by decide +kernel), Or.inl (pj_m 613 (by decide +kernel)), pj_m 615 (by decide +kernel), pj_m 616 (by decide +kernel), ⟨by decide +kernel, by decide +kernel⟩, by decide +kernel⟩
theorem uX3_77_X2 : pj_okU RX3 77 RX2 ⟨"GreyDays$Thing", "lookOf", "(II)I"⟩ "GreyDays$Thing" Y_X2_lookOf 2 := ⟨ok_X2_lookOf, pj_m 746 (by decide +kernel), pj_m 614 (by decide +kernel), Or.inl (pj_m 613 (by decide +kernel)), pj_m 618 (by decide +kernel), pj_m 619 (by decide +kernel), ⟨by decide +kernel, by decide +kernel⟩, by decide +kernel⟩
theorem uX3_77_X4 : pj_okU RX3 77 RX4 ⟨"GreyDays$Thing", "lookOf", "(II)I"⟩ "GreyDays$Thing" Y_X4_lookOf 2 := ⟨ok_X4_lookOf, pj_m 746 (by decide +kernel), pj_m 614 (by decide +kernel), Or.inl (pj_m 613 (by decide +kernel)), pj_m 621 (by decide +kernel), pj_m 622 (by decide +kernel), ⟨by decide +kernel, by decide +kernel⟩, by decide +kernel⟩
theorem uX3_77_X6 : pj_okU RX3 77 RX6 ⟨"GreyDays$Thing", "lookOf", "(II)I"⟩ "GreyDays$Thing" Y_X6_lookOf 2 := ⟨ok_X6_lookOf, pj_m 746 (by decide +kernel), pj_m 614 (by decide +kernel), Or.inl (pj_m 613 (by decide +kernel)), pj_m 624 (by decide +kernel), pj_m 625 (by decide +kernel), ⟨by decide +kernel, by decide +kernel⟩, by decide +kernel⟩
theorem uX3_77_X10 : pj_okU RX3 77 RX10 ⟨"GreyDays$Thing", "lookOf", "(II)I"⟩ "GreyDays$Thing" Y_X10_lookOf 2 := ⟨ok_X10_lookOf, pj_m 746 (by decide +kernel), pj_m 614 (by decide +kernel), Or.inl (pj_m 613 (by decide +kernel)), pj_m 631 (by decide +kernel), pj_m 632 (by decide +kernel), ⟨by decide +kernel, by decide +kernel⟩, by decide +kernel⟩
theorem uX3_131_X1 : pj_okU RX3 131 RX1 ⟨"GreyDays$Thing", "shaped", "()I"⟩ "GreyDays$Thing" Y_X8_shaped 0 := ⟨ok_X8_shaped, pj_m 870 (by decide +kernel), pj_m 585 (by decide +kernel), Or.inl (pj_m 629 (by decide +kernel)), pj_m 586 (by decide +kernel), pj_m 584 (by decide +kernel), ⟨by decide +kernel, by decide +kernel⟩, by decide +kernel⟩
theorem uX3_131_X2 : pj_okU RX3 131 RX2 ⟨"GreyDays$Thing", "shaped", "()I"⟩ "GreyDays$Thing" Y_X8_shaped 0 := ⟨ok_X8_shaped, pj_m 870 (by decide +kernel), pj_m 585 (by decide +kernel), Or.inl (pj_m 629 (by decide +kernel)), pj_m 587 (by decide +kernel), pj_m 584 (by decide +kernel), ⟨by decide +kernel, by decide +kernel⟩, by decide +kernel⟩
theorem uX3_131_X4 : pj_okU RX3 131 RX4 ⟨"GreyDays$Thing", "shaped", "()I"⟩ "GreyDays$Thing" Y_X8_shaped 0 := ⟨ok_X8_shaped, pj_m 870 (by decide +kernel), pj_m 585 (by decide +kernel), Or.inl (pj_m 629 (by decide +kernel)), pj_m 588 (by decide +kernel), pj_m 584 (by decide +kernel), ⟨by decide +kernel, by decide +kernel⟩, by decide +kernel⟩
theorem uX3_131_X6 : pj_okU RX3 131 RX6 ⟨"GreyDays$Thing", "shaped", "()I"⟩ "GreyDays$Thing" Y_X8_shaped 0 := ⟨ok_X8_shaped, pj_m 870 (by decide +kernel), pj_m 585 (by decide +kernel), Or.inl (pj_m 629 (by decide +kernel)), pj_m 589 (by decide +kernel), pj_m 584 (by decide +kernel), ⟨by decide +kernel, by decide +kernel⟩, by decide +kernel⟩
theorem uX3_131_X10 : pj_okU RX3 131 RX10 ⟨"GreyDays$Thing", "shaped", "()I"⟩ "GreyDays$Thing" Y_X8_shaped 0 := ⟨ok_X8_shaped, pj_m 870 (by decide +kernel), pj_m 585 (by decide +kernel), Or.inl (pj_m 629 (by decide +kernel)), pj_m 590 (by decide +kernel), pj_m 584 (by decide +kernel), ⟨by decide +kernel, by decide +kernel⟩, by decide +kernel⟩
theorem uX4_15_X1 : pj_okU RX4 15 RX1 ⟨"GreyDays$Thing", "sizeAsked", "(LGreyDays$Asking;)I"⟩ "GreyDays$Thing" Y_X1_sizeAsked 1 := ⟨ok_X1_sizeAsked, pj_m 1010 (by decide +kernel), pj_m 964 (by decide +kernel), Or.inr ⟨pj_m 963 (by decide +kernel), _, _, _, ok_X8_sizeAsked.1⟩, pj_m 965 (by decide +kernel), pj_m 966 (by decide +kernel), ⟨by decide +kernel, by decide +kernel⟩, by decide +kernel⟩
theorem uX4_15_X2 : pj_okU RX4 15 RX2 ⟨"GreyDays$Thing", "sizeAsked", "(LGreyDays$Asking;)I"⟩ "GreyDays$Thing" Y_X2_sizeAsked 1 := ⟨ok_X2_sizeAsked, pj_m 1010 (by decide +kernel), pj_m 964 (by decide +kernel), Or.inr ⟨pj_m 963 (by decide +kernel), _, _, _, ok_X8_sizeAsked.1⟩, pj_m 1002 (by decide +kernel), pj_m 1003 (by decide +kernel), ⟨by decide +kernel, by decide +kernel⟩, by decide +kernel⟩
theorem uX4_15_X4 : pj_okU RX4 15 RX4 ⟨"GreyDays$Thing", "sizeAsked", "(LGreyDays$Asking;)I"⟩ "GreyDays$Thing" Y_X4_sizeAsked 1 := ⟨ok_X4_sizeAsked, pj_m 1010 (by decide +kernel), pj_m 964 (by decide +kernel), Or.inr ⟨pj_m 963 (by decide +kernel), _, _, _, ok_X8_sizeAsked.1⟩, pj_m 1011 (by decide +kernel), pj_m 1007 (by decide +kernel), ⟨by decide +kernel, by decide +kernel⟩, by decide +kernel⟩
theorem uX4_15_X6 : pj_okU RX4 15 RX6 ⟨"GreyDays$Thing", "sizeAsked", "(LGreyDays$Asking;)I"⟩ "GreyDays$Thing" Y_X1_sizeAsked 1 := ⟨ok_X1_sizeAsked, pj_m 1010 (by decide +kernel), pj_m 964 (by decide +kernel), Or.inr ⟨pj_m 963 (by decide +kernel), _, _, _, ok_X8_sizeAsked.1⟩, pj_m 1012 (by decide +kernel), pj_m 966 (by decide +kernel), ⟨by decide +kernel, by decide +kernel⟩, by decide +kernel⟩
theorem uX4_15_X10 : pj_okU RX4 15 RX10 ⟨"GreyDays$Thing", "sizeAsked", "(LGreyDays$Asking;)I"⟩ "GreyDays$Thing" Y_X10_sizeAsked 1 := ⟨ok_X10_sizeAsked, pj_m 1010 (by decide +kernel), pj_m 964 (by decide +kernel), Or.inr ⟨pj_m 963 (by decide +kernel), _, _, _, ok_X8_sizeAsked.1⟩, pj_m 1013 (by decide +kernel), pj_m 1014 (by decide +kernel), ⟨by decide +kernel, by decide +kernel⟩, by decide +kernel⟩
theorem xX4_15 : pj_okX RX4 15 Y_X8_sizeAsked 1 := ⟨ok_X8_sizeAsked, pj_m 1010 (by decide +kernel), pj_m 964 (by decide +kernel), pj_m 420 (by decide +kernel), pj_m 963 (by decide +kernel), by decide +kernel⟩
theorem uX4_19_X1 : pj_okU RX4 19 RX1 ⟨"GreyDays$Thing", "markAsked", "(LGreyDays$Asking;)I"⟩ "GreyDays$Thing" Y_X1_markAsked 1 := ⟨ok_X1_markAsked, pj_m 1021 (by decide +kernel), pj_m 1463 (by decide +kernel), Or.inr ⟨pj_m 989 (by decide +kernel), _, _, _, ok_X8_markAsked.1⟩, pj_m 1466 (by decide +kernel), pj_m 974 (by decide +kernel), ⟨by decide +kernel, by decide +kernel⟩, by decide +kernel⟩
theorem uX4_19_X2 : pj_okU RX4 19 RX2 ⟨"GreyDays$Thing", "markAsked", "(LGreyDays$Asking;)I"⟩ "GreyDays$Thing" Y_X4_markAsked 1 := ⟨ok_X4_markAsked, pj_m 1021 (by decide +kernel), pj_m 1463 (by decide +kernel), Or.inr ⟨pj_m 989 (by decide +kernel), _, _, _, ok_X8_markAsked.1⟩, pj_m 1467 (by decide +kernel), pj_m 1019 (by decide +kernel), ⟨by decide +kernel, by decide +kernel⟩, by decide +kernel⟩
theorem uX4_19_X4 : pj_okU RX4 19 RX4 ⟨"GreyDays$Thing", "markAsked", "(LGreyDays$Asking;)I"⟩ "GreyDays$Thing" Y_X4_markAsked 1 := ⟨ok_X4_markAsked, pj_m 1021 (by decide +kernel), pj_m 1463 (by decide +kernel), Or.inr ⟨pj_m 989 (by decide +kernel), _, _, _, ok_X8_markAsked.1⟩, pj_m 1470 (by decide +kernel), pj_m 1019 (by decide +kernel), ⟨by decide +kernel, by decide +kernel⟩, by decide +kernel⟩
theorem uX4_19_X6 : pj_okU RX4 19 RX6 ⟨"GreyDays$Thing", "markAsked", "(LGreyDays$Asking;)I"⟩ "GreyDays$Thing" Y_X6_markAsked 1 := ⟨ok_X6_markAsked, pj_m 1021 (by decide +kernel), pj_m 1463 (by decide +kernel), Or.inr ⟨pj_m 989 (by decide +kernel), _, _, _, ok_X8_markAsked.1⟩, pj_m 1471 (by decide +kernel), pj_m 978 (by decide +kernel), ⟨by decide +kernel, by decide +kernel⟩, by decide +kernel⟩
theorem uX4_19_X10 : pj_okU RX4 19 RX10 ⟨"GreyDays$Thing", "markAsked", "(LGreyDays$Asking;)I"⟩ "GreyDays$Thing" Y_X10_markAsked 1 := ⟨ok_X10_markAsked, pj_m 1021 (by decide +kernel), pj_m 1463 (by decide +kernel), Or.inr ⟨pj_m 989 (by decide +kernel), _, _, _, ok_X8_markAsked.1⟩, pj_m 1472 (by decide +kernel), pj_m 983 (by decide +kernel), ⟨by decide +kernel, by decide +kernel⟩, by decide +kernel⟩
theorem xX4_19 : pj_okX RX4 19 Y_X8_markAsked 1 := ⟨ok_X8_markAsked, pj_m 1021 (by decide +kernel), pj_m 1463 (by decide +kernel), pj_m 420 (by decide +kernel), pj_m 989 (by decide +kernel), by decide +kernel⟩
theorem uX4_22_X2 : pj_okU RX4 22 RX2 ⟨"GreyDays$Ink", "sizeAsked", "(LGreyDays$Asking;)I"⟩ "GreyDays$Ink" Y_X2_sizeAsked 1 := ⟨ok_X2_sizeAsked, pj_m 1022 (by decide +kernel), pj_m 1464 (by decide +kernel), Or.inr ⟨pj_m 1007 (by decide +kernel), _, _, _, ok_X4_sizeAsked.1⟩, pj_m 1468 (by decide +kernel), pj_m 1003 (by decide +kernel), ⟨by decide +kernel, by decide +kernel⟩, by decide +kernel⟩
theorem uX6_9_X6 : pj_okU RX6 9 RX6 ⟨"GreyDays$Shining", "shaped", "()I"⟩ "GreyDays$Thing" Y_X8_shaped 0 := ⟨ok_X8_shaped, pj_m 627 (by decide +kernel), pj_m 628 (by decide +kernel), Or.inl (pj_m 629 (by decide +kernel)), pj_m 630 (by decide +kernel), pj_m 584 (by decide +kernel), ⟨by decide +kernel, by decide +kernel⟩, by decide +kernel⟩
theorem uX6_21_X6 : pj_okU RX6 21 RX6 ⟨"GreyDays$Dyed", "markAsked", "(LGreyDays$Asking;)I"⟩ "GreyDays$Dyed" Y_X6_markAsked 1 := ⟨ok_X6_markAsked, pj_m 981 (by decide +kernel), pj_m 976 (by decide +kernel), Or.inr ⟨pj_m 974 (by decide +kernel), _, _, _, ok_X1_markAsked.1⟩, pj_m 977 (by decide +kernel), pj_m 978 (by decide +kernel), ⟨by decide +kernel, by decide +kernel⟩, by decide +kernel⟩
theorem uX6_21_X10 : pj_okU RX6 21 RX10 ⟨"GreyDays$Dyed", "markAsked", "(LGreyDays$Asking;)I"⟩ "GreyDays$Dyed" Y_X10_markAsked 1 := ⟨ok_X10_markAsked, pj_m 981 (by decide +kernel), pj_m 976 (by decide +kernel), Or.inr ⟨pj_m 974 (by decide +kernel), _, _, _, ok_X1_markAsked.1⟩, pj_m 982 (by decide +kernel), pj_m 983 (by decide +kernel), ⟨by decide +kernel, by decide +kernel⟩, by decide +kernel⟩
theorem xX6_21 : pj_okX RX6 21 Y_X1_markAsked 1 := ⟨ok_X1_markAsked, pj_m 981 (by decide +kernel), pj_m 976 (by decide +kernel), pj_m 410 (by decide +kernel), pj_m 974 (by decide +kernel), by decide +kernel⟩
theorem uX8_21_X1 : pj_okU RX8 21 RX1 ⟨"GreyDays$Thing", "lookOf", "(II)I"⟩ "GreyDays$Thing" Y_X1_lookOf 2 := ⟨ok_X1_lookOf, pj_m 612 (by decide +kernel), pj_m 614 (by decide +kernel), Or.inl (pj_m 613 (by decide +kernel)), pj_m 615 (by decide +kernel), pj_m 616 (by decide +kernel), ⟨by decide +kernel, by decide +kernel⟩, by decide +kernel⟩
theorem uX8_21_X2 : pj_okU RX8 21 RX2 ⟨"GreyDays$Thing", "lookOf", "(II)I"⟩ "GreyDays$Thing" Y_X2_lookOf 2 := ⟨ok_X2_lookOf, pj_m 612 (by decide +kernel), pj_m 614 (by decide +kernel), Or.inl (pj_m 613 (by decide +kernel)), pj_m 618 (by decide +kernel), pj_m 619 (by decide +kernel), ⟨by decide +kernel, by decide +kernel⟩, by decide +kernel⟩
theorem uX8_21_X4 : pj_okU RX8 21 RX4 ⟨"GreyDays$Thing", "lookOf", "(II)I"⟩ "GreyDays$Thing" Y_X4_lookOf 2 := ⟨ok_X4_lookOf, pj_m 612 (by decide +kernel), pj_m 614 (by decide +kernel), Or.inl (pj_m 613 (by decide +kernel)), pj_m 621 (by decide +kernel), pj_m 622 (by decide +kernel), ⟨by decide +kernel, by decide +kernel⟩, by decide +kernel⟩
theorem uX8_21_X6 : pj_okU RX8 21 RX6 ⟨"GreyDays$Thing", "lookOf", "(II)I"⟩ "GreyDays$Thing" Y_X6_lookOf 2 := ⟨ok_X6_lookOf, pj_m 612 (by decide +kernel), pj_m 614 (by decide +kernel), Or.inl (pj_m 613 (by decide +kernel)), pj_m 624 (by decide +kernel), pj_m 625 (by decide +kernel), ⟨by decide +kernel, by decide +kernel⟩, by decide +kernel⟩
theorem uX8_21_X10 : pj_okU RX8 21 RX10 ⟨"GreyDays$Thing", "lookOf", "(II)I"⟩ "GreyDays$Thing" Y_X10_lookOf 2 := ⟨ok_X10_lookOf, pj_m 612 (by decide +kernel), pj_m 614 (by decide +kernel), Or.inl (pj_m 613 (by decide +kernel)), pj_m 631 (by decide +kernel), pj_m 632 (by decide +kernel), ⟨by decide +kernel, by decide +kernel⟩, by decide +kernel⟩
theorem uX9_42_X1 : pj_okU RX9 42 RX1 ⟨"GreyDays$Thing", "kindTold", "()I"⟩ "GreyDays$Thing" Y_X1_kindTold 0 := ⟨ok_X1_kindTold, pj_m 912 (by decide +kernel), pj_m 914 (by decide +kernel), Or.inl (pj_m 913 (by decide +kernel)), pj_m 915 (by decide +kernel), pj_m 916 (by decide +kernel), ⟨by decide +kernel, by decide +kernel⟩, by decide +kernel⟩
theorem uX9_42_X2 : pj_okU RX9 42 RX2 ⟨"GreyDays$Thing", "kindTold", "()I"⟩ "GreyDays$Thing" Y_X2_kindTold 0 := ⟨ok_X2_kindTold, pj_m 912 (by decide +kernel), pj_m 914 (by decide +kernel), Or.inl (pj_m 913 (by decide +kernel)), pj_m 918 (by decide +kernel), pj_m 919 (by decide +kernel), ⟨by decide +kernel, by decide +kernel⟩, by decide +kernel⟩
theorem uX9_42_X4 : pj_okU RX9 42 RX4 ⟨"GreyDays$Thing", "kindTold", "()I"⟩ "GreyDays$Thing" Y_X4_kindTold 0 := ⟨ok_X4_kindTold, pj_m 912 (by decide +kernel), pj_m 914 (by decide +kernel), Or.inl (pj_m 913 (by decide +kernel)), pj_m 921 (by decide +kernel), pj_m 922 (by decide +kernel), ⟨by decide +kernel, by decide +kernel⟩, by decide +kernel⟩
theorem uX9_42_X6 : pj_okU RX9 42 RX6 ⟨"GreyDays$Thing", "kindTold", "()I"⟩ "GreyDays$Thing" Y_X6_kindTold 0 := ⟨ok_X6_kindTold, pj_m 912 (by decide +kernel), pj_m 914 (by decide +kernel), Or.inl (pj_m 913 (by decide +kernel)), pj_m 924 (by decide +kernel), pj_m 925 (by decide +kernel), ⟨by decide +kernel, by decide +kernel⟩, by decide +kernel⟩
theorem uX9_42_X10 : pj_okU RX9 42 RX10 ⟨"GreyDays$Thing", "kindTold", "()I"⟩ "GreyDays$Thing" Y_X10_kindTold 0 := ⟨ok_X10_kindTold, pj_m 912 (by decide +kernel), pj_m 914 (by decide +kernel), Or.inl (pj_m 913 (by decide +kernel)), pj_m 927 (by decide +kernel), pj_m 928 (by decide +kernel), ⟨by decide +kernel, by decide +kernel⟩, by decide +kernel⟩
theorem uX9_46_X1 : pj_okU RX9 46 RX1 ⟨"GreyDays$Thing", "mixed", "()I"⟩ "GreyDays$Thing" Y_X8_mixed 0 := ⟨ok_X8_mixed, pj_m 554 (by decide +kernel), pj_m 556 (by decide +kernel), Or.inr ⟨pj_m 555 (by decide +kernel), _, _, _, ok_X8_mixed.1⟩, pj_m 557 (by decide +kernel), pj_m 555 (by decide +kernel), ⟨by decide +kernel, by decide +kernel⟩, by decide +kernel⟩
theorem uX9_46_X2 : pj_okU RX9 46 RX2 ⟨"GreyDays$Thing", "mixed", "()I"⟩ "GreyDays$Thing" Y_X8_mixed 0 := ⟨ok_X8_mixed, pj_m 554 (by decide +kernel), pj_m 556 (by decide +kernel), Or.inr ⟨pj_m 555 (by decide +kernel), _, _, _, ok_X8_mixed.1⟩, pj_m 558 (by decide +kernel), pj_m 555 (by decide +kernel), ⟨by decide +kernel, by decide +kernel⟩, by decide +kernel⟩
theorem uX9_46_X4 : pj_okU RX9 46 RX4 ⟨"GreyDays$Thing", "mixed", "()I"⟩ "GreyDays$Thing" Y_X8_mixed 0 := ⟨ok_X8_mixed, pj_m 554 (by decide +kernel), pj_m 556 (by decide +kernel), Or.inr ⟨pj_m 555 (by decide +kernel), _, _, _, ok_X8_mixed.1⟩, pj_m 559 (by decide +kernel), pj_m 555 (by decide +kernel), ⟨by decide +kernel, by decide +kernel⟩, by decide +kernel⟩
theorem uX9_46_X6 : pj_okU RX9 46 RX6 ⟨"GreyDays$Thing", "mixed", "()I"⟩ "GreyDays$Thing" Y_X8_mixed 0 := ⟨ok_X8_mixed, pj_m 554 (by decide +kernel), pj_m 556 (by decide +kernel), Or.inr ⟨pj_m 555 (by decide +kernel), _, _, _, ok_X8_mixed.1⟩, pj_m 560 (by decide +kernel), pj_m 555 (by decide +kernel), ⟨by decide +kernel, by decide +kernel⟩, by decide +kernel⟩
theorem uX9_46_X10 : pj_okU RX9 46 RX10 ⟨"GreyDays$Thing", "mixed", "()I"⟩ "GreyDays$Thing" Y_X8_mixed 0 := ⟨ok_X8_mixed, pj_m 554 (by decide +kernel), pj_m 556 (by decide +kernel), Or.inr ⟨pj_m 555 (by decide +kernel), _, _, _, ok_X8_mixed.1⟩, pj_m 561 (by decide +kernel), pj_m 555 (by decide +kernel), ⟨by decide +kernel, by decide +kernel⟩, by decide +kernel⟩
theorem uX9_49_X1 : pj_okU RX9 49 RX1 ⟨"GreyDays$Thing", "shaped", "()I"⟩ "GreyDays$Thing" Y_X8_shaped 0 := ⟨ok_X8_shaped, pj_m 930 (by decide +kernel), pj_m 585 (by decide +kernel), Or.inl (pj_m 629 (by decide +kernel)), pj_m 586 (by decide +kernel), pj_m 584 (by decide +kernel), ⟨by decide +kernel, by decide +kernel⟩, by decide +kernel⟩
theorem uX9_49_X2 : pj_okU RX9 49 RX2 ⟨"GreyDays$Thing", "shaped", "()I"⟩ "GreyDays$Thing" Y_X8_shaped 0 := ⟨ok_X8_shaped, pj_m 930 (by decide +kernel), pj_m 585 (by decide +kernel), Or.inl (pj_m 629 (by decide +kernel)), pj_m 587 (by decide +kernel), pj_m 584 (by decide +kernel), ⟨by decide +kernel, by decide +kernel⟩, by decide +kernel⟩
theorem uX9_49_X4 : pj_okU RX9 49 RX4 ⟨"GreyDays$Thing", "shaped", "()I"⟩ "GreyDays$Thing" Y_X8_shaped 0 := ⟨ok_X8_shaped, pj_m 930 (by decide +kernel), pj_m 585 (by decide +kernel), Or.inl (pj_m 629 (by decide +kernel)), pj_m 588 (by decide +kernel), pj_m 584 (by decide +kernel), ⟨by decide +kernel, by decide +kernel⟩, by decide +kernel⟩
theorem uX9_49_X6 : pj_okU RX9 49 RX6 ⟨"GreyDays$Thing", "shaped", "()I"⟩ "GreyDays$Thing" Y_X8_shaped 0 := ⟨ok_X8_shaped, pj_m 930 (by decide +kernel), pj_m 585 (by decide +kernel), Or.inl (pj_m 629 (by decide +kernel)), pj_m 589 (by decide +kernel), pj_m 584 (by decide +kernel), ⟨by decide +kernel, by decide +kernel⟩, by decide +kernel⟩
theorem uX9_49_X10 : pj_okU RX9 49 RX10 ⟨"GreyDays$Thing", "shaped", "()I"⟩ "GreyDays$Thing" Y_X8_shaped 0 := ⟨ok_X8_shaped, pj_m 930 (by decide +kernel), pj_m 585 (by decide +kernel), Or.inl (pj_m 629 (by decide +kernel)), pj_m 590 (by decide +kernel), pj_m 584 (by decide +kernel), ⟨by decide +kernel, by decide +kernel⟩, by decide +kernel⟩
theorem uX9_99_X1 : pj_okU RX9 99 RX1 ⟨"GreyDays$Thing", "lookWithout", "(I)I"⟩ "GreyDays$Thing" Y_X8_lookWithout 1 := ⟨ok_X8_lookWithout, pj_m 667 (by decide +kernel), pj_m 605 (by decide +kernel), Or.inl (pj_m 998 (by decide +kernel)), pj_m 606 (by decide +kernel), pj_m 604 (by decide +kernel), ⟨by decide +kernel, by decide +kernel⟩, by decide +kernel⟩
theorem uX9_99_X2 : pj_okU RX9 99 RX2 ⟨"GreyDays$Thing", "lookWithout", "(I)I"⟩ "GreyDays$Thing" Y_X8_lookWithout 1 := ⟨ok_X8_lookWithout, pj_m 667 (by decide +kernel), pj_m 605 (by decide +kernel), Or.inl (pj_m 998 (by decide +kernel)), pj_m 607 (by decide +kernel), pj_m 604 (by decide +kernel), ⟨by decide +kernel, by decide +kernel⟩, by decide +kernel⟩
theorem uX9_99_X4 : pj_okU RX9 99 RX4 ⟨"GreyDays$Thing", "lookWithout", "(I)I"⟩ "GreyDays$Thing" Y_X8_lookWithout 1 := ⟨ok_X8_lookWithout, pj_m 667 (by decide +kernel), pj_m 605 (by decide +kernel), Or.inl (pj_m 998 (by decide +kernel)), pj_m 608 (by decide +kernel), pj_m 604 (by decide +kernel), ⟨by decide +kernel, by decide +kernel⟩, by decide +kernel⟩
theorem uX9_99_X6 : pj_okU RX9 99 RX6 ⟨"GreyDays$Thing", "lookWithout", "(I)I"⟩ "GreyDays$Thing" Y_X8_lookWithout 1 := ⟨ok_X8_lookWithout, pj_m 667 (by decide +kernel), pj_m 605 (by decide +kernel), Or.inl (pj_m 998 (by decide +kernel)), pj_m 609 (by decide +kernel), pj_m 604 (by decide +kernel), ⟨by decide +kernel, by decide +kernel⟩, by decide +kernel⟩
theorem uX9_99_X10 : pj_okU RX9 99 RX10 ⟨"GreyDays$Thing", "lookWithout", "(I)I"⟩ "GreyDays$Thing" Y_X8_lookWithout 1 := ⟨ok_X8_lookWithout, pj_m 667 (by decide +kernel), pj_m 605 (by decide +kernel), Or.inl (pj_m 998 (by decide +kernel)), pj_m 610 (by decide +kernel), pj_m 604 (by decide +kernel), ⟨by decide +kernel, by decide +kernel⟩, by decide +kernel⟩
theorem uX9_113_X1 : pj_okU RX9 113 RX1 ⟨"GreyDays$Thing", "mixAnew", "(I)V"⟩ "GreyDays$Thing" Y_X8_mixAnew 1 := ⟨ok_X8_mixAnew, pj_m 494 (by decide +kernel), pj_m 496 (by decide +kernel), Or.inr ⟨pj_m 495 (by decide +kernel), _, _, _, ok_X8_mixAnew.1⟩, pj_m 497 (by decide +kernel), pj_m 495 (by decide +kernel), ⟨by decide +kernel, by decide +kernel⟩, by decide +kernel⟩
theorem uX9_113_X2 : pj_okU RX9 113 RX2 ⟨"GreyDays$Thing", "mixAnew", "(I)V"⟩ "GreyDays$Thing" Y_X8_mixAnew 1 := ⟨ok_X8_mixAnew, pj_m 494 (by decide +kernel), pj_m 496 (by decide +kernel), Or.inr ⟨pj_m 495 (by decide +kernel), _, _, _, ok_X8_mixAnew.1⟩, pj_m 498 (by decide +kernel), pj_m 495 (by decide +kernel), ⟨by decide +kernel, by decide +kernel⟩, by decide +kernel⟩
theorem uX9_113_X4 : pj_okU RX9 113 RX4 ⟨"GreyDays$Thing", "mixAnew", "(I)V"⟩ "GreyDays$Thing" Y_X8_mixAnew 1 := ⟨ok_X8_mixAnew, pj_m 494 (by decide +kernel), pj_m 496 (by decide +kernel), Or.inr ⟨pj_m 495 (by decide +kernel), _, _, _, ok_X8_mixAnew.1⟩, pj_m 499 (by decide +kernel), pj_m 495 (by decide +kernel), ⟨by decide +kernel, by decide +kernel⟩, by decide +kernel⟩
theorem uX9_113_X6 : pj_okU RX9 113 RX6 ⟨"GreyDays$Thing", "mixAnew", "(I)V"⟩ "GreyDays$Thing" Y_X8_mixAnew 1 := ⟨ok_X8_mixAnew, pj_m 494 (by decide +kernel), pj_m 496 (by decide +kernel), Or.inr ⟨pj_m 495 (by decide +kernel), _, _, _, ok_X8_mixAnew.1⟩, pj_m 500 (by decide +kernel), pj_m 495 (by decide +kernel), ⟨by decide +kernel, by decide +kernel⟩, by decide +kernel⟩
theorem uX9_113_X10 : pj_okU RX9 113 RX10 ⟨"GreyDays$Thing", "mixAnew", "(I)V"⟩ "GreyDays$Thing" Y_X8_mixAnew 1 := ⟨ok_X8_mixAnew, pj_m 494 (by decide +kernel), pj_m 496 (by decide +kernel), Or.inr ⟨pj_m 495 (by decide +kernel), _, _, _, ok_X8_mixAnew.1⟩, pj_m 501 (by decide +kernel), pj_m 495 (by decide +kernel), ⟨by decide +kernel, by decide +kernel⟩, by decide +kernel⟩
theorem xX10_15 : pj_okX RX10 15 Y_X1_sizeAsked 1 := ⟨ok_X1_sizeAsked, pj_m 1016 (by decide +kernel), pj_m 1465 (by decide +kernel), pj_m 400 (by decide +kernel), pj_m 966 (by decide +kernel), by decide +kernel⟩
theorem uX10_19_X6 : pj_okU RX10 19 RX6 ⟨"GreyDays$Dyed", "markAsked", "(LGreyDays$Asking;)I"⟩ "GreyDays$Dyed" Y_X6_markAsked 1 := ⟨ok_X6_markAsked, pj_m 986 (by decide +kernel), pj_m 976 (by decide +kernel), Or.inr ⟨pj_m 974 (by decide +kernel), _, _, _, ok_X1_markAsked.1⟩, pj_m 977 (by decide +kernel), pj_m 978 (by decide +kernel), ⟨by decide +kernel, by decide +kernel⟩, by decide +kernel⟩
theorem uX10_19_X10 : pj_okU RX10 19 RX10 ⟨"GreyDays$Dyed", "markAsked", "(LGreyDays$Asking;)I"⟩ "GreyDays$Dyed" Y_X10_markAsked 1 := ⟨ok_X10_markAsked, pj_m 986 (by decide +kernel), pj_m 976 (by decide +kernel), Or.inr ⟨pj_m 974 (by decide +kernel), _, _, _, ok_X1_markAsked.1⟩, pj_m 982 (by decide +kernel), pj_m 983 (by decide +kernel), ⟨by decide +kernel, by decide +kernel⟩, by decide +kernel⟩
theorem xX10_19 : pj_okX RX10 19 Y_X1_markAsked 1 := ⟨ok_X1_markAsked, pj_m 986 (by decide +kernel), pj_m 976 (by decide +kernel), pj_m 400 (by decide +kernel), pj_m 974 (by decide +kernel), by decide +kernel⟩
end
section
/-! ===== calls of things, by their kinds (by program) ===== -/
def gd_tc (k : Nat) : Nat := if k = 1 then 1 else if k = 2 then 9 else if k = 3 then 6 else if k = 4 then 4 else 2
theorem gd_kd {kd : Nat} (h1 : 1 ≤ kd) (h5 : kd ≤ 5) : kd = 1 ∨ kd = 2 ∨ kd = 3 ∨ kd = 4 ∨ kd = 5 := by omega
def gd_Y_kindTold (k : Nat) : pj_Y := if k = 1 then Y_X1_kindTold else if k = 2 then Y_X10_kindTold else if k = 3 then Y_X6_kindTold else if k = 4 then Y_X4_kindTold else Y_X2_kindTold
def gd_Y_lookOf (k : Nat) : pj_Y := if k = 1 then Y_X1_lookOf else if k = 2 then Y_X10_lookOf else if k = 3 then Y_X6_lookOf else if k = 4 then Y_X4_lookOf else Y_X2_lookOf
def gd_Y_sizeAsked (k : Nat) : pj_Y := if k = 1 then Y_X1_sizeAsked else if k = 2 then Y_X10_sizeAsked else if k = 3 then Y_X1_sizeAsked else if k = 4 then Y_X4_sizeAsked else Y_X2_sizeAsked
def gd_Y_markAsked (k : Nat) : pj_Y := if k = 1 then Y_X1_markAsked else if k = 2 then Y_X10_markAsked else if k = 3 then Y_X6_markAsked else if k = 4 then Y_X4_markAsked else Y_X4_markAsked
section
variable {E : pj_E} {B : Nat} {l : Launch} {Y : pj_Y} {d mc ms pc q : Nat} {st rest As : List Value} {h : pj_H} {n d' mc' ms' a kd : Nat} {fs : List Value} {P : Option Value → pj_H → Nat → Prop}
theorem vX11_133 (hY : Y.1.cls = RX11) (ha : h a = some (.inr (gd_tc kd, fs))) (hk : 1 ≤ kd ∧ kd ≤ 5) (hC : pj_Ct E B l Y_X8_takesPaint d' mc' ms' (.ref a :: As) h n P) (hd : decode Y.2.1 pc = .ok (.invokevirtual 133, 3)) (hq : pc + 3 = q) (hst : st = As.reverse ++ .ref a :: rest) (hn : As.length = 0) (hw : (rest.map fun v => v.category).sum ≤ 8) (hdd : d' < d) : pj_Run E B l Y d mc ms pc q st rest h n mc' ms' P := by
  rcases gd_kd hk.1 hk.2 with rfl | rfl | rfl | rfl | rfl
  · exact pj_rU hC hd hq (by rw [hY]; exact uX11_133_X1) ha rfl hst hn hw hdd
  · exact pj_rU hC hd hq (by rw [hY]; exact uX11_133_X10) ha rfl hst hn hw hdd
  · exact pj_rU hC hd hq (by rw [hY]; exact uX11_133_X6) ha rfl hst hn hw hdd
  · exact pj_rU hC hd hq (by rw [hY]; exact uX11_133_X4) ha rfl hst hn hw hdd
  · exact pj_rU hC hd hq (by rw [hY]; exact uX11_133_X2) ha rfl hst hn hw hdd
theorem vX11_149 (hY : Y.1.cls = RX11) (ha : h a = some (.inr (gd_tc kd, fs))) (hk : 1 ≤ kd ∧ kd ≤ 5) (hC : pj_Ct E B l Y_X8_mixed d' mc' ms' (.ref a :: As) h n P) (hd : decode Y.2.1 pc = .ok (.invokevirtual 149, 3)) (hq : pc + 3 = q) (hst : st = As.reverse ++ .ref a :: rest) (hn : As.length = 0) (hw : (rest.map fun v => v.category).sum ≤ 8) (hdd : d' < d) : pj_Run E B l Y d mc ms pc q st rest h n mc' ms' P := by
  rcases gd_kd hk.1 hk.2 with rfl | rfl | rfl | rfl | rfl
  · exact pj_rU hC hd hq (by rw [hY]; exact uX11_149_X1) ha rfl hst hn hw hdd
  · exact pj_rU hC hd hq (by rw [hY]; exact uX11_149_X10) ha rfl hst hn hw hdd
  · exact pj_rU hC hd hq (by rw [hY]; exact uX11_149_X6) ha rfl hst hn hw hdd
  · exact pj_rU hC hd hq (by rw [hY]; exact uX11_149_X4) ha rfl hst hn hw hdd
  · exact pj_rU hC hd hq (by rw [hY]; exact uX11_149_X2) ha rfl hst hn hw hdd
theorem vX11_152 (hY : Y.1.cls = RX11) (ha : h a = some (.inr (gd_tc kd, fs))) (hk : 1 ≤ kd ∧ kd ≤ 5) (hC : pj_Ct E B l Y_X8_shaped d' mc' ms' (.ref a :: As) h n P) (hd : decode Y.2.1 pc = .ok (.invokevirtual 152, 3)) (hq : pc + 3 = q) (hst : st = As.reverse ++ .ref a :: rest) (hn : As.length = 0) (hw : (rest.map fun v => v.category).sum ≤ 8) (hdd : d' < d) : pj_Run E B l Y d mc ms pc q st rest h n mc' ms' P := by
  rcases gd_kd hk.1 hk.2 with rfl | rfl | rfl | rfl | rfl
  · exact pj_rU hC hd hq (by rw [hY]; exact uX11_152_X1) ha rfl hst hn hw hdd
  · exact pj_rU hC hd hq (by rw [hY]; exact uX11_152_X10) ha rfl hst hn hw hdd
  · exact pj_rU hC hd hq (by rw [hY]; exact uX11_152_X6) ha rfl hst hn hw hdd
  · exact pj_rU hC hd hq (by rw [hY]; exact uX11_152_X4) ha rfl hst hn hw hdd
  · exact pj_rU hC hd hq (by rw [hY]; exact uX11_152_X2) ha rfl hst hn hw hdd
theorem vX11_158 (hY : Y.1.cls = RX11) (ha : h a = some (.inr (gd_tc kd, fs))) (hk : 1 ≤ kd ∧ kd ≤ 5) (hC : pj_Ct E B l Y_X8_lookWithout d' mc' ms' (.ref a :: As) h n P) (hd : decode Y.2.1 pc = .ok (.invokevirtual 158, 3)) (hq : pc + 3 = q) (hst : st = As.reverse ++ .ref a :: rest) (hn : As.length = 1) (hw : (rest.map fun v => v.category).sum ≤ 8) (hdd : d' < d) : pj_Run E B l Y d mc ms pc q st rest h n mc' ms' P := by
  rcases gd_kd hk.1 hk.2 with rfl | rfl | rfl | rfl | rfl
  · exact pj_rU hC hd hq (by rw [hY]; exact uX11_158_X1) ha rfl hst hn hw hdd
  · exact pj_rU hC hd hq (by rw [hY]; exact uX11_158_X10) ha rfl hst hn hw hdd
  · exact pj_rU hC hd hq (by rw [hY]; exact uX11_158_X6) ha rfl hst hn hw hdd
  · exact pj_rU hC hd hq (by rw [hY]; exact uX11_158_X4) ha rfl hst hn hw hdd
  · exact pj_rU hC hd hq (by rw [hY]; exact uX11_158_X2) ha rfl hst hn hw hdd
theorem vX11_257 (hY : Y.1.cls = RX11) (ha : h a = some (.inr (gd_tc kd, fs))) (hk : 1 ≤ kd ∧ kd ≤ 5) (hC : pj_Ct E B l (gd_Y_kindTold kd) d' mc' ms' (.ref a :: As) h n P) (hd : decode Y.2.1 pc = .ok (.invokevirtual 257, 3)) (hq : pc + 3 = q) (hst : st = As.reverse ++ .ref a :: rest) (hn : As.length = 0) (hw : (rest.map fun v => v.category).sum ≤ 8) (hdd : d' < d) : pj_Run E B l Y d mc ms pc q st rest h n mc' ms' P := by
  rcases gd_kd hk.1 hk.2 with rfl | rfl | rfl | rfl | rfl
  · exact pj_rU hC hd hq (by rw [hY]; exact uX11_257_X1) ha rfl hst hn hw hdd
  · exact pj_rU hC hd hq (by rw [hY]; exact uX11_257_X10) ha rfl hst hn hw hdd
  · exact pj_rU hC hd hq (by rw [hY]; exact uX11_257_X6) ha rfl hst hn hw hdd
  · exact pj_rU hC hd hq (by rw [hY]; exact uX11_257_X4) ha rfl hst hn hw hdd
  · exact pj_rU hC hd hq (by rw [hY]; exact uX11_257_X2) ha rfl hst hn hw hdd
theorem vX11_267 (hY : Y.1.cls = RX11) (ha : h a = some (.inr (gd_tc kd, fs))) (hk : 1 ≤ kd ∧ kd ≤ 5) (hC : pj_Ct E B l (gd_Y_sizeAsked kd) d' mc' ms' (.ref a :: As) h n P) (hd : decode Y.2.1 pc = .ok (.invokevirtual 267, 3)) (hq : pc + 3 = q) (hst : st = As.reverse ++ .ref a :: rest) (hn : As.length = 1) (hw : (rest.map fun v => v.category).sum ≤ 8) (hdd : d' < d) : pj_Run E B l Y d mc ms pc q st rest h n mc' ms' P := by
  rcases gd_kd hk.1 hk.2 with rfl | rfl | rfl | rfl | rfl
  · exact pj_rU hC hd hq (by rw [hY]; exact uX11_267_X1) ha rfl hst hn hw hdd
  · exact pj_rU hC hd hq (by rw [hY]; exact uX11_267_X10) ha rfl hst hn hw hdd
  · exact pj_rU hC hd hq (by rw [hY]; exact uX11_267_X6) ha rfl hst hn hw hdd
  · exact pj_rU hC hd hq (by rw [hY]; exact uX11_267_X4) ha rfl hst hn hw hdd
  · exact pj_rU hC hd hq (by rw [hY]; exact uX11_267_X2) ha rfl hst hn hw hdd
theorem vX11_271 (hY : Y.1.cls = RX11) (ha : h a = some (.inr (gd_tc kd, fs))) (hk : 1 ≤ kd ∧ kd ≤ 5) (hC : pj_Ct E B l (gd_Y_markAsked kd) d' mc' ms' (.ref a :: As) h n P) (hd : decode Y.2.1 pc = .ok (.invokevirtual 271, 3)) (hq : pc + 3 = q) (hst : st = As.reverse ++ .ref a :: rest) (hn : As.length = 1) (hw : (rest.map fun v => v.category).sum ≤ 8) (hdd : d' < d) : pj_Run E B l Y d mc ms pc q st rest h n mc' ms' P := by
  rcases gd_kd hk.1 hk.2 with rfl | rfl | rfl | rfl | rfl
  · exact pj_rU hC hd hq (by rw [hY]; exact uX11_271_X1) ha rfl hst hn hw hdd
  · exact pj_rU hC hd hq (by rw [hY]; exact uX11_271_X10) ha rfl hst hn hw hdd
  · exact pj_rU hC hd hq (by rw [hY]; exact uX11_271_X6) ha rfl hst hn hw hdd
  · exact pj_rU hC hd hq (by rw [hY]; exact uX11_271_X4) ha rfl hst hn hw hdd
  · exact pj_rU hC hd hq (by rw [hY]; exact uX11_271_X2) ha rfl hst hn hw hdd
theorem vX3_131 (hY : Y.1.cls = RX3) (ha : h a = some (.inr (gd_tc kd, fs))) (hk : 1 ≤ kd ∧ kd ≤ 5) (hC : pj_Ct E B l Y_X8_shaped d' mc' ms' (.ref a :: As) h n P) (hd : decode Y.2.1 pc = .ok (.invokevirtual 131, 3)) (hq : pc + 3 = q) (hst : st = As.reverse ++ .ref a :: rest) (hn : As.length = 0) (hw : (rest.map fun v => v.category).sum ≤ 8) (hdd : d' < d) : pj_Run E B l Y d mc ms pc q st rest h n mc' ms' P := by
  rcases gd_kd hk.1 hk.2 with rfl | rfl | rfl | rfl | rfl
  · exact pj_rU hC hd hq (by rw [hY]; exact uX3_131_X1) ha rfl hst hn hw hdd
  · exact pj_rU hC hd hq (by rw [hY]; exact uX3_131_X10) ha rfl hst hn hw hdd
  · exact pj_rU hC hd hq (by rw [hY]; exact uX3_131_X6) ha rfl hst hn hw hdd
  · exact pj_rU hC hd hq (by rw [hY]; exact uX3_131_X4) ha rfl hst hn hw hdd
  · exact pj_rU hC hd hq (by rw [hY]; exact uX3_131_X2) ha rfl hst hn hw hdd
theorem vX3_31 (hY : Y.1.cls = RX3) (ha : h a = some (.inr (gd_tc kd, fs))) (hk : 1 ≤ kd ∧ kd ≤ 5) (hC : pj_Ct E B l Y_X8_lookWithout d' mc' ms' (.ref a :: As) h n P) (hd : decode Y.2.1 pc = .ok (.invokevirtual 31, 3)) (hq : pc + 3 = q) (hst : st = As.reverse ++ .ref a :: rest) (hn : As.length = 1) (hw : (rest.map fun v => v.category).sum ≤ 8) (hdd : d' < d) : pj_Run E B l Y d mc ms pc q st rest h n mc' ms' P := by
  rcases gd_kd hk.1 hk.2 with rfl | rfl | rfl | rfl | rfl
  · exact pj_rU hC hd hq (by rw [hY]; exact uX3_31_X1) ha rfl hst hn hw hdd
  · exact pj_rU hC hd hq (by rw [hY]; exact uX3_31_X10) ha rfl hst hn hw hdd
  · exact pj_rU hC hd hq (by rw [hY]; exact uX3_31_X6) ha rfl hst hn hw hdd
  · exact pj_rU hC hd hq (by rw [hY]; exact uX3_31_X4) ha rfl hst hn hw hdd
  · exact pj_rU hC hd hq (by rw [hY]; exact uX3_31_X2) ha rfl hst hn hw hdd
theorem vX3_56 (hY : Y.1.cls = RX3) (ha : h a = some (.inr (gd_tc kd, fs))) (hk : 1 ≤ kd ∧ kd ≤ 5) (hC : pj_Ct E B l Y_X8_takesPaint d' mc' ms' (.ref a :: As) h n P) (hd : decode Y.2.1 pc = .ok (.invokevirtual 56, 3)) (hq : pc + 3 = q) (hst : st = As.reverse ++ .ref a :: rest) (hn : As.length = 0) (hw : (rest.map fun v => v.category).sum ≤ 8) (hdd : d' < d) : pj_Run E B l Y d mc ms pc q st rest h n mc' ms' P := by
  rcases gd_kd hk.1 hk.2 with rfl | rfl | rfl | rfl | rfl
  · exact pj_rU hC hd hq (by rw [hY]; exact uX3_56_X1) ha rfl hst hn hw hdd
  · exact pj_rU hC hd hq (by rw [hY]; exact uX3_56_X10) ha rfl hst hn hw hdd
  · exact pj_rU hC hd hq (by rw [hY]; exact uX3_56_X6) ha rfl hst hn hw hdd
  · exact pj_rU hC hd hq (by rw [hY]; exact uX3_56_X4) ha rfl hst hn hw hdd
  · exact pj_rU hC hd hq (by rw [hY]; exact uX3_56_X2) ha rfl hst hn hw hdd
theorem vX3_60 (hY : Y.1.cls = RX3) (ha : h a = some (.inr (gd_tc kd, fs))) (hk : 1 ≤ kd ∧ kd ≤ 5) (hC : pj_Ct E B l Y_X8_mixed d' mc' ms' (.ref a :: As) h n P) (hd : decode Y.2.1 pc = .ok (.invokevirtual 60, 3)) (hq : pc + 3 = q) (hst : st = As.reverse ++ .ref a :: rest) (hn : As.length = 0) (hw : (rest.map fun v => v.category).sum ≤ 8) (hdd : d' < d) : pj_Run E B l Y d mc ms pc q st rest h n mc' ms' P := by
  rcases gd_kd hk.1 hk.2 with rfl | rfl | rfl | rfl | rfl
  · exact pj_rU hC hd hq (by rw [hY]; exact uX3_60_X1) ha rfl hst hn hw hdd
  · exact pj_rU hC hd hq (by rw [hY]; exact uX3_60_X10) ha rfl hst hn hw hdd
  · exact pj_rU hC hd hq (by rw [hY]; exact uX3_60_X6) ha rfl hst hn hw hdd
  · exact pj_rU hC hd hq (by rw [hY]; exact uX3_60_X4) ha rfl hst hn hw hdd
  · exact pj_rU hC hd hq (by rw [hY]; exact uX3_60_X2) ha rfl hst hn hw hdd
theorem vX3_77 (hY : Y.1.cls = RX3) (ha : h a = some (.inr (gd_tc kd, fs))) (hk : 1 ≤ kd ∧ kd ≤ 5) (hC : pj_Ct E B l (gd_Y_lookOf kd) d' mc' ms' (.ref a :: As) h n P) (hd : decode Y.2.1 pc = .ok (.invokevirtual 77, 3)) (hq : pc + 3 = q) (hst : st = As.reverse ++ .ref a :: rest) (hn : As.length = 2) (hw : (rest.map fun v => v.category).sum ≤ 8) (hdd : d' < d) : pj_Run E B l Y d mc ms pc q st rest h n mc' ms' P := by
  rcases gd_kd hk.1 hk.2 with rfl | rfl | rfl | rfl | rfl
  · exact pj_rU hC hd hq (by rw [hY]; exact uX3_77_X1) ha rfl hst hn hw hdd
  · exact pj_rU hC hd hq (by rw [hY]; exact uX3_77_X10) ha rfl hst hn hw hdd
  · exact pj_rU hC hd hq (by rw [hY]; exact uX3_77_X6) ha rfl hst hn hw hdd
  · exact pj_rU hC hd hq (by rw [hY]; exact uX3_77_X4) ha rfl hst hn hw hdd
  · exact pj_rU hC hd hq (by rw [hY]; exact uX3_77_X2) ha rfl hst hn hw hdd
theorem vX8_21 (hY : Y.1.cls = RX8) (ha : h a = some (.inr (gd_tc kd, fs))) (hk : 1 ≤ kd ∧ kd ≤ 5) (hC : pj_Ct E B l (gd_Y_lookOf kd) d' mc' ms' (.ref a :: As) h n P) (hd : decode Y.2.1 pc = .ok (.invokevirtual 21, 3)) (hq : pc + 3 = q) (hst : st = As.reverse ++ .ref a :: rest) (hn : As.length = 2) (hw : (rest.map fun v => v.category).sum ≤ 8) (hdd : d' < d) : pj_Run E B l Y d mc ms pc q st rest h n mc' ms' P := by
  rcases gd_kd hk.1 hk.2 with rfl | rfl | rfl | rfl | rfl
  · exact pj_rU hC hd hq (by rw [hY]; exact uX8_21_X1) ha rfl hst hn hw hdd
  · exact pj_rU hC hd hq (by rw [hY]; exact uX8_21_X10) ha rfl hst hn hw hdd
  · exact pj_rU hC hd hq (by rw [hY]; exact uX8_21_X6) ha rfl hst hn hw hdd
  · exact pj_rU hC hd hq (by rw [hY]; exact uX8_21_X4) ha rfl hst hn hw hdd
  · exact pj_rU hC hd hq (by rw [hY]; exact uX8_21_X2) ha rfl hst hn hw hdd
theorem vX9_113 (hY : Y.1.cls = RX9) (ha : h a = some (.inr (gd_tc kd, fs))) (hk : 1 ≤ kd ∧ kd ≤ 5) (hC : pj_Ct E B l Y_X8_mixAnew d' mc' ms' (.ref a :: As) h n P) (hd : decode Y.2.1 pc = .ok (.invokevirtual 113, 3)) (hq : pc + 3 = q) (hst : st = As.reverse ++ .ref a :: rest) (hn : As.length = 1) (hw : (rest.map fun v => v.category).sum ≤ 8) (hdd : d' < d) : pj_Run E B l Y d mc ms pc q st rest h n mc' ms' P := by
  rcases gd_kd hk.1 hk.2 with rfl | rfl | rfl | rfl | rfl
  · exact pj_rU hC hd hq (by rw [hY]; exact uX9_113_X1) ha rfl hst hn hw hdd
  · exact pj_rU hC hd hq (by rw [hY]; exact uX9_113_X10) ha rfl hst hn hw hdd
  · exact pj_rU hC hd hq (by rw [hY]; exact uX9_113_X6) ha rfl hst hn hw hdd
  · exact pj_rU hC hd hq (by rw [hY]; exact uX9_113_X4) ha rfl hst hn hw hdd
  · exact pj_rU hC hd hq (by rw [hY]; exact uX9_113_X2) ha rfl hst hn hw hdd
theorem vX9_42 (hY : Y.1.cls = RX9) (ha : h a = some (.inr (gd_tc kd, fs))) (hk : 1 ≤ kd ∧ kd ≤ 5) (hC : pj_Ct E B l (gd_Y_kindTold kd) d' mc' ms' (.ref a :: As) h n P) (hd : decode Y.2.1 pc = .ok (.invokevirtual 42, 3)) (hq : pc + 3 = q) (hst : st = As.reverse ++ .ref a :: rest) (hn : As.length = 0) (hw : (rest.map fun v => v.category).sum ≤ 8) (hdd : d' < d) : pj_Run E B l Y d mc ms pc q st rest h n mc' ms' P := by
  rcases gd_kd hk.1 hk.2 with rfl | rfl | rfl | rfl | rfl
  · exact pj_rU hC hd hq (by rw [hY]; exact uX9_42_X1) ha rfl hst hn hw hdd
  · exact pj_rU hC hd hq (by rw [hY]; exact uX9_42_X10) ha rfl hst hn hw hdd
  · exact pj_rU hC hd hq (by rw [hY]; exact uX9_42_X6) ha rfl hst hn hw hdd
  · exact pj_rU hC hd hq (by rw [hY]; exact uX9_42_X4) ha rfl hst hn hw hdd
  · exact pj_rU hC hd hq (by rw [hY]; exact uX9_42_X2) ha rfl hst hn hw hdd
theorem vX9_46 (hY : Y.1.cls = RX9) (ha : h a = some (.inr (gd_tc kd, fs))) (hk : 1 ≤ kd ∧ kd ≤ 5) (hC : pj_Ct E B l Y_X8_mixed d' mc' ms' (.ref a :: As) h n P) (hd : decode Y.2.1 pc = .ok (.invokevirtual 46, 3)) (hq : pc + 3 = q) (hst : st = As.reverse ++ .ref a :: rest) (hn : As.length = 0) (hw : (rest.map fun v => v.category).sum ≤ 8) (hdd : d' < d) : pj_Run E B l Y d mc ms pc q st rest h n mc' ms' P := by
  rcases gd_kd hk.1 hk.2 with rfl | rfl | rfl | rfl | rfl
  · exact pj_rU hC hd hq (by rw [hY]; exact uX9_46_X1) ha rfl hst hn hw hdd
  · exact pj_rU hC hd hq (by rw [hY]; exact uX9_46_X10) ha rfl hst hn hw hdd
  · exact pj_rU hC hd hq (by rw [hY]; exact uX9_46_X6) ha rfl hst hn hw hdd
  · exact pj_rU hC hd hq (by rw [hY]; exact uX9_46_X4) ha rfl hst hn hw hdd
  · exact pj_rU hC hd hq (by rw [hY]; exact uX9_46_X2) ha rfl hst hn hw hdd
theorem vX9_49 (hY : Y.1.cls = RX9) (ha : h a = some (.inr (gd_tc kd, fs))) (hk : 1 ≤ kd ∧ kd ≤ 5) (hC : pj_Ct E B l Y_X8_shaped d' mc' ms' (.ref a :: As) h n P) (hd : decode Y.2.1 pc = .ok (.invokevirtual 49, 3)) (hq : pc + 3 = q) (hst : st = As.reverse ++ .ref a :: rest) (hn : As.length = 0) (hw : (rest.map fun v => v.category).sum ≤ 8) (hdd : d' < d) : pj_Run E B l Y d mc ms pc q st rest h n mc' ms' P := by
  rcases gd_kd hk.1 hk.2 with rfl | rfl | rfl | rfl | rfl
  · exact pj_rU hC hd hq (by rw [hY]; exact uX9_49_X1) ha rfl hst hn hw hdd
  · exact pj_rU hC hd hq (by rw [hY]; exact uX9_49_X10) ha rfl hst hn hw hdd
  · exact pj_rU hC hd hq (by rw [hY]; exact uX9_49_X6) ha rfl hst hn hw hdd
  · exact pj_rU hC hd hq (by rw [hY]; exact uX9_49_X4) ha rfl hst hn hw hdd
  · exact pj_rU hC hd hq (by rw [hY]; exact uX9_49_X2) ha rfl hst hn hw hdd
theorem vX9_99 (hY : Y.1.cls = RX9) (ha : h a = some (.inr (gd_tc kd, fs))) (hk : 1 ≤ kd ∧ kd ≤ 5) (hC : pj_Ct E B l Y_X8_lookWithout d' mc' ms' (.ref a :: As) h n P) (hd : decode Y.2.1 pc = .ok (.invokevirtual 99, 3)) (hq : pc + 3 = q) (hst : st = As.reverse ++ .ref a :: rest) (hn : As.length = 1) (hw : (rest.map fun v => v.category).sum ≤ 8) (hdd : d' < d) : pj_Run E B l Y d mc ms pc q st rest h n mc' ms' P := by
  rcases gd_kd hk.1 hk.2 with rfl | rfl | rfl | rfl | rfl
  · exact pj_rU hC hd hq (by rw [hY]; exact uX9_99_X1) ha rfl hst hn hw hdd
  · exact pj_rU hC hd hq (by rw [hY]; exact uX9_99_X10) ha rfl hst hn hw hdd
  · exact pj_rU hC hd hq (by rw [hY]; exact uX9_99_X6) ha rfl hst hn hw hdd
  · exact pj_rU hC hd hq (by rw [hY]; exact uX9_99_X4) ha rfl hst hn hw hdd
  · exact pj_rU hC hd hq (by rw [hY]; exact uX9_99_X2) ha rfl hst hn hw hdd
end
end
section
/-! ===== things: how they look ===== -/
def gd_setOf (c : Nat) : Nat := if c < 5 then 2 ^ c else 0
def gd_left (mix set : Nat) : Nat := mix &&& (31 ^^^ set)
def gd_twin (x : Nat) : Nat := if x &&& (x - 1) = 0 then x else x &&& (x - 1)
def gd_look (kd mix sh set : Nat) : Nat := if kd = 1 then gd_left mix set else if kd = 2 then gd_twin (gd_left mix set) else if kd = 3 then gd_left mix set + 32 * (1 + sh) else if kd = 4 then mix else 0
theorem gd_leftI : ∀ m, m < 32 → ∀ s, s < 32 → nI m &&& (nI s ^^^ (-1)) = nI (gd_left m s) := by decide +kernel
theorem gd_left_lt : ∀ m, m < 32 → ∀ s, s < 32 → gd_left m s < 32 := by decide +kernel
theorem gd_twinI : ∀ x, x < 32 → nI x &&& (nI x - nI 1) = nI (x &&& (x - 1)) := by decide +kernel
theorem gd_twin_lt : ∀ x, x < 32 → gd_twin x < 32 := by decide +kernel
theorem gd_and_lt : ∀ x, x < 32 → x &&& (x - 1) < 32 := by decide +kernel
theorem gd_setI : ∀ c, c < 5 → nI 1 <<< (nI c &&& 31) = nI (2 ^ c) := by decide +kernel
theorem gd_setOf_lt : ∀ c, c ≤ 5 → gd_setOf c < 32 := by decide +kernel
theorem gd_look_lt {kd mix sh set : Nat} (hm : mix < 32) (hs : set < 32) (hh : sh < 4) : gd_look kd mix sh set < 160 := by
  unfold gd_look
  have h1 := gd_left_lt mix hm set hs
  have h2 := gd_twin_lt _ h1
  split
  · omega
  · split
    · omega
    · split
      · omega
      · split <;> omega
section
variable {E : pj_E} {B : Nat} {l : Launch} {h : pj_H} {n : Nat}
theorem c_X9_setOf (c : Nat) (hc : c ≤ 5) : pj_Ct E B l Y_X9_setOf 1 0 0 [.int (nI c)] h n (pj_is (some (.int (nI (gd_setOf c)))) h n) := by
  refine pj_in rfl (ls := [some (.int (nI c))]) rfl (Nat.le_of_ble_eq_true rfl) ?_
  refine pj_ild0 (q := 1) (pj_d p_X9_setOf 0 rfl) rfl ?_
  refine pj_if_lt (t := 15) (q := 4) (pj_d p_X9_setOf 1 rfl) rfl (by decide) (fun c1 => ?_) (fun c1 => ?_)
  · exact absurd c1 (nI_pos (by omega))
  refine pj_ild0 (q := 5) (pj_d p_X9_setOf 2 rfl) rfl ?_
  refine pj_iconst (q := 6) (v := nI 5) (pj_d p_X9_setOf 3 rfl) rfl (by decide) ?_
  refine pj_icmp_ge (t := 15) (q := 9) (pj_d p_X9_setOf 4 rfl) rfl (by decide) (fun c2 => ?_) (fun c2 => ?_)
  · have hc5 : ¬ c < 5 := by have := (nI_leI (by omega) (by omega)).mp c2; omega
    refine pj_iconst (q := 16) (v := nI 0) (pj_d p_X9_setOf 9 rfl) rfl (by decide) ?_
    refine pj_iret rfl (pj_d p_X9_setOf 10 rfl) (by decide) (by decide) ?_
    exact ⟨by simp only [gd_setOf, if_neg hc5], rfl, rfl⟩
  · have hc5 : c < 5 := by
      rcases Nat.lt_or_ge c 5 with q | q
      · exact q
      · exact absurd (nI_le q (by omega)) c2
    refine pj_iconst (q := 10) (v := nI 1) (pj_d p_X9_setOf 5 rfl) rfl (by decide) ?_
    refine pj_ild0 (q := 11) (pj_d p_X9_setOf 6 rfl) rfl ?_
    refine pj_ishl (q := 12) (pj_d p_X9_setOf 7 rfl) rfl ?_
    refine pj_goto (t := 16) (pj_d p_X9_setOf 8 rfl) (by decide) ?_
    refine pj_iret rfl (pj_d p_X9_setOf 10 rfl) (by decide) (by decide) ?_
    exact ⟨by rw [gd_setI c hc5, gd_setOf, if_pos hc5], rfl, rfl⟩
theorem c_X1_lookOf {a : Nat} (mx st : Nat) (hm : mx < 32) (hs : st < 32) : pj_Ct E B l Y_X1_lookOf 2 0 0 [.ref a, .int (nI mx), .int (nI st)] h n (pj_is (some (.int (nI (gd_left mx st)))) h n) := by
  refine pj_in rfl (ls := [some (.ref a), some (.int (nI mx)), some (.int (nI st))]) rfl (Nat.le_of_ble_eq_true rfl) ?_
  refine pj_ild1 (q := 1) (pj_d p_X1_lookOf 0 rfl) rfl ?_
  refine pj_ild2 (q := 2) (pj_d p_X1_lookOf 1 rfl) rfl ?_
  refine pj_iconst (q := 3) (v := (-1)) (pj_d p_X1_lookOf 2 rfl) rfl (by decide) ?_
  refine pj_ixor (q := 4) (pj_d p_X1_lookOf 3 rfl) rfl ?_
  refine pj_iand (q := 5) (pj_d p_X1_lookOf 4 rfl) rfl ?_
  rw [gd_leftI mx hm st hs]
  refine pj_iret rfl (pj_d p_X1_lookOf 5 rfl) (by decide) (by decide) ?_
  exact ⟨rfl, rfl, rfl⟩
theorem c_X10_lookOf {a : Nat} (mx st : Nat) (hm : mx < 32) (hs : st < 32) : pj_Ct E B l Y_X10_lookOf 2 0 0 [.ref a, .int (nI mx), .int (nI st)] h n (pj_is (some (.int (nI (gd_twin (gd_left mx st))))) h n) := by
  refine pj_in rfl (ls := [some (.ref a), some (.int (nI mx)), some (.int (nI st)), none, none]) rfl (Nat.le_of_ble_eq_true rfl) ?_
  refine pj_ild1 (q := 1) (pj_d p_X10_lookOf 0 rfl) rfl ?_
  refine pj_ild2 (q := 2) (pj_d p_X10_lookOf 1 rfl) rfl ?_
  refine pj_iconst (q := 3) (v := (-1)) (pj_d p_X10_lookOf 2 rfl) rfl (by decide) ?_
  refine pj_ixor (q := 4) (pj_d p_X10_lookOf 3 rfl) rfl ?_
  refine pj_iand (q := 5) (pj_d p_X10_lookOf 4 rfl) rfl ?_
  rw [gd_leftI mx hm st hs]
  have hx := gd_left_lt mx hm st hs
  generalize gd_left mx st = x at hx ⊢
  refine pj_ist3 (q := 6) (pj_d p_X10_lookOf 5 rfl) rfl rfl ?_
  refine pj_ild3 (q := 7) (pj_d p_X10_lookOf 6 rfl) rfl ?_
  refine pj_ild3 (q := 8) (pj_d p_X10_lookOf 7 rfl) rfl ?_
  refine pj_iconst (q := 9) (v := nI 1) (pj_d p_X10_lookOf 8 rfl) rfl (by decide) ?_
  refine pj_isub (q := 10) (pj_d p_X10_lookOf 9 rfl) rfl ?_
  refine pj_iand (q := 11) (pj_d p_X10_lookOf 10 rfl) rfl ?_
  rw [gd_twinI x hx]
  refine pj_ist4 (q := 13) (pj_d p_X10_lookOf 11 rfl) rfl rfl ?_
  refine pj_ild4 (q := 15) (pj_d p_X10_lookOf 12 rfl) rfl ?_
  have hy := gd_and_lt x hx
  refine pj_if_ne (t := 22) (q := 18) (pj_d p_X10_lookOf 13 rfl) rfl (by decide) (fun c1 => ?_) (fun c1 => ?_)
  · have hz : ¬ (x &&& (x - 1) = 0) := fun e => c1 (by rw [e]; rfl)
    refine pj_ild4 (q := 24) (pj_d p_X10_lookOf 16 rfl) rfl ?_
    refine pj_iret rfl (pj_d p_X10_lookOf 17 rfl) (by decide) (by decide) ?_
    exact ⟨by rw [gd_twin, if_neg hz], rfl, rfl⟩
  · have hz : x &&& (x - 1) = 0 := (nI_eq (by omega) (by omega)).mp (c1.trans nI_0.symm)
    refine pj_ild3 (q := 19) (pj_d p_X10_lookOf 14 rfl) rfl ?_
    refine pj_goto (t := 24) (pj_d p_X10_lookOf 15 rfl) (by decide) ?_
    refine pj_iret rfl (pj_d p_X10_lookOf 17 rfl) (by decide) (by decide) ?_
    exact ⟨by rw [gd_twin, if_pos hz], rfl, rfl⟩
theorem c_X4_lookOf {a : Nat} (mx : Nat) (st : Nat) : pj_Ct E B l Y_X4_lookOf 2 0 0 [.ref a, .int (nI mx), .int (nI st)] h n (pj_is (some (.int (nI mx))) h n) := by
  refine pj_in rfl (ls := [some (.ref a), some (.int (nI mx)), some (.int (nI st))]) rfl (Nat.le_of_ble_eq_true rfl) ?_
  refine pj_ild1 (q := 1) (pj_d p_X4_lookOf 0 rfl) rfl ?_
  refine pj_iret rfl (pj_d p_X4_lookOf 1 rfl) (by decide) (by decide) ?_
  exact ⟨rfl, rfl, rfl⟩
theorem c_X2_lookOf {a : Nat} (mx : Nat) (st : Nat) : pj_Ct E B l Y_X2_lookOf 2 0 0 [.ref a, .int (nI mx), .int (nI st)] h n (pj_is (some (.int (nI 0))) h n) := by
  refine pj_in rfl (ls := [some (.ref a), some (.int (nI mx)), some (.int (nI st))]) rfl (Nat.le_of_ble_eq_true rfl) ?_
  refine pj_iconst (q := 1) (v := nI 0) (pj_d p_X2_lookOf 0 rfl) rfl (by decide) ?_
  refine pj_iret rfl (pj_d p_X2_lookOf 1 rfl) (by decide) (by decide) ?_
  exact ⟨rfl, rfl, rfl⟩
theorem c_X8_shaped {a ci : Nat} {kd i sh mx : Nat} (ha : h a = some (.inr (gd_tc kd, [.int (nI i), .int (nI sh), .int (nI mx)]))) (hk : 1 ≤ kd ∧ kd ≤ 5) : pj_Ct E B l Y_X8_shaped 1 0 0 [.ref a] h n (pj_is (some (.int (nI sh))) h n) := by
  refine pj_in rfl (ls := [some (.ref a)]) rfl (Nat.le_of_ble_eq_true rfl) ?_
  rcases gd_kd hk.1 hk.2 with rfl | rfl | rfl | rfl | rfl
  · refine pj_ald0 (q := 1) (pj_d p_X8_shaped 0 rfl) rfl ?_
    refine pj_gf (q := 4) (k := 1) (pj_d p_X8_shaped 1 rfl) rfl kX8_16 (by assumption) (by rfl) (by rfl) ?_
    refine pj_iret rfl (pj_d p_X8_shaped 2 rfl) (by decide) (by decide) ?_
    exact ⟨rfl, rfl, rfl⟩
  · refine pj_ald0 (q := 1) (pj_d p_X8_shaped 0 rfl) rfl ?_
    refine pj_gf (q := 4) (k := 1) (pj_d p_X8_shaped 1 rfl) rfl kX8_16 (by assumption) (by rfl) (by rfl) ?_
    refine pj_iret rfl (pj_d p_X8_shaped 2 rfl) (by decide) (by decide) ?_
    exact ⟨rfl, rfl, rfl⟩
  · refine pj_ald0 (q := 1) (pj_d p_X8_shaped 0 rfl) rfl ?_
    refine pj_gf (q := 4) (k := 1) (pj_d p_X8_shaped 1 rfl) rfl kX8_16 (by assumption) (by rfl) (by rfl) ?_
    refine pj_iret rfl (pj_d p_X8_shaped 2 rfl) (by decide) (by decide) ?_
    exact ⟨rfl, rfl, rfl⟩
  · refine pj_ald0 (q := 1) (pj_d p_X8_shaped 0 rfl) rfl ?_
    refine pj_gf (q := 4) (k := 1) (pj_d p_X8_shaped 1 rfl) rfl kX8_16 (by assumption) (by rfl) (by rfl) ?_
    refine pj_iret rfl (pj_d p_X8_shaped 2 rfl) (by decide) (by decide) ?_
    exact ⟨rfl, rfl, rfl⟩
  · refine pj_ald0 (q := 1) (pj_d p_X8_shaped 0 rfl) rfl ?_
    refine pj_gf (q := 4) (k := 1) (pj_d p_X8_shaped 1 rfl) rfl kX8_16 (by assumption) (by rfl) (by rfl) ?_
    refine pj_iret rfl (pj_d p_X8_shaped 2 rfl) (by decide) (by decide) ?_
    exact ⟨rfl, rfl, rfl⟩
theorem c_X8_mixed {a : Nat} {kd i sh mx : Nat} (ha : h a = some (.inr (gd_tc kd, [.int (nI i), .int (nI sh), .int (nI mx)]))) (hk : 1 ≤ kd ∧ kd ≤ 5) : pj_Ct E B l Y_X8_mixed 1 0 0 [.ref a] h n (pj_is (some (.int (nI mx))) h n) := by
  refine pj_in rfl (ls := [some (.ref a)]) rfl (Nat.le_of_ble_eq_true rfl) ?_
  have hF : pj_fld (gd_tc kd) 2 = some ("GreyDays$Thing", "mix", "I", false) := by rcases gd_kd hk.1 hk.2 with rfl | rfl | rfl | rfl | rfl <;> rfl
  refine pj_ald0 (q := 1) (pj_d p_X8_mixed 0 rfl) rfl ?_
  refine pj_gf (q := 4) (k := 2) (pj_d p_X8_mixed 1 rfl) rfl kX8_13 ha hF rfl ?_
  refine pj_iret rfl (pj_d p_X8_mixed 2 rfl) (by decide) (by decide) ?_
  exact ⟨rfl, rfl, rfl⟩
theorem c_X6_lookOf {a i sh mx0 : Nat} (ha : h a = some (.inr (gd_tc 3, [.int (nI i), .int (nI sh), .int (nI mx0)]))) (mx st : Nat) (hm : mx < 32) (hs : st < 32) : pj_Ct E B l Y_X6_lookOf 2 0 0 [.ref a, .int (nI mx), .int (nI st)] h n (pj_is (some (.int (nI (gd_left mx st + 32 * (1 + sh))))) h n) := by
  refine pj_in rfl (ls := [some (.ref a), some (.int (nI mx)), some (.int (nI st))]) rfl (Nat.le_of_ble_eq_true rfl) ?_
  refine pj_ild1 (q := 1) (pj_d p_X6_lookOf 0 rfl) rfl ?_
  refine pj_ild2 (q := 2) (pj_d p_X6_lookOf 1 rfl) rfl ?_
  refine pj_iconst (q := 3) (v := (-1)) (pj_d p_X6_lookOf 2 rfl) rfl (by decide) ?_
  refine pj_ixor (q := 4) (pj_d p_X6_lookOf 3 rfl) rfl ?_
  refine pj_iand (q := 5) (pj_d p_X6_lookOf 4 rfl) rfl ?_
  rw [gd_leftI mx hm st hs]
  refine pj_bipush (q := 7) (v := nI 32) (pj_d p_X6_lookOf 5 rfl) rfl (by decide) ?_
  refine pj_iconst (q := 8) (v := nI 1) (pj_d p_X6_lookOf 6 rfl) rfl (by decide) ?_
  refine pj_ald0 (q := 9) (pj_d p_X6_lookOf 7 rfl) rfl ?_
  refine pj_cp (pj_rU (q := 12) (r := (RX6, TX6, 3)) (c_X8_shaped (ci := 0) ha (by omega)) (pj_d p_X6_lookOf 8 rfl) rfl uX6_9_X6 ha rfl rfl rfl (Nat.le_of_ble_eq_true rfl) (by decide)) (by decide) (by decide) ?_
  refine pj_iadd (q := 13) (pj_d p_X6_lookOf 9 rfl) rfl ?_
  refine pj_imul (q := 14) (pj_d p_X6_lookOf 10 rfl) rfl ?_
  refine pj_iadd (q := 15) (pj_d p_X6_lookOf 11 rfl) rfl ?_
  rw [nI_add, pk_mul, nI_add]
  refine pj_iret rfl (pj_d p_X6_lookOf 12 rfl) (by decide) (by decide) ?_
  exact ⟨rfl, rfl, rfl⟩
theorem c_lookOf {a kd i sh mx0 : Nat} (hk : 1 ≤ kd ∧ kd ≤ 5) (ha : h a = some (.inr (gd_tc kd, [.int (nI i), .int (nI sh), .int (nI mx0)]))) (mx st : Nat) (hm : mx < 32) (hs : st < 32) : pj_Ct E B l (gd_Y_lookOf kd) 2 0 0 [.ref a, .int (nI mx), .int (nI st)] h n (pj_is (some (.int (nI (gd_look kd mx sh st)))) h n) := by
  rcases gd_kd hk.1 hk.2 with rfl | rfl | rfl | rfl | rfl
  · exact c_X1_lookOf mx st hm hs
  · exact c_X10_lookOf mx st hm hs
  · exact c_X6_lookOf ha mx st hm hs
  · exact c_X4_lookOf mx st
  · exact c_X2_lookOf mx st
theorem c_X8_lookWithout {a kd i sh mx : Nat} (hk : 1 ≤ kd ∧ kd ≤ 5) (ha : h a = some (.inr (gd_tc kd, [.int (nI i), .int (nI sh), .int (nI mx)]))) (st : Nat) (hm : mx < 32) (hs : st < 32) : pj_Ct E B l Y_X8_lookWithout 3 0 0 [.ref a, .int (nI st)] h n (pj_is (some (.int (nI (gd_look kd mx sh st)))) h n) := by
  refine pj_in rfl (ls := [some (.ref a), some (.int (nI st))]) rfl (Nat.le_of_ble_eq_true rfl) ?_
  have hF : pj_fld (gd_tc kd) 2 = some ("GreyDays$Thing", "mix", "I", false) := by rcases gd_kd hk.1 hk.2 with rfl | rfl | rfl | rfl | rfl <;> rfl
  refine pj_ald0 (q := 1) (pj_d p_X8_lookWithout 0 rfl) rfl ?_
  refine pj_ald0 (q := 2) (pj_d p_X8_lookWithout 1 rfl) rfl ?_
  refine pj_gf (q := 5) (k := 2) (pj_d p_X8_lookWithout 2 rfl) rfl kX8_13 ha hF rfl ?_
  refine pj_ild1 (q := 6) (pj_d p_X8_lookWithout 3 rfl) rfl ?_
  refine pj_cp (vX8_21 (q := 9) rfl ha hk (c_lookOf hk ha mx st hm hs) (pj_d p_X8_lookWithout 4 rfl) rfl rfl rfl (Nat.le_of_ble_eq_true rfl) (by decide)) (by decide) (by decide) ?_
  refine pj_iret rfl (pj_d p_X8_lookWithout 5 rfl) (by decide) (by decide) ?_
  exact ⟨rfl, rfl, rfl⟩
end
end
section
/-! ===== the town: what its cells are; what is read of it ===== -/
def gd_b (b : Bool) : Int32 := if b then nI 1 else nI 0
theorem gd_b_z (b : Bool) : gd_b b = 0 ↔ b = false := by cases b <;> decide
theorem gd_b_n (b : Bool) : ¬ gd_b b = 0 ↔ b = true := by cases b <;> decide
theorem gd_b_nar (b : Bool) : narrow .boolean (.int (gd_b b)) = .int (gd_b b) := by cases b <;> rfl
def gd_sm (f : Nat → Nat) : Nat → Nat
  | 0 => 0
  | i + 1 => gd_sm f i + f i
theorem gd_sm_cong {f g : Nat → Nat} : ∀ {i : Nat}, (∀ j, j < i → f j = g j) → gd_sm f i = gd_sm g i
  | 0, _ => rfl
  | i + 1, h => by rw [gd_sm, gd_sm, gd_sm_cong (fun j hj => h j (by omega)), h i (by omega)]
theorem gd_sm_le {f : Nat → Nat} {c : Nat} : ∀ {i : Nat}, (∀ j, j < i → f j ≤ c) → gd_sm f i ≤ i * c
  | 0, _ => Nat.zero_le _
  | i + 1, h => by
    have h1 := gd_sm_le (i := i) (fun j hj => h j (by omega))
    have h2 := h i (by omega)
    rw [gd_sm, Nat.succ_mul]
    omega
def gd_T (h : pj_H) (k : Nat) (τ : Nat → Nat) (ac : Nat) : Prop :=
  h k = some (.inr (8, [.ref (k + 1), .ref (k + 2), .int (nI (τ 1)), .ref (k + 3), .ref (k + 4), .ref (k + 5), .int (nI (τ 2)), .int (nI (τ 3)), .ref (k + 6), .ref (k + 7), .ref (k + 8), .int (nI ac)])) ∧
  (∃ f, h (k + 1) = some (.inl (0, 7, .inl f)) ∧ ∀ j, j < 7 → f j = nI (τ (4 + j))) ∧
  (∃ f, h (k + 2) = some (.inl (2, 7, .inr (.inr (.inr (.inr f))))) ∧ ∀ i, i < τ 1 → f i = some (k + 9 + i)) ∧
  (∀ i, i < τ 1 → h (k + 9 + i) = some (.inr (gd_tc (τ (11 + 3 * i)), [.int (nI i), .int (nI (τ (13 + 3 * i))), .int (nI (τ (12 + 3 * i)))]))) ∧
  (∃ f, h (k + 3) = some (.inl (0, 8, .inl f)) ∧ ∀ j, j < τ 2 → f j = nI (τ (32 + 3 * j))) ∧
  (∃ f, h (k + 4) = some (.inl (0, 8, .inl f)) ∧ ∀ j, j < τ 2 → f j = nI (τ (33 + 3 * j))) ∧
  (∃ f, h (k + 5) = some (.inl (0, 8, .inl f)) ∧ ∀ j, j < τ 2 → f j = nI (τ (34 + 3 * j)))
/-- what holds of the numbers of a town, told or being told -/
def gd_W (τ : Nat → Nat) : Prop :=
  τ 1 ≤ 7 ∧ τ 2 ≤ 8 ∧ τ 3 ≤ 999 ∧ (∀ j, j < 7 → τ (4 + j) ≤ 5) ∧ (∀ i, i < τ 1 → (1 ≤ τ (11 + 3 * i) ∧ τ (11 + 3 * i) ≤ 5) ∧ τ (12 + 3 * i) < 32 ∧ τ (13 + 3 * i) < 4) ∧
  (∀ j, j < τ 2 → τ (32 + 3 * j) < τ 1 ∧ τ (33 + 3 * j) < τ 1 ∧ τ (32 + 3 * j) ≠ τ (33 + 3 * j) ∧ 1 ≤ τ (34 + 3 * j) ∧ τ (34 + 3 * j) ≤ 20) ∧
  (∀ i j, i < j → j < τ 2 → ¬ (τ (32 + 3 * i) = τ (32 + 3 * j) ∧ τ (33 + 3 * i) = τ (33 + 3 * j)) ∧ ¬ (τ (32 + 3 * i) = τ (33 + 3 * j) ∧ τ (33 + 3 * i) = τ (32 + 3 * j)))
def gd_has (τ : Nat → Nat) (i : Int32) : Bool := decide (0 ≤ i.toInt ∧ i.toInt < (τ 1 : Int))
def gd_lk (τ : Nat → Nat) (i st : Nat) : Nat := gd_look (τ (11 + 3 * i)) (τ (12 + 3 * i)) (τ (13 + 3 * i)) st
def gd_miss (τ : Nat → Nat) (d : Nat) : Nat := gd_setOf (τ (4 + (τ 3 + d) % 7))
def gd_hf (τ : Nat → Nat) (st j : Nat) : Nat := if gd_lk τ (τ (32 + 3 * j)) st = gd_lk τ (τ (33 + 3 * j)) st then τ (34 + 3 * j) else 0
def gd_harm (τ : Nat → Nat) (st : Nat) : Nat := gd_sm (gd_hf τ st) (τ 2)
def gd_of (τ : Nat → Nat) (a j : Nat) : Bool := decide (τ (32 + 3 * j) = a) || decide (τ (33 + 3 * j) = a)
def gd_pairF (τ : Nat → Nat) (a b : Nat) : Nat → Nat → Nat
  | 0, _ => 0
  | m + 1, j => if gd_of τ a j && gd_of τ b j then τ (34 + 3 * j) else gd_pairF τ a b m (j + 1)
def gd_pair (τ : Nat → Nat) (a b : Nat) : Nat := gd_pairF τ a b (τ 2) 0
def gd_with (τ : Nat → Nat) (a : Nat) : Nat := gd_sm (fun j => if gd_of τ a j then τ (34 + 3 * j) else 0) (τ 2)
theorem gd_miss_lt {τ : Nat → Nat} (hW : gd_W τ) (d : Nat) : gd_miss τ d < 32 := gd_setOf_lt _ (hW.2.2.2.1 _ (Nat.mod_lt _ (by omega)))
theorem gd_lk_lt {τ : Nat → Nat} (hW : gd_W τ) {i st : Nat} (hi : i < τ 1) (hs : st < 32) : gd_lk τ i st < 160 := by
  obtain ⟨-, h2, h3⟩ := hW.2.2.2.2.1 i hi
  exact gd_look_lt h2 hs h3
theorem gd_has_iff {τ : Nat → Nat} (hW : τ 1 ≤ 7) {i : Int32} : gd_has τ i = true ↔ ∃ j, j < τ 1 ∧ i = nI j := by
  unfold gd_has
  rw [decide_eq_true_eq]
  constructor
  · rintro ⟨h1, h2⟩
    have h0 : ¬ i < 0 := by rw [Int32.lt_iff_toInt_lt]; simp; omega
    obtain ⟨j, hj, rfl⟩ := nI_of h0
    rw [nI_toInt hj] at h2
    exact ⟨j, by omega, rfl⟩
  · rintro ⟨j, hj, rfl⟩
    rw [nI_toInt (by omega)]
    omega
section
variable {E : pj_E} {B : Nat} {l : Launch} {h : pj_H} {n k ac : Nat} {τ : Nat → Nat}
theorem c_X9_thingCount (hT : gd_T h k τ ac) : pj_Ct E B l Y_X9_thingCount 1 0 0 [.ref k] h n (pj_is (some (.int (nI (τ 1)))) h n) := by
  have h0 := hT.1
  refine pj_in rfl (ls := [some (.ref k)]) rfl (Nat.le_of_ble_eq_true rfl) ?_
  refine pj_ald0 (q := 1) (pj_d p_X9_thingCount 0 rfl) rfl ?_
  refine pj_gf (q := 4) (k := 2) (pj_d p_X9_thingCount 1 rfl) rfl kX9_38 (by assumption) (by rfl) (by rfl) ?_
  refine pj_iret rfl (pj_d p_X9_thingCount 2 rfl) (by decide) (by decide) ?_
  exact ⟨rfl, rfl, rfl⟩
theorem c_X9_pairCount (hT : gd_T h k τ ac) : pj_Ct E B l Y_X9_pairCount 1 0 0 [.ref k] h n (pj_is (some (.int (nI (τ 2)))) h n) := by
  have h0 := hT.1
  refine pj_in rfl (ls := [some (.ref k)]) rfl (Nat.le_of_ble_eq_true rfl) ?_
  refine pj_ald0 (q := 1) (pj_d p_X9_pairCount 0 rfl) rfl ?_
  refine pj_gf (q := 4) (k := 6) (pj_d p_X9_pairCount 1 rfl) rfl kX9_56 (by assumption) (by rfl) (by rfl) ?_
  refine pj_iret rfl (pj_d p_X9_pairCount 2 rfl) (by decide) (by decide) ?_
  exact ⟨rfl, rfl, rfl⟩
theorem c_X9_actCount (hT : gd_T h k τ ac) : pj_Ct E B l Y_X9_actCount 1 0 0 [.ref k] h n (pj_is (some (.int (nI ac))) h n) := by
  have h0 := hT.1
  refine pj_in rfl (ls := [some (.ref k)]) rfl (Nat.le_of_ble_eq_true rfl) ?_
  refine pj_ald0 (q := 1) (pj_d p_X9_actCount 0 rfl) rfl ?_
  refine pj_gf (q := 4) (k := 11) (pj_d p_X9_actCount 1 rfl) rfl kX9_85 (by assumption) (by rfl) (by rfl) ?_
  refine pj_iret rfl (pj_d p_X9_actCount 2 rfl) (by decide) (by decide) ?_
  exact ⟨rfl, rfl, rfl⟩
theorem c_X9_today (hT : gd_T h k τ ac) : pj_Ct E B l Y_X9_today 1 0 0 [.ref k] h n (pj_is (some (.int (nI (τ 3)))) h n) := by
  have h0 := hT.1
  refine pj_in rfl (ls := [some (.ref k)]) rfl (Nat.le_of_ble_eq_true rfl) ?_
  refine pj_ald0 (q := 1) (pj_d p_X9_today 0 rfl) rfl ?_
  refine pj_gf (q := 4) (k := 7) (pj_d p_X9_today 1 rfl) rfl kX9_62 (by assumption) (by rfl) (by rfl) ?_
  refine pj_iret rfl (pj_d p_X9_today 2 rfl) (by decide) (by decide) ?_
  exact ⟨rfl, rfl, rfl⟩
theorem c_X9_hasThing (hT : gd_T h k τ ac) (hW : τ 1 ≤ 7) (i : Int32) : pj_Ct E B l Y_X9_hasThing 1 0 0 [.ref k, .int i] h n (pj_is (some (.int (gd_b (gd_has τ i)))) h n) := by
  have h0 := hT.1
  refine pj_in rfl (ls := [some (.ref k), some (.int i)]) rfl (Nat.le_of_ble_eq_true rfl) ?_
  refine pj_ild1 (q := 1) (pj_d p_X9_hasThing 0 rfl) rfl ?_
  have no : ¬ gd_has τ i = true → pj_V E B l Y_X9_hasThing 1 0 0 16 [some (.ref k), some (.int i)] [] h n 0 0 (pj_is (some (.int (gd_b (gd_has τ i)))) h n) := by
    intro hn
    refine pj_iconst (q := 17) (v := nI 0) (pj_d p_X9_hasThing 8 rfl) rfl (by decide) ?_
    refine pj_zret rfl (by first | rfl | decide | (split <;> rfl)) (pj_d p_X9_hasThing 9 rfl) (by decide) (by decide) ?_
    exact ⟨by rw [Bool.eq_false_iff.mpr hn]; rfl, rfl, rfl⟩
  refine pj_if_lt (t := 16) (q := 4) (pj_d p_X9_hasThing 1 rfl) rfl (by decide) (fun c1 => ?_) (fun c1 => ?_)
  · exact no (fun hh => by obtain ⟨j, hj, rfl⟩ := (gd_has_iff hW).mp hh; exact nI_pos (by omega) c1)
  refine pj_ild1 (q := 5) (pj_d p_X9_hasThing 2 rfl) rfl ?_
  refine pj_ald0 (q := 6) (pj_d p_X9_hasThing 3 rfl) rfl ?_
  refine pj_gf (q := 9) (k := 2) (pj_d p_X9_hasThing 4 rfl) rfl kX9_38 (by assumption) (by rfl) (by rfl) ?_
  refine pj_icmp_ge (t := 16) (q := 12) (pj_d p_X9_hasThing 5 rfl) rfl (by decide) (fun c2 => ?_) (fun c2 => ?_)
  · exact no (fun hh => by obtain ⟨j, hj, rfl⟩ := (gd_has_iff hW).mp hh; have := (nI_leI (by omega) (by omega)).mp c2; omega)
  · have hh : gd_has τ i = true := by
      obtain ⟨j, hj, rfl⟩ := nI_of c1
      exact (gd_has_iff hW).mpr ⟨j, by
        rcases Nat.lt_or_ge j (τ 1) with q | q
        · exact q
        · exact absurd (nI_le q hj) c2, rfl⟩
    refine pj_iconst (q := 13) (v := nI 1) (pj_d p_X9_hasThing 6 rfl) rfl (by decide) ?_
    refine pj_goto (t := 17) (pj_d p_X9_hasThing 7 rfl) (by decide) ?_
    refine pj_zret rfl (by first | rfl | decide | (split <;> rfl)) (pj_d p_X9_hasThing 9 rfl) (by decide) (by decide) ?_
    exact ⟨by rw [hh]; rfl, rfl, rfl⟩
theorem c_X9_thingAt (hT : gd_T h k τ ac) (hW : τ 1 ≤ 7) {i : Nat} (hi : i < τ 1) : pj_Ct E B l Y_X9_thingAt 1 0 0 [.ref k, .int (nI i)] h n (pj_is (some (.ref (k + 9 + i))) h n) := by
  have h0 := hT.1
  obtain ⟨f, h2, hf⟩ := hT.2.2.1
  refine pj_in rfl (ls := [some (.ref k), some (.int (nI i))]) rfl (Nat.le_of_ble_eq_true rfl) ?_
  refine pj_ald0 (q := 1) (pj_d p_X9_thingAt 0 rfl) rfl ?_
  refine pj_gf (q := 4) (k := 1) (pj_d p_X9_thingAt 1 rfl) rfl kX9_15 (by assumption) (by rfl) (by rfl) ?_
  refine pj_ild1 (q := 5) (pj_d p_X9_thingAt 2 rfl) rfl ?_
  refine pj_aald (t := 2) (q := 6) rfl rfl (pj_d p_X9_thingAt 3 rfl) rfl h2 rfl (by omega) (Nat.le_of_ble_eq_true rfl) ?_
  rw [hf i hi]
  refine pj_aret rfl (pj_d p_X9_thingAt 4 rfl) (by decide) (by decide) ?_
  exact ⟨rfl, rfl, rfl⟩
theorem c_X9_colourOn (hT : gd_T h k τ ac) {j : Nat} (hj : j < 7) : pj_Ct E B l Y_X9_colourOn 1 0 0 [.ref k, .int (nI j)] h n (pj_is (some (.int (nI (τ (4 + j))))) h n) := by
  have h0 := hT.1
  obtain ⟨f, h1, hf⟩ := hT.2.1
  refine pj_in rfl (ls := [some (.ref k), some (.int (nI j))]) rfl (Nat.le_of_ble_eq_true rfl) ?_
  refine pj_ild1 (q := 1) (pj_d p_X9_colourOn 0 rfl) rfl ?_
  refine pj_if_lt (t := 19) (q := 4) (pj_d p_X9_colourOn 1 rfl) rfl (by decide) (fun c1 => ?_) (fun c1 => ?_)
  · exact absurd c1 (nI_pos (by omega))
  refine pj_ild1 (q := 5) (pj_d p_X9_colourOn 2 rfl) rfl ?_
  refine pj_bipush (q := 7) (v := nI 7) (pj_d p_X9_colourOn 3 rfl) rfl (by decide) ?_
  refine pj_icmp_ge (t := 19) (q := 10) (pj_d p_X9_colourOn 4 rfl) rfl (by decide) (fun c2 => ?_) (fun c2 => ?_)
  · exact absurd ((nI_leI (by omega) (by omega)).mp c2) (by omega)
  refine pj_ald0 (q := 11) (pj_d p_X9_colourOn 5 rfl) rfl ?_
  refine pj_gf (q := 14) (k := 0) (pj_d p_X9_colourOn 6 rfl) rfl kX9_9 (by assumption) (by rfl) (by rfl) ?_
  refine pj_ild1 (q := 15) (pj_d p_X9_colourOn 7 rfl) rfl ?_
  refine pj_ialdN (q := 16) (pj_d p_X9_colourOn 8 rfl) rfl (by assumption) (by rfl) (by first | assumption | omega) (Nat.le_of_ble_eq_true rfl) ?_
  refine pj_goto (t := 20) (pj_d p_X9_colourOn 9 rfl) (by decide) ?_
  rw [hf j hj]
  refine pj_iret rfl (pj_d p_X9_colourOn 11 rfl) (by decide) (by decide) ?_
  exact ⟨rfl, rfl, rfl⟩
theorem c_X9_missingOn (hT : gd_T h k τ ac) (hW : gd_W τ) {j : Nat} (hj : j < 7) : pj_Ct E B l Y_X9_missingOn 2 0 0 [.ref k, .int (nI j)] h n (pj_is (some (.int (nI (gd_setOf (τ (4 + j)))))) h n) := by
  have h0 := hT.1
  obtain ⟨f, h1, hf⟩ := hT.2.1
  refine pj_in rfl (ls := [some (.ref k), some (.int (nI j))]) rfl (Nat.le_of_ble_eq_true rfl) ?_
  refine pj_ild1 (q := 1) (pj_d p_X9_missingOn 0 rfl) rfl ?_
  refine pj_if_lt (t := 22) (q := 4) (pj_d p_X9_missingOn 1 rfl) rfl (by decide) (fun c1 => ?_) (fun c1 => ?_)
  · exact absurd c1 (nI_pos (by omega))
  refine pj_ild1 (q := 5) (pj_d p_X9_missingOn 2 rfl) rfl ?_
  refine pj_bipush (q := 7) (v := nI 7) (pj_d p_X9_missingOn 3 rfl) rfl (by decide) ?_
  refine pj_icmp_ge (t := 22) (q := 10) (pj_d p_X9_missingOn 4 rfl) rfl (by decide) (fun c2 => ?_) (fun c2 => ?_)
  · exact absurd ((nI_leI (by omega) (by omega)).mp c2) (by omega)
  refine pj_ald0 (q := 11) (pj_d p_X9_missingOn 5 rfl) rfl ?_
  refine pj_gf (q := 14) (k := 0) (pj_d p_X9_missingOn 6 rfl) rfl kX9_9 (by assumption) (by rfl) (by rfl) ?_
  refine pj_ild1 (q := 15) (pj_d p_X9_missingOn 7 rfl) rfl ?_
  refine pj_ialdN (q := 16) (pj_d p_X9_missingOn 8 rfl) rfl (by assumption) (by rfl) (by first | assumption | omega) (Nat.le_of_ble_eq_true rfl) ?_
  rw [hf j hj]
  refine pj_cp (pj_rS (q := 19) (c_X9_setOf (τ (4 + j)) (hW.2.2.2.1 j hj)) (pj_d p_X9_missingOn 9 rfl) rfl kX9_92 o_X9_setOf (by rfl) (by rfl) (Nat.le_of_ble_eq_true rfl) (by decide)) (by decide) (by decide) ?_
  refine pj_goto (t := 23) (pj_d p_X9_missingOn 10 rfl) (by decide) ?_
  refine pj_iret rfl (pj_d p_X9_missingOn 12 rfl) (by decide) (by decide) ?_
  exact ⟨rfl, rfl, rfl⟩
theorem gd_rem7 {a : Nat} (ha : a < 2 ^ 31) : nI a - nI a / nI 7 * nI 7 = nI (a % 7) := pk_rem ha (by omega) (by omega)
theorem c_X9_missingIn (hT : gd_T h k τ ac) (hW : gd_W τ) {d : Nat} (hd : d ≤ 1000) : pj_Ct E B l Y_X9_missingIn 3 0 0 [.ref k, .int (nI d)] h n (pj_is (some (.int (nI (gd_miss τ d)))) h n) := by
  have h0 := hT.1
  refine pj_in rfl (ls := [some (.ref k), some (.int (nI d))]) rfl (Nat.le_of_ble_eq_true rfl) ?_
  refine pj_ald0 (q := 1) (pj_d p_X9_missingIn 0 rfl) rfl ?_
  refine pj_ald0 (q := 2) (pj_d p_X9_missingIn 1 rfl) rfl ?_
  refine pj_gf (q := 5) (k := 7) (pj_d p_X9_missingIn 2 rfl) rfl kX9_62 (by assumption) (by rfl) (by rfl) ?_
  refine pj_ild1 (q := 6) (pj_d p_X9_missingIn 3 rfl) rfl ?_
  refine pj_iadd (q := 7) (pj_d p_X9_missingIn 4 rfl) rfl ?_
  refine pj_bipush (q := 9) (v := nI 7) (pj_d p_X9_missingIn 5 rfl) rfl (by decide) ?_
  refine pj_irem (q := 10) (pj_d p_X9_missingIn 6 rfl) rfl (by decide) ?_
  have h3 := hW.2.2.1
  rw [nI_add, gd_rem7 (by omega)]
  refine pj_cp (pj_rV (q := 13) (c_X9_missingOn hT hW (j := (τ 3 + d) % 7) (Nat.mod_lt _ (by omega))) (pj_d p_X9_missingIn 7 rfl) rfl kX9_88 o_X9_missingOn (by assumption) (by rfl) (by rfl) (by rfl) (by rfl) (Nat.le_of_ble_eq_true rfl) (by decide)) (by decide) (by decide) ?_
  refine pj_iret rfl (pj_d p_X9_missingIn 8 rfl) (by decide) (by decide) ?_
  exact ⟨rfl, rfl, rfl⟩
end
end
section
/-! ===== the town: who looks alike, harm ===== -/
section
variable {E : pj_E} {B : Nat} {l : Launch} {h : pj_H} {n k ac : Nat} {τ : Nat → Nat}
theorem c_lw (hT : gd_T h k τ ac) (hW : gd_W τ) {i st : Nat} (hi : i < τ 1) (hs : st < 32) : pj_Ct E B l Y_X8_lookWithout 3 0 0 [.ref (k + 9 + i), .int (nI st)] h n (pj_is (some (.int (nI (gd_lk τ i st)))) h n) := by
  obtain ⟨g1, g2, g3⟩ := hW.2.2.2.2.1 i hi
  exact c_X8_lookWithout g1 (hT.2.2.2.1 i hi) st g2 hs
theorem c_X9_areAlike (hT : gd_T h k τ ac) (hW : gd_W τ) {a b st : Nat} (ha : a < τ 1) (hb : b < τ 1) (hs : st < 32) : pj_Ct E B l Y_X9_areAlike 4 0 0 [.ref k, .int (nI a), .int (nI b), .int (nI st)] h n (pj_is (some (.int (gd_b (decide (gd_lk τ a st = gd_lk τ b st))))) h n) := by
  have h0 := hT.1
  obtain ⟨f, h2, hf⟩ := hT.2.2.1
  have h7 := hW.1
  have ea : gd_has τ (nI a) = true := (gd_has_iff h7).mpr ⟨a, ha, rfl⟩
  have eb : gd_has τ (nI b) = true := (gd_has_iff h7).mpr ⟨b, hb, rfl⟩
  obtain ⟨ka, -⟩ := hW.2.2.2.2.1 a ha
  obtain ⟨kb, -⟩ := hW.2.2.2.2.1 b hb
  refine pj_in rfl (ls := [some (.ref k), some (.int (nI a)), some (.int (nI b)), some (.int (nI st))]) rfl (Nat.le_of_ble_eq_true rfl) ?_
  refine pj_ald0 (q := 1) (pj_d p_X9_areAlike 0 rfl) rfl ?_
  refine pj_ild1 (q := 2) (pj_d p_X9_areAlike 1 rfl) rfl ?_
  refine pj_cp (pj_rV (q := 5) (c_X9_hasThing hT h7 (nI a)) (pj_d p_X9_areAlike 2 rfl) rfl kX9_95 o_X9_hasThing (by assumption) (by rfl) (by rfl) (by rfl) (by rfl) (Nat.le_of_ble_eq_true rfl) (by decide)) (by decide) (by decide) ?_
  refine pj_if_eq (t := 43) (q := 8) (pj_d p_X9_areAlike 3 rfl) rfl (by decide) (fun c1 => ?_) (fun c1 => ?_)
  · exact absurd ((gd_b_z _).mp c1) (by rw [ea]; decide)
  refine pj_ald0 (q := 9) (pj_d p_X9_areAlike 4 rfl) rfl ?_
  refine pj_ild2 (q := 10) (pj_d p_X9_areAlike 5 rfl) rfl ?_
  refine pj_cp (pj_rV (q := 13) (c_X9_hasThing hT h7 (nI b)) (pj_d p_X9_areAlike 6 rfl) rfl kX9_95 o_X9_hasThing (by assumption) (by rfl) (by rfl) (by rfl) (by rfl) (Nat.le_of_ble_eq_true rfl) (by decide)) (by decide) (by decide) ?_
  refine pj_if_eq (t := 43) (q := 16) (pj_d p_X9_areAlike 7 rfl) rfl (by decide) (fun c2 => ?_) (fun c2 => ?_)
  · exact absurd ((gd_b_z _).mp c2) (by rw [eb]; decide)
  refine pj_ald0 (q := 17) (pj_d p_X9_areAlike 8 rfl) rfl ?_
  refine pj_gf (q := 20) (k := 1) (pj_d p_X9_areAlike 9 rfl) rfl kX9_15 (by assumption) (by rfl) (by rfl) ?_
  refine pj_ild1 (q := 21) (pj_d p_X9_areAlike 10 rfl) rfl ?_
  refine pj_aald (t := 2) (q := 22) rfl rfl (pj_d p_X9_areAlike 11 rfl) rfl h2 rfl (by omega) (Nat.le_of_ble_eq_true rfl) ?_
  rw [hf a ha]
  refine pj_ild3 (q := 23) (pj_d p_X9_areAlike 12 rfl) rfl ?_
  refine pj_cp (vX9_99 (q := 26) rfl (hT.2.2.2.1 a ha) ka (c_lw hT hW ha hs) (pj_d p_X9_areAlike 13 rfl) rfl rfl rfl (Nat.le_of_ble_eq_true rfl) (by decide)) (by decide) (by decide) ?_
  refine pj_ald0 (q := 27) (pj_d p_X9_areAlike 14 rfl) rfl ?_
  refine pj_gf (q := 30) (k := 1) (pj_d p_X9_areAlike 15 rfl) rfl kX9_15 (by assumption) (by rfl) (by rfl) ?_
  refine pj_ild2 (q := 31) (pj_d p_X9_areAlike 16 rfl) rfl ?_
  refine pj_aald (t := 2) (q := 32) rfl rfl (pj_d p_X9_areAlike 17 rfl) rfl h2 rfl (by omega) (Nat.le_of_ble_eq_true rfl) ?_
  rw [hf b hb]
  refine pj_ild3 (q := 33) (pj_d p_X9_areAlike 18 rfl) rfl ?_
  refine pj_cp (vX9_99 (q := 36) rfl (hT.2.2.2.1 b hb) kb (c_lw hT hW hb hs) (pj_d p_X9_areAlike 19 rfl) rfl rfl rfl (Nat.le_of_ble_eq_true rfl) (by decide)) (by decide) (by decide) ?_
  have la := gd_lk_lt hW ha hs
  have lb := gd_lk_lt hW hb hs
  refine pj_icmp_ne (t := 43) (q := 39) (pj_d p_X9_areAlike 20 rfl) rfl (by decide) (fun c3 => ?_) (fun c3 => ?_)
  · have hne : ¬ gd_lk τ a st = gd_lk τ b st := fun q => c3 (by rw [q])
    refine pj_iconst (q := 44) (v := nI 0) (pj_d p_X9_areAlike 23 rfl) rfl (by decide) ?_
    refine pj_zret rfl (by first | rfl | decide | (split <;> rfl)) (pj_d p_X9_areAlike 24 rfl) (by decide) (by decide) ?_
    exact ⟨by rw [decide_eq_false hne]; rfl, rfl, rfl⟩
  · have heq : gd_lk τ a st = gd_lk τ b st := (nI_eq (by omega) (by omega)).mp c3
    refine pj_iconst (q := 40) (v := nI 1) (pj_d p_X9_areAlike 21 rfl) rfl (by decide) ?_
    refine pj_goto (t := 44) (pj_d p_X9_areAlike 22 rfl) (by decide) ?_
    refine pj_zret rfl (by first | rfl | decide | (split <;> rfl)) (pj_d p_X9_areAlike 24 rfl) (by decide) (by decide) ?_
    exact ⟨by rw [decide_eq_true heq]; rfl, rfl, rfl⟩
theorem c_X9_harmWithout (hT : gd_T h k τ ac) (hW : gd_W τ) {st : Nat} (hs : st < 32) : pj_Ct E B l Y_X9_harmWithout 5 0 0 [.ref k, .int (nI st)] h n (pj_is (some (.int (nI (gd_harm τ st)))) h n) := by
  have h0 := hT.1
  obtain ⟨fa, h3, hfa⟩ := hT.2.2.2.2.1
  obtain ⟨fb, h4, hfb⟩ := hT.2.2.2.2.2.1
  obtain ⟨fh, h5, hfh⟩ := hT.2.2.2.2.2.2
  have h8 := hW.2.1
  refine pj_in rfl (ls := [some (.ref k), some (.int (nI st)), none, none]) rfl (Nat.le_of_ble_eq_true rfl) ?_
  refine pj_iconst (q := 1) (v := nI 0) (pj_d p_X9_harmWithout 0 rfl) rfl (by decide) ?_
  refine pj_ist2 (q := 2) (pj_d p_X9_harmWithout 1 rfl) rfl rfl ?_
  refine pj_iconst (q := 3) (v := nI 0) (pj_d p_X9_harmWithout 2 rfl) rfl (by decide) ?_
  refine pj_ist3 (q := 4) (pj_d p_X9_harmWithout 3 rfl) rfl rfl ?_
  have loop : ∀ m i, τ 2 - i < m → i ≤ τ 2 → pj_V E B l Y_X9_harmWithout 5 0 0 4 [some (.ref k), some (.int (nI st)), some (.int (nI (gd_sm (gd_hf τ st) i))), some (.int (nI i))] [] h n 0 0 (pj_is (some (.int (nI (gd_harm τ st)))) h n) := by
    intro m
    induction m with
    | zero => intro i hi; omega
    | succ m ih =>
      intro i hi hle
      refine pj_ild3 (q := 5) (pj_d p_X9_harmWithout 4 rfl) rfl ?_
      refine pj_ald0 (q := 6) (pj_d p_X9_harmWithout 5 rfl) rfl ?_
      refine pj_gf (q := 9) (k := 6) (pj_d p_X9_harmWithout 6 rfl) rfl kX9_56 (by assumption) (by rfl) (by rfl) ?_
      refine pj_icmp_ge (t := 47) (q := 12) (pj_d p_X9_harmWithout 7 rfl) rfl (by decide) (fun c1 => ?_) (fun c1 => ?_)
      · have hge := (nI_leI (by omega) (by omega)).mp c1
        have he : i = τ 2 := by omega
        subst he
        refine pj_ild2 (q := 48) (pj_d p_X9_harmWithout 29 rfl) rfl ?_
        refine pj_iret rfl (pj_d p_X9_harmWithout 30 rfl) (by decide) (by decide) ?_
        exact ⟨rfl, rfl, rfl⟩
      · have hlt : i < τ 2 := by
          rcases Nat.lt_or_ge i (τ 2) with q | q
          · exact q
          · exact absurd (nI_le q (by omega)) c1
        obtain ⟨g1, g2, -⟩ := hW.2.2.2.2.2.1 i hlt
        refine pj_ald0 (q := 13) (pj_d p_X9_harmWithout 8 rfl) rfl ?_
        refine pj_ald0 (q := 14) (pj_d p_X9_harmWithout 9 rfl) rfl ?_
        refine pj_gf (q := 17) (k := 3) (pj_d p_X9_harmWithout 10 rfl) rfl kX9_19 (by assumption) (by rfl) (by rfl) ?_
        refine pj_ild3 (q := 18) (pj_d p_X9_harmWithout 11 rfl) rfl ?_
        refine pj_ialdN (q := 19) (pj_d p_X9_harmWithout 12 rfl) rfl (by assumption) (by rfl) (by first | assumption | omega) (Nat.le_of_ble_eq_true rfl) ?_
        rw [hfa i hlt]
        refine pj_ald0 (q := 20) (pj_d p_X9_harmWithout 13 rfl) rfl ?_
        refine pj_gf (q := 23) (k := 4) (pj_d p_X9_harmWithout 14 rfl) rfl kX9_22 (by assumption) (by rfl) (by rfl) ?_
        refine pj_ild3 (q := 24) (pj_d p_X9_harmWithout 15 rfl) rfl ?_
        refine pj_ialdN (q := 25) (pj_d p_X9_harmWithout 16 rfl) rfl (by assumption) (by rfl) (by first | assumption | omega) (Nat.le_of_ble_eq_true rfl) ?_
        rw [hfb i hlt]
        refine pj_ild1 (q := 26) (pj_d p_X9_harmWithout 17 rfl) rfl ?_
        refine pj_cp (pj_rV (q := 29) (c_X9_areAlike hT hW g1 g2 hs) (pj_d p_X9_harmWithout 18 rfl) rfl kX9_102 o_X9_areAlike (by assumption) (by rfl) (by rfl) (by rfl) (by rfl) (Nat.le_of_ble_eq_true rfl) (by decide)) (by decide) (by decide) ?_
        have go : ∀ x, x = gd_sm (gd_hf τ st) (i + 1) → pj_V E B l Y_X9_harmWithout 5 0 0 41 [some (.ref k), some (.int (nI st)), some (.int (nI x)), some (.int (nI i))] [] h n 0 0 (pj_is (some (.int (nI (gd_harm τ st)))) h n) := by
          intro x hx
          subst hx
          refine pj_iinc3 (q := 44) (v := 1) (pj_d p_X9_harmWithout 27 rfl) rfl rfl (by decide) ?_
          refine pj_goto (t := 4) (pj_d p_X9_harmWithout 28 rfl) (by decide) ?_
          rw [nI_1]
          exact ih (i + 1) (by omega) (by omega)
        refine pj_if_eq (t := 41) (q := 32) (pj_d p_X9_harmWithout 19 rfl) rfl (by decide) (fun c2 => ?_) (fun c2 => ?_)
        · have hne := of_decide_eq_false ((gd_b_z _).mp c2)
          exact go _ (by rw [gd_sm, gd_hf, if_neg hne]; rfl)
        · have heq := of_decide_eq_true ((gd_b_n _).mp c2)
          refine pj_ild2 (q := 33) (pj_d p_X9_harmWithout 20 rfl) rfl ?_
          refine pj_ald0 (q := 34) (pj_d p_X9_harmWithout 21 rfl) rfl ?_
          refine pj_gf (q := 37) (k := 5) (pj_d p_X9_harmWithout 22 rfl) rfl kX9_25 (by assumption) (by rfl) (by rfl) ?_
          refine pj_ild3 (q := 38) (pj_d p_X9_harmWithout 23 rfl) rfl ?_
          refine pj_ialdN (q := 39) (pj_d p_X9_harmWithout 24 rfl) rfl (by assumption) (by rfl) (by first | assumption | omega) (Nat.le_of_ble_eq_true rfl) ?_
          rw [hfh i hlt]
          refine pj_iadd (q := 40) (pj_d p_X9_harmWithout 25 rfl) rfl ?_
          rw [nI_add]
          refine pj_ist2 (q := 41) (pj_d p_X9_harmWithout 26 rfl) rfl rfl ?_
          exact go _ (by rw [gd_sm, gd_hf, if_pos heq])
  exact loop (τ 2 + 1) 0 (by omega) (by omega)
theorem c_X9_isOfPair (hT : gd_T h k τ ac) (hW : gd_W τ) {a j : Nat} (ha : a < 1000) (hj : j < τ 2) : pj_Ct E B l Y_X9_isOfPair 1 0 0 [.ref k, .int (nI a), .int (nI j)] h n (pj_is (some (.int (gd_b (gd_of τ a j)))) h n) := by
  have h0 := hT.1
  obtain ⟨fa, h3, hfa⟩ := hT.2.2.2.2.1
  obtain ⟨fb, h4, hfb⟩ := hT.2.2.2.2.2.1
  have h8 := hW.2.1
  have h7 := hW.1
  obtain ⟨g1, g2, -⟩ := hW.2.2.2.2.2.1 j hj
  refine pj_in rfl (ls := [some (.ref k), some (.int (nI a)), some (.int (nI j))]) rfl (Nat.le_of_ble_eq_true rfl) ?_
  refine pj_ald0 (q := 1) (pj_d p_X9_isOfPair 0 rfl) rfl ?_
  refine pj_gf (q := 4) (k := 3) (pj_d p_X9_isOfPair 1 rfl) rfl kX9_19 (by assumption) (by rfl) (by rfl) ?_
  refine pj_ild2 (q := 5) (pj_d p_X9_isOfPair 2 rfl) rfl ?_
  refine pj_ialdN (q := 6) (pj_d p_X9_isOfPair 3 rfl) rfl (by assumption) (by rfl) (by first | assumption | omega) (Nat.le_of_ble_eq_true rfl) ?_
  rw [hfa j hj]
  refine pj_ild1 (q := 7) (pj_d p_X9_isOfPair 4 rfl) rfl ?_
  have yes : gd_of τ a j = true → pj_V E B l Y_X9_isOfPair 1 0 0 20 [some (.ref k), some (.int (nI a)), some (.int (nI j))] [] h n 0 0 (pj_is (some (.int (gd_b (gd_of τ a j)))) h n) := by
    intro hy
    rw [hy]
    refine pj_iconst (q := 21) (v := nI 1) (pj_d p_X9_isOfPair 12 rfl) rfl (by decide) ?_
    refine pj_goto (t := 25) (pj_d p_X9_isOfPair 13 rfl) (by decide) ?_
    refine pj_zret rfl (by first | rfl | decide | (split <;> rfl)) (pj_d p_X9_isOfPair 15 rfl) (by decide) (by decide) ?_
    exact ⟨rfl, rfl, rfl⟩
  refine pj_icmp_eq (t := 20) (q := 10) (pj_d p_X9_isOfPair 5 rfl) rfl (by decide) (fun c1 => ?_) (fun c1 => ?_)
  · exact yes (by rw [gd_of, decide_eq_true ((nI_eq (by omega) (by omega)).mp c1)]; rfl)
  refine pj_ald0 (q := 11) (pj_d p_X9_isOfPair 6 rfl) rfl ?_
  refine pj_gf (q := 14) (k := 4) (pj_d p_X9_isOfPair 7 rfl) rfl kX9_22 (by assumption) (by rfl) (by rfl) ?_
  refine pj_ild2 (q := 15) (pj_d p_X9_isOfPair 8 rfl) rfl ?_
  refine pj_ialdN (q := 16) (pj_d p_X9_isOfPair 9 rfl) rfl (by assumption) (by rfl) (by first | assumption | omega) (Nat.le_of_ble_eq_true rfl) ?_
  rw [hfb j hj]
  refine pj_ild1 (q := 17) (pj_d p_X9_isOfPair 10 rfl) rfl ?_
  refine pj_icmp_ne (t := 24) (q := 20) (pj_d p_X9_isOfPair 11 rfl) rfl (by decide) (fun c2 => ?_) (fun c2 => ?_)
  · have e1 : ¬ τ (32 + 3 * j) = a := fun q => c1 (by rw [q])
    have e2 : ¬ τ (33 + 3 * j) = a := fun q => c2 (by rw [q])
    refine pj_iconst (q := 25) (v := nI 0) (pj_d p_X9_isOfPair 14 rfl) rfl (by decide) ?_
    refine pj_zret rfl (by first | rfl | decide | (split <;> rfl)) (pj_d p_X9_isOfPair 15 rfl) (by decide) (by decide) ?_
    exact ⟨by rw [gd_of, decide_eq_false e1, decide_eq_false e2]; rfl, rfl, rfl⟩
  · exact yes (by rw [gd_of, decide_eq_true ((nI_eq (by omega) (by omega)).mp c2)]; simp)
theorem c_X9_harmOfPair (hT : gd_T h k τ ac) (hW : gd_W τ) {a b : Nat} (ha : a < 1000) (hb : b < 1000) : pj_Ct E B l Y_X9_harmOfPair 2 0 0 [.ref k, .int (nI a), .int (nI b)] h n (pj_is (some (.int (nI (gd_pair τ a b)))) h n) := by
  have h0 := hT.1
  obtain ⟨fh, h5, hfh⟩ := hT.2.2.2.2.2.2
  have h8 := hW.2.1
  refine pj_in rfl (ls := [some (.ref k), some (.int (nI a)), some (.int (nI b)), none]) rfl (Nat.le_of_ble_eq_true rfl) ?_
  refine pj_iconst (q := 1) (v := nI 0) (pj_d p_X9_harmOfPair 0 rfl) rfl (by decide) ?_
  refine pj_ist3 (q := 2) (pj_d p_X9_harmOfPair 1 rfl) rfl rfl ?_
  have loop : ∀ m i, i + m = τ 2 → gd_pair τ a b = gd_pairF τ a b m i → pj_V E B l Y_X9_harmOfPair 2 0 0 2 [some (.ref k), some (.int (nI a)), some (.int (nI b)), some (.int (nI i))] [] h n 0 0 (pj_is (some (.int (nI (gd_pair τ a b)))) h n) := by
    intro m
    induction m with
    | zero =>
      intro i hi he
      refine pj_ild3 (q := 3) (pj_d p_X9_harmOfPair 2 rfl) rfl ?_
      refine pj_ald0 (q := 4) (pj_d p_X9_harmOfPair 3 rfl) rfl ?_
      refine pj_gf (q := 7) (k := 6) (pj_d p_X9_harmOfPair 4 rfl) rfl kX9_56 (by assumption) (by rfl) (by rfl) ?_
      refine pj_icmp_ge (t := 41) (q := 10) (pj_d p_X9_harmOfPair 5 rfl) rfl (by decide) (fun c1 => ?_) (fun c1 => ?_)
      · refine pj_iconst (q := 42) (v := nI 0) (pj_d p_X9_harmOfPair 23 rfl) rfl (by decide) ?_
        refine pj_iret rfl (pj_d p_X9_harmOfPair 24 rfl) (by decide) (by decide) ?_
        exact ⟨by rw [he]; rfl, rfl, rfl⟩
      · exact absurd (nI_le (show τ 2 ≤ i by omega) (by omega)) c1
    | succ m ih =>
      intro i hi he
      have hlt : i < τ 2 := by omega
      rw [gd_pairF] at he
      have next : ¬ (gd_of τ a i && gd_of τ b i) = true → pj_V E B l Y_X9_harmOfPair 2 0 0 35 [some (.ref k), some (.int (nI a)), some (.int (nI b)), some (.int (nI i))] [] h n 0 0 (pj_is (some (.int (nI (gd_pair τ a b)))) h n) := by
        intro hno
        refine pj_iinc3 (q := 38) (v := 1) (pj_d p_X9_harmOfPair 21 rfl) rfl rfl (by decide) ?_
        refine pj_goto (t := 2) (pj_d p_X9_harmOfPair 22 rfl) (by decide) ?_
        rw [nI_1]
        exact ih (i + 1) (by omega) (by rw [he, if_neg hno])
      refine pj_ild3 (q := 3) (pj_d p_X9_harmOfPair 2 rfl) rfl ?_
      refine pj_ald0 (q := 4) (pj_d p_X9_harmOfPair 3 rfl) rfl ?_
      refine pj_gf (q := 7) (k := 6) (pj_d p_X9_harmOfPair 4 rfl) rfl kX9_56 (by assumption) (by rfl) (by rfl) ?_
      refine pj_icmp_ge (t := 41) (q := 10) (pj_d p_X9_harmOfPair 5 rfl) rfl (by decide) (fun c1 => ?_) (fun c1 => ?_)
      · exact absurd ((nI_leI (by omega) (by omega)).mp c1) (by omega)
      refine pj_ald0 (q := 11) (pj_d p_X9_harmOfPair 6 rfl) rfl ?_
      refine pj_ild1 (q := 12) (pj_d p_X9_harmOfPair 7 rfl) rfl ?_
      refine pj_ild3 (q := 13) (pj_d p_X9_harmOfPair 8 rfl) rfl ?_
      refine pj_cp (pj_rV (q := 16) (c_X9_isOfPair hT hW ha hlt) (pj_d p_X9_harmOfPair 9 rfl) rfl kX9_106 o_X9_isOfPair (by assumption) (by rfl) (by rfl) (by rfl) (by rfl) (Nat.le_of_ble_eq_true rfl) (by decide)) (by decide) (by decide) ?_
      refine pj_if_eq (t := 35) (q := 19) (pj_d p_X9_harmOfPair 10 rfl) rfl (by decide) (fun c2 => ?_) (fun c2 => ?_)
      · exact next (by rw [(gd_b_z _).mp c2]; simp)
      refine pj_ald0 (q := 20) (pj_d p_X9_harmOfPair 11 rfl) rfl ?_
      refine pj_ild2 (q := 21) (pj_d p_X9_harmOfPair 12 rfl) rfl ?_
      refine pj_ild3 (q := 22) (pj_d p_X9_harmOfPair 13 rfl) rfl ?_
      refine pj_cp (pj_rV (q := 25) (c_X9_isOfPair hT hW hb hlt) (pj_d p_X9_harmOfPair 14 rfl) rfl kX9_106 o_X9_isOfPair (by assumption) (by rfl) (by rfl) (by rfl) (by rfl) (Nat.le_of_ble_eq_true rfl) (by decide)) (by decide) (by decide) ?_
      refine pj_if_eq (t := 35) (q := 28) (pj_d p_X9_harmOfPair 15 rfl) rfl (by decide) (fun c3 => ?_) (fun c3 => ?_)
      · exact next (by rw [(gd_b_z _).mp c3]; simp)
      refine pj_ald0 (q := 29) (pj_d p_X9_harmOfPair 16 rfl) rfl ?_
      refine pj_gf (q := 32) (k := 5) (pj_d p_X9_harmOfPair 17 rfl) rfl kX9_25 (by assumption) (by rfl) (by rfl) ?_
      refine pj_ild3 (q := 33) (pj_d p_X9_harmOfPair 18 rfl) rfl ?_
      refine pj_ialdN (q := 34) (pj_d p_X9_harmOfPair 19 rfl) rfl (by assumption) (by rfl) (by first | assumption | omega) (Nat.le_of_ble_eq_true rfl) ?_
      rw [hfh i hlt]
      refine pj_iret rfl (pj_d p_X9_harmOfPair 20 rfl) (by decide) (by decide) ?_
      exact ⟨by rw [he, if_pos (by rw [(gd_b_n _).mp c2, (gd_b_n _).mp c3]; rfl)], rfl, rfl⟩
  exact loop (τ 2) 0 (by omega) rfl
theorem c_X9_harmOfPairsWith (hT : gd_T h k τ ac) (hW : gd_W τ) {a : Nat} (ha : a < 1000) : pj_Ct E B l Y_X9_harmOfPairsWith 2 0 0 [.ref k, .int (nI a)] h n (pj_is (some (.int (nI (gd_with τ a)))) h n) := by
  have h0 := hT.1
  obtain ⟨fh, h5, hfh⟩ := hT.2.2.2.2.2.2
  have h8 := hW.2.1
  refine pj_in rfl (ls := [some (.ref k), some (.int (nI a)), none, none]) rfl (Nat.le_of_ble_eq_true rfl) ?_
  refine pj_iconst (q := 1) (v := nI 0) (pj_d p_X9_harmOfPairsWith 0 rfl) rfl (by decide) ?_
  refine pj_ist2 (q := 2) (pj_d p_X9_harmOfPairsWith 1 rfl) rfl rfl ?_
  refine pj_iconst (q := 3) (v := nI 0) (pj_d p_X9_harmOfPairsWith 2 rfl) rfl (by decide) ?_
  refine pj_ist3 (q := 4) (pj_d p_X9_harmOfPairsWith 3 rfl) rfl rfl ?_
  have loop : ∀ m i, τ 2 - i < m → i ≤ τ 2 → pj_V E B l Y_X9_harmOfPairsWith 2 0 0 4 [some (.ref k), some (.int (nI a)), some (.int (nI (gd_sm (fun j => if gd_of τ a j then τ (34 + 3 * j) else 0) i))), some (.int (nI i))] [] h n 0 0 (pj_is (some (.int (nI (gd_with τ a)))) h n) := by
    intro m
    induction m with
    | zero => intro i hi; omega
    | succ m ih =>
      intro i hi hle
      refine pj_ild3 (q := 5) (pj_d p_X9_harmOfPairsWith 4 rfl) rfl ?_
      refine pj_ald0 (q := 6) (pj_d p_X9_harmOfPairsWith 5 rfl) rfl ?_
      refine pj_gf (q := 9) (k := 6) (pj_d p_X9_harmOfPairsWith 6 rfl) rfl kX9_56 (by assumption) (by rfl) (by rfl) ?_
      refine pj_icmp_ge (t := 36) (q := 12) (pj_d p_X9_harmOfPairsWith 7 rfl) rfl (by decide) (fun c1 => ?_) (fun c1 => ?_)
      · have hge := (nI_leI (by omega) (by omega)).mp c1
        have he : i = τ 2 := by omega
        subst he
        refine pj_ild2 (q := 37) (pj_d p_X9_harmOfPairsWith 22 rfl) rfl ?_
        refine pj_iret rfl (pj_d p_X9_harmOfPairsWith 23 rfl) (by decide) (by decide) ?_
        exact ⟨rfl, rfl, rfl⟩
      · have hlt : i < τ 2 := by
          rcases Nat.lt_or_ge i (τ 2) with q | q
          · exact q
          · exact absurd (nI_le q (by omega)) c1
        refine pj_ald0 (q := 13) (pj_d p_X9_harmOfPairsWith 8 rfl) rfl ?_
        refine pj_ild1 (q := 14) (pj_d p_X9_harmOfPairsWith 9 rfl) rfl ?_
        refine pj_ild3 (q := 15) (pj_d p_X9_harmOfPairsWith 10 rfl) rfl ?_
        refine pj_cp (pj_rV (q := 18) (c_X9_isOfPair hT hW ha hlt) (pj_d p_X9_harmOfPairsWith 11 rfl) rfl kX9_106 o_X9_isOfPair (by assumption) (by rfl) (by rfl) (by rfl) (by rfl) (Nat.le_of_ble_eq_true rfl) (by decide)) (by decide) (by decide) ?_
        have go : ∀ x, x = gd_sm (fun j => if gd_of τ a j then τ (34 + 3 * j) else 0) (i + 1) → pj_V E B l Y_X9_harmOfPairsWith 2 0 0 30 [some (.ref k), some (.int (nI a)), some (.int (nI x)), some (.int (nI i))] [] h n 0 0 (pj_is (some (.int (nI (gd_with τ a)))) h n) := by
          intro x hx
          subst hx
          refine pj_iinc3 (q := 33) (v := 1) (pj_d p_X9_harmOfPairsWith 20 rfl) rfl rfl (by decide) ?_
          refine pj_goto (t := 4) (pj_d p_X9_harmOfPairsWith 21 rfl) (by decide) ?_
          rw [nI_1]
          exact ih (i + 1) (by omega) (by omega)
        refine pj_if_eq (t := 30) (q := 21) (pj_d p_X9_harmOfPairsWith 12 rfl) rfl (by decide) (fun c2 => ?_) (fun c2 => ?_)
        · exact go _ (by rw [gd_sm, (gd_b_z _).mp c2]; rfl)
        · refine pj_ild2 (q := 22) (pj_d p_X9_harmOfPairsWith 13 rfl) rfl ?_
          refine pj_ald0 (q := 23) (pj_d p_X9_harmOfPairsWith 14 rfl) rfl ?_
          refine pj_gf (q := 26) (k := 5) (pj_d p_X9_harmOfPairsWith 15 rfl) rfl kX9_25 (by assumption) (by rfl) (by rfl) ?_
          refine pj_ild3 (q := 27) (pj_d p_X9_harmOfPairsWith 16 rfl) rfl ?_
          refine pj_ialdN (q := 28) (pj_d p_X9_harmOfPairsWith 17 rfl) rfl (by assumption) (by rfl) (by first | assumption | omega) (Nat.le_of_ble_eq_true rfl) ?_
          rw [hfh i hlt]
          refine pj_iadd (q := 29) (pj_d p_X9_harmOfPairsWith 18 rfl) rfl ?_
          rw [nI_add]
          refine pj_ist2 (q := 30) (pj_d p_X9_harmOfPairsWith 19 rfl) rfl rfl ?_
          exact go _ (by rw [gd_sm, (gd_b_n _).mp c2]; rfl)
  exact loop (τ 2 + 1) 0 (by omega) (by omega)
end
end
section
/-! ===== the model: its cells; what is read of its town ===== -/
theorem pj_up_id {h : pj_H} {a : Nat} {c : pj_C} (ha : h a = some c) : pj_up h a c = h := by
  funext q
  by_cases hq : q = a
  · subst hq; rw [pj_up_s, ha]
  · rw [pj_up_n hq]
def gd_Mo (g : Nat) (v : Nat → Int32) : List Value := [.int (v 0), .int (v 1), .ref (g + 1), .ref (g + 2), .ref (g + 3), .ref (g + 4), .ref (g + 5), .ref (g + 6), .int (v 8), .ref (g + 7), .int (v 10), .int (v 11), .int (v 12), .int (v 13), .int (v 14), .int (v 15), .int (v 16), .int (v 17), .ref (g + 8), .ref (g + 9), .ref (g + 10), .ref (g + 11), .ref (g + 12), .int (v 23)]
def gd_rng (x : Int32) (lo hi : Int) : Bool := decide (lo ≤ x.toInt ∧ x.toInt ≤ hi)
def gd_bits (x : Nat) : Nat := gd_sm (fun k => x / 2 ^ k % 2) 7
def gd_like (τ : Nat → Nat) (t st : Nat) : Nat := gd_sm (fun k => if gd_lk τ k st = gd_lk τ t st then 2 ^ k else 0) (τ 1)
def gd_harms (τ : Nat → Nat) (m : Nat) : Nat := gd_sm (fun d => gd_harm τ (gd_miss τ d)) m
theorem gd_shr1 : ∀ x, x < 128 → ∀ k, k < 7 → (nI x >>> (nI k &&& 31)) &&& nI 1 = nI (x / 2 ^ k % 2) := by decide +kernel
theorem gd_shl1 : ∀ k, k < 8 → nI 1 <<< (nI k &&& 31) = nI (2 ^ k) := by decide +kernel
theorem gd_or2 : ∀ k, k < 7 → ∀ a, a < 2 ^ k → nI a ||| nI (2 ^ k) = nI (a + 2 ^ k) := by decide +kernel
theorem gd_or0 (a : Nat) : nI a ||| nI 0 = nI a := by
  rw [nI_0]; exact Int32.or_zero
theorem gd_twb : ∀ x, x < 32 → (gd_bits x ≤ 1 ↔ x &&& (x - 1) = 0) := by decide +kernel
theorem gd_like_lt (τ : Nat → Nat) (t st : Nat) : ∀ m, gd_sm (fun k => if gd_lk τ k st = gd_lk τ t st then 2 ^ k else 0) m < 2 ^ m
  | 0 => Nat.one_pos
  | m + 1 => by
    have := gd_like_lt τ t st m
    rw [gd_sm, Nat.pow_succ]
    split <;> omega
theorem gd_rng_nI {a : Nat} (ha : a < 2 ^ 31) (lo hi : Int) : gd_rng (nI a) lo hi = decide (lo ≤ (a : Int) ∧ (a : Int) ≤ hi) := by rw [gd_rng, nI_toInt ha]
theorem gd_rng_has {τ : Nat → Nat} (x : Int32) : gd_rng x 0 ((τ 1 : Int) - 1) = gd_has τ x := by
  unfold gd_rng gd_has
  rw [decide_eq_decide]
  omega
section
variable {E : pj_E} {B : Nat} {l : Launch} {h : pj_H} {n g : Nat} {τ : Nat → Nat} {v : Nat → Int32}
theorem gd_thr {Y : pj_Y} {d mc ms ce sl : Nat} {tl : List (Option Value)} {Q : Option Value → pj_H → Nat → Prop} (d0 : decode Y.2.1 0 = .ok (.aload_n 0, 1)) (d1 : decode Y.2.1 1 = .ok (.iconst 0, 1)) (d2 : decode Y.2.1 2 = .ok (.putfield 47, 3)) (hY : Y.1.cls = RX12) (hM : h g = some (.inr (11, gd_Mo g v))) (hv : v 0 = nI 0) (kk : pj_V E B l Y d mc ms 5 (some (.ref g) :: tl) [] h n ce sl Q) : pj_V E B l Y d mc ms 0 (some (.ref g) :: tl) [] h n ce sl Q := by
  refine pj_ald0 (q := 1) d0 rfl ?_
  refine pj_iconst (q := 2) (v := nI 0) d1 rfl (by decide) ?_
  refine pj_pf (q := 5) (k := 0) (fs' := gd_Mo g v) d2 rfl (by rw [hY]; exact kX12_47) hM rfl (Or.inl rfl) rfl rfl rfl (by show 0 < 24; decide) ?_ ?_
  · show (gd_Mo g v).set 0 (.int (nI 0)) = gd_Mo g v
    rw [← hv]; rfl
  · rw [pj_up_id hM]
    exact kk
theorem c_X12_in (x : Int32) (a b : Int64) (lo hi : Int) (ha : a.toInt = lo) (hb : b.toInt = hi) : pj_Ct E B l Y_X12_in 1 0 0 [.long x.toInt64, .long a, .long b] h n (pj_is (some (.int (gd_b (gd_rng x lo hi)))) h n) := by
  subst ha
  subst hb
  refine pj_in rfl (ls := [some (.long x.toInt64), none, some (.long a), none, some (.long b), none]) rfl (Nat.le_of_ble_eq_true rfl) ?_
  refine pj_lld0 (q := 1) (pj_d p_X12_in 0 rfl) rfl ?_
  refine pj_lld2 (q := 2) (pj_d p_X12_in 1 rfl) rfl ?_
  refine pj_lcmp (q := 3) (pj_d p_X12_in 2 rfl) rfl ?_
  have no : ¬ gd_rng x a.toInt b.toInt = true → pj_V E B l Y_X12_in 1 0 0 17 [some (.long x.toInt64), none, some (.long a), none, some (.long b), none] [] h n 0 0 (pj_is (some (.int (gd_b (gd_rng x a.toInt b.toInt)))) h n) := by
    intro hn
    rw [Bool.eq_false_iff.mpr hn]
    refine pj_iconst (q := 18) (v := nI 0) (pj_d p_X12_in 10 rfl) rfl (by decide) ?_
    refine pj_zret rfl (by first | rfl | decide | (split <;> rfl)) (pj_d p_X12_in 11 rfl) (by decide) (by decide) ?_
    exact ⟨rfl, rfl, rfl⟩
  have e : x.toInt64.toInt = x.toInt := by simp
  refine pj_if_lt (t := 17) (q := 6) (pj_d p_X12_in 3 rfl) rfl (by decide) (fun c1 => ?_) (fun c1 => ?_)
  · rw [lg_cmp_lt, Int64.lt_iff_toInt_lt, e] at c1
    exact no (by rw [gd_rng, decide_eq_true_eq]; omega)
  refine pj_lld0 (q := 7) (pj_d p_X12_in 4 rfl) rfl ?_
  refine pj_lld4 (q := 9) (pj_d p_X12_in 5 rfl) rfl ?_
  refine pj_lcmp (q := 10) (pj_d p_X12_in 6 rfl) rfl ?_
  rw [lg_cmp_lt, Int64.lt_iff_toInt_lt, e] at c1
  refine pj_if_gt (t := 17) (q := 13) (pj_d p_X12_in 7 rfl) rfl (by decide) (fun c2 => ?_) (fun c2 => ?_)
  · rw [lg_cmp_gt, Int64.lt_iff_toInt_lt, e] at c2
    exact no (by rw [gd_rng, decide_eq_true_eq]; omega)
  · rw [lg_cmp_gt, Int64.lt_iff_toInt_lt, e] at c2
    have hy : gd_rng x a.toInt b.toInt = true := by rw [gd_rng, decide_eq_true_eq]; omega
    rw [hy]
    refine pj_iconst (q := 14) (v := nI 1) (pj_d p_X12_in 8 rfl) rfl (by decide) ?_
    refine pj_goto (t := 18) (pj_d p_X12_in 9 rfl) (by decide) ?_
    refine pj_zret rfl (by first | rfl | decide | (split <;> rfl)) (pj_d p_X12_in 11 rfl) (by decide) (by decide) ?_
    exact ⟨rfl, rfl, rfl⟩
theorem c_X12_isRow (r : Int32) : pj_Ct E B l Y_X12_isRow 2 0 0 [.int r] h n (pj_is (some (.int (gd_b (gd_rng r 0 7)))) h n) := by
  refine pj_in rfl (ls := [some (.int r)]) rfl (Nat.le_of_ble_eq_true rfl) ?_
  refine pj_ild0 (q := 1) (pj_d p_X12_isRow 0 rfl) rfl ?_
  refine pj_i2l (q := 2) (pj_d p_X12_isRow 1 rfl) rfl ?_
  refine pj_lconst (q := 3) (v := lN 0) (pj_d p_X12_isRow 2 rfl) rfl (by decide) ?_
  refine pj_ldc2 (q := 6) (pj_d p_X12_isRow 3 rfl) rfl kX12_55 ?_
  refine pj_cp (pj_rS (q := 9) (c_X12_in r (lN 0) 7 0 7 (by decide) (by decide)) (pj_d p_X12_isRow 4 rfl) rfl kX12_57 o_X12_in (by rfl) (by rfl) (Nat.le_of_ble_eq_true rfl) (by decide)) (by decide) (by decide) ?_
  refine pj_zret rfl (gd_b_nar _) (pj_d p_X12_isRow 5 rfl) (by decide) (by decide) ⟨rfl, rfl, rfl⟩
theorem c_X12_isFar (r : Int32) : pj_Ct E B l Y_X12_isFar 2 0 0 [.int r] h n (pj_is (some (.int (gd_b (gd_rng r 0 100)))) h n) := by
  refine pj_in rfl (ls := [some (.int r)]) rfl (Nat.le_of_ble_eq_true rfl) ?_
  refine pj_ild0 (q := 1) (pj_d p_X12_isFar 0 rfl) rfl ?_
  refine pj_i2l (q := 2) (pj_d p_X12_isFar 1 rfl) rfl ?_
  refine pj_lconst (q := 3) (v := lN 0) (pj_d p_X12_isFar 2 rfl) rfl (by decide) ?_
  refine pj_ldc2 (q := 6) (pj_d p_X12_isFar 3 rfl) rfl kX12_156 ?_
  refine pj_cp (pj_rS (q := 9) (c_X12_in r (lN 0) 100 0 100 (by decide) (by decide)) (pj_d p_X12_isFar 4 rfl) rfl kX12_57 o_X12_in (by rfl) (by rfl) (Nat.le_of_ble_eq_true rfl) (by decide)) (by decide) (by decide) ?_
  refine pj_zret rfl (gd_b_nar _) (pj_d p_X12_isFar 5 rfl) (by decide) (by decide) ⟨rfl, rfl, rfl⟩
theorem c_X12_setOf (c : Nat) (hc : c ≤ 5) : pj_Ct E B l Y_X12_setOf 1 0 0 [.int (nI c)] h n (pj_is (some (.int (nI (gd_setOf c)))) h n) := by
  refine pj_in rfl (ls := [some (.int (nI c))]) rfl (Nat.le_of_ble_eq_true rfl) ?_
  refine pj_ild0 (q := 1) (pj_d p_X12_setOf 0 rfl) rfl ?_
  refine pj_iconst (q := 2) (v := nI 5) (pj_d p_X12_setOf 1 rfl) rfl (by decide) ?_
  refine pj_icmp_ge (t := 11) (q := 5) (pj_d p_X12_setOf 2 rfl) rfl (by decide) (fun c2 => ?_) (fun c2 => ?_)
  · have hc5 : ¬ c < 5 := by have := (nI_leI (by omega) (by omega)).mp c2; omega
    refine pj_iconst (q := 12) (v := nI 0) (pj_d p_X12_setOf 7 rfl) rfl (by decide) ?_
    refine pj_iret rfl (pj_d p_X12_setOf 8 rfl) (by decide) (by decide) ?_
    exact ⟨by simp only [gd_setOf, if_neg hc5], rfl, rfl⟩
  · have hc5 : c < 5 := by
      rcases Nat.lt_or_ge c 5 with q | q
      · exact q
      · exact absurd (nI_le q (by omega)) c2
    refine pj_iconst (q := 6) (v := nI 1) (pj_d p_X12_setOf 3 rfl) rfl (by decide) ?_
    refine pj_ild0 (q := 7) (pj_d p_X12_setOf 4 rfl) rfl ?_
    refine pj_ishl (q := 8) (pj_d p_X12_setOf 5 rfl) rfl ?_
    refine pj_goto (t := 12) (pj_d p_X12_setOf 6 rfl) (by decide) ?_
    refine pj_iret rfl (pj_d p_X12_setOf 8 rfl) (by decide) (by decide) ?_
    exact ⟨by rw [gd_setI c hc5, gd_setOf, if_pos hc5], rfl, rfl⟩
theorem c_X12_bits (x : Nat) (hx : x < 128) : pj_Ct E B l Y_X12_bits 1 0 0 [.int (nI x)] h n (pj_is (some (.int (nI (gd_bits x)))) h n) := by
  refine pj_in rfl (ls := [some (.int (nI x)), none, none]) rfl (Nat.le_of_ble_eq_true rfl) ?_
  refine pj_iconst (q := 1) (v := nI 0) (pj_d p_X12_bits 0 rfl) rfl (by decide) ?_
  refine pj_ist1 (q := 2) (pj_d p_X12_bits 1 rfl) rfl rfl ?_
  refine pj_iconst (q := 3) (v := nI 0) (pj_d p_X12_bits 2 rfl) rfl (by decide) ?_
  refine pj_ist2 (q := 4) (pj_d p_X12_bits 3 rfl) rfl rfl ?_
  have loop : ∀ m i, 7 - i < m → i ≤ 7 → pj_V E B l Y_X12_bits 1 0 0 4 [some (.int (nI x)), some (.int (nI (gd_sm (fun k => x / 2 ^ k % 2) i))), some (.int (nI i))] [] h n 0 0 (pj_is (some (.int (nI (gd_bits x)))) h n) := by
    intro m
    induction m with
    | zero => intro i hi; omega
    | succ m ih =>
      intro i hi hle
      refine pj_ild2 (q := 5) (pj_d p_X12_bits 4 rfl) rfl ?_
      refine pj_bipush (q := 7) (v := nI 7) (pj_d p_X12_bits 5 rfl) rfl (by decide) ?_
      refine pj_icmp_ge (t := 24) (q := 10) (pj_d p_X12_bits 6 rfl) rfl (by decide) (fun c1 => ?_) (fun c1 => ?_)
      · have hge := (nI_leI (by omega) (by omega)).mp c1
        have he : i = 7 := by omega
        subst he
        refine pj_ild1 (q := 25) (pj_d p_X12_bits 17 rfl) rfl ?_
        refine pj_iret rfl (pj_d p_X12_bits 18 rfl) (by decide) (by decide) ?_
        exact ⟨rfl, rfl, rfl⟩
      · have hlt : i < 7 := by
          rcases Nat.lt_or_ge i 7 with q | q
          · exact q
          · exact absurd (nI_le q (by omega)) c1
        refine pj_ild1 (q := 11) (pj_d p_X12_bits 7 rfl) rfl ?_
        refine pj_ild0 (q := 12) (pj_d p_X12_bits 8 rfl) rfl ?_
        refine pj_ild2 (q := 13) (pj_d p_X12_bits 9 rfl) rfl ?_
        refine pj_ishr (q := 14) (pj_d p_X12_bits 10 rfl) rfl ?_
        refine pj_iconst (q := 15) (v := nI 1) (pj_d p_X12_bits 11 rfl) rfl (by decide) ?_
        refine pj_iand (q := 16) (pj_d p_X12_bits 12 rfl) rfl ?_
        rw [gd_shr1 x hx i hlt]
        refine pj_iadd (q := 17) (pj_d p_X12_bits 13 rfl) rfl ?_
        rw [nI_add]
        refine pj_ist1 (q := 18) (pj_d p_X12_bits 14 rfl) rfl rfl ?_
        refine pj_iinc2 (q := 21) (v := 1) (pj_d p_X12_bits 15 rfl) rfl rfl (by decide) ?_
        refine pj_goto (t := 4) (pj_d p_X12_bits 16 rfl) (by decide) ?_
        rw [nI_1]
        exact ih (i + 1) (by omega) (by omega)
  exact loop 8 0 (by omega) (by omega)
theorem c_X12_isThere (hM : h g = some (.inr (11, gd_Mo g v))) (hT : h (g + 4) = some (.inl (0, 56, .inl (fun j => nI (τ j))))) (h1 : τ 0 ≤ 1) : pj_Ct E B l Y_X12_isThere 1 0 0 [.ref g] h n (pj_is (some (.int (gd_b (decide (τ 0 = 1))))) h n) := by
  refine pj_in rfl (ls := [some (.ref g)]) rfl (Nat.le_of_ble_eq_true rfl) ?_
  refine pj_ald0 (q := 1) (pj_d p_X12_isThere 0 rfl) rfl ?_
  refine pj_gf (q := 4) (k := 5) (pj_d p_X12_isThere 1 rfl) rfl kX12_19 (by assumption) (by rfl) (by rfl) ?_
  refine pj_iconst (q := 5) (v := nI 0) (pj_d p_X12_isThere 2 rfl) rfl (by decide) ?_
  refine pj_ialdN (q := 6) (pj_d p_X12_isThere 3 rfl) rfl (by assumption) (by rfl) (by first | assumption | omega) (Nat.le_of_ble_eq_true rfl) ?_
  refine pj_iconst (q := 7) (v := nI 1) (pj_d p_X12_isThere 4 rfl) rfl (by decide) ?_
  refine pj_icmp_ne (t := 14) (q := 10) (pj_d p_X12_isThere 5 rfl) rfl (by decide) (fun c1 => ?_) (fun c1 => ?_)
  · have hne : ¬ τ 0 = 1 := fun q => c1 (by rw [q])
    rw [decide_eq_false hne]
    refine pj_iconst (q := 15) (v := nI 0) (pj_d p_X12_isThere 8 rfl) rfl (by decide) ?_
    refine pj_zret rfl (by first | rfl | decide | (split <;> rfl)) (pj_d p_X12_isThere 9 rfl) (by decide) (by decide) ?_
    exact ⟨rfl, rfl, rfl⟩
  · have heq : τ 0 = 1 := (nI_eq (by omega) (by omega)).mp c1
    rw [decide_eq_true heq]
    refine pj_iconst (q := 11) (v := nI 1) (pj_d p_X12_isThere 6 rfl) rfl (by decide) ?_
    refine pj_goto (t := 15) (pj_d p_X12_isThere 7 rfl) (by decide) ?_
    refine pj_zret rfl (by first | rfl | decide | (split <;> rfl)) (pj_d p_X12_isThere 9 rfl) (by decide) (by decide) ?_
    exact ⟨rfl, rfl, rfl⟩
theorem gd_cm1 {c : Nat} (hc : c ≤ 7) : (nI c - nI 1).toInt64.toInt = (c : Int) - 1 := by
  rw [Int32.toInt_toInt64, pk_sub_toInt (by omega) (by omega)]; rfl
theorem c_X12_isThing (hM : h g = some (.inr (11, gd_Mo g v))) (hT : h (g + 4) = some (.inl (0, 56, .inl (fun j => nI (τ j))))) (hW : τ 1 ≤ 7) (t : Int32) : pj_Ct E B l Y_X12_isThing 2 0 0 [.ref g, .int t] h n (pj_is (some (.int (gd_b (gd_has τ t)))) h n) := by
  refine pj_in rfl (ls := [some (.ref g), some (.int t)]) rfl (Nat.le_of_ble_eq_true rfl) ?_
  refine pj_ild1 (q := 1) (pj_d p_X12_isThing 0 rfl) rfl ?_
  refine pj_i2l (q := 2) (pj_d p_X12_isThing 1 rfl) rfl ?_
  refine pj_lconst (q := 3) (v := lN 0) (pj_d p_X12_isThing 2 rfl) rfl (by decide) ?_
  refine pj_ald0 (q := 4) (pj_d p_X12_isThing 3 rfl) rfl ?_
  refine pj_gf (q := 7) (k := 5) (pj_d p_X12_isThing 4 rfl) rfl kX12_19 (by assumption) (by rfl) (by rfl) ?_
  refine pj_iconst (q := 8) (v := nI 1) (pj_d p_X12_isThing 5 rfl) rfl (by decide) ?_
  refine pj_ialdN (q := 9) (pj_d p_X12_isThing 6 rfl) rfl (by assumption) (by rfl) (by first | assumption | omega) (Nat.le_of_ble_eq_true rfl) ?_
  refine pj_iconst (q := 10) (v := nI 1) (pj_d p_X12_isThing 7 rfl) rfl (by decide) ?_
  refine pj_isub (q := 11) (pj_d p_X12_isThing 8 rfl) rfl ?_
  refine pj_i2l (q := 12) (pj_d p_X12_isThing 9 rfl) rfl ?_
  refine pj_cp (pj_rS (q := 15) (c_X12_in t (lN 0) (nI (τ 1) - nI 1).toInt64 0 ((τ 1 : Int) - 1) (by decide) (gd_cm1 hW)) (pj_d p_X12_isThing 10 rfl) rfl kX12_57 o_X12_in (by rfl) (by rfl) (Nat.le_of_ble_eq_true rfl) (by decide)) (by decide) (by decide) ?_
  rw [gd_rng_has]
  refine pj_zret rfl (gd_b_nar _) (pj_d p_X12_isThing 11 rfl) (by decide) (by decide) ⟨rfl, rfl, rfl⟩
theorem c_X12_areTwo (hM : h g = some (.inr (11, gd_Mo g v))) (hT : h (g + 4) = some (.inl (0, 56, .inl (fun j => nI (τ j))))) (hW : τ 1 ≤ 7) (a b : Int32) : pj_Ct E B l Y_X12_areTwo 3 0 0 [.ref g, .int a, .int b] h n (pj_is (some (.int (gd_b (gd_has τ a && gd_has τ b && !decide (a = b))))) h n) := by
  refine pj_in rfl (ls := [some (.ref g), some (.int a), some (.int b)]) rfl (Nat.le_of_ble_eq_true rfl) ?_
  have no : (gd_has τ a && gd_has τ b && !decide (a = b)) = false → pj_V E B l Y_X12_areTwo 3 0 0 25 [some (.ref g), some (.int a), some (.int b)] [] h n 0 0 (pj_is (some (.int (gd_b (gd_has τ a && gd_has τ b && !decide (a = b))))) h n) := by
    intro hn
    rw [hn]
    refine pj_iconst (q := 26) (v := nI 0) (pj_d p_X12_areTwo 13 rfl) rfl (by decide) ?_
    refine pj_zret rfl (by first | rfl | decide | (split <;> rfl)) (pj_d p_X12_areTwo 14 rfl) (by decide) (by decide) ?_
    exact ⟨rfl, rfl, rfl⟩
  refine pj_ald0 (q := 1) (pj_d p_X12_areTwo 0 rfl) rfl ?_
  refine pj_ild1 (q := 2) (pj_d p_X12_areTwo 1 rfl) rfl ?_
  refine pj_cp (pj_rV (q := 5) (c_X12_isThing hM hT hW a) (pj_d p_X12_areTwo 2 rfl) rfl kX12_153 o_X12_isThing (by assumption) (by rfl) (by rfl) (by rfl) (by rfl) (Nat.le_of_ble_eq_true rfl) (by decide)) (by decide) (by decide) ?_
  refine pj_if_eq (t := 25) (q := 8) (pj_d p_X12_areTwo 3 rfl) rfl (by decide) (fun c1 => ?_) (fun c1 => ?_)
  · exact no (by rw [(gd_b_z _).mp c1]; rfl)
  refine pj_ald0 (q := 9) (pj_d p_X12_areTwo 4 rfl) rfl ?_
  refine pj_ild2 (q := 10) (pj_d p_X12_areTwo 5 rfl) rfl ?_
  refine pj_cp (pj_rV (q := 13) (c_X12_isThing hM hT hW b) (pj_d p_X12_areTwo 6 rfl) rfl kX12_153 o_X12_isThing (by assumption) (by rfl) (by rfl) (by rfl) (by rfl) (Nat.le_of_ble_eq_true rfl) (by decide)) (by decide) (by decide) ?_
  refine pj_if_eq (t := 25) (q := 16) (pj_d p_X12_areTwo 7 rfl) rfl (by decide) (fun c2 => ?_) (fun c2 => ?_)
  · exact no (by rw [(gd_b_z _).mp c2]; simp)
  refine pj_ild1 (q := 17) (pj_d p_X12_areTwo 8 rfl) rfl ?_
  refine pj_ild2 (q := 18) (pj_d p_X12_areTwo 9 rfl) rfl ?_
  refine pj_icmp_eq (t := 25) (q := 21) (pj_d p_X12_areTwo 10 rfl) rfl (by decide) (fun c3 => ?_) (fun c3 => ?_)
  · exact no (by rw [decide_eq_true c3]; simp)
  · rw [(gd_b_n _).mp c1, (gd_b_n _).mp c2, decide_eq_false c3]
    refine pj_iconst (q := 22) (v := nI 1) (pj_d p_X12_areTwo 11 rfl) rfl (by decide) ?_
    refine pj_goto (t := 26) (pj_d p_X12_areTwo 12 rfl) (by decide) ?_
    refine pj_zret rfl (by first | rfl | decide | (split <;> rfl)) (pj_d p_X12_areTwo 14 rfl) (by decide) (by decide) ?_
    exact ⟨rfl, rfl, rfl⟩
theorem c_X12_of (hM : h g = some (.inr (11, gd_Mo g v))) (hT : h (g + 4) = some (.inl (0, 56, .inl (fun j => nI (τ j))))) {t w : Nat} (ht : t < 7) (hw : w < 3) : pj_Ct E B l Y_X12_of 1 0 0 [.ref g, .int (nI t), .int (nI w)] h n (pj_is (some (.int (nI (τ (11 + 3 * t + w))))) h n) := by
  refine pj_in rfl (ls := [some (.ref g), some (.int (nI t)), some (.int (nI w))]) rfl (Nat.le_of_ble_eq_true rfl) ?_
  refine pj_ald0 (q := 1) (pj_d p_X12_of 0 rfl) rfl ?_
  refine pj_gf (q := 4) (k := 5) (pj_d p_X12_of 1 rfl) rfl kX12_19 (by assumption) (by rfl) (by rfl) ?_
  refine pj_bipush (q := 6) (v := nI 11) (pj_d p_X12_of 2 rfl) rfl (by decide) ?_
  refine pj_iconst (q := 7) (v := nI 3) (pj_d p_X12_of 3 rfl) rfl (by decide) ?_
  refine pj_ild1 (q := 8) (pj_d p_X12_of 4 rfl) rfl ?_
  refine pj_imul (q := 9) (pj_d p_X12_of 5 rfl) rfl ?_
  refine pj_iadd (q := 10) (pj_d p_X12_of 6 rfl) rfl ?_
  refine pj_ild2 (q := 11) (pj_d p_X12_of 7 rfl) rfl ?_
  refine pj_iadd (q := 12) (pj_d p_X12_of 8 rfl) rfl ?_
  rw [pk_mul, nI_add, nI_add]
  refine pj_ialdN (q := 13) (pj_d p_X12_of 9 rfl) rfl (by assumption) (by rfl) (by first | assumption | omega) (Nat.le_of_ble_eq_true rfl) ?_
  refine pj_iret rfl (pj_d p_X12_of 10 rfl) (by decide) (by decide) ?_
  exact ⟨rfl, rfl, rfl⟩
theorem c_X12_lookOf (hM : h g = some (.inr (11, gd_Mo g v))) (hT : h (g + 4) = some (.inl (0, 56, .inl (fun j => nI (τ j))))) (hW : gd_W τ) {t st : Nat} (ht : t < τ 1) (hs : st < 32) : pj_Ct E B l Y_X12_lookOf 2 0 0 [.ref g, .int (nI t), .int (nI st)] h n (pj_is (some (.int (nI (gd_lk τ t st)))) h n) := by
  have h7 := hW.1
  obtain ⟨hk, hm, hsh⟩ := hW.2.2.2.2.1 t ht
  refine pj_in rfl (ls := [some (.ref g), some (.int (nI t)), some (.int (nI st)), none]) rfl (Nat.le_of_ble_eq_true rfl) ?_
  refine pj_ald0 (q := 1) (pj_d p_X12_lookOf 0 rfl) rfl ?_
  refine pj_ild1 (q := 2) (pj_d p_X12_lookOf 1 rfl) rfl ?_
  refine pj_iconst (q := 3) (v := nI 1) (pj_d p_X12_lookOf 2 rfl) rfl (by decide) ?_
  refine pj_cp (pj_rV (q := 6) (c_X12_of hM hT (t := t) (w := 1) (by omega) (by omega)) (pj_d p_X12_lookOf 3 rfl) rfl kX12_158 o_X12_of (by assumption) (by rfl) (by rfl) (by rfl) (by rfl) (Nat.le_of_ble_eq_true rfl) (by decide)) (by decide) (by decide) ?_
  rw [show 11 + 3 * t + 1 = 12 + 3 * t by omega]
  refine pj_ild2 (q := 7) (pj_d p_X12_lookOf 4 rfl) rfl ?_
  refine pj_iconst (q := 8) (v := (-1)) (pj_d p_X12_lookOf 5 rfl) rfl (by decide) ?_
  refine pj_ixor (q := 9) (pj_d p_X12_lookOf 6 rfl) rfl ?_
  refine pj_iand (q := 10) (pj_d p_X12_lookOf 7 rfl) rfl ?_
  rw [gd_leftI _ hm st hs]
  refine pj_ist3 (q := 11) (pj_d p_X12_lookOf 8 rfl) rfl rfl ?_
  refine pj_ald0 (q := 12) (pj_d p_X12_lookOf 9 rfl) rfl ?_
  refine pj_ild1 (q := 13) (pj_d p_X12_lookOf 10 rfl) rfl ?_
  refine pj_iconst (q := 14) (v := nI 0) (pj_d p_X12_lookOf 11 rfl) rfl (by decide) ?_
  refine pj_cp (pj_rV (q := 17) (c_X12_of hM hT (t := t) (w := 0) (by omega) (by omega)) (pj_d p_X12_lookOf 12 rfl) rfl kX12_158 o_X12_of (by assumption) (by rfl) (by rfl) (by rfl) (by rfl) (Nat.le_of_ble_eq_true rfl) (by decide)) (by decide) (by decide) ?_
  have hlk : gd_lk τ t st = gd_look (τ (11 + 3 * t)) (τ (12 + 3 * t)) (τ (13 + 3 * t)) st := rfl
  rw [hlk, show 11 + 3 * t + 0 = 11 + 3 * t by omega]
  have hl := gd_left_lt _ hm st hs
  rcases gd_kd hk.1 hk.2 with e | e | e | e | e
  · rw [e]
    refine pj_tabIn (t := 48) (dflt := 72) (lo := 1) (hi := 4) (offs := #[31, 33, 51, 65]) (off := 31) (pj_d p_X12_lookOf 13 rfl) (by decide) (by decide) (by rfl) (by decide) ?_
    refine pj_ild3 (q := 49) (pj_d p_X12_lookOf 14 rfl) rfl ?_
    refine pj_iret rfl (pj_d p_X12_lookOf 15 rfl) (by decide) (by decide) ?_
    exact ⟨rfl, rfl, rfl⟩
  · rw [e]
    refine pj_tabIn (t := 50) (dflt := 72) (lo := 1) (hi := 4) (offs := #[31, 33, 51, 65]) (off := 33) (pj_d p_X12_lookOf 13 rfl) (by decide) (by decide) (by rfl) (by decide) ?_
    refine pj_ild3 (q := 51) (pj_d p_X12_lookOf 16 rfl) rfl ?_
    refine pj_cp (pj_rS (q := 54) (c_X12_bits (gd_left (τ (12 + 3 * t)) st) (by omega)) (pj_d p_X12_lookOf 17 rfl) rfl kX12_161 o_X12_bits (by rfl) (by rfl) (Nat.le_of_ble_eq_true rfl) (by decide)) (by decide) (by decide) ?_
    refine pj_iconst (q := 55) (v := nI 1) (pj_d p_X12_lookOf 18 rfl) rfl (by decide) ?_
    have hb : gd_bits (gd_left (τ (12 + 3 * t)) st) ≤ 7 * 1 := gd_sm_le (fun j _ => by omega)
    refine pj_icmp_le (t := 66) (q := 58) (pj_d p_X12_lookOf 19 rfl) rfl (by decide) (fun c1 => ?_) (fun c1 => ?_)
    · have hz := (gd_twb _ hl).mp ((nI_leI (by omega) (by omega)).mp c1)
      refine pj_ild3 (q := 67) (pj_d p_X12_lookOf 26 rfl) rfl ?_
      refine pj_iret rfl (pj_d p_X12_lookOf 27 rfl) (by decide) (by decide) ?_
      exact ⟨by simp only [gd_look, gd_twin, hz]; rfl, rfl, rfl⟩
    · have hz : ¬ (gd_left (τ (12 + 3 * t)) st &&& (gd_left (τ (12 + 3 * t)) st - 1) = 0) := fun q => c1 (nI_le ((gd_twb _ hl).mpr q) (by omega))
      refine pj_ild3 (q := 59) (pj_d p_X12_lookOf 20 rfl) rfl ?_
      refine pj_ild3 (q := 60) (pj_d p_X12_lookOf 21 rfl) rfl ?_
      refine pj_iconst (q := 61) (v := nI 1) (pj_d p_X12_lookOf 22 rfl) rfl (by decide) ?_
      refine pj_isub (q := 62) (pj_d p_X12_lookOf 23 rfl) rfl ?_
      refine pj_iand (q := 63) (pj_d p_X12_lookOf 24 rfl) rfl ?_
      rw [gd_twinI _ hl]
      refine pj_goto (t := 67) (pj_d p_X12_lookOf 25 rfl) (by decide) ?_
      refine pj_iret rfl (pj_d p_X12_lookOf 27 rfl) (by decide) (by decide) ?_
      exact ⟨by simp only [gd_look, gd_twin, if_neg hz]; rfl, rfl, rfl⟩
  · rw [e]
    refine pj_tabIn (t := 68) (dflt := 72) (lo := 1) (hi := 4) (offs := #[31, 33, 51, 65]) (off := 51) (pj_d p_X12_lookOf 13 rfl) (by decide) (by decide) (by rfl) (by decide) ?_
    refine pj_ild3 (q := 69) (pj_d p_X12_lookOf 28 rfl) rfl ?_
    refine pj_bipush (q := 71) (v := nI 32) (pj_d p_X12_lookOf 29 rfl) rfl (by decide) ?_
    refine pj_iconst (q := 72) (v := nI 1) (pj_d p_X12_lookOf 30 rfl) rfl (by decide) ?_
    refine pj_ald0 (q := 73) (pj_d p_X12_lookOf 31 rfl) rfl ?_
    refine pj_ild1 (q := 74) (pj_d p_X12_lookOf 32 rfl) rfl ?_
    refine pj_iconst (q := 75) (v := nI 2) (pj_d p_X12_lookOf 33 rfl) rfl (by decide) ?_
    refine pj_cp (pj_rV (q := 78) (c_X12_of hM hT (t := t) (w := 2) (by omega) (by omega)) (pj_d p_X12_lookOf 34 rfl) rfl kX12_158 o_X12_of (by assumption) (by rfl) (by rfl) (by rfl) (by rfl) (Nat.le_of_ble_eq_true rfl) (by decide)) (by decide) (by decide) ?_
    rw [show 11 + 3 * t + 2 = 13 + 3 * t by omega]
    refine pj_iadd (q := 79) (pj_d p_X12_lookOf 35 rfl) rfl ?_
    refine pj_imul (q := 80) (pj_d p_X12_lookOf 36 rfl) rfl ?_
    refine pj_iadd (q := 81) (pj_d p_X12_lookOf 37 rfl) rfl ?_
    rw [nI_add, pk_mul, nI_add]
    refine pj_iret rfl (pj_d p_X12_lookOf 38 rfl) (by decide) (by decide) ?_
    exact ⟨rfl, rfl, rfl⟩
  · rw [e]
    refine pj_tabIn (t := 82) (dflt := 72) (lo := 1) (hi := 4) (offs := #[31, 33, 51, 65]) (off := 65) (pj_d p_X12_lookOf 13 rfl) (by decide) (by decide) (by rfl) (by decide) ?_
    refine pj_ald0 (q := 83) (pj_d p_X12_lookOf 39 rfl) rfl ?_
    refine pj_ild1 (q := 84) (pj_d p_X12_lookOf 40 rfl) rfl ?_
    refine pj_iconst (q := 85) (v := nI 1) (pj_d p_X12_lookOf 41 rfl) rfl (by decide) ?_
    refine pj_cp (pj_rV (q := 88) (c_X12_of hM hT (t := t) (w := 1) (by omega) (by omega)) (pj_d p_X12_lookOf 42 rfl) rfl kX12_158 o_X12_of (by assumption) (by rfl) (by rfl) (by rfl) (by rfl) (Nat.le_of_ble_eq_true rfl) (by decide)) (by decide) (by decide) ?_
    rw [show 11 + 3 * t + 1 = 12 + 3 * t by omega]
    refine pj_iret rfl (pj_d p_X12_lookOf 43 rfl) (by decide) (by decide) ?_
    exact ⟨rfl, rfl, rfl⟩
  · rw [e]
    refine pj_tabOut (t := 89) (dflt := 72) (lo := 1) (hi := 4) (offs := #[31, 33, 51, 65]) (pj_d p_X12_lookOf 13 rfl) (by decide) (by decide) ?_
    refine pj_iconst (q := 90) (v := nI 0) (pj_d p_X12_lookOf 44 rfl) rfl (by decide) ?_
    refine pj_iret rfl (pj_d p_X12_lookOf 45 rfl) (by decide) (by decide) ?_
    exact ⟨rfl, rfl, rfl⟩
end
end
section
/-! ===== the model: harm, likeness; its calls that only read ===== -/
theorem gd_lt {a b : Nat} (c : ¬ nI b ≤ nI a) (ha : a < 2 ^ 31) : a < b := by
  rcases Nat.lt_or_ge a b with q | q
  · exact q
  · exact absurd (nI_le q ha) c
theorem gd_ge {a b : Nat} (c : nI b ≤ nI a) (ha : a < 2 ^ 31) (hb : b < 2 ^ 31) : b ≤ a := (nI_leI hb ha).mp c
theorem gd_rng_of {x : Int32} {hi : Nat} (h : gd_rng x 0 hi = true) : ∃ j, j ≤ hi ∧ x = nI j ∧ x.toNatClampNeg = j := by
  rw [gd_rng, decide_eq_true_eq] at h
  have h0 : ¬ x < 0 := by rw [Int32.lt_iff_toInt_lt]; simp; omega
  obtain ⟨j, hj, rfl⟩ := nI_of h0
  rw [nI_toInt hj] at h
  exact ⟨j, by omega, rfl, nI_clamp hj⟩
theorem gd_rng_of1 {x : Int32} {hi : Nat} (h : gd_rng x 1 hi = true) : ∃ j, 1 ≤ j ∧ j ≤ hi ∧ x = nI j ∧ x.toNatClampNeg = j := by
  rw [gd_rng, decide_eq_true_eq] at h
  have h0 : ¬ x < 0 := by rw [Int32.lt_iff_toInt_lt]; simp; omega
  obtain ⟨j, hj, rfl⟩ := nI_of h0
  rw [nI_toInt hj] at h
  exact ⟨j, by omega, by omega, rfl, nI_clamp hj⟩
theorem gd_has_of {τ : Nat → Nat} {x : Int32} (hW : τ 1 ≤ 7) (h : gd_has τ x = true) : ∃ j, j < τ 1 ∧ x = nI j ∧ x.toNatClampNeg = j := by
  obtain ⟨j, hj, rfl⟩ := (gd_has_iff hW).mp h
  exact ⟨j, hj, rfl, nI_clamp (by omega)⟩
theorem gd_sw (x : Int32) (N : Nat) (hN : N < 1000) : (∃ j, j ≤ N ∧ x = nI j ∧ x.toInt = (j : Int)) ∨ (x.toInt < 0 ∨ (N : Int) < x.toInt) := by
  by_cases h : 0 ≤ x.toInt ∧ x.toInt ≤ N
  · obtain ⟨j, h1, h2, -⟩ := gd_rng_of (x := x) (hi := N) (by rw [gd_rng, decide_eq_true_eq]; exact h)
    refine Or.inl ⟨j, h1, h2, ?_⟩
    rw [h2, nI_toInt (by omega)]
  · right; omega
def gd_looks (τ : Nat → Nat) (st : Nat) : Nat := gd_sm (fun i => if gd_like τ i st % 2 ^ i = 0 then 1 else 0) (τ 1)
theorem gd_andm : ∀ i, i < 7 → ∀ x, x < 128 → nI x &&& (nI (2 ^ i) - nI 1) = nI (x % 2 ^ i) := by decide +kernel
def sp_missing (τ : Nat → Nat) (w : Int32) : Int32 := if τ 0 = 1 then (if gd_rng w 0 6 then nI (τ (4 + w.toNatClampNeg)) else -1000001) else -1000002
def sp_look (τ : Nat → Nat) (t st : Int32) : Int32 := if gd_has τ t && gd_rng st 0 31 then nI (gd_lk τ t.toNatClampNeg st.toNatClampNeg) else -1000001
def sp_two (τ : Nat → Nat) (a b : Int32) : Bool := gd_has τ a && gd_has τ b && !decide (a = b)
def sp_alike (τ : Nat → Nat) (a b d : Int32) : Int32 := if sp_two τ a b && gd_rng d 0 100 then gd_b (decide (gd_lk τ a.toNatClampNeg (gd_miss τ d.toNatClampNeg) = gd_lk τ b.toNatClampNeg (gd_miss τ d.toNatClampNeg))) else -1000001
def sp_like (τ : Nat → Nat) (t d : Int32) : Int32 := if gd_has τ t && gd_rng d 0 100 then nI (gd_like τ t.toNatClampNeg (gd_miss τ d.toNatClampNeg)) else -1000001
def sp_looks (τ : Nat → Nat) (d : Int32) : Int32 := if τ 0 = 1 then (if gd_rng d 0 100 then nI (gd_looks τ (gd_miss τ d.toNatClampNeg)) else -1000001) else -1000002
def sp_harm (τ : Nat → Nat) (d : Int32) : Int32 := if τ 0 = 1 then (if gd_rng d 0 100 then nI (gd_harm τ (gd_miss τ d.toNatClampNeg)) else -1000001) else -1000002
def sp_harms (τ : Nat → Nat) (m : Int32) : Int32 := if τ 0 = 1 then (if gd_rng m 1 100 then nI (gd_harms τ m.toNatClampNeg) else -1000001) else -1000002
def sp_kind (τ : Nat → Nat) (t : Int32) : Int32 := if gd_has τ t then nI (τ (11 + 3 * t.toNatClampNeg)) else -1000001
def sp_pair (τ : Nat → Nat) (a b : Int32) : Int32 := if sp_two τ a b then nI (gd_pair τ a.toNatClampNeg b.toNatClampNeg) else -1000001
def sp_thing (τ : Nat → Nat) (t w : Int32) : Int32 := if gd_has τ t then (if w.toInt = 0 then nI (τ (12 + 3 * t.toNatClampNeg)) else if w.toInt = 1 then nI (τ (13 + 3 * t.toNatClampNeg)) else if w.toInt = 2 then nI (gd_lk τ t.toNatClampNeg (gd_miss τ 0)) else if w.toInt = 3 then nI (gd_with τ t.toNatClampNeg) else -1000001) else -1000001
section
variable {E : pj_E} {B : Nat} {l : Launch} {h : pj_H} {n g : Nat} {τ : Nat → Nat} {v : Nat → Int32}
theorem c_X12_missingOn (hM : h g = some (.inr (11, gd_Mo g v))) (hT : h (g + 4) = some (.inl (0, 56, .inl (fun j => nI (τ j))))) (hW : gd_W τ) {d : Nat} (hd : d ≤ 1000) : pj_Ct E B l Y_X12_missingOn 2 0 0 [.ref g, .int (nI d)] h n (pj_is (some (.int (nI (gd_miss τ d)))) h n) := by
  have h3 := hW.2.2.1
  refine pj_in rfl (ls := [some (.ref g), some (.int (nI d))]) rfl (Nat.le_of_ble_eq_true rfl) ?_
  refine pj_ald0 (q := 1) (pj_d p_X12_missingOn 0 rfl) rfl ?_
  refine pj_gf (q := 4) (k := 5) (pj_d p_X12_missingOn 1 rfl) rfl kX12_19 (by assumption) (by rfl) (by rfl) ?_
  refine pj_iconst (q := 5) (v := nI 4) (pj_d p_X12_missingOn 2 rfl) rfl (by decide) ?_
  refine pj_ald0 (q := 6) (pj_d p_X12_missingOn 3 rfl) rfl ?_
  refine pj_gf (q := 9) (k := 5) (pj_d p_X12_missingOn 4 rfl) rfl kX12_19 (by assumption) (by rfl) (by rfl) ?_
  refine pj_iconst (q := 10) (v := nI 3) (pj_d p_X12_missingOn 5 rfl) rfl (by decide) ?_
  refine pj_ialdN (q := 11) (pj_d p_X12_missingOn 6 rfl) rfl (by assumption) (by rfl) (by first | assumption | omega) (Nat.le_of_ble_eq_true rfl) ?_
  refine pj_ild1 (q := 12) (pj_d p_X12_missingOn 7 rfl) rfl ?_
  refine pj_iadd (q := 13) (pj_d p_X12_missingOn 8 rfl) rfl ?_
  refine pj_bipush (q := 15) (v := nI 7) (pj_d p_X12_missingOn 9 rfl) rfl (by decide) ?_
  refine pj_irem (q := 16) (pj_d p_X12_missingOn 10 rfl) rfl (by decide) ?_
  rw [nI_add, gd_rem7 (by omega)]
  refine pj_iadd (q := 17) (pj_d p_X12_missingOn 11 rfl) rfl ?_
  rw [nI_add]
  have hm := Nat.mod_lt (τ 3 + d) (show 0 < 7 by omega)
  refine pj_ialdN (q := 18) (pj_d p_X12_missingOn 12 rfl) rfl (by assumption) (by rfl) (by first | assumption | omega) (Nat.le_of_ble_eq_true rfl) ?_
  refine pj_cp (pj_rS (q := 21) (c_X12_setOf _ (hW.2.2.2.1 _ hm)) (pj_d p_X12_missingOn 13 rfl) rfl kX12_164 o_X12_setOf (by rfl) (by rfl) (Nat.le_of_ble_eq_true rfl) (by decide)) (by decide) (by decide) ?_
  refine pj_iret rfl (pj_d p_X12_missingOn 14 rfl) (by decide) (by decide) ?_
  exact ⟨rfl, rfl, rfl⟩
theorem c_X12_harmBy (hM : h g = some (.inr (11, gd_Mo g v))) (hT : h (g + 4) = some (.inl (0, 56, .inl (fun j => nI (τ j))))) (hW : gd_W τ) {st : Nat} (hs : st < 32) : pj_Ct E B l Y_X12_harmBy 3 0 0 [.ref g, .int (nI st)] h n (pj_is (some (.int (nI (gd_harm τ st)))) h n) := by
  have h8 := hW.2.1
  refine pj_in rfl (ls := [some (.ref g), some (.int (nI st)), none, none, none, none]) rfl (Nat.le_of_ble_eq_true rfl) ?_
  refine pj_iconst (q := 1) (v := nI 0) (pj_d p_X12_harmBy 0 rfl) rfl (by decide) ?_
  refine pj_ist2 (q := 2) (pj_d p_X12_harmBy 1 rfl) rfl rfl ?_
  refine pj_iconst (q := 3) (v := nI 0) (pj_d p_X12_harmBy 2 rfl) rfl (by decide) ?_
  refine pj_ist3 (q := 4) (pj_d p_X12_harmBy 3 rfl) rfl rfl ?_
  have loop : ∀ m i o4 o5, pj_c1 o4 = true → pj_c1 o5 = true → τ 2 - i < m → i ≤ τ 2 → pj_V E B l Y_X12_harmBy 3 0 0 4 [some (.ref g), some (.int (nI st)), some (.int (nI (gd_sm (gd_hf τ st) i))), some (.int (nI i)), o4, o5] [] h n 0 0 (pj_is (some (.int (nI (gd_harm τ st)))) h n) := by
    intro m
    induction m with
    | zero => intro i o4 o5 _ _ hi; omega
    | succ m ih =>
      intro i o4 o5 k4 k5 hi hle
      refine pj_ild3 (q := 5) (pj_d p_X12_harmBy 4 rfl) rfl ?_
      refine pj_ald0 (q := 6) (pj_d p_X12_harmBy 5 rfl) rfl ?_
      refine pj_gf (q := 9) (k := 5) (pj_d p_X12_harmBy 6 rfl) rfl kX12_19 (by assumption) (by rfl) (by rfl) ?_
      refine pj_iconst (q := 10) (v := nI 2) (pj_d p_X12_harmBy 7 rfl) rfl (by decide) ?_
      refine pj_ialdN (q := 11) (pj_d p_X12_harmBy 8 rfl) rfl (by assumption) (by rfl) (by first | assumption | omega) (Nat.le_of_ble_eq_true rfl) ?_
      refine pj_icmp_ge (t := 85) (q := 14) (pj_d p_X12_harmBy 9 rfl) rfl (by decide) (fun c1 => ?_) (fun c1 => ?_)
      · have he : i = τ 2 := by have := gd_ge c1 (by omega) (by omega); omega
        subst he
        refine pj_ild2 (q := 86) (pj_d p_X12_harmBy 56 rfl) rfl ?_
        refine pj_iret rfl (pj_d p_X12_harmBy 57 rfl) (by decide) (by decide) ?_
        exact ⟨rfl, rfl, rfl⟩
      · have hlt : i < τ 2 := gd_lt c1 (by omega)
        obtain ⟨g1, g2, -⟩ := hW.2.2.2.2.2.1 i hlt
        refine pj_ald0 (q := 15) (pj_d p_X12_harmBy 10 rfl) rfl ?_
        refine pj_gf (q := 18) (k := 5) (pj_d p_X12_harmBy 11 rfl) rfl kX12_19 (by assumption) (by rfl) (by rfl) ?_
        refine pj_bipush (q := 20) (v := nI 32) (pj_d p_X12_harmBy 12 rfl) rfl (by decide) ?_
        refine pj_iconst (q := 21) (v := nI 3) (pj_d p_X12_harmBy 13 rfl) rfl (by decide) ?_
        refine pj_ild3 (q := 22) (pj_d p_X12_harmBy 14 rfl) rfl ?_
        refine pj_imul (q := 23) (pj_d p_X12_harmBy 15 rfl) rfl ?_
        refine pj_iadd (q := 24) (pj_d p_X12_harmBy 16 rfl) rfl ?_
        rw [pk_mul, nI_add]
        refine pj_ialdN (q := 25) (pj_d p_X12_harmBy 17 rfl) rfl (by assumption) (by rfl) (by first | assumption | omega) (Nat.le_of_ble_eq_true rfl) ?_
        refine pj_ist4 (q := 27) (pj_d p_X12_harmBy 18 rfl) rfl rfl ?_
        refine pj_ald0 (q := 28) (pj_d p_X12_harmBy 19 rfl) rfl ?_
        refine pj_gf (q := 31) (k := 5) (pj_d p_X12_harmBy 20 rfl) rfl kX12_19 (by assumption) (by rfl) (by rfl) ?_
        refine pj_bipush (q := 33) (v := nI 32) (pj_d p_X12_harmBy 21 rfl) rfl (by decide) ?_
        refine pj_iconst (q := 34) (v := nI 3) (pj_d p_X12_harmBy 22 rfl) rfl (by decide) ?_
        refine pj_ild3 (q := 35) (pj_d p_X12_harmBy 23 rfl) rfl ?_
        refine pj_imul (q := 36) (pj_d p_X12_harmBy 24 rfl) rfl ?_
        refine pj_iadd (q := 37) (pj_d p_X12_harmBy 25 rfl) rfl ?_
        refine pj_iconst (q := 38) (v := nI 1) (pj_d p_X12_harmBy 26 rfl) rfl (by decide) ?_
        refine pj_iadd (q := 39) (pj_d p_X12_harmBy 27 rfl) rfl ?_
        rw [pk_mul, nI_add, nI_add]
        refine pj_ialdN (q := 40) (pj_d p_X12_harmBy 28 rfl) rfl (by assumption) (by rfl) (by first | assumption | omega) (Nat.le_of_ble_eq_true rfl) ?_
        rw [show 32 + 3 * i + 1 = 33 + 3 * i by omega]
        refine pj_ist5 (q := 42) (pj_d p_X12_harmBy 29 rfl) rfl rfl ?_
        refine pj_ild2 (q := 43) (pj_d p_X12_harmBy 30 rfl) rfl ?_
        refine pj_ald0 (q := 44) (pj_d p_X12_harmBy 31 rfl) rfl ?_
        refine pj_ild4 (q := 46) (pj_d p_X12_harmBy 32 rfl) rfl ?_
        refine pj_ild1 (q := 47) (pj_d p_X12_harmBy 33 rfl) rfl ?_
        refine pj_cp (pj_rV (q := 50) (c_X12_lookOf hM hT hW g1 hs) (pj_d p_X12_harmBy 34 rfl) rfl kX12_167 o_X12_lookOf (by assumption) (by rfl) (by rfl) (by rfl) (by rfl) (Nat.le_of_ble_eq_true rfl) (by decide)) (by decide) (by decide) ?_
        refine pj_ald0 (q := 51) (pj_d p_X12_harmBy 35 rfl) rfl ?_
        refine pj_ild5 (q := 53) (pj_d p_X12_harmBy 36 rfl) rfl ?_
        refine pj_ild1 (q := 54) (pj_d p_X12_harmBy 37 rfl) rfl ?_
        refine pj_cp (pj_rV (q := 57) (c_X12_lookOf hM hT hW g2 hs) (pj_d p_X12_harmBy 38 rfl) rfl kX12_167 o_X12_lookOf (by assumption) (by rfl) (by rfl) (by rfl) (by rfl) (Nat.le_of_ble_eq_true rfl) (by decide)) (by decide) (by decide) ?_
        have la := gd_lk_lt hW g1 hs
        have lb := gd_lk_lt hW g2 hs
        have go : ∀ x, gd_sm (gd_hf τ st) i + x = gd_sm (gd_hf τ st) (i + 1) → pj_V E B l Y_X12_harmBy 3 0 0 77 [some (.ref g), some (.int (nI st)), some (.int (nI (gd_sm (gd_hf τ st) i))), some (.int (nI i)), some (.int (nI (τ (32 + 3 * i)))), some (.int (nI (τ (33 + 3 * i))))] [.int (nI x), .int (nI (gd_sm (gd_hf τ st) i))] h n 0 0 (pj_is (some (.int (nI (gd_harm τ st)))) h n) := by
          intro x hx
          refine pj_iadd (q := 78) (pj_d p_X12_harmBy 52 rfl) rfl ?_
          rw [nI_add, hx]
          refine pj_ist2 (q := 79) (pj_d p_X12_harmBy 53 rfl) rfl rfl ?_
          refine pj_iinc3 (q := 82) (v := 1) (pj_d p_X12_harmBy 54 rfl) rfl rfl (by decide) ?_
          refine pj_goto (t := 4) (pj_d p_X12_harmBy 55 rfl) (by decide) ?_
          rw [nI_1]
          exact ih (i + 1) _ _ rfl rfl (by omega) (by omega)
        refine pj_icmp_ne (t := 76) (q := 60) (pj_d p_X12_harmBy 39 rfl) rfl (by decide) (fun c2 => ?_) (fun c2 => ?_)
        · have hne : ¬ gd_lk τ (τ (32 + 3 * i)) st = gd_lk τ (τ (33 + 3 * i)) st := fun q => c2 (by rw [q])
          refine pj_iconst (q := 77) (v := nI 0) (pj_d p_X12_harmBy 51 rfl) rfl (by decide) ?_
          exact go 0 (by rw [gd_sm, gd_hf, if_neg hne])
        · have heq := (nI_eq (by omega) (by omega)).mp c2
          refine pj_ald0 (q := 61) (pj_d p_X12_harmBy 40 rfl) rfl ?_
          refine pj_gf (q := 64) (k := 5) (pj_d p_X12_harmBy 41 rfl) rfl kX12_19 (by assumption) (by rfl) (by rfl) ?_
          refine pj_bipush (q := 66) (v := nI 32) (pj_d p_X12_harmBy 42 rfl) rfl (by decide) ?_
          refine pj_iconst (q := 67) (v := nI 3) (pj_d p_X12_harmBy 43 rfl) rfl (by decide) ?_
          refine pj_ild3 (q := 68) (pj_d p_X12_harmBy 44 rfl) rfl ?_
          refine pj_imul (q := 69) (pj_d p_X12_harmBy 45 rfl) rfl ?_
          refine pj_iadd (q := 70) (pj_d p_X12_harmBy 46 rfl) rfl ?_
          refine pj_iconst (q := 71) (v := nI 2) (pj_d p_X12_harmBy 47 rfl) rfl (by decide) ?_
          refine pj_iadd (q := 72) (pj_d p_X12_harmBy 48 rfl) rfl ?_
          rw [pk_mul, nI_add, nI_add]
          refine pj_ialdN (q := 73) (pj_d p_X12_harmBy 49 rfl) rfl (by assumption) (by rfl) (by first | assumption | omega) (Nat.le_of_ble_eq_true rfl) ?_
          rw [show 32 + 3 * i + 2 = 34 + 3 * i by omega]
          refine pj_goto (t := 77) (pj_d p_X12_harmBy 50 rfl) (by decide) ?_
          exact go _ (by rw [gd_sm, gd_hf, if_pos heq])
  exact loop (τ 2 + 1) 0 _ _ rfl rfl (by omega) (by omega)
theorem c_X12_harmsOf (hM : h g = some (.inr (11, gd_Mo g v))) (hT : h (g + 4) = some (.inl (0, 56, .inl (fun j => nI (τ j))))) (hW : gd_W τ) {c : Nat} (hc : c ≤ 1000) : pj_Ct E B l Y_X12_harmsOf 4 0 0 [.ref g, .int (nI c)] h n (pj_is (some (.int (nI (gd_harms τ c)))) h n) := by
  refine pj_in rfl (ls := [some (.ref g), some (.int (nI c)), none, none]) rfl (Nat.le_of_ble_eq_true rfl) ?_
  refine pj_iconst (q := 1) (v := nI 0) (pj_d p_X12_harmsOf 0 rfl) rfl (by decide) ?_
  refine pj_ist2 (q := 2) (pj_d p_X12_harmsOf 1 rfl) rfl rfl ?_
  refine pj_iconst (q := 3) (v := nI 0) (pj_d p_X12_harmsOf 2 rfl) rfl (by decide) ?_
  refine pj_ist3 (q := 4) (pj_d p_X12_harmsOf 3 rfl) rfl rfl ?_
  have loop : ∀ m i, c - i < m → i ≤ c → pj_V E B l Y_X12_harmsOf 4 0 0 4 [some (.ref g), some (.int (nI c)), some (.int (nI (gd_harms τ i))), some (.int (nI i))] [] h n 0 0 (pj_is (some (.int (nI (gd_harms τ c)))) h n) := by
    intro m
    induction m with
    | zero => intro i hi; omega
    | succ m ih =>
      intro i hi hle
      refine pj_ild3 (q := 5) (pj_d p_X12_harmsOf 4 rfl) rfl ?_
      refine pj_ild1 (q := 6) (pj_d p_X12_harmsOf 5 rfl) rfl ?_
      refine pj_icmp_ge (t := 27) (q := 9) (pj_d p_X12_harmsOf 6 rfl) rfl (by decide) (fun c1 => ?_) (fun c1 => ?_)
      · have he : i = c := by have := gd_ge c1 (by omega) (by omega); omega
        subst he
        refine pj_ild2 (q := 28) (pj_d p_X12_harmsOf 17 rfl) rfl ?_
        refine pj_iret rfl (pj_d p_X12_harmsOf 18 rfl) (by decide) (by decide) ?_
        exact ⟨rfl, rfl, rfl⟩
      · have hlt : i < c := gd_lt c1 (by omega)
        refine pj_ild2 (q := 10) (pj_d p_X12_harmsOf 7 rfl) rfl ?_
        refine pj_ald0 (q := 11) (pj_d p_X12_harmsOf 8 rfl) rfl ?_
        refine pj_ald0 (q := 12) (pj_d p_X12_harmsOf 9 rfl) rfl ?_
        refine pj_ild3 (q := 13) (pj_d p_X12_harmsOf 10 rfl) rfl ?_
        refine pj_cp (pj_rV (q := 16) (c_X12_missingOn hM hT hW (d := i) (by omega)) (pj_d p_X12_harmsOf 11 rfl) rfl kX12_170 o_X12_missingOn (by assumption) (by rfl) (by rfl) (by rfl) (by rfl) (Nat.le_of_ble_eq_true rfl) (by decide)) (by decide) (by decide) ?_
        refine pj_cp (pj_rV (q := 19) (c_X12_harmBy hM hT hW (gd_miss_lt hW i)) (pj_d p_X12_harmsOf 12 rfl) rfl kX12_173 o_X12_harmBy (by assumption) (by rfl) (by rfl) (by rfl) (by rfl) (Nat.le_of_ble_eq_true rfl) (by decide)) (by decide) (by decide) ?_
        refine pj_iadd (q := 20) (pj_d p_X12_harmsOf 13 rfl) rfl ?_
        rw [nI_add]
        refine pj_ist2 (q := 21) (pj_d p_X12_harmsOf 14 rfl) rfl rfl ?_
        refine pj_iinc3 (q := 24) (v := 1) (pj_d p_X12_harmsOf 15 rfl) rfl rfl (by decide) ?_
        refine pj_goto (t := 4) (pj_d p_X12_harmsOf 16 rfl) (by decide) ?_
        rw [nI_1]
        exact ih (i + 1) (by omega) (by omega)
  exact loop (c + 1) 0 (by omega) (by omega)
theorem c_X12_likeBy (hM : h g = some (.inr (11, gd_Mo g v))) (hT : h (g + 4) = some (.inl (0, 56, .inl (fun j => nI (τ j))))) (hW : gd_W τ) {t st : Nat} (ht : t < τ 1) (hs : st < 32) : pj_Ct E B l Y_X12_likeBy 3 0 0 [.ref g, .int (nI t), .int (nI st)] h n (pj_is (some (.int (nI (gd_like τ t st)))) h n) := by
  have h7 := hW.1
  refine pj_in rfl (ls := [some (.ref g), some (.int (nI t)), some (.int (nI st)), none, none]) rfl (Nat.le_of_ble_eq_true rfl) ?_
  refine pj_iconst (q := 1) (v := nI 0) (pj_d p_X12_likeBy 0 rfl) rfl (by decide) ?_
  refine pj_ist3 (q := 2) (pj_d p_X12_likeBy 1 rfl) rfl rfl ?_
  refine pj_iconst (q := 3) (v := nI 0) (pj_d p_X12_likeBy 2 rfl) rfl (by decide) ?_
  refine pj_ist4 (q := 5) (pj_d p_X12_likeBy 3 rfl) rfl rfl ?_
  generalize hf : (fun k => if gd_lk τ k st = gd_lk τ t st then 2 ^ k else 0) = f
  have hg : gd_like τ t st = gd_sm f (τ 1) := by rw [← hf]; rfl
  have hlt2 : ∀ m, gd_sm f m < 2 ^ m := by rw [← hf]; exact gd_like_lt τ t st
  have loop : ∀ m i, τ 1 - i < m → i ≤ τ 1 → pj_V E B l Y_X12_likeBy 3 0 0 5 [some (.ref g), some (.int (nI t)), some (.int (nI st)), some (.int (nI (gd_sm f i))), some (.int (nI i))] [] h n 0 0 (pj_is (some (.int (nI (gd_like τ t st)))) h n) := by
    intro m
    induction m with
    | zero => intro i hi; omega
    | succ m ih =>
      intro i hi hle
      refine pj_ild4 (q := 7) (pj_d p_X12_likeBy 4 rfl) rfl ?_
      refine pj_ald0 (q := 8) (pj_d p_X12_likeBy 5 rfl) rfl ?_
      refine pj_gf (q := 11) (k := 5) (pj_d p_X12_likeBy 6 rfl) rfl kX12_19 (by assumption) (by rfl) (by rfl) ?_
      refine pj_iconst (q := 12) (v := nI 1) (pj_d p_X12_likeBy 7 rfl) rfl (by decide) ?_
      refine pj_ialdN (q := 13) (pj_d p_X12_likeBy 8 rfl) rfl (by assumption) (by rfl) (by first | assumption | omega) (Nat.le_of_ble_eq_true rfl) ?_
      refine pj_icmp_ge (t := 49) (q := 16) (pj_d p_X12_likeBy 9 rfl) rfl (by decide) (fun c1 => ?_) (fun c1 => ?_)
      · have he : i = τ 1 := by have := gd_ge c1 (by omega) (by omega); omega
        subst he
        refine pj_ild3 (q := 50) (pj_d p_X12_likeBy 29 rfl) rfl ?_
        refine pj_iret rfl (pj_d p_X12_likeBy 30 rfl) (by decide) (by decide) ?_
        exact ⟨by rw [hg], rfl, rfl⟩
      · have hlt : i < τ 1 := gd_lt c1 (by omega)
        refine pj_ild3 (q := 17) (pj_d p_X12_likeBy 10 rfl) rfl ?_
        refine pj_ald0 (q := 18) (pj_d p_X12_likeBy 11 rfl) rfl ?_
        refine pj_ild4 (q := 20) (pj_d p_X12_likeBy 12 rfl) rfl ?_
        refine pj_ild2 (q := 21) (pj_d p_X12_likeBy 13 rfl) rfl ?_
        refine pj_cp (pj_rV (q := 24) (c_X12_lookOf hM hT hW hlt hs) (pj_d p_X12_likeBy 14 rfl) rfl kX12_167 o_X12_lookOf (by assumption) (by rfl) (by rfl) (by rfl) (by rfl) (Nat.le_of_ble_eq_true rfl) (by decide)) (by decide) (by decide) ?_
        refine pj_ald0 (q := 25) (pj_d p_X12_likeBy 15 rfl) rfl ?_
        refine pj_ild1 (q := 26) (pj_d p_X12_likeBy 16 rfl) rfl ?_
        refine pj_ild2 (q := 27) (pj_d p_X12_likeBy 17 rfl) rfl ?_
        refine pj_cp (pj_rV (q := 30) (c_X12_lookOf hM hT hW ht hs) (pj_d p_X12_likeBy 18 rfl) rfl kX12_167 o_X12_lookOf (by assumption) (by rfl) (by rfl) (by rfl) (by rfl) (Nat.le_of_ble_eq_true rfl) (by decide)) (by decide) (by decide) ?_
        have la := gd_lk_lt hW hlt hs
        have lb := gd_lk_lt hW ht hs
        have go : ∀ x, nI (gd_sm f i) ||| nI x = nI (gd_sm f (i + 1)) → pj_V E B l Y_X12_likeBy 3 0 0 41 [some (.ref g), some (.int (nI t)), some (.int (nI st)), some (.int (nI (gd_sm f i))), some (.int (nI i))] [.int (nI x), .int (nI (gd_sm f i))] h n 0 0 (pj_is (some (.int (nI (gd_like τ t st)))) h n) := by
          intro x hx
          refine pj_ior (q := 42) (pj_d p_X12_likeBy 25 rfl) rfl ?_
          rw [hx]
          refine pj_ist3 (q := 43) (pj_d p_X12_likeBy 26 rfl) rfl rfl ?_
          refine pj_iinc4 (q := 46) (v := 1) (pj_d p_X12_likeBy 27 rfl) rfl rfl (by decide) ?_
          refine pj_goto (t := 5) (pj_d p_X12_likeBy 28 rfl) (by decide) ?_
          rw [nI_1]
          exact ih (i + 1) (by omega) (by omega)
        refine pj_icmp_ne (t := 40) (q := 33) (pj_d p_X12_likeBy 19 rfl) rfl (by decide) (fun c2 => ?_) (fun c2 => ?_)
        · have hne : ¬ gd_lk τ i st = gd_lk τ t st := fun q => c2 (by rw [q])
          refine pj_iconst (q := 41) (v := nI 0) (pj_d p_X12_likeBy 24 rfl) rfl (by decide) ?_
          exact go 0 (by rw [gd_or0, gd_sm, ← hf]; simp only [if_neg hne]; rfl)
        · have heq := (nI_eq (by omega) (by omega)).mp c2
          refine pj_iconst (q := 34) (v := nI 1) (pj_d p_X12_likeBy 20 rfl) rfl (by decide) ?_
          refine pj_ild4 (q := 36) (pj_d p_X12_likeBy 21 rfl) rfl ?_
          refine pj_ishl (q := 37) (pj_d p_X12_likeBy 22 rfl) rfl ?_
          rw [gd_shl1 i (by omega)]
          refine pj_goto (t := 41) (pj_d p_X12_likeBy 23 rfl) (by decide) ?_
          exact go _ (by rw [gd_or2 i (by omega) _ (hlt2 i), gd_sm, ← hf]; simp only [if_pos heq])
  exact loop (τ 1 + 1) 0 (by omega) (by omega)
theorem c_X12_areAlike (hM : h g = some (.inr (11, gd_Mo g v))) (hT : h (g + 4) = some (.inl (0, 56, .inl (fun j => nI (τ j))))) (hW : gd_W τ) {a b d : Nat} (ha : a < τ 1) (hb : b < τ 1) (hd : d ≤ 1000) : pj_Ct E B l Y_X12_areAlike 3 0 0 [.ref g, .int (nI a), .int (nI b), .int (nI d)] h n (pj_is (some (.int (gd_b (decide (gd_lk τ a (gd_miss τ d) = gd_lk τ b (gd_miss τ d)))))) h n) := by
  have hs := gd_miss_lt hW d
  refine pj_in rfl (ls := [some (.ref g), some (.int (nI a)), some (.int (nI b)), some (.int (nI d))]) rfl (Nat.le_of_ble_eq_true rfl) ?_
  refine pj_ald0 (q := 1) (pj_d p_X12_areAlike 0 rfl) rfl ?_
  refine pj_ild1 (q := 2) (pj_d p_X12_areAlike 1 rfl) rfl ?_
  refine pj_ald0 (q := 3) (pj_d p_X12_areAlike 2 rfl) rfl ?_
  refine pj_ild3 (q := 4) (pj_d p_X12_areAlike 3 rfl) rfl ?_
  refine pj_cp (pj_rV (q := 7) (c_X12_missingOn hM hT hW hd) (pj_d p_X12_areAlike 4 rfl) rfl kX12_170 o_X12_missingOn (by assumption) (by rfl) (by rfl) (by rfl) (by rfl) (Nat.le_of_ble_eq_true rfl) (by decide)) (by decide) (by decide) ?_
  refine pj_cp (pj_rV (q := 10) (c_X12_lookOf hM hT hW ha hs) (pj_d p_X12_areAlike 5 rfl) rfl kX12_167 o_X12_lookOf (by assumption) (by rfl) (by rfl) (by rfl) (by rfl) (Nat.le_of_ble_eq_true rfl) (by decide)) (by decide) (by decide) ?_
  refine pj_ald0 (q := 11) (pj_d p_X12_areAlike 6 rfl) rfl ?_
  refine pj_ild2 (q := 12) (pj_d p_X12_areAlike 7 rfl) rfl ?_
  refine pj_ald0 (q := 13) (pj_d p_X12_areAlike 8 rfl) rfl ?_
  refine pj_ild3 (q := 14) (pj_d p_X12_areAlike 9 rfl) rfl ?_
  refine pj_cp (pj_rV (q := 17) (c_X12_missingOn hM hT hW hd) (pj_d p_X12_areAlike 10 rfl) rfl kX12_170 o_X12_missingOn (by assumption) (by rfl) (by rfl) (by rfl) (by rfl) (Nat.le_of_ble_eq_true rfl) (by decide)) (by decide) (by decide) ?_
  refine pj_cp (pj_rV (q := 20) (c_X12_lookOf hM hT hW hb hs) (pj_d p_X12_areAlike 11 rfl) rfl kX12_167 o_X12_lookOf (by assumption) (by rfl) (by rfl) (by rfl) (by rfl) (Nat.le_of_ble_eq_true rfl) (by decide)) (by decide) (by decide) ?_
  have la := gd_lk_lt hW ha hs
  have lb := gd_lk_lt hW hb hs
  refine pj_icmp_ne (t := 27) (q := 23) (pj_d p_X12_areAlike 12 rfl) rfl (by decide) (fun c2 => ?_) (fun c2 => ?_)
  · have hne : ¬ gd_lk τ a (gd_miss τ d) = gd_lk τ b (gd_miss τ d) := fun q => c2 (by rw [q])
    rw [decide_eq_false hne]
    refine pj_iconst (q := 28) (v := nI 0) (pj_d p_X12_areAlike 15 rfl) rfl (by decide) ?_
    refine pj_zret rfl (by first | rfl | decide | (split <;> rfl)) (pj_d p_X12_areAlike 16 rfl) (by decide) (by decide) ?_
    exact ⟨rfl, rfl, rfl⟩
  · have heq := (nI_eq (by omega) (by omega)).mp c2
    rw [decide_eq_true heq]
    refine pj_iconst (q := 24) (v := nI 1) (pj_d p_X12_areAlike 13 rfl) rfl (by decide) ?_
    refine pj_goto (t := 28) (pj_d p_X12_areAlike 14 rfl) (by decide) ?_
    refine pj_zret rfl (by first | rfl | decide | (split <;> rfl)) (pj_d p_X12_areAlike 16 rfl) (by decide) (by decide) ?_
    exact ⟨rfl, rfl, rfl⟩
end
end
section
/-! ===== the model: public calls that only read ===== -/
def gd_MR (h : pj_H) (g : Nat) (v : Nat → Int32) (τ : Nat → Nat) : Prop := h g = some (.inr (11, gd_Mo g v)) ∧ h (g + 4) = some (.inl (0, 56, .inl (fun j => nI (τ j)))) ∧ v 0 = nI 0 ∧ gd_W τ ∧ τ 0 ≤ 1
theorem gd_dec_f {p : Prop} [Decidable p] (h : gd_b (decide p) = 0) : ¬ p := of_decide_eq_false ((gd_b_z _).mp h)
theorem gd_dec_t {p : Prop} [Decidable p] (h : ¬ gd_b (decide p) = 0) : p := of_decide_eq_true ((gd_b_n _).mp h)
section
variable {E : pj_E} {B : Nat} {l : Launch} {h : pj_H} {n g : Nat} {τ : Nat → Nat} {v : Nat → Int32}
theorem c_X12_missing (hR : gd_MR h g v τ) (w : Int32) : pj_Ct E B l Y_X12_missing 2 0 0 [.ref g, .int w] h n (pj_is (some (.int (sp_missing τ w))) h n) := by
  obtain ⟨hM, hT, hv, hW, h1⟩ := hR
  refine pj_in rfl (ls := [some (.ref g), some (.int (w))]) rfl (Nat.le_of_ble_eq_true rfl) ?_
  refine gd_thr (pj_d p_X12_missing 0 rfl) (pj_d p_X12_missing 1 rfl) (pj_d p_X12_missing 2 rfl) rfl hM hv ?_
  have fin : ∀ x, x = sp_missing τ w → pj_V E B l Y_X12_missing 2 0 0 42 [some (.ref g), some (.int (w))] [.int x] h n 0 0 (pj_is (some (.int (sp_missing τ w))) h n) := by
    intro x hx
    subst hx
    refine pj_iret rfl (pj_d p_X12_missing 22 rfl) (by decide) (by decide) ?_
    exact ⟨rfl, rfl, rfl⟩
  refine pj_ald0 (q := 6) (pj_d p_X12_missing 3 rfl) rfl ?_
  refine pj_cp (pj_rV (q := 9) (c_X12_isThere hM hT h1) (pj_d p_X12_missing 4 rfl) rfl kX12_176 o_X12_isThere (by assumption) (by rfl) (by rfl) (by rfl) (by rfl) (Nat.le_of_ble_eq_true rfl) (by decide)) (by decide) (by decide) ?_
  refine pj_if_ne (t := 17) (q := 12) (pj_d p_X12_missing 5 rfl) rfl (by decide) (fun c1 => ?_) (fun c1 => ?_)
  · have ht := gd_dec_t c1
    refine pj_ild1 (q := 18) (pj_d p_X12_missing 8 rfl) rfl ?_
    refine pj_i2l (q := 19) (pj_d p_X12_missing 9 rfl) rfl ?_
    refine pj_lconst (q := 20) (v := lN 0) (pj_d p_X12_missing 10 rfl) rfl (by decide) ?_
    refine pj_ldc2 (q := 23) (pj_d p_X12_missing 11 rfl) rfl kX12_187 ?_
    refine pj_cp (pj_rS (q := 26) (c_X12_in w (lN 0) 6 0 6 (by decide) (by decide)) (pj_d p_X12_missing 12 rfl) rfl kX12_57 o_X12_in (by rfl) (by rfl) (Nat.le_of_ble_eq_true rfl) (by decide)) (by decide) (by decide) ?_
    refine pj_if_eq (t := 40) (q := 29) (pj_d p_X12_missing 13 rfl) rfl (by decide) (fun c2 => ?_) (fun c2 => ?_)
    · have e := (gd_b_z _).mp c2
      refine pj_ldc (q := 42) (pj_d p_X12_missing 21 rfl) rfl kX12_67 ?_
      exact fin _ (by simp [sp_missing, ht, e])
    · have e := (gd_b_n _).mp c2
      obtain ⟨j, hj, rfl, hc⟩ := gd_rng_of (hi := 6) e
      refine pj_ald0 (q := 30) (pj_d p_X12_missing 14 rfl) rfl ?_
      refine pj_gf (q := 33) (k := 5) (pj_d p_X12_missing 15 rfl) rfl kX12_19 (by assumption) (by rfl) (by rfl) ?_
      refine pj_iconst (q := 34) (v := nI 4) (pj_d p_X12_missing 16 rfl) rfl (by decide) ?_
      refine pj_ild1 (q := 35) (pj_d p_X12_missing 17 rfl) rfl ?_
      refine pj_iadd (q := 36) (pj_d p_X12_missing 18 rfl) rfl ?_
      rw [nI_add]
      refine pj_ialdN (q := 37) (pj_d p_X12_missing 19 rfl) rfl (by assumption) (by rfl) (by first | assumption | omega) (Nat.le_of_ble_eq_true rfl) ?_
      refine pj_goto (t := 42) (pj_d p_X12_missing 20 rfl) (by decide) ?_
      exact fin _ (by simp [sp_missing, ht, e, hc])
  · have ht := gd_dec_f c1
    refine pj_ldc (q := 14) (pj_d p_X12_missing 6 rfl) rfl kX12_179 ?_
    refine pj_goto (t := 42) (pj_d p_X12_missing 7 rfl) (by decide) ?_
    exact fin _ (by simp [sp_missing, ht])
theorem c_X12_look (hR : gd_MR h g v τ) (t st : Int32) : pj_Ct E B l Y_X12_look 3 0 0 [.ref g, .int t, .int st] h n (pj_is (some (.int (sp_look τ t st))) h n) := by
  obtain ⟨hM, hT, hv, hW, h1⟩ := hR
  refine pj_in rfl (ls := [some (.ref g), some (.int (t)), some (.int (st))]) rfl (Nat.le_of_ble_eq_true rfl) ?_
  refine gd_thr (pj_d p_X12_look 0 rfl) (pj_d p_X12_look 1 rfl) (pj_d p_X12_look 2 rfl) rfl hM hv ?_
  have bad : (gd_has τ t && gd_rng st 0 31) = false → pj_V E B l Y_X12_look 3 0 0 34 [some (.ref g), some (.int (t)), some (.int (st))] [] h n 0 0 (pj_is (some (.int (sp_look τ t st))) h n) := by
    intro hx
    refine pj_ldc (q := 36) (pj_d p_X12_look 18 rfl) rfl kX12_67 ?_
    refine pj_iret rfl (pj_d p_X12_look 19 rfl) (by decide) (by decide) ?_
    exact ⟨by rw [sp_look, hx]; rfl, rfl, rfl⟩
  refine pj_ald0 (q := 6) (pj_d p_X12_look 3 rfl) rfl ?_
  refine pj_ild1 (q := 7) (pj_d p_X12_look 4 rfl) rfl ?_
  refine pj_cp (pj_rV (q := 10) (c_X12_isThing hM hT hW.1 t) (pj_d p_X12_look 5 rfl) rfl kX12_153 o_X12_isThing (by assumption) (by rfl) (by rfl) (by rfl) (by rfl) (Nat.le_of_ble_eq_true rfl) (by decide)) (by decide) (by decide) ?_
  refine pj_if_eq (t := 34) (q := 13) (pj_d p_X12_look 6 rfl) rfl (by decide) (fun c1 => ?_) (fun c1 => ?_)
  · exact bad (by rw [(gd_b_z _).mp c1]; rfl)
  refine pj_ild2 (q := 14) (pj_d p_X12_look 7 rfl) rfl ?_
  refine pj_i2l (q := 15) (pj_d p_X12_look 8 rfl) rfl ?_
  refine pj_lconst (q := 16) (v := lN 0) (pj_d p_X12_look 9 rfl) rfl (by decide) ?_
  refine pj_ldc2 (q := 19) (pj_d p_X12_look 10 rfl) rfl kX12_185 ?_
  refine pj_cp (pj_rS (q := 22) (c_X12_in st (lN 0) 31 0 31 (by decide) (by decide)) (pj_d p_X12_look 11 rfl) rfl kX12_57 o_X12_in (by rfl) (by rfl) (Nat.le_of_ble_eq_true rfl) (by decide)) (by decide) (by decide) ?_
  refine pj_if_eq (t := 34) (q := 25) (pj_d p_X12_look 12 rfl) rfl (by decide) (fun c2 => ?_) (fun c2 => ?_)
  · exact bad (by rw [(gd_b_z _).mp c2]; simp)
  · have e1 := (gd_b_n _).mp c1
    have e2 := (gd_b_n _).mp c2
    obtain ⟨i, hi, rfl, hc⟩ := gd_has_of hW.1 e1
    obtain ⟨j, hj, rfl, hd⟩ := gd_rng_of (hi := 31) e2
    refine pj_ald0 (q := 26) (pj_d p_X12_look 13 rfl) rfl ?_
    refine pj_ild1 (q := 27) (pj_d p_X12_look 14 rfl) rfl ?_
    refine pj_ild2 (q := 28) (pj_d p_X12_look 15 rfl) rfl ?_
    refine pj_cp (pj_rV (q := 31) (c_X12_lookOf hM hT hW (st := j) hi (by omega)) (pj_d p_X12_look 16 rfl) rfl kX12_167 o_X12_lookOf (by assumption) (by rfl) (by rfl) (by rfl) (by rfl) (Nat.le_of_ble_eq_true rfl) (by decide)) (by decide) (by decide) ?_
    refine pj_goto (t := 36) (pj_d p_X12_look 17 rfl) (by decide) ?_
    refine pj_iret rfl (pj_d p_X12_look 19 rfl) (by decide) (by decide) ?_
    exact ⟨by rw [sp_look, e1, e2, hc, hd]; rfl, rfl, rfl⟩
theorem c_X12_alike (hR : gd_MR h g v τ) (a b d : Int32) : pj_Ct E B l Y_X12_alike 4 0 0 [.ref g, .int a, .int b, .int d] h n (pj_is (some (.int (sp_alike τ a b d))) h n) := by
  obtain ⟨hM, hT, hv, hW, h1⟩ := hR
  refine pj_in rfl (ls := [some (.ref g), some (.int (a)), some (.int (b)), some (.int (d))]) rfl (Nat.le_of_ble_eq_true rfl) ?_
  refine gd_thr (pj_d p_X12_alike 0 rfl) (pj_d p_X12_alike 1 rfl) (pj_d p_X12_alike 2 rfl) rfl hM hv ?_
  have bad : (sp_two τ a b && gd_rng d 0 100) = false → pj_V E B l Y_X12_alike 4 0 0 21 [some (.ref g), some (.int (a)), some (.int (b)), some (.int (d))] [] h n 0 0 (pj_is (some (.int (sp_alike τ a b d))) h n) := by
    intro hx
    refine pj_ldc (q := 23) (pj_d p_X12_alike 11 rfl) rfl kX12_67 ?_
    refine pj_goto (t := 41) (pj_d p_X12_alike 12 rfl) (by decide) ?_
    refine pj_iret rfl (pj_d p_X12_alike 22 rfl) (by decide) (by decide) ?_
    exact ⟨by rw [sp_alike, hx]; rfl, rfl, rfl⟩
  refine pj_ald0 (q := 6) (pj_d p_X12_alike 3 rfl) rfl ?_
  refine pj_ild1 (q := 7) (pj_d p_X12_alike 4 rfl) rfl ?_
  refine pj_ild2 (q := 8) (pj_d p_X12_alike 5 rfl) rfl ?_
  refine pj_cp (pj_rV (q := 11) (c_X12_areTwo hM hT hW.1 a b) (pj_d p_X12_alike 6 rfl) rfl kX12_191 o_X12_areTwo (by assumption) (by rfl) (by rfl) (by rfl) (by rfl) (Nat.le_of_ble_eq_true rfl) (by decide)) (by decide) (by decide) ?_
  refine pj_if_eq (t := 21) (q := 14) (pj_d p_X12_alike 7 rfl) rfl (by decide) (fun c1 => ?_) (fun c1 => ?_)
  · exact bad (by rw [sp_two, (gd_b_z _).mp c1]; rfl)
  refine pj_ild3 (q := 15) (pj_d p_X12_alike 8 rfl) rfl ?_
  refine pj_cp (pj_rS (q := 18) (c_X12_isFar d) (pj_d p_X12_alike 9 rfl) rfl kX12_195 o_X12_isFar (by rfl) (by rfl) (Nat.le_of_ble_eq_true rfl) (by decide)) (by decide) (by decide) ?_
  refine pj_if_ne (t := 26) (q := 21) (pj_d p_X12_alike 10 rfl) rfl (by decide) (fun c2 => ?_) (fun c2 => ?_)
  · have e1 := (gd_b_n _).mp c1
    have e2 := (gd_b_n _).mp c2
    have e3 : sp_two τ a b = true := e1
    rw [Bool.and_eq_true, Bool.and_eq_true] at e1
    obtain ⟨i, hi, rfl, hc⟩ := gd_has_of hW.1 e1.1.1
    obtain ⟨j, hj, rfl, hd⟩ := gd_has_of hW.1 e1.1.2
    obtain ⟨k, hk, rfl, hf⟩ := gd_rng_of (hi := 100) e2
    have hx : sp_alike τ (nI i) (nI j) (nI k) = gd_b (decide (gd_lk τ i (gd_miss τ k) = gd_lk τ j (gd_miss τ k))) := by rw [sp_alike, e3, e2, hc, hd, hf]; rfl
    rw [hx]
    refine pj_ald0 (q := 27) (pj_d p_X12_alike 13 rfl) rfl ?_
    refine pj_ild1 (q := 28) (pj_d p_X12_alike 14 rfl) rfl ?_
    refine pj_ild2 (q := 29) (pj_d p_X12_alike 15 rfl) rfl ?_
    refine pj_ild3 (q := 30) (pj_d p_X12_alike 16 rfl) rfl ?_
    refine pj_cp (pj_rV (q := 33) (c_X12_areAlike hM hT hW (d := k) hi hj (by omega)) (pj_d p_X12_alike 17 rfl) rfl kX12_198 o_X12_areAlike (by assumption) (by rfl) (by rfl) (by rfl) (by rfl) (Nat.le_of_ble_eq_true rfl) (by decide)) (by decide) (by decide) ?_
    refine pj_if_eq (t := 40) (q := 36) (pj_d p_X12_alike 18 rfl) rfl (by decide) (fun c3 => ?_) (fun c3 => ?_)
    · rw [(gd_b_z _).mp c3]
      refine pj_iconst (q := 41) (v := nI 0) (pj_d p_X12_alike 21 rfl) rfl (by decide) ?_
      refine pj_iret rfl (pj_d p_X12_alike 22 rfl) (by decide) (by decide) ?_
      exact ⟨rfl, rfl, rfl⟩
    · rw [(gd_b_n _).mp c3]
      refine pj_iconst (q := 37) (v := nI 1) (pj_d p_X12_alike 19 rfl) rfl (by decide) ?_
      refine pj_goto (t := 41) (pj_d p_X12_alike 20 rfl) (by decide) ?_
      refine pj_iret rfl (pj_d p_X12_alike 22 rfl) (by decide) (by decide) ?_
      exact ⟨rfl, rfl, rfl⟩
  · exact bad (by rw [(gd_b_z _).mp c2]; simp)
theorem c_X12_like (hR : gd_MR h g v τ) (t d : Int32) : pj_Ct E B l Y_X12_like 4 0 0 [.ref g, .int t, .int d] h n (pj_is (some (.int (sp_like τ t d))) h n) := by
  obtain ⟨hM, hT, hv, hW, h1⟩ := hR
  refine pj_in rfl (ls := [some (.ref g), some (.int (t)), some (.int (d))]) rfl (Nat.le_of_ble_eq_true rfl) ?_
  refine gd_thr (pj_d p_X12_like 0 rfl) (pj_d p_X12_like 1 rfl) (pj_d p_X12_like 2 rfl) rfl hM hv ?_
  have bad : (gd_has τ t && gd_rng d 0 100) = false → pj_V E B l Y_X12_like 4 0 0 33 [some (.ref g), some (.int (t)), some (.int (d))] [] h n 0 0 (pj_is (some (.int (sp_like τ t d))) h n) := by
    intro hx
    refine pj_ldc (q := 35) (pj_d p_X12_like 17 rfl) rfl kX12_67 ?_
    refine pj_iret rfl (pj_d p_X12_like 18 rfl) (by decide) (by decide) ?_
    exact ⟨by rw [sp_like, hx]; rfl, rfl, rfl⟩
  refine pj_ald0 (q := 6) (pj_d p_X12_like 3 rfl) rfl ?_
  refine pj_ild1 (q := 7) (pj_d p_X12_like 4 rfl) rfl ?_
  refine pj_cp (pj_rV (q := 10) (c_X12_isThing hM hT hW.1 t) (pj_d p_X12_like 5 rfl) rfl kX12_153 o_X12_isThing (by assumption) (by rfl) (by rfl) (by rfl) (by rfl) (Nat.le_of_ble_eq_true rfl) (by decide)) (by decide) (by decide) ?_
  refine pj_if_eq (t := 33) (q := 13) (pj_d p_X12_like 6 rfl) rfl (by decide) (fun c1 => ?_) (fun c1 => ?_)
  · exact bad (by rw [(gd_b_z _).mp c1]; rfl)
  refine pj_ild2 (q := 14) (pj_d p_X12_like 7 rfl) rfl ?_
  refine pj_cp (pj_rS (q := 17) (c_X12_isFar d) (pj_d p_X12_like 8 rfl) rfl kX12_195 o_X12_isFar (by rfl) (by rfl) (Nat.le_of_ble_eq_true rfl) (by decide)) (by decide) (by decide) ?_
  refine pj_if_eq (t := 33) (q := 20) (pj_d p_X12_like 9 rfl) rfl (by decide) (fun c2 => ?_) (fun c2 => ?_)
  · exact bad (by rw [(gd_b_z _).mp c2]; simp)
  · have e1 := (gd_b_n _).mp c1
    have e2 := (gd_b_n _).mp c2
    obtain ⟨i, hi, rfl, hc⟩ := gd_has_of hW.1 e1
    obtain ⟨j, hj, rfl, hd⟩ := gd_rng_of (hi := 100) e2
    refine pj_ald0 (q := 21) (pj_d p_X12_like 10 rfl) rfl ?_
    refine pj_ild1 (q := 22) (pj_d p_X12_like 11 rfl) rfl ?_
    refine pj_ald0 (q := 23) (pj_d p_X12_like 12 rfl) rfl ?_
    refine pj_ild2 (q := 24) (pj_d p_X12_like 13 rfl) rfl ?_
    refine pj_cp (pj_rV (q := 27) (c_X12_missingOn hM hT hW (d := j) (by omega)) (pj_d p_X12_like 14 rfl) rfl kX12_170 o_X12_missingOn (by assumption) (by rfl) (by rfl) (by rfl) (by rfl) (Nat.le_of_ble_eq_true rfl) (by decide)) (by decide) (by decide) ?_
    refine pj_cp (pj_rV (q := 30) (c_X12_likeBy hM hT hW hi (gd_miss_lt hW j)) (pj_d p_X12_like 15 rfl) rfl kX12_202 o_X12_likeBy (by assumption) (by rfl) (by rfl) (by rfl) (by rfl) (Nat.le_of_ble_eq_true rfl) (by decide)) (by decide) (by decide) ?_
    refine pj_goto (t := 35) (pj_d p_X12_like 16 rfl) (by decide) ?_
    refine pj_iret rfl (pj_d p_X12_like 18 rfl) (by decide) (by decide) ?_
    exact ⟨by rw [sp_like, e1, e2, hc, hd]; rfl, rfl, rfl⟩
theorem c_X12_looks (hR : gd_MR h g v τ) (d : Int32) : pj_Ct E B l Y_X12_looks 4 0 0 [.ref g, .int d] h n (pj_is (some (.int (sp_looks τ d))) h n) := by
  obtain ⟨hM, hT, hv, hW, h1⟩ := hR
  have h7 := hW.1
  refine pj_in rfl (ls := [some (.ref g), some (.int (d)), none, none]) rfl (Nat.le_of_ble_eq_true rfl) ?_
  refine gd_thr (pj_d p_X12_looks 0 rfl) (pj_d p_X12_looks 1 rfl) (pj_d p_X12_looks 2 rfl) rfl hM hv ?_
  refine pj_ald0 (q := 6) (pj_d p_X12_looks 3 rfl) rfl ?_
  refine pj_cp (pj_rV (q := 9) (c_X12_isThere hM hT h1) (pj_d p_X12_looks 4 rfl) rfl kX12_176 o_X12_isThere (by assumption) (by rfl) (by rfl) (by rfl) (by rfl) (Nat.le_of_ble_eq_true rfl) (by decide)) (by decide) (by decide) ?_
  refine pj_if_ne (t := 15) (q := 12) (pj_d p_X12_looks 5 rfl) rfl (by decide) (fun c1 => ?_) (fun c1 => ?_)
  · have ht := gd_dec_t c1
    refine pj_ild1 (q := 16) (pj_d p_X12_looks 8 rfl) rfl ?_
    refine pj_cp (pj_rS (q := 19) (c_X12_isFar d) (pj_d p_X12_looks 9 rfl) rfl kX12_195 o_X12_isFar (by rfl) (by rfl) (Nat.le_of_ble_eq_true rfl) (by decide)) (by decide) (by decide) ?_
    refine pj_if_ne (t := 25) (q := 22) (pj_d p_X12_looks 10 rfl) rfl (by decide) (fun c2 => ?_) (fun c2 => ?_)
    · have e := (gd_b_n _).mp c2
      obtain ⟨j, hj, rfl, hc⟩ := gd_rng_of (hi := 100) e
      have hsp : sp_looks τ (nI j) = nI (gd_looks τ (gd_miss τ j)) := by simp [sp_looks, ht, e, hc]
      generalize hf : (fun i => if gd_like τ i (gd_miss τ j) % 2 ^ i = 0 then 1 else 0) = f
      have hg : gd_looks τ (gd_miss τ j) = gd_sm f (τ 1) := by rw [← hf]; rfl
      refine pj_iconst (q := 26) (v := nI 0) (pj_d p_X12_looks 13 rfl) rfl (by decide) ?_
      refine pj_ist2 (q := 27) (pj_d p_X12_looks 14 rfl) rfl rfl ?_
      refine pj_iconst (q := 28) (v := nI 0) (pj_d p_X12_looks 15 rfl) rfl (by decide) ?_
      refine pj_ist3 (q := 29) (pj_d p_X12_looks 16 rfl) rfl rfl ?_
      have loop : ∀ m i, τ 1 - i < m → i ≤ τ 1 → pj_V E B l Y_X12_looks 4 0 0 29 [some (.ref g), some (.int (nI j)), some (.int (nI (gd_sm f i))), some (.int (nI i))] [] h n 0 0 (pj_is (some (.int (sp_looks τ (nI j)))) h n) := by
        intro m
        induction m with
        | zero => intro i hi; omega
        | succ m ih =>
          intro i hi hle
          refine pj_ild3 (q := 30) (pj_d p_X12_looks 17 rfl) rfl ?_
          refine pj_ald0 (q := 31) (pj_d p_X12_looks 18 rfl) rfl ?_
          refine pj_gf (q := 34) (k := 5) (pj_d p_X12_looks 19 rfl) rfl kX12_19 (by assumption) (by rfl) (by rfl) ?_
          refine pj_iconst (q := 35) (v := nI 1) (pj_d p_X12_looks 20 rfl) rfl (by decide) ?_
          refine pj_ialdN (q := 36) (pj_d p_X12_looks 21 rfl) rfl (by assumption) (by rfl) (by first | assumption | omega) (Nat.le_of_ble_eq_true rfl) ?_
          refine pj_icmp_ge (t := 72) (q := 39) (pj_d p_X12_looks 22 rfl) rfl (by decide) (fun c3 => ?_) (fun c3 => ?_)
          · have he : i = τ 1 := by have := gd_ge c3 (by omega) (by omega); omega
            subst he
            refine pj_ild2 (q := 73) (pj_d p_X12_looks 44 rfl) rfl ?_
            refine pj_iret rfl (pj_d p_X12_looks 45 rfl) (by decide) (by decide) ?_
            exact ⟨by rw [hsp, hg], rfl, rfl⟩
          · have hlt : i < τ 1 := gd_lt c3 (by omega)
            refine pj_ild2 (q := 40) (pj_d p_X12_looks 23 rfl) rfl ?_
            refine pj_ald0 (q := 41) (pj_d p_X12_looks 24 rfl) rfl ?_
            refine pj_ild3 (q := 42) (pj_d p_X12_looks 25 rfl) rfl ?_
            refine pj_ald0 (q := 43) (pj_d p_X12_looks 26 rfl) rfl ?_
            refine pj_ild1 (q := 44) (pj_d p_X12_looks 27 rfl) rfl ?_
            refine pj_cp (pj_rV (q := 47) (c_X12_missingOn hM hT hW (d := j) (by omega)) (pj_d p_X12_looks 28 rfl) rfl kX12_170 o_X12_missingOn (by assumption) (by rfl) (by rfl) (by rfl) (by rfl) (Nat.le_of_ble_eq_true rfl) (by decide)) (by decide) (by decide) ?_
            refine pj_cp (pj_rV (q := 50) (c_X12_likeBy hM hT hW hlt (gd_miss_lt hW j)) (pj_d p_X12_looks 29 rfl) rfl kX12_202 o_X12_likeBy (by assumption) (by rfl) (by rfl) (by rfl) (by rfl) (Nat.le_of_ble_eq_true rfl) (by decide)) (by decide) (by decide) ?_
            refine pj_iconst (q := 51) (v := nI 1) (pj_d p_X12_looks 30 rfl) rfl (by decide) ?_
            refine pj_ild3 (q := 52) (pj_d p_X12_looks 31 rfl) rfl ?_
            refine pj_ishl (q := 53) (pj_d p_X12_looks 32 rfl) rfl ?_
            rw [gd_shl1 i (by omega)]
            refine pj_iconst (q := 54) (v := nI 1) (pj_d p_X12_looks 33 rfl) rfl (by decide) ?_
            refine pj_isub (q := 55) (pj_d p_X12_looks 34 rfl) rfl ?_
            refine pj_iand (q := 56) (pj_d p_X12_looks 35 rfl) rfl ?_
            have hb : gd_like τ i (gd_miss τ j) < 128 := by
              have h2 := gd_like_lt τ i (gd_miss τ j) (τ 1)
              have h3 : 2 ^ τ 1 ≤ 2 ^ 7 := Nat.pow_le_pow_right (by omega) h7
              exact Nat.lt_of_lt_of_le h2 h3
            rw [gd_andm i (by omega) _ hb]
            have hb2 := Nat.mod_le (gd_like τ i (gd_miss τ j)) (2 ^ i)
            have go : ∀ x, gd_sm f i + x = gd_sm f (i + 1) → pj_V E B l Y_X12_looks 4 0 0 64 [some (.ref g), some (.int (nI j)), some (.int (nI (gd_sm f i))), some (.int (nI i))] [.int (nI x), .int (nI (gd_sm f i))] h n 0 0 (pj_is (some (.int (sp_looks τ (nI j)))) h n) := by
              intro x hx
              refine pj_iadd (q := 65) (pj_d p_X12_looks 40 rfl) rfl ?_
              rw [nI_add, hx]
              refine pj_ist2 (q := 66) (pj_d p_X12_looks 41 rfl) rfl rfl ?_
              refine pj_iinc3 (q := 69) (v := 1) (pj_d p_X12_looks 42 rfl) rfl rfl (by decide) ?_
              refine pj_goto (t := 29) (pj_d p_X12_looks 43 rfl) (by decide) ?_
              rw [nI_1]
              exact ih (i + 1) (by omega) (by omega)
            refine pj_if_ne (t := 63) (q := 59) (pj_d p_X12_looks 36 rfl) rfl (by decide) (fun c4 => ?_) (fun c4 => ?_)
            · have hne : ¬ gd_like τ i (gd_miss τ j) % 2 ^ i = 0 := fun q => c4 (by rw [q]; rfl)
              refine pj_iconst (q := 64) (v := nI 0) (pj_d p_X12_looks 39 rfl) rfl (by decide) ?_
              exact go 0 (by rw [gd_sm, ← hf]; simp only [if_neg hne])
            · have heq := (nI_eq (by omega) (by omega)).mp (c4.trans nI_0.symm)
              refine pj_iconst (q := 60) (v := nI 1) (pj_d p_X12_looks 37 rfl) rfl (by decide) ?_
              refine pj_goto (t := 64) (pj_d p_X12_looks 38 rfl) (by decide) ?_
              exact go 1 (by rw [gd_sm, ← hf]; simp only [if_pos heq])
      exact loop (τ 1 + 1) 0 (by omega) (by omega)
    · have e := (gd_b_z _).mp c2
      refine pj_ldc (q := 24) (pj_d p_X12_looks 11 rfl) rfl kX12_67 ?_
      refine pj_iret rfl (pj_d p_X12_looks 12 rfl) (by decide) (by decide) ?_
      exact ⟨by simp [sp_looks, ht, e], rfl, rfl⟩
  · have ht := gd_dec_f c1
    refine pj_ldc (q := 14) (pj_d p_X12_looks 6 rfl) rfl kX12_179 ?_
    refine pj_iret rfl (pj_d p_X12_looks 7 rfl) (by decide) (by decide) ?_
    exact ⟨by simp [sp_looks, ht], rfl, rfl⟩
theorem c_X12_harm (hR : gd_MR h g v τ) (d : Int32) : pj_Ct E B l Y_X12_harm 4 0 0 [.ref g, .int d] h n (pj_is (some (.int (sp_harm τ d))) h n) := by
  obtain ⟨hM, hT, hv, hW, h1⟩ := hR
  refine pj_in rfl (ls := [some (.ref g), some (.int (d))]) rfl (Nat.le_of_ble_eq_true rfl) ?_
  refine gd_thr (pj_d p_X12_harm 0 rfl) (pj_d p_X12_harm 1 rfl) (pj_d p_X12_harm 2 rfl) rfl hM hv ?_
  have fin : ∀ x, x = sp_harm τ d → pj_V E B l Y_X12_harm 4 0 0 38 [some (.ref g), some (.int (d))] [.int x] h n 0 0 (pj_is (some (.int (sp_harm τ d))) h n) := by
    intro x hx
    subst hx
    refine pj_iret rfl (pj_d p_X12_harm 18 rfl) (by decide) (by decide) ?_
    exact ⟨rfl, rfl, rfl⟩
  refine pj_ald0 (q := 6) (pj_d p_X12_harm 3 rfl) rfl ?_
  refine pj_cp (pj_rV (q := 9) (c_X12_isThere hM hT h1) (pj_d p_X12_harm 4 rfl) rfl kX12_176 o_X12_isThere (by assumption) (by rfl) (by rfl) (by rfl) (by rfl) (Nat.le_of_ble_eq_true rfl) (by decide)) (by decide) (by decide) ?_
  refine pj_if_ne (t := 17) (q := 12) (pj_d p_X12_harm 5 rfl) rfl (by decide) (fun c1 => ?_) (fun c1 => ?_)
  · have ht := gd_dec_t c1
    refine pj_ild1 (q := 18) (pj_d p_X12_harm 8 rfl) rfl ?_
    refine pj_cp (pj_rS (q := 21) (c_X12_isFar d) (pj_d p_X12_harm 9 rfl) rfl kX12_195 o_X12_isFar (by rfl) (by rfl) (Nat.le_of_ble_eq_true rfl) (by decide)) (by decide) (by decide) ?_
    refine pj_if_eq (t := 36) (q := 24) (pj_d p_X12_harm 10 rfl) rfl (by decide) (fun c2 => ?_) (fun c2 => ?_)
    · have e := (gd_b_z _).mp c2
      refine pj_ldc (q := 38) (pj_d p_X12_harm 17 rfl) rfl kX12_67 ?_
      exact fin _ (by simp [sp_harm, ht, e])
    · have e := (gd_b_n _).mp c2
      obtain ⟨j, hj, rfl, hc⟩ := gd_rng_of (hi := 100) e
      refine pj_ald0 (q := 25) (pj_d p_X12_harm 11 rfl) rfl ?_
      refine pj_ald0 (q := 26) (pj_d p_X12_harm 12 rfl) rfl ?_
      refine pj_ild1 (q := 27) (pj_d p_X12_harm 13 rfl) rfl ?_
      refine pj_cp (pj_rV (q := 30) (c_X12_missingOn hM hT hW (d := j) (by omega)) (pj_d p_X12_harm 14 rfl) rfl kX12_170 o_X12_missingOn (by assumption) (by rfl) (by rfl) (by rfl) (by rfl) (Nat.le_of_ble_eq_true rfl) (by decide)) (by decide) (by decide) ?_
      refine pj_cp (pj_rV (q := 33) (c_X12_harmBy hM hT hW (gd_miss_lt hW j)) (pj_d p_X12_harm 15 rfl) rfl kX12_173 o_X12_harmBy (by assumption) (by rfl) (by rfl) (by rfl) (by rfl) (Nat.le_of_ble_eq_true rfl) (by decide)) (by decide) (by decide) ?_
      refine pj_goto (t := 38) (pj_d p_X12_harm 16 rfl) (by decide) ?_
      exact fin _ (by simp [sp_harm, ht, e, hc])
  · have ht := gd_dec_f c1
    refine pj_ldc (q := 14) (pj_d p_X12_harm 6 rfl) rfl kX12_179 ?_
    refine pj_goto (t := 38) (pj_d p_X12_harm 7 rfl) (by decide) ?_
    exact fin _ (by simp [sp_harm, ht])
theorem c_X12_harms (hR : gd_MR h g v τ) (d : Int32) : pj_Ct E B l Y_X12_harms 5 0 0 [.ref g, .int d] h n (pj_is (some (.int (sp_harms τ d))) h n) := by
  obtain ⟨hM, hT, hv, hW, h1⟩ := hR
  refine pj_in rfl (ls := [some (.ref g), some (.int (d))]) rfl (Nat.le_of_ble_eq_true rfl) ?_
  refine gd_thr (pj_d p_X12_harms 0 rfl) (pj_d p_X12_harms 1 rfl) (pj_d p_X12_harms 2 rfl) rfl hM hv ?_
  have fin : ∀ x, x = sp_harms τ d → pj_V E B l Y_X12_harms 5 0 0 39 [some (.ref g), some (.int (d))] [.int x] h n 0 0 (pj_is (some (.int (sp_harms τ d))) h n) := by
    intro x hx
    subst hx
    refine pj_iret rfl (pj_d p_X12_harms 19 rfl) (by decide) (by decide) ?_
    exact ⟨rfl, rfl, rfl⟩
  refine pj_ald0 (q := 6) (pj_d p_X12_harms 3 rfl) rfl ?_
  refine pj_cp (pj_rV (q := 9) (c_X12_isThere hM hT h1) (pj_d p_X12_harms 4 rfl) rfl kX12_176 o_X12_isThere (by assumption) (by rfl) (by rfl) (by rfl) (by rfl) (Nat.le_of_ble_eq_true rfl) (by decide)) (by decide) (by decide) ?_
  refine pj_if_ne (t := 17) (q := 12) (pj_d p_X12_harms 5 rfl) rfl (by decide) (fun c1 => ?_) (fun c1 => ?_)
  · have ht := gd_dec_t c1
    refine pj_ild1 (q := 18) (pj_d p_X12_harms 8 rfl) rfl ?_
    refine pj_i2l (q := 19) (pj_d p_X12_harms 9 rfl) rfl ?_
    refine pj_lconst (q := 20) (v := lN 1) (pj_d p_X12_harms 10 rfl) rfl (by decide) ?_
    refine pj_ldc2 (q := 23) (pj_d p_X12_harms 11 rfl) rfl kX12_156 ?_
    refine pj_cp (pj_rS (q := 26) (c_X12_in d (lN 1) 100 1 100 (by decide) (by decide)) (pj_d p_X12_harms 12 rfl) rfl kX12_57 o_X12_in (by rfl) (by rfl) (Nat.le_of_ble_eq_true rfl) (by decide)) (by decide) (by decide) ?_
    refine pj_if_eq (t := 37) (q := 29) (pj_d p_X12_harms 13 rfl) rfl (by decide) (fun c2 => ?_) (fun c2 => ?_)
    · have e := (gd_b_z _).mp c2
      refine pj_ldc (q := 39) (pj_d p_X12_harms 18 rfl) rfl kX12_67 ?_
      exact fin _ (by simp [sp_harms, ht, e])
    · have e := (gd_b_n _).mp c2
      obtain ⟨j, hj, hj2, rfl, hc⟩ := gd_rng_of1 (hi := 100) e
      refine pj_ald0 (q := 30) (pj_d p_X12_harms 14 rfl) rfl ?_
      refine pj_ild1 (q := 31) (pj_d p_X12_harms 15 rfl) rfl ?_
      refine pj_cp (pj_rV (q := 34) (c_X12_harmsOf hM hT hW (c := j) (by omega)) (pj_d p_X12_harms 16 rfl) rfl kX12_205 o_X12_harmsOf (by assumption) (by rfl) (by rfl) (by rfl) (by rfl) (Nat.le_of_ble_eq_true rfl) (by decide)) (by decide) (by decide) ?_
      refine pj_goto (t := 39) (pj_d p_X12_harms 17 rfl) (by decide) ?_
      exact fin _ (by simp [sp_harms, ht, e, hc])
  · have ht := gd_dec_f c1
    refine pj_ldc (q := 14) (pj_d p_X12_harms 6 rfl) rfl kX12_179 ?_
    refine pj_goto (t := 39) (pj_d p_X12_harms 7 rfl) (by decide) ?_
    exact fin _ (by simp [sp_harms, ht])
theorem c_X12_kind (hR : gd_MR h g v τ) (t : Int32) : pj_Ct E B l Y_X12_kind 3 0 0 [.ref g, .int t] h n (pj_is (some (.int (sp_kind τ t))) h n) := by
  obtain ⟨hM, hT, hv, hW, h1⟩ := hR
  have h7 := hW.1
  refine pj_in rfl (ls := [some (.ref g), some (.int (t))]) rfl (Nat.le_of_ble_eq_true rfl) ?_
  refine gd_thr (pj_d p_X12_kind 0 rfl) (pj_d p_X12_kind 1 rfl) (pj_d p_X12_kind 2 rfl) rfl hM hv ?_
  refine pj_ald0 (q := 6) (pj_d p_X12_kind 3 rfl) rfl ?_
  refine pj_ild1 (q := 7) (pj_d p_X12_kind 4 rfl) rfl ?_
  refine pj_cp (pj_rV (q := 10) (c_X12_isThing hM hT hW.1 t) (pj_d p_X12_kind 5 rfl) rfl kX12_153 o_X12_isThing (by assumption) (by rfl) (by rfl) (by rfl) (by rfl) (Nat.le_of_ble_eq_true rfl) (by decide)) (by decide) (by decide) ?_
  refine pj_if_eq (t := 22) (q := 13) (pj_d p_X12_kind 6 rfl) rfl (by decide) (fun c1 => ?_) (fun c1 => ?_)
  · refine pj_ldc (q := 24) (pj_d p_X12_kind 12 rfl) rfl kX12_67 ?_
    refine pj_iret rfl (pj_d p_X12_kind 13 rfl) (by decide) (by decide) ?_
    exact ⟨by rw [sp_kind, (gd_b_z _).mp c1]; rfl, rfl, rfl⟩
  · have e1 := (gd_b_n _).mp c1
    obtain ⟨i, hi, rfl, hc⟩ := gd_has_of hW.1 e1
    refine pj_ald0 (q := 14) (pj_d p_X12_kind 7 rfl) rfl ?_
    refine pj_ild1 (q := 15) (pj_d p_X12_kind 8 rfl) rfl ?_
    refine pj_iconst (q := 16) (v := nI 0) (pj_d p_X12_kind 9 rfl) rfl (by decide) ?_
    refine pj_cp (pj_rV (q := 19) (c_X12_of hM hT (t := i) (w := 0) (by omega) (by omega)) (pj_d p_X12_kind 10 rfl) rfl kX12_158 o_X12_of (by assumption) (by rfl) (by rfl) (by rfl) (by rfl) (Nat.le_of_ble_eq_true rfl) (by decide)) (by decide) (by decide) ?_
    refine pj_goto (t := 24) (pj_d p_X12_kind 11 rfl) (by decide) ?_
    refine pj_iret rfl (pj_d p_X12_kind 13 rfl) (by decide) (by decide) ?_
    exact ⟨by rw [sp_kind, e1, hc]; rfl, rfl, rfl⟩
end
end
section
/-! ===== the model: thing, pair ===== -/
theorem gd_of_iff {τ : Nat → Nat} {a j : Nat} : gd_of τ a j = true ↔ τ (32 + 3 * j) = a ∨ τ (33 + 3 * j) = a := by
  simp [gd_of]
theorem gd_two_of {τ : Nat → Nat} {a b j : Nat} (hab : a ≠ b) : (gd_of τ a j && gd_of τ b j) = true ↔ (τ (32 + 3 * j) = a ∧ τ (33 + 3 * j) = b) ∨ (τ (32 + 3 * j) = b ∧ τ (33 + 3 * j) = a) := by
  rw [Bool.and_eq_true, gd_of_iff, gd_of_iff]
  omega
section
variable {E : pj_E} {B : Nat} {l : Launch} {h : pj_H} {n g : Nat} {τ : Nat → Nat} {v : Nat → Int32}
theorem c_X12_pair (hR : gd_MR h g v τ) (a b : Int32) : pj_Ct E B l Y_X12_pair 4 0 0 [.ref g, .int a, .int b] h n (pj_is (some (.int (sp_pair τ a b))) h n) := by
  obtain ⟨hM, hT, hv, hW, h1⟩ := hR
  have h7 := hW.1
  have h8 := hW.2.1
  refine pj_in rfl (ls := [some (.ref g), some (.int (a)), some (.int (b)), none, none, none]) rfl (Nat.le_of_ble_eq_true rfl) ?_
  refine gd_thr (pj_d p_X12_pair 0 rfl) (pj_d p_X12_pair 1 rfl) (pj_d p_X12_pair 2 rfl) rfl hM hv ?_
  refine pj_ald0 (q := 6) (pj_d p_X12_pair 3 rfl) rfl ?_
  refine pj_ild1 (q := 7) (pj_d p_X12_pair 4 rfl) rfl ?_
  refine pj_ild2 (q := 8) (pj_d p_X12_pair 5 rfl) rfl ?_
  refine pj_cp (pj_rV (q := 11) (c_X12_areTwo hM hT hW.1 a b) (pj_d p_X12_pair 6 rfl) rfl kX12_191 o_X12_areTwo (by assumption) (by rfl) (by rfl) (by rfl) (by rfl) (Nat.le_of_ble_eq_true rfl) (by decide)) (by decide) (by decide) ?_
  refine pj_if_ne (t := 17) (q := 14) (pj_d p_X12_pair 7 rfl) rfl (by decide) (fun c1 => ?_) (fun c1 => ?_)
  · have e1 := (gd_b_n _).mp c1
    have e3 : sp_two τ a b = true := e1
    rw [Bool.and_eq_true, Bool.and_eq_true] at e1
    obtain ⟨i, hi, rfl, hc⟩ := gd_has_of hW.1 e1.1.1
    obtain ⟨j, hj, rfl, hd⟩ := gd_has_of hW.1 e1.1.2
    have hij : i ≠ j := fun q => by rw [q] at e1; simp at e1
    have hsp : sp_pair τ (nI i) (nI j) = nI (gd_pair τ i j) := by rw [sp_pair, e3, hc, hd]; rfl
    rw [hsp]
    refine pj_iconst (q := 18) (v := nI 0) (pj_d p_X12_pair 10 rfl) rfl (by decide) ?_
    refine pj_ist3 (q := 19) (pj_d p_X12_pair 11 rfl) rfl rfl ?_
    have loop : ∀ m p o4 o5, pj_c1 o4 = true → pj_c1 o5 = true → p + m = τ 2 → gd_pair τ i j = gd_pairF τ i j m p → pj_V E B l Y_X12_pair 4 0 0 19 [some (.ref g), some (.int (nI i)), some (.int (nI j)), some (.int (nI p)), o4, o5] [] h n 0 0 (pj_is (some (.int (nI (gd_pair τ i j)))) h n) := by
      intro m
      induction m with
      | zero =>
        intro p o4 o5 k4 k5 hp he
        refine pj_ild3 (q := 20) (pj_d p_X12_pair 12 rfl) rfl ?_
        refine pj_ald0 (q := 21) (pj_d p_X12_pair 13 rfl) rfl ?_
        refine pj_gf (q := 24) (k := 5) (pj_d p_X12_pair 14 rfl) rfl kX12_19 (by assumption) (by rfl) (by rfl) ?_
        refine pj_iconst (q := 25) (v := nI 2) (pj_d p_X12_pair 15 rfl) rfl (by decide) ?_
        refine pj_ialdN (q := 26) (pj_d p_X12_pair 16 rfl) rfl (by assumption) (by rfl) (by first | assumption | omega) (Nat.le_of_ble_eq_true rfl) ?_
        refine pj_icmp_ge (t := 101) (q := 29) (pj_d p_X12_pair 17 rfl) rfl (by decide) (fun c2 => ?_) (fun c2 => ?_)
        · refine pj_iconst (q := 102) (v := nI 0) (pj_d p_X12_pair 63 rfl) rfl (by decide) ?_
          refine pj_iret rfl (pj_d p_X12_pair 64 rfl) (by decide) (by decide) ?_
          exact ⟨by rw [he]; rfl, rfl, rfl⟩
        · exact absurd (gd_lt c2 (by omega)) (by omega)
      | succ m ih =>
        intro p o4 o5 k4 k5 hp he
        have hlt : p < τ 2 := by omega
        obtain ⟨g1, g2, -⟩ := hW.2.2.2.2.2.1 p hlt
        rw [gd_pairF] at he
        refine pj_ild3 (q := 20) (pj_d p_X12_pair 12 rfl) rfl ?_
        refine pj_ald0 (q := 21) (pj_d p_X12_pair 13 rfl) rfl ?_
        refine pj_gf (q := 24) (k := 5) (pj_d p_X12_pair 14 rfl) rfl kX12_19 (by assumption) (by rfl) (by rfl) ?_
        refine pj_iconst (q := 25) (v := nI 2) (pj_d p_X12_pair 15 rfl) rfl (by decide) ?_
        refine pj_ialdN (q := 26) (pj_d p_X12_pair 16 rfl) rfl (by assumption) (by rfl) (by first | assumption | omega) (Nat.le_of_ble_eq_true rfl) ?_
        refine pj_icmp_ge (t := 101) (q := 29) (pj_d p_X12_pair 17 rfl) rfl (by decide) (fun c2 => ?_) (fun c2 => ?_)
        · exact absurd (gd_ge c2 (by omega) (by omega)) (by omega)
        refine pj_ald0 (q := 30) (pj_d p_X12_pair 18 rfl) rfl ?_
        refine pj_gf (q := 33) (k := 5) (pj_d p_X12_pair 19 rfl) rfl kX12_19 (by assumption) (by rfl) (by rfl) ?_
        refine pj_bipush (q := 35) (v := nI 32) (pj_d p_X12_pair 20 rfl) rfl (by decide) ?_
        refine pj_iconst (q := 36) (v := nI 3) (pj_d p_X12_pair 21 rfl) rfl (by decide) ?_
        refine pj_ild3 (q := 37) (pj_d p_X12_pair 22 rfl) rfl ?_
        refine pj_imul (q := 38) (pj_d p_X12_pair 23 rfl) rfl ?_
        refine pj_iadd (q := 39) (pj_d p_X12_pair 24 rfl) rfl ?_
        rw [pk_mul, nI_add]
        refine pj_ialdN (q := 40) (pj_d p_X12_pair 25 rfl) rfl (by assumption) (by rfl) (by first | assumption | omega) (Nat.le_of_ble_eq_true rfl) ?_
        refine pj_ist4 (q := 42) (pj_d p_X12_pair 26 rfl) rfl rfl ?_
        refine pj_ald0 (q := 43) (pj_d p_X12_pair 27 rfl) rfl ?_
        refine pj_gf (q := 46) (k := 5) (pj_d p_X12_pair 28 rfl) rfl kX12_19 (by assumption) (by rfl) (by rfl) ?_
        refine pj_bipush (q := 48) (v := nI 32) (pj_d p_X12_pair 29 rfl) rfl (by decide) ?_
        refine pj_iconst (q := 49) (v := nI 3) (pj_d p_X12_pair 30 rfl) rfl (by decide) ?_
        refine pj_ild3 (q := 50) (pj_d p_X12_pair 31 rfl) rfl ?_
        refine pj_imul (q := 51) (pj_d p_X12_pair 32 rfl) rfl ?_
        refine pj_iadd (q := 52) (pj_d p_X12_pair 33 rfl) rfl ?_
        refine pj_iconst (q := 53) (v := nI 1) (pj_d p_X12_pair 34 rfl) rfl (by decide) ?_
        refine pj_iadd (q := 54) (pj_d p_X12_pair 35 rfl) rfl ?_
        rw [pk_mul, nI_add, nI_add]
        refine pj_ialdN (q := 55) (pj_d p_X12_pair 36 rfl) rfl (by assumption) (by rfl) (by first | assumption | omega) (Nat.le_of_ble_eq_true rfl) ?_
        rw [show 32 + 3 * p + 1 = 33 + 3 * p by omega]
        refine pj_ist5 (q := 57) (pj_d p_X12_pair 37 rfl) rfl rfl ?_
        have next : ¬ ((τ (32 + 3 * p) = i ∧ τ (33 + 3 * p) = j) ∨ (τ (32 + 3 * p) = j ∧ τ (33 + 3 * p) = i)) → pj_V E B l Y_X12_pair 4 0 0 95 [some (.ref g), some (.int (nI i)), some (.int (nI j)), some (.int (nI p)), some (.int (nI (τ (32 + 3 * p)))), some (.int (nI (τ (33 + 3 * p))))] [] h n 0 0 (pj_is (some (.int (nI (gd_pair τ i j)))) h n) := by
          intro hno
          refine pj_iinc3 (q := 98) (v := 1) (pj_d p_X12_pair 61 rfl) rfl rfl (by decide) ?_
          refine pj_goto (t := 19) (pj_d p_X12_pair 62 rfl) (by decide) ?_
          rw [nI_1]
          exact ih (p + 1) _ _ rfl rfl (by omega) (by rw [he, if_neg (fun q => hno ((gd_two_of hij).mp q))])
        have yes : ((τ (32 + 3 * p) = i ∧ τ (33 + 3 * p) = j) ∨ (τ (32 + 3 * p) = j ∧ τ (33 + 3 * p) = i)) → pj_V E B l Y_X12_pair 4 0 0 81 [some (.ref g), some (.int (nI i)), some (.int (nI j)), some (.int (nI p)), some (.int (nI (τ (32 + 3 * p)))), some (.int (nI (τ (33 + 3 * p))))] [] h n 0 0 (pj_is (some (.int (nI (gd_pair τ i j)))) h n) := by
          intro hy
          refine pj_ald0 (q := 82) (pj_d p_X12_pair 50 rfl) rfl ?_
          refine pj_gf (q := 85) (k := 5) (pj_d p_X12_pair 51 rfl) rfl kX12_19 (by assumption) (by rfl) (by rfl) ?_
          refine pj_bipush (q := 87) (v := nI 32) (pj_d p_X12_pair 52 rfl) rfl (by decide) ?_
          refine pj_iconst (q := 88) (v := nI 3) (pj_d p_X12_pair 53 rfl) rfl (by decide) ?_
          refine pj_ild3 (q := 89) (pj_d p_X12_pair 54 rfl) rfl ?_
          refine pj_imul (q := 90) (pj_d p_X12_pair 55 rfl) rfl ?_
          refine pj_iadd (q := 91) (pj_d p_X12_pair 56 rfl) rfl ?_
          refine pj_iconst (q := 92) (v := nI 2) (pj_d p_X12_pair 57 rfl) rfl (by decide) ?_
          refine pj_iadd (q := 93) (pj_d p_X12_pair 58 rfl) rfl ?_
          rw [pk_mul, nI_add, nI_add]
          refine pj_ialdN (q := 94) (pj_d p_X12_pair 59 rfl) rfl (by assumption) (by rfl) (by first | assumption | omega) (Nat.le_of_ble_eq_true rfl) ?_
          rw [show 32 + 3 * p + 2 = 34 + 3 * p by omega]
          refine pj_iret rfl (pj_d p_X12_pair 60 rfl) (by decide) (by decide) ?_
          exact ⟨by rw [he, if_pos ((gd_two_of hij).mpr hy)], rfl, rfl⟩
        have sec : ¬ (τ (32 + 3 * p) = i ∧ τ (33 + 3 * p) = j) → pj_V E B l Y_X12_pair 4 0 0 69 [some (.ref g), some (.int (nI i)), some (.int (nI j)), some (.int (nI p)), some (.int (nI (τ (32 + 3 * p)))), some (.int (nI (τ (33 + 3 * p))))] [] h n 0 0 (pj_is (some (.int (nI (gd_pair τ i j)))) h n) := by
          intro hno
          refine pj_ild4 (q := 71) (pj_d p_X12_pair 44 rfl) rfl ?_
          refine pj_ild2 (q := 72) (pj_d p_X12_pair 45 rfl) rfl ?_
          refine pj_icmp_ne (t := 95) (q := 75) (pj_d p_X12_pair 46 rfl) rfl (by decide) (fun c5 => ?_) (fun c5 => ?_)
          · exact next (fun q => by rcases q with q | q; exact hno q; exact c5 (by rw [q.1]))
          refine pj_ild5 (q := 77) (pj_d p_X12_pair 47 rfl) rfl ?_
          refine pj_ild1 (q := 78) (pj_d p_X12_pair 48 rfl) rfl ?_
          refine pj_icmp_ne (t := 95) (q := 81) (pj_d p_X12_pair 49 rfl) rfl (by decide) (fun c6 => ?_) (fun c6 => ?_)
          · exact next (fun q => by rcases q with q | q; exact hno q; exact c6 (by rw [q.2]))
          · exact yes (Or.inr ⟨(nI_eq (by omega) (by omega)).mp c5, (nI_eq (by omega) (by omega)).mp c6⟩)
        refine pj_ild4 (q := 59) (pj_d p_X12_pair 38 rfl) rfl ?_
        refine pj_ild1 (q := 60) (pj_d p_X12_pair 39 rfl) rfl ?_
        refine pj_icmp_ne (t := 69) (q := 63) (pj_d p_X12_pair 40 rfl) rfl (by decide) (fun c3 => ?_) (fun c3 => ?_)
        · exact sec (fun q => c3 (by rw [q.1]))
        refine pj_ild5 (q := 65) (pj_d p_X12_pair 41 rfl) rfl ?_
        refine pj_ild2 (q := 66) (pj_d p_X12_pair 42 rfl) rfl ?_
        refine pj_icmp_eq (t := 81) (q := 69) (pj_d p_X12_pair 43 rfl) rfl (by decide) (fun c4 => ?_) (fun c4 => ?_)
        · exact yes (Or.inl ⟨(nI_eq (by omega) (by omega)).mp c3, (nI_eq (by omega) (by omega)).mp c4⟩)
        · exact sec (fun q => c4 (by rw [q.2]))
    exact loop (τ 2) 0 _ _ rfl rfl (by omega) rfl
  · refine pj_ldc (q := 16) (pj_d p_X12_pair 8 rfl) rfl kX12_67 ?_
    refine pj_iret rfl (pj_d p_X12_pair 9 rfl) (by decide) (by decide) ?_
    exact ⟨by rw [sp_pair, sp_two, (gd_b_z _).mp c1]; rfl, rfl, rfl⟩
theorem c_X12_thing (hR : gd_MR h g v τ) (t w : Int32) : pj_Ct E B l Y_X12_thing 3 0 0 [.ref g, .int t, .int w] h n (pj_is (some (.int (sp_thing τ t w))) h n) := by
  obtain ⟨hM, hT, hv, hW, h1⟩ := hR
  have h7 := hW.1
  have h8 := hW.2.1
  refine pj_in rfl (ls := [some (.ref g), some (.int (t)), some (.int (w)), none, none]) rfl (Nat.le_of_ble_eq_true rfl) ?_
  refine gd_thr (pj_d p_X12_thing 0 rfl) (pj_d p_X12_thing 1 rfl) (pj_d p_X12_thing 2 rfl) rfl hM hv ?_
  refine pj_ald0 (q := 6) (pj_d p_X12_thing 3 rfl) rfl ?_
  refine pj_ild1 (q := 7) (pj_d p_X12_thing 4 rfl) rfl ?_
  refine pj_cp (pj_rV (q := 10) (c_X12_isThing hM hT hW.1 t) (pj_d p_X12_thing 5 rfl) rfl kX12_153 o_X12_isThing (by assumption) (by rfl) (by rfl) (by rfl) (by rfl) (Nat.le_of_ble_eq_true rfl) (by decide)) (by decide) (by decide) ?_
  refine pj_if_ne (t := 16) (q := 13) (pj_d p_X12_thing 6 rfl) rfl (by decide) (fun c1 => ?_) (fun c1 => ?_)
  · have e1 := (gd_b_n _).mp c1
    obtain ⟨i, hi, rfl, hc⟩ := gd_has_of hW.1 e1
    have hsp : sp_thing τ (nI i) w = if w.toInt = 0 then nI (τ (12 + 3 * i)) else if w.toInt = 1 then nI (τ (13 + 3 * i)) else if w.toInt = 2 then nI (gd_lk τ i (gd_miss τ 0)) else if w.toInt = 3 then nI (gd_with τ i) else -1000001 := by rw [sp_thing, e1, hc]; rfl
    rw [hsp]
    refine pj_iconst (q := 17) (v := nI 0) (pj_d p_X12_thing 9 rfl) rfl (by decide) ?_
    refine pj_ist3 (q := 18) (pj_d p_X12_thing 10 rfl) rfl rfl ?_
    refine pj_iconst (q := 19) (v := nI 0) (pj_d p_X12_thing 11 rfl) rfl (by decide) ?_
    refine pj_ist4 (q := 21) (pj_d p_X12_thing 12 rfl) rfl rfl ?_
    generalize hf : (fun j => if gd_of τ i j then τ (34 + 3 * j) else 0) = f
    have hg : gd_with τ i = gd_sm f (τ 2) := by rw [← hf]; rfl
    have loop : ∀ m p, τ 2 - p < m → p ≤ τ 2 → pj_V E B l Y_X12_thing 3 0 0 21 [some (.ref g), some (.int (nI i)), some (.int (w)), some (.int (nI (gd_sm f p))), some (.int (nI p))] [] h n 0 0 (pj_is (some (.int (if w.toInt = 0 then nI (τ (12 + 3 * i)) else if w.toInt = 1 then nI (τ (13 + 3 * i)) else if w.toInt = 2 then nI (gd_lk τ i (gd_miss τ 0)) else if w.toInt = 3 then nI (gd_with τ i) else -1000001))) h n) := by
      intro m
      induction m with
      | zero => intro p hp; omega
      | succ m ih =>
        intro p hp hle
        refine pj_ild4 (q := 23) (pj_d p_X12_thing 13 rfl) rfl ?_
        refine pj_ald0 (q := 24) (pj_d p_X12_thing 14 rfl) rfl ?_
        refine pj_gf (q := 27) (k := 5) (pj_d p_X12_thing 15 rfl) rfl kX12_19 (by assumption) (by rfl) (by rfl) ?_
        refine pj_iconst (q := 28) (v := nI 2) (pj_d p_X12_thing 16 rfl) rfl (by decide) ?_
        refine pj_ialdN (q := 29) (pj_d p_X12_thing 17 rfl) rfl (by assumption) (by rfl) (by first | assumption | omega) (Nat.le_of_ble_eq_true rfl) ?_
        refine pj_icmp_ge (t := 93) (q := 32) (pj_d p_X12_thing 18 rfl) rfl (by decide) (fun c2 => ?_) (fun c2 => ?_)
        · have he : p = τ 2 := by have := gd_ge c2 (by omega) (by omega); omega
          subst he
          refine pj_ild2 (q := 94) (pj_d p_X12_thing 58 rfl) rfl ?_
          rcases gd_sw w 3 (by omega) with ⟨j, hj, rfl, hji⟩ | ho
          · rcases (show j = 0 ∨ j = 1 ∨ j = 2 ∨ j = 3 by omega) with rfl | rfl | rfl | rfl
            · refine pj_tabIn (t := 124) (dflt := 52) (lo := 0) (hi := 3) (offs := #[30, 30, 39, 50]) (off := 30) (pj_d p_X12_thing 59 rfl) (by decide) (by decide) (by rfl) (by decide) ?_
              refine pj_ald0 (q := 125) (pj_d p_X12_thing 60 rfl) rfl ?_
              refine pj_ild1 (q := 126) (pj_d p_X12_thing 61 rfl) rfl ?_
              refine pj_iconst (q := 127) (v := nI 1) (pj_d p_X12_thing 62 rfl) rfl (by decide) ?_
              refine pj_ild2 (q := 128) (pj_d p_X12_thing 63 rfl) rfl ?_
              refine pj_iadd (q := 129) (pj_d p_X12_thing 64 rfl) rfl ?_
              rw [nI_add]
              refine pj_cp (pj_rV (q := 132) (c_X12_of hM hT (t := i) (w := 1) (by omega) (by omega)) (pj_d p_X12_thing 65 rfl) rfl kX12_158 o_X12_of (by assumption) (by rfl) (by rfl) (by rfl) (by rfl) (Nat.le_of_ble_eq_true rfl) (by decide)) (by decide) (by decide) ?_
              rw [show 11 + 3 * i + 1 = 12 + 3 * i by omega]
              refine pj_iret rfl (pj_d p_X12_thing 66 rfl) (by decide) (by decide) ?_
              exact ⟨by simp [hji], rfl, rfl⟩
            · refine pj_tabIn (t := 124) (dflt := 52) (lo := 0) (hi := 3) (offs := #[30, 30, 39, 50]) (off := 30) (pj_d p_X12_thing 59 rfl) (by decide) (by decide) (by rfl) (by decide) ?_
              refine pj_ald0 (q := 125) (pj_d p_X12_thing 60 rfl) rfl ?_
              refine pj_ild1 (q := 126) (pj_d p_X12_thing 61 rfl) rfl ?_
              refine pj_iconst (q := 127) (v := nI 1) (pj_d p_X12_thing 62 rfl) rfl (by decide) ?_
              refine pj_ild2 (q := 128) (pj_d p_X12_thing 63 rfl) rfl ?_
              refine pj_iadd (q := 129) (pj_d p_X12_thing 64 rfl) rfl ?_
              rw [nI_add]
              refine pj_cp (pj_rV (q := 132) (c_X12_of hM hT (t := i) (w := 2) (by omega) (by omega)) (pj_d p_X12_thing 65 rfl) rfl kX12_158 o_X12_of (by assumption) (by rfl) (by rfl) (by rfl) (by rfl) (Nat.le_of_ble_eq_true rfl) (by decide)) (by decide) (by decide) ?_
              rw [show 11 + 3 * i + 2 = 13 + 3 * i by omega]
              refine pj_iret rfl (pj_d p_X12_thing 66 rfl) (by decide) (by decide) ?_
              exact ⟨by simp [hji], rfl, rfl⟩
            · refine pj_tabIn (t := 133) (dflt := 52) (lo := 0) (hi := 3) (offs := #[30, 30, 39, 50]) (off := 39) (pj_d p_X12_thing 59 rfl) (by decide) (by decide) (by rfl) (by decide) ?_
              refine pj_ald0 (q := 134) (pj_d p_X12_thing 67 rfl) rfl ?_
              refine pj_ild1 (q := 135) (pj_d p_X12_thing 68 rfl) rfl ?_
              refine pj_ald0 (q := 136) (pj_d p_X12_thing 69 rfl) rfl ?_
              refine pj_iconst (q := 137) (v := nI 0) (pj_d p_X12_thing 70 rfl) rfl (by decide) ?_
              refine pj_cp (pj_rV (q := 140) (c_X12_missingOn hM hT hW (d := 0) (by omega)) (pj_d p_X12_thing 71 rfl) rfl kX12_170 o_X12_missingOn (by assumption) (by rfl) (by rfl) (by rfl) (by rfl) (Nat.le_of_ble_eq_true rfl) (by decide)) (by decide) (by decide) ?_
              refine pj_cp (pj_rV (q := 143) (c_X12_lookOf hM hT hW hi (gd_miss_lt hW 0)) (pj_d p_X12_thing 72 rfl) rfl kX12_167 o_X12_lookOf (by assumption) (by rfl) (by rfl) (by rfl) (by rfl) (Nat.le_of_ble_eq_true rfl) (by decide)) (by decide) (by decide) ?_
              refine pj_iret rfl (pj_d p_X12_thing 73 rfl) (by decide) (by decide) ?_
              exact ⟨by simp [hji], rfl, rfl⟩
            · refine pj_tabIn (t := 144) (dflt := 52) (lo := 0) (hi := 3) (offs := #[30, 30, 39, 50]) (off := 50) (pj_d p_X12_thing 59 rfl) (by decide) (by decide) (by rfl) (by decide) ?_
              refine pj_ild3 (q := 145) (pj_d p_X12_thing 74 rfl) rfl ?_
              refine pj_iret rfl (pj_d p_X12_thing 75 rfl) (by decide) (by decide) ?_
              exact ⟨by simp [hji, hg], rfl, rfl⟩
          · refine pj_tabOut (t := 146) (dflt := 52) (lo := 0) (hi := 3) (offs := #[30, 30, 39, 50]) (pj_d p_X12_thing 59 rfl) (by omega) (by decide) ?_
            refine pj_ldc (q := 148) (pj_d p_X12_thing 76 rfl) rfl kX12_67 ?_
            refine pj_iret rfl (pj_d p_X12_thing 77 rfl) (by decide) (by decide) ?_
            refine ⟨?_, rfl, rfl⟩
            rw [if_neg (by omega), if_neg (by omega), if_neg (by omega), if_neg (by omega)]
        · have hlt : p < τ 2 := gd_lt c2 (by omega)
          obtain ⟨g1, g2, -⟩ := hW.2.2.2.2.2.1 p hlt
          refine pj_ild3 (q := 33) (pj_d p_X12_thing 19 rfl) rfl ?_
          refine pj_ald0 (q := 34) (pj_d p_X12_thing 20 rfl) rfl ?_
          refine pj_gf (q := 37) (k := 5) (pj_d p_X12_thing 21 rfl) rfl kX12_19 (by assumption) (by rfl) (by rfl) ?_
          refine pj_bipush (q := 39) (v := nI 32) (pj_d p_X12_thing 22 rfl) rfl (by decide) ?_
          refine pj_iconst (q := 40) (v := nI 3) (pj_d p_X12_thing 23 rfl) rfl (by decide) ?_
          refine pj_ild4 (q := 42) (pj_d p_X12_thing 24 rfl) rfl ?_
          refine pj_imul (q := 43) (pj_d p_X12_thing 25 rfl) rfl ?_
          refine pj_iadd (q := 44) (pj_d p_X12_thing 26 rfl) rfl ?_
          rw [pk_mul, nI_add]
          refine pj_ialdN (q := 45) (pj_d p_X12_thing 27 rfl) rfl (by assumption) (by rfl) (by first | assumption | omega) (Nat.le_of_ble_eq_true rfl) ?_
          refine pj_ild1 (q := 46) (pj_d p_X12_thing 28 rfl) rfl ?_
          have go : ∀ x, gd_sm f p + x = gd_sm f (p + 1) → pj_V E B l Y_X12_thing 3 0 0 85 [some (.ref g), some (.int (nI i)), some (.int (w)), some (.int (nI (gd_sm f p))), some (.int (nI p))] [.int (nI x), .int (nI (gd_sm f p))] h n 0 0 (pj_is (some (.int (if w.toInt = 0 then nI (τ (12 + 3 * i)) else if w.toInt = 1 then nI (τ (13 + 3 * i)) else if w.toInt = 2 then nI (gd_lk τ i (gd_miss τ 0)) else if w.toInt = 3 then nI (gd_with τ i) else -1000001))) h n) := by
            intro x hx
            refine pj_iadd (q := 86) (pj_d p_X12_thing 54 rfl) rfl ?_
            rw [nI_add, hx]
            refine pj_ist3 (q := 87) (pj_d p_X12_thing 55 rfl) rfl rfl ?_
            refine pj_iinc4 (q := 90) (v := 1) (pj_d p_X12_thing 56 rfl) rfl rfl (by decide) ?_
            refine pj_goto (t := 21) (pj_d p_X12_thing 57 rfl) (by decide) ?_
            rw [nI_1]
            exact ih (p + 1) (by omega) (by omega)
          have yes : gd_of τ i p = true → pj_V E B l Y_X12_thing 3 0 0 67 [some (.ref g), some (.int (nI i)), some (.int (w)), some (.int (nI (gd_sm f p))), some (.int (nI p))] [.int (nI (gd_sm f p))] h n 0 0 (pj_is (some (.int (if w.toInt = 0 then nI (τ (12 + 3 * i)) else if w.toInt = 1 then nI (τ (13 + 3 * i)) else if w.toInt = 2 then nI (gd_lk τ i (gd_miss τ 0)) else if w.toInt = 3 then nI (gd_with τ i) else -1000001))) h n) := by
            intro hy
            refine pj_ald0 (q := 68) (pj_d p_X12_thing 42 rfl) rfl ?_
            refine pj_gf (q := 71) (k := 5) (pj_d p_X12_thing 43 rfl) rfl kX12_19 (by assumption) (by rfl) (by rfl) ?_
            refine pj_bipush (q := 73) (v := nI 32) (pj_d p_X12_thing 44 rfl) rfl (by decide) ?_
            refine pj_iconst (q := 74) (v := nI 3) (pj_d p_X12_thing 45 rfl) rfl (by decide) ?_
            refine pj_ild4 (q := 76) (pj_d p_X12_thing 46 rfl) rfl ?_
            refine pj_imul (q := 77) (pj_d p_X12_thing 47 rfl) rfl ?_
            refine pj_iadd (q := 78) (pj_d p_X12_thing 48 rfl) rfl ?_
            refine pj_iconst (q := 79) (v := nI 2) (pj_d p_X12_thing 49 rfl) rfl (by decide) ?_
            refine pj_iadd (q := 80) (pj_d p_X12_thing 50 rfl) rfl ?_
            rw [pk_mul, nI_add, nI_add]
            refine pj_ialdN (q := 81) (pj_d p_X12_thing 51 rfl) rfl (by assumption) (by rfl) (by first | assumption | omega) (Nat.le_of_ble_eq_true rfl) ?_
            rw [show 32 + 3 * p + 2 = 34 + 3 * p by omega]
            refine pj_goto (t := 85) (pj_d p_X12_thing 52 rfl) (by decide) ?_
            exact go _ (by rw [gd_sm, ← hf]; simp only [if_pos hy])
          refine pj_icmp_eq (t := 67) (q := 49) (pj_d p_X12_thing 29 rfl) rfl (by decide) (fun c3 => ?_) (fun c3 => ?_)
          · exact yes (gd_of_iff.mpr (Or.inl ((nI_eq (by omega) (by omega)).mp c3)))
          refine pj_ald0 (q := 50) (pj_d p_X12_thing 30 rfl) rfl ?_
          refine pj_gf (q := 53) (k := 5) (pj_d p_X12_thing 31 rfl) rfl kX12_19 (by assumption) (by rfl) (by rfl) ?_
          refine pj_bipush (q := 55) (v := nI 32) (pj_d p_X12_thing 32 rfl) rfl (by decide) ?_
          refine pj_iconst (q := 56) (v := nI 3) (pj_d p_X12_thing 33 rfl) rfl (by decide) ?_
          refine pj_ild4 (q := 58) (pj_d p_X12_thing 34 rfl) rfl ?_
          refine pj_imul (q := 59) (pj_d p_X12_thing 35 rfl) rfl ?_
          refine pj_iadd (q := 60) (pj_d p_X12_thing 36 rfl) rfl ?_
          refine pj_iconst (q := 61) (v := nI 1) (pj_d p_X12_thing 37 rfl) rfl (by decide) ?_
          refine pj_iadd (q := 62) (pj_d p_X12_thing 38 rfl) rfl ?_
          rw [pk_mul, nI_add, nI_add]
          refine pj_ialdN (q := 63) (pj_d p_X12_thing 39 rfl) rfl (by assumption) (by rfl) (by first | assumption | omega) (Nat.le_of_ble_eq_true rfl) ?_
          rw [show 32 + 3 * p + 1 = 33 + 3 * p by omega]
          refine pj_ild1 (q := 64) (pj_d p_X12_thing 40 rfl) rfl ?_
          refine pj_icmp_ne (t := 84) (q := 67) (pj_d p_X12_thing 41 rfl) rfl (by decide) (fun c4 => ?_) (fun c4 => ?_)
          · have hno : ¬ gd_of τ i p = true := fun q => by
              rcases gd_of_iff.mp q with q | q
              · exact c3 (by rw [q])
              · exact c4 (by rw [q])
            refine pj_iconst (q := 85) (v := nI 0) (pj_d p_X12_thing 53 rfl) rfl (by decide) ?_
            exact go 0 (by rw [gd_sm, ← hf]; simp only [if_neg hno])
          · exact yes (gd_of_iff.mpr (Or.inr ((nI_eq (by omega) (by omega)).mp c4)))
    exact loop (τ 2 + 1) 0 (by omega) (by omega)
  · refine pj_ldc (q := 15) (pj_d p_X12_thing 7 rfl) rfl kX12_67 ?_
    refine pj_iret rfl (pj_d p_X12_thing 8 rfl) (by decide) (by decide) ?_
    exact ⟨by rw [sp_thing, (gd_b_z _).mp c1]; rfl, rfl, rfl⟩
end
end
section
/-! ===== the model: week, merged, year ===== -/
def gd_clear (τ : Nat → Nat) : Nat := gd_sm (fun d => if gd_harm τ (gd_miss τ d) = 0 then 2 ^ d else 0) 7
def gd_wf (τ : Nat → Nat) : Nat → Nat
  | 0 => 0
  | d + 1 => if gd_harm τ (gd_miss τ (gd_wf τ d)) < gd_harm τ (gd_miss τ d) then d else gd_wf τ d
def sp_week (τ : Nat → Nat) (w : Int32) : Int32 := if τ 0 = 1 then (if gd_rng w 0 1 then (if w.toInt = 0 then nI (gd_clear τ) else nI (gd_wf τ 7)) else -1000001) else -1000002
theorem gd_wf_le (τ : Nat → Nat) : ∀ d, gd_wf τ d ≤ d
  | 0 => Nat.le_refl 0
  | d + 1 => by
    have := gd_wf_le τ d
    rw [gd_wf]
    split <;> omega
theorem gd_sm_pw (p : Nat → Prop) [DecidablePred p] : ∀ m, gd_sm (fun k => if p k then 2 ^ k else 0) m < 2 ^ m
  | 0 => Nat.one_pos
  | m + 1 => by
    have := gd_sm_pw p m
    rw [gd_sm, Nat.pow_succ]
    split <;> omega
theorem gd_harm_le {τ : Nat → Nat} (hW : gd_W τ) (st : Nat) : gd_harm τ st ≤ 160 := by
  have h1 := hW.2.1
  have h2 : gd_harm τ st ≤ τ 2 * 20 := gd_sm_le (fun j hj => by
    have := (hW.2.2.2.2.2.1 j hj).2.2.2.2
    unfold gd_hf
    split <;> omega)
  omega
def gd_on (o : Option Nat) : Int32 := match o with
  | none => -1000000
  | some s => nI s
def gd_mg (τ : Nat → Nat) (a b : Nat) : Nat → Option Nat
  | 0 => none
  | i + 1 => if gd_lk τ a i = gd_lk τ b i ∧ (∀ s, gd_mg τ a b i = some s → gd_bits i < gd_bits s) then some i else gd_mg τ a b i
def sp_merged (τ : Nat → Nat) (a b : Int32) : Int32 := if sp_two τ a b then gd_on (gd_mg τ a.toNatClampNeg b.toNatClampNeg 32) else -1000001
theorem gd_mg_lt (τ : Nat → Nat) (a b : Nat) : ∀ i s, gd_mg τ a b i = some s → s < i
  | 0, s, h => by cases h
  | i + 1, s, h => by
    rw [gd_mg] at h
    split at h
    · cases h; omega
    · have := gd_mg_lt τ a b i s h; omega
theorem gd_neg {a : Nat} (ha : a < 2 ^ 31) : ¬ nI a = -1000000 := by
  intro h
  have := congrArg Int32.toInt h
  rw [nI_toInt ha] at this
  have e : (-1000000 : Int32).toInt = -1000000 := by decide
  omega
theorem gd_bits_le (x : Nat) : gd_bits x ≤ 7 := by
  have := gd_sm_le (f := fun k => x / 2 ^ k % 2) (c := 1) (i := 7) (fun j _ => by omega)
  unfold gd_bits; omega
def gd_X (s : Nat) : Nat → Nat
  | 0 => s
  | i + 1 => gd_X s i * 16807 % 2147483647
def gd_yh (τ : Nat → Nat) (s i : Nat) : Nat := gd_harm τ (gd_setOf (gd_X s (i + 1) % 6))
def sp_year (τ : Nat → Nat) (m s w : Int32) : Int32 := if τ 0 = 1 then (if gd_rng m 0 200 && gd_rng s 1 999999 && gd_rng w 0 1 then (if w.toInt = 0 then nI (gd_sm (gd_yh τ s.toNatClampNeg) m.toNatClampNeg) else nI (gd_sm (fun i => if gd_yh τ s.toNatClampNeg i = 0 then 1 else 0) m.toNatClampNeg)) else -1000001) else -1000002
theorem gd_X_lt {s : Nat} (hs : s ≤ 999999) : ∀ i, gd_X s i < 2147483647
  | 0 => by rw [gd_X]; omega
  | i + 1 => by rw [gd_X]; exact Nat.mod_lt _ (by omega)
section
variable {E : pj_E} {B : Nat} {l : Launch} {h : pj_H} {n g : Nat} {τ : Nat → Nat} {v : Nat → Int32}
theorem c_X12_week (hR : gd_MR h g v τ) (w : Int32) : pj_Ct E B l Y_X12_week 4 0 0 [.ref g, .int w] h n (pj_is (some (.int (sp_week τ w))) h n) := by
  obtain ⟨hM, hT, hv, hW, h1⟩ := hR
  refine pj_in rfl (ls := [some (.ref g), some (.int (w)), none, none, none]) rfl (Nat.le_of_ble_eq_true rfl) ?_
  refine gd_thr (pj_d p_X12_week 0 rfl) (pj_d p_X12_week 1 rfl) (pj_d p_X12_week 2 rfl) rfl hM hv ?_
  refine pj_ald0 (q := 6) (pj_d p_X12_week 3 rfl) rfl ?_
  refine pj_cp (pj_rV (q := 9) (c_X12_isThere hM hT h1) (pj_d p_X12_week 4 rfl) rfl kX12_176 o_X12_isThere (by assumption) (by rfl) (by rfl) (by rfl) (by rfl) (Nat.le_of_ble_eq_true rfl) (by decide)) (by decide) (by decide) ?_
  refine pj_if_ne (t := 15) (q := 12) (pj_d p_X12_week 5 rfl) rfl (by decide) (fun c1 => ?_) (fun c1 => ?_)
  · have ht := gd_dec_t c1
    refine pj_ild1 (q := 16) (pj_d p_X12_week 8 rfl) rfl ?_
    refine pj_i2l (q := 17) (pj_d p_X12_week 9 rfl) rfl ?_
    refine pj_lconst (q := 18) (v := lN 0) (pj_d p_X12_week 10 rfl) rfl (by decide) ?_
    refine pj_lconst (q := 19) (v := lN 1) (pj_d p_X12_week 11 rfl) rfl (by decide) ?_
    refine pj_cp (pj_rS (q := 22) (c_X12_in w (lN 0) (lN 1) 0 1 (by decide) (by decide)) (pj_d p_X12_week 12 rfl) rfl kX12_57 o_X12_in (by rfl) (by rfl) (Nat.le_of_ble_eq_true rfl) (by decide)) (by decide) (by decide) ?_
    refine pj_if_ne (t := 28) (q := 25) (pj_d p_X12_week 13 rfl) rfl (by decide) (fun c2 => ?_) (fun c2 => ?_)
    · have e := (gd_b_n _).mp c2
      obtain ⟨j, hj, rfl, hc⟩ := gd_rng_of (hi := 1) e
      have hji : (nI j).toInt = (j : Int) := nI_toInt (by omega)
      refine pj_iconst (q := 29) (v := nI 0) (pj_d p_X12_week 16 rfl) rfl (by decide) ?_
      refine pj_ist2 (q := 30) (pj_d p_X12_week 17 rfl) rfl rfl ?_
      refine pj_iconst (q := 31) (v := nI 0) (pj_d p_X12_week 18 rfl) rfl (by decide) ?_
      refine pj_ist3 (q := 32) (pj_d p_X12_week 19 rfl) rfl rfl ?_
      refine pj_iconst (q := 33) (v := nI 0) (pj_d p_X12_week 20 rfl) rfl (by decide) ?_
      refine pj_ist4 (q := 35) (pj_d p_X12_week 21 rfl) rfl rfl ?_
      generalize hf : (fun d => if gd_harm τ (gd_miss τ d) = 0 then 2 ^ d else 0) = f
      have hg : gd_clear τ = gd_sm f 7 := by rw [← hf]; rfl
      have hlt2 : ∀ m, gd_sm f m < 2 ^ m := by rw [← hf]; exact gd_sm_pw (fun d => gd_harm τ (gd_miss τ d) = 0)
      have loop : ∀ m i, 7 - i < m → i ≤ 7 → pj_V E B l Y_X12_week 4 0 0 35 [some (.ref g), some (.int (nI j)), some (.int (nI (gd_sm f i))), some (.int (nI (gd_wf τ i))), some (.int (nI i))] [] h n 0 0 (pj_is (some (.int (sp_week τ (nI j)))) h n) := by
        intro m
        induction m with
        | zero => intro i hi; omega
        | succ m ih =>
          intro i hi hle
          refine pj_ild4 (q := 37) (pj_d p_X12_week 22 rfl) rfl ?_
          refine pj_bipush (q := 39) (v := nI 7) (pj_d p_X12_week 23 rfl) rfl (by decide) ?_
          refine pj_icmp_ge (t := 101) (q := 42) (pj_d p_X12_week 24 rfl) rfl (by decide) (fun c3 => ?_) (fun c3 => ?_)
          · have he : i = 7 := by have := gd_ge c3 (by omega) (by omega); omega
            subst he
            refine pj_ild1 (q := 102) (pj_d p_X12_week 56 rfl) rfl ?_
            refine pj_if_ne (t := 109) (q := 105) (pj_d p_X12_week 57 rfl) rfl (by decide) (fun c4 => ?_) (fun c4 => ?_)
            · have hj0 : ¬ j = 0 := fun q => c4 (by rw [q]; rfl)
              refine pj_ild3 (q := 110) (pj_d p_X12_week 60 rfl) rfl ?_
              refine pj_iret rfl (pj_d p_X12_week 61 rfl) (by decide) (by decide) ?_
              exact ⟨by simp [sp_week, ht, e, hji, hj0], rfl, rfl⟩
            · have hj0 : j = 0 := (nI_eq (by omega) (by omega)).mp (c4.trans nI_0.symm)
              subst hj0
              refine pj_ild2 (q := 106) (pj_d p_X12_week 58 rfl) rfl ?_
              refine pj_goto (t := 110) (pj_d p_X12_week 59 rfl) (by decide) ?_
              refine pj_iret rfl (pj_d p_X12_week 61 rfl) (by decide) (by decide) ?_
              exact ⟨by simp [sp_week, ht, e, hji, hg], rfl, rfl⟩
          · have hlt : i < 7 := gd_lt c3 (by omega)
            have hwl := gd_wf_le τ i
            have b1 := gd_harm_le hW (gd_miss τ i)
            have b2 := gd_harm_le hW (gd_miss τ (gd_wf τ i))
            refine pj_ild2 (q := 43) (pj_d p_X12_week 25 rfl) rfl ?_
            refine pj_ald0 (q := 44) (pj_d p_X12_week 26 rfl) rfl ?_
            refine pj_ald0 (q := 45) (pj_d p_X12_week 27 rfl) rfl ?_
            refine pj_ild4 (q := 47) (pj_d p_X12_week 28 rfl) rfl ?_
            refine pj_cp (pj_rV (q := 50) (c_X12_missingOn hM hT hW (d := i) (by omega)) (pj_d p_X12_week 29 rfl) rfl kX12_170 o_X12_missingOn (by assumption) (by rfl) (by rfl) (by rfl) (by rfl) (Nat.le_of_ble_eq_true rfl) (by decide)) (by decide) (by decide) ?_
            refine pj_cp (pj_rV (q := 53) (c_X12_harmBy hM hT hW (gd_miss_lt hW i)) (pj_d p_X12_week 30 rfl) rfl kX12_173 o_X12_harmBy (by assumption) (by rfl) (by rfl) (by rfl) (by rfl) (Nat.le_of_ble_eq_true rfl) (by decide)) (by decide) (by decide) ?_
            have fin : ∀ x, x = gd_wf τ (i + 1) → pj_V E B l Y_X12_week 4 0 0 94 [some (.ref g), some (.int (nI j)), some (.int (nI (gd_sm f (i + 1)))), some (.int (nI (gd_wf τ i))), some (.int (nI i))] [.int (nI x)] h n 0 0 (pj_is (some (.int (sp_week τ (nI j)))) h n) := by
              intro x hx
              subst hx
              refine pj_ist3 (q := 95) (pj_d p_X12_week 53 rfl) rfl rfl ?_
              refine pj_iinc4 (q := 98) (v := 1) (pj_d p_X12_week 54 rfl) rfl rfl (by decide) ?_
              refine pj_goto (t := 35) (pj_d p_X12_week 55 rfl) (by decide) ?_
              rw [nI_1]
              exact ih (i + 1) (by omega) (by omega)
            have go : ∀ x, nI (gd_sm f i) ||| nI x = nI (gd_sm f (i + 1)) → pj_V E B l Y_X12_week 4 0 0 64 [some (.ref g), some (.int (nI j)), some (.int (nI (gd_sm f i))), some (.int (nI (gd_wf τ i))), some (.int (nI i))] [.int (nI x), .int (nI (gd_sm f i))] h n 0 0 (pj_is (some (.int (sp_week τ (nI j)))) h n) := by
              intro x hx
              refine pj_ior (q := 65) (pj_d p_X12_week 37 rfl) rfl ?_
              rw [hx]
              refine pj_ist2 (q := 66) (pj_d p_X12_week 38 rfl) rfl rfl ?_
              refine pj_ald0 (q := 67) (pj_d p_X12_week 39 rfl) rfl ?_
              refine pj_ald0 (q := 68) (pj_d p_X12_week 40 rfl) rfl ?_
              refine pj_ild4 (q := 70) (pj_d p_X12_week 41 rfl) rfl ?_
              refine pj_cp (pj_rV (q := 73) (c_X12_missingOn hM hT hW (d := i) (by omega)) (pj_d p_X12_week 42 rfl) rfl kX12_170 o_X12_missingOn (by assumption) (by rfl) (by rfl) (by rfl) (by rfl) (Nat.le_of_ble_eq_true rfl) (by decide)) (by decide) (by decide) ?_
              refine pj_cp (pj_rV (q := 76) (c_X12_harmBy hM hT hW (gd_miss_lt hW i)) (pj_d p_X12_week 43 rfl) rfl kX12_173 o_X12_harmBy (by assumption) (by rfl) (by rfl) (by rfl) (by rfl) (Nat.le_of_ble_eq_true rfl) (by decide)) (by decide) (by decide) ?_
              refine pj_ald0 (q := 77) (pj_d p_X12_week 44 rfl) rfl ?_
              refine pj_ald0 (q := 78) (pj_d p_X12_week 45 rfl) rfl ?_
              refine pj_ild3 (q := 79) (pj_d p_X12_week 46 rfl) rfl ?_
              refine pj_cp (pj_rV (q := 82) (c_X12_missingOn hM hT hW (d := gd_wf τ i) (by omega)) (pj_d p_X12_week 47 rfl) rfl kX12_170 o_X12_missingOn (by assumption) (by rfl) (by rfl) (by rfl) (by rfl) (Nat.le_of_ble_eq_true rfl) (by decide)) (by decide) (by decide) ?_
              refine pj_cp (pj_rV (q := 85) (c_X12_harmBy hM hT hW (gd_miss_lt hW _)) (pj_d p_X12_week 48 rfl) rfl kX12_173 o_X12_harmBy (by assumption) (by rfl) (by rfl) (by rfl) (by rfl) (Nat.le_of_ble_eq_true rfl) (by decide)) (by decide) (by decide) ?_
              refine pj_icmp_le (t := 93) (q := 88) (pj_d p_X12_week 49 rfl) rfl (by decide) (fun c5 => ?_) (fun c5 => ?_)
              · have hle := (nI_leI (by omega) (by omega)).mp c5
                refine pj_ild3 (q := 94) (pj_d p_X12_week 52 rfl) rfl ?_
                exact fin _ (by rw [gd_wf, if_neg (by omega)])
              · have hgt : gd_harm τ (gd_miss τ (gd_wf τ i)) < gd_harm τ (gd_miss τ i) := gd_lt c5 (by omega)
                refine pj_ild4 (q := 90) (pj_d p_X12_week 50 rfl) rfl ?_
                refine pj_goto (t := 94) (pj_d p_X12_week 51 rfl) (by decide) ?_
                exact fin _ (by rw [gd_wf, if_pos hgt])
            refine pj_if_ne (t := 63) (q := 56) (pj_d p_X12_week 31 rfl) rfl (by decide) (fun c4 => ?_) (fun c4 => ?_)
            · have hne : ¬ gd_harm τ (gd_miss τ i) = 0 := fun q => c4 (by rw [q]; rfl)
              refine pj_iconst (q := 64) (v := nI 0) (pj_d p_X12_week 36 rfl) rfl (by decide) ?_
              exact go 0 (by rw [gd_or0, gd_sm, ← hf]; simp only [if_neg hne]; rfl)
            · have heq := (nI_eq (by omega) (by omega)).mp (c4.trans nI_0.symm)
              refine pj_iconst (q := 57) (v := nI 1) (pj_d p_X12_week 32 rfl) rfl (by decide) ?_
              refine pj_ild4 (q := 59) (pj_d p_X12_week 33 rfl) rfl ?_
              refine pj_ishl (q := 60) (pj_d p_X12_week 34 rfl) rfl ?_
              rw [gd_shl1 i (by omega)]
              refine pj_goto (t := 64) (pj_d p_X12_week 35 rfl) (by decide) ?_
              exact go _ (by rw [gd_or2 i (by omega) _ (hlt2 i), gd_sm, ← hf]; simp only [if_pos heq])
      exact loop 8 0 (by omega) (by omega)
    · have e := (gd_b_z _).mp c2
      refine pj_ldc (q := 27) (pj_d p_X12_week 14 rfl) rfl kX12_67 ?_
      refine pj_iret rfl (pj_d p_X12_week 15 rfl) (by decide) (by decide) ?_
      exact ⟨by simp [sp_week, ht, e], rfl, rfl⟩
  · have ht := gd_dec_f c1
    refine pj_ldc (q := 14) (pj_d p_X12_week 6 rfl) rfl kX12_179 ?_
    refine pj_iret rfl (pj_d p_X12_week 7 rfl) (by decide) (by decide) ?_
    exact ⟨by simp [sp_week, ht], rfl, rfl⟩
theorem c_X12_merged (hR : gd_MR h g v τ) (a b : Int32) : pj_Ct E B l Y_X12_merged 4 0 0 [.ref g, .int a, .int b] h n (pj_is (some (.int (sp_merged τ a b))) h n) := by
  obtain ⟨hM, hT, hv, hW, h1⟩ := hR
  refine pj_in rfl (ls := [some (.ref g), some (.int (a)), some (.int (b)), none, none]) rfl (Nat.le_of_ble_eq_true rfl) ?_
  refine gd_thr (pj_d p_X12_merged 0 rfl) (pj_d p_X12_merged 1 rfl) (pj_d p_X12_merged 2 rfl) rfl hM hv ?_
  refine pj_ald0 (q := 6) (pj_d p_X12_merged 3 rfl) rfl ?_
  refine pj_ild1 (q := 7) (pj_d p_X12_merged 4 rfl) rfl ?_
  refine pj_ild2 (q := 8) (pj_d p_X12_merged 5 rfl) rfl ?_
  refine pj_cp (pj_rV (q := 11) (c_X12_areTwo hM hT hW.1 a b) (pj_d p_X12_merged 6 rfl) rfl kX12_191 o_X12_areTwo (by assumption) (by rfl) (by rfl) (by rfl) (by rfl) (Nat.le_of_ble_eq_true rfl) (by decide)) (by decide) (by decide) ?_
  refine pj_if_ne (t := 17) (q := 14) (pj_d p_X12_merged 7 rfl) rfl (by decide) (fun c1 => ?_) (fun c1 => ?_)
  · have e1 := (gd_b_n _).mp c1
    have e3 : sp_two τ a b = true := e1
    rw [Bool.and_eq_true, Bool.and_eq_true] at e1
    obtain ⟨i, hi, rfl, hc⟩ := gd_has_of hW.1 e1.1.1
    obtain ⟨j, hj, rfl, hd⟩ := gd_has_of hW.1 e1.1.2
    have hsp : sp_merged τ (nI i) (nI j) = gd_on (gd_mg τ i j 32) := by rw [sp_merged, e3, hc, hd]; rfl
    rw [hsp]
    refine pj_ldc (q := 19) (pj_d p_X12_merged 10 rfl) rfl kX12_90 ?_
    refine pj_ist3 (q := 20) (pj_d p_X12_merged 11 rfl) rfl rfl ?_
    refine pj_iconst (q := 21) (v := nI 0) (pj_d p_X12_merged 12 rfl) rfl (by decide) ?_
    refine pj_ist4 (q := 23) (pj_d p_X12_merged 13 rfl) rfl rfl ?_
    have loop : ∀ m p, 32 - p < m → p ≤ 32 → pj_V E B l Y_X12_merged 4 0 0 23 [some (.ref g), some (.int (nI i)), some (.int (nI j)), some (.int (gd_on (gd_mg τ i j p))), some (.int (nI p))] [] h n 0 0 (pj_is (some (.int (gd_on (gd_mg τ i j 32)))) h n) := by
      intro m
      induction m with
      | zero => intro p hp; omega
      | succ m ih =>
        intro p hp hle
        refine pj_ild4 (q := 25) (pj_d p_X12_merged 14 rfl) rfl ?_
        refine pj_bipush (q := 27) (v := nI 32) (pj_d p_X12_merged 15 rfl) rfl (by decide) ?_
        refine pj_icmp_ge (t := 78) (q := 30) (pj_d p_X12_merged 16 rfl) rfl (by decide) (fun c2 => ?_) (fun c2 => ?_)
        · have he : p = 32 := by have := gd_ge c2 (by omega) (by omega); omega
          subst he
          refine pj_ild3 (q := 79) (pj_d p_X12_merged 40 rfl) rfl ?_
          refine pj_iret rfl (pj_d p_X12_merged 41 rfl) (by decide) (by decide) ?_
          exact ⟨rfl, rfl, rfl⟩
        · have hlt : p < 32 := gd_lt c2 (by omega)
          have la := gd_lk_lt hW hi hlt
          have lb := gd_lk_lt hW hj hlt
          refine pj_ald0 (q := 31) (pj_d p_X12_merged 17 rfl) rfl ?_
          refine pj_ild1 (q := 32) (pj_d p_X12_merged 18 rfl) rfl ?_
          refine pj_ild4 (q := 34) (pj_d p_X12_merged 19 rfl) rfl ?_
          refine pj_cp (pj_rV (q := 37) (c_X12_lookOf hM hT hW hi hlt) (pj_d p_X12_merged 20 rfl) rfl kX12_167 o_X12_lookOf (by assumption) (by rfl) (by rfl) (by rfl) (by rfl) (Nat.le_of_ble_eq_true rfl) (by decide)) (by decide) (by decide) ?_
          refine pj_ald0 (q := 38) (pj_d p_X12_merged 21 rfl) rfl ?_
          refine pj_ild2 (q := 39) (pj_d p_X12_merged 22 rfl) rfl ?_
          refine pj_ild4 (q := 41) (pj_d p_X12_merged 23 rfl) rfl ?_
          refine pj_cp (pj_rV (q := 44) (c_X12_lookOf hM hT hW hj hlt) (pj_d p_X12_merged 24 rfl) rfl kX12_167 o_X12_lookOf (by assumption) (by rfl) (by rfl) (by rfl) (by rfl) (Nat.le_of_ble_eq_true rfl) (by decide)) (by decide) (by decide) ?_
          have fin : ∀ x, x = gd_on (gd_mg τ i j (p + 1)) → pj_V E B l Y_X12_merged 4 0 0 71 [some (.ref g), some (.int (nI i)), some (.int (nI j)), some (.int (gd_on (gd_mg τ i j p))), some (.int (nI p))] [.int x] h n 0 0 (pj_is (some (.int (gd_on (gd_mg τ i j 32)))) h n) := by
            intro x hx
            subst hx
            refine pj_ist3 (q := 72) (pj_d p_X12_merged 37 rfl) rfl rfl ?_
            refine pj_iinc4 (q := 75) (v := 1) (pj_d p_X12_merged 38 rfl) rfl rfl (by decide) ?_
            refine pj_goto (t := 23) (pj_d p_X12_merged 39 rfl) (by decide) ?_
            rw [nI_1]
            exact ih (p + 1) (by omega) (by omega)
          have no : ¬ (gd_lk τ i p = gd_lk τ j p ∧ (∀ s, gd_mg τ i j p = some s → gd_bits p < gd_bits s)) → pj_V E B l Y_X12_merged 4 0 0 70 [some (.ref g), some (.int (nI i)), some (.int (nI j)), some (.int (gd_on (gd_mg τ i j p))), some (.int (nI p))] [] h n 0 0 (pj_is (some (.int (gd_on (gd_mg τ i j 32)))) h n) := by
            intro hno
            refine pj_ild3 (q := 71) (pj_d p_X12_merged 36 rfl) rfl ?_
            exact fin _ (by rw [gd_mg, if_neg hno])
          have yes : (gd_lk τ i p = gd_lk τ j p ∧ (∀ s, gd_mg τ i j p = some s → gd_bits p < gd_bits s)) → pj_V E B l Y_X12_merged 4 0 0 65 [some (.ref g), some (.int (nI i)), some (.int (nI j)), some (.int (gd_on (gd_mg τ i j p))), some (.int (nI p))] [] h n 0 0 (pj_is (some (.int (gd_on (gd_mg τ i j 32)))) h n) := by
            intro hy
            refine pj_ild4 (q := 67) (pj_d p_X12_merged 34 rfl) rfl ?_
            refine pj_goto (t := 71) (pj_d p_X12_merged 35 rfl) (by decide) ?_
            exact fin _ (by rw [gd_mg, if_pos hy]; rfl)
          refine pj_icmp_ne (t := 70) (q := 47) (pj_d p_X12_merged 25 rfl) rfl (by decide) (fun c3 => ?_) (fun c3 => ?_)
          · exact no (fun q => c3 (by rw [q.1]))
          have heq := (nI_eq (by omega) (by omega)).mp c3
          refine pj_ild3 (q := 48) (pj_d p_X12_merged 26 rfl) rfl ?_
          refine pj_ldc (q := 50) (pj_d p_X12_merged 27 rfl) rfl kX12_90 ?_
          cases hm : gd_mg τ i j p with
          | none =>
            refine pj_icmp_eq (t := 65) (q := 53) (pj_d p_X12_merged 28 rfl) rfl (by decide) (fun c4 => ?_) (fun c4 => ?_)
            · rw [← hm]
              exact yes ⟨heq, fun s hs => by rw [hm] at hs; cases hs⟩
            · exact absurd rfl c4
          | some s =>
            have hs := gd_mg_lt τ i j p s hm
            refine pj_icmp_eq (t := 65) (q := 53) (pj_d p_X12_merged 28 rfl) rfl (by decide) (fun c4 => ?_) (fun c4 => ?_)
            · exact absurd c4 (gd_neg (by omega))
            show pj_V E B l Y_X12_merged 4 0 0 53 [some (.ref g), some (.int (nI i)), some (.int (nI j)), some (.int (nI s)), some (.int (nI p))] [] h n 0 0 _
            refine pj_ild4 (q := 55) (pj_d p_X12_merged 29 rfl) rfl ?_
            refine pj_cp (pj_rS (q := 58) (c_X12_bits p (by omega)) (pj_d p_X12_merged 30 rfl) rfl kX12_161 o_X12_bits (by rfl) (by rfl) (Nat.le_of_ble_eq_true rfl) (by decide)) (by decide) (by decide) ?_
            refine pj_ild3 (q := 59) (pj_d p_X12_merged 31 rfl) rfl ?_
            refine pj_cp (pj_rS (q := 62) (c_X12_bits s (by omega)) (pj_d p_X12_merged 32 rfl) rfl kX12_161 o_X12_bits (by rfl) (by rfl) (Nat.le_of_ble_eq_true rfl) (by decide)) (by decide) (by decide) ?_
            have b1 := gd_bits_le p
            have b2 := gd_bits_le s
            have es : nI s = gd_on (gd_mg τ i j p) := by rw [hm]; rfl
            rw [es]
            refine pj_icmp_ge (t := 70) (q := 65) (pj_d p_X12_merged 33 rfl) rfl (by decide) (fun c5 => ?_) (fun c5 => ?_)
            · have := gd_ge c5 (by omega) (by omega)
              exact no (fun q => by have := q.2 s hm; omega)
            · have := gd_lt c5 (by omega)
              exact yes ⟨heq, fun s' hs' => by rw [hm] at hs'; cases hs'; omega⟩
    exact loop 33 0 (by omega) (by omega)
  · refine pj_ldc (q := 16) (pj_d p_X12_merged 8 rfl) rfl kX12_67 ?_
    refine pj_iret rfl (pj_d p_X12_merged 9 rfl) (by decide) (by decide) ?_
    exact ⟨by rw [sp_merged, sp_two, (gd_b_z _).mp c1]; rfl, rfl, rfl⟩
theorem gd_lmul {x : Nat} (hx : x < 2147483647) : lN x * 16807 - lN x * 16807 / 2147483647 * 2147483647 = lN (x * 16807 % 2147483647) := by
  have e : lN x * 16807 = lN (x * 16807) := by
    rw [show (16807 : Int64) = lN 16807 from rfl, lN_mul]
  rw [e, show (2147483647 : Int64) = lN 2147483647 from rfl]
  exact pk_lRem (by omega) (by omega) (by omega)
theorem gd_lm6 {x : Nat} (hx : x < 2147483647) : (lN x - lN x / 6 * 6).toInt32 = nI (x % 6) := by
  rw [show (6 : Int64) = lN 6 from rfl, pk_lRem (by omega) (by omega) (by omega), lN_i]
theorem c_X12_year (hR : gd_MR h g v τ) (mm s w : Int32) : pj_Ct E B l Y_X12_year 4 0 0 [.ref g, .int mm, .int s, .int w] h n (pj_is (some (.int (sp_year τ mm s w))) h n) := by
  obtain ⟨hM, hT, hv, hW, h1⟩ := hR
  refine pj_in rfl (ls := [some (.ref g), some (.int (mm)), some (.int (s)), some (.int (w)), none, none, none, none, none, none]) rfl (Nat.le_of_ble_eq_true rfl) ?_
  refine gd_thr (pj_d p_X12_year 0 rfl) (pj_d p_X12_year 1 rfl) (pj_d p_X12_year 2 rfl) rfl hM hv ?_
  have bad : τ 0 = 1 → (gd_rng mm 0 200 && gd_rng s 1 999999 && gd_rng w 0 1) = false → pj_V E B l Y_X12_year 4 0 0 49 [some (.ref g), some (.int (mm)), some (.int (s)), some (.int (w)), none, none, none, none, none, none] [] h n 0 0 (pj_is (some (.int (sp_year τ mm s w))) h n) := by
    intro ht hx
    refine pj_ldc (q := 51) (pj_d p_X12_year 26 rfl) rfl kX12_67 ?_
    refine pj_iret rfl (pj_d p_X12_year 27 rfl) (by decide) (by decide) ?_
    exact ⟨by rw [sp_year, if_pos ht, hx]; rfl, rfl, rfl⟩
  refine pj_ald0 (q := 6) (pj_d p_X12_year 3 rfl) rfl ?_
  refine pj_cp (pj_rV (q := 9) (c_X12_isThere hM hT h1) (pj_d p_X12_year 4 rfl) rfl kX12_176 o_X12_isThere (by assumption) (by rfl) (by rfl) (by rfl) (by rfl) (Nat.le_of_ble_eq_true rfl) (by decide)) (by decide) (by decide) ?_
  refine pj_if_ne (t := 15) (q := 12) (pj_d p_X12_year 5 rfl) rfl (by decide) (fun c1 => ?_) (fun c1 => ?_)
  · have ht := gd_dec_t c1
    refine pj_ild1 (q := 16) (pj_d p_X12_year 8 rfl) rfl ?_
    refine pj_i2l (q := 17) (pj_d p_X12_year 9 rfl) rfl ?_
    refine pj_lconst (q := 18) (v := lN 0) (pj_d p_X12_year 10 rfl) rfl (by decide) ?_
    refine pj_ldc2 (q := 21) (pj_d p_X12_year 11 rfl) rfl kX12_231 ?_
    refine pj_cp (pj_rS (q := 24) (c_X12_in mm (lN 0) 200 0 200 (by decide) (by decide)) (pj_d p_X12_year 12 rfl) rfl kX12_57 o_X12_in (by rfl) (by rfl) (Nat.le_of_ble_eq_true rfl) (by decide)) (by decide) (by decide) ?_
    refine pj_if_eq (t := 49) (q := 27) (pj_d p_X12_year 13 rfl) rfl (by decide) (fun c2 => ?_) (fun c2 => ?_)
    · exact bad ht (by rw [(gd_b_z _).mp c2]; rfl)
    refine pj_ild2 (q := 28) (pj_d p_X12_year 14 rfl) rfl ?_
    refine pj_i2l (q := 29) (pj_d p_X12_year 15 rfl) rfl ?_
    refine pj_lconst (q := 30) (v := lN 1) (pj_d p_X12_year 16 rfl) rfl (by decide) ?_
    refine pj_ldc2 (q := 33) (pj_d p_X12_year 17 rfl) rfl kX12_233 ?_
    refine pj_cp (pj_rS (q := 36) (c_X12_in s (lN 1) 999999 1 999999 (by decide) (by decide)) (pj_d p_X12_year 18 rfl) rfl kX12_57 o_X12_in (by rfl) (by rfl) (Nat.le_of_ble_eq_true rfl) (by decide)) (by decide) (by decide) ?_
    refine pj_if_eq (t := 49) (q := 39) (pj_d p_X12_year 19 rfl) rfl (by decide) (fun c3 => ?_) (fun c3 => ?_)
    · exact bad ht (by rw [(gd_b_z _).mp c3]; simp)
    refine pj_ild3 (q := 40) (pj_d p_X12_year 20 rfl) rfl ?_
    refine pj_i2l (q := 41) (pj_d p_X12_year 21 rfl) rfl ?_
    refine pj_lconst (q := 42) (v := lN 0) (pj_d p_X12_year 22 rfl) rfl (by decide) ?_
    refine pj_lconst (q := 43) (v := lN 1) (pj_d p_X12_year 23 rfl) rfl (by decide) ?_
    refine pj_cp (pj_rS (q := 46) (c_X12_in w (lN 0) (lN 1) 0 1 (by decide) (by decide)) (pj_d p_X12_year 24 rfl) rfl kX12_57 o_X12_in (by rfl) (by rfl) (Nat.le_of_ble_eq_true rfl) (by decide)) (by decide) (by decide) ?_
    refine pj_if_ne (t := 52) (q := 49) (pj_d p_X12_year 25 rfl) rfl (by decide) (fun c4 => ?_) (fun c4 => ?_)
    · have e1 := (gd_b_n _).mp c2
      have e2 := (gd_b_n _).mp c3
      have e3 := (gd_b_n _).mp c4
      obtain ⟨c, hc, rfl, hcc⟩ := gd_rng_of (hi := 200) e1
      obtain ⟨x, hx1, hx, rfl, hxc⟩ := gd_rng_of1 (hi := 999999) e2
      obtain ⟨j, hj, rfl, hjc⟩ := gd_rng_of (hi := 1) e3
      have hji : (nI j).toInt = (j : Int) := nI_toInt (by omega)
      have hsp : sp_year τ (nI c) (nI x) (nI j) = if j = 0 then nI (gd_sm (gd_yh τ x) c) else nI (gd_sm (fun i => if gd_yh τ x i = 0 then 1 else 0) c) := by
        rw [sp_year, if_pos ht, e1, e2, e3, hcc, hxc, hji]
        simp
      rw [hsp]
      refine pj_ild2 (q := 53) (pj_d p_X12_year 28 rfl) rfl ?_
      refine pj_i2l (q := 54) (pj_d p_X12_year 29 rfl) rfl ?_
      rw [nI_l (by omega)]
      refine pj_lst4 (q := 56) (pj_d p_X12_year 30 rfl) rfl rfl ?_
      refine pj_iconst (q := 57) (v := nI 0) (pj_d p_X12_year 31 rfl) rfl (by decide) ?_
      refine pj_ist6 (q := 59) (pj_d p_X12_year 32 rfl) rfl rfl ?_
      refine pj_iconst (q := 60) (v := nI 0) (pj_d p_X12_year 33 rfl) rfl (by decide) ?_
      refine pj_ist7 (q := 62) (pj_d p_X12_year 34 rfl) rfl rfl ?_
      refine pj_iconst (q := 63) (v := nI 0) (pj_d p_X12_year 35 rfl) rfl (by decide) ?_
      refine pj_ist8 (q := 65) (pj_d p_X12_year 36 rfl) rfl rfl ?_
      generalize hf : (fun i => if gd_yh τ x i = 0 then 1 else 0) = f
      have loop : ∀ m i o9, pj_c1 o9 = true → c - i < m → i ≤ c → pj_V E B l Y_X12_year 4 0 0 65 [some (.ref g), some (.int (nI c)), some (.int (nI x)), some (.int (nI j)), some (.long (lN (gd_X x i))), none, some (.int (nI (gd_sm (gd_yh τ x) i))), some (.int (nI (gd_sm f i))), some (.int (nI i)), o9] [] h n 0 0 (pj_is (some (.int (if j = 0 then nI (gd_sm (gd_yh τ x) c) else nI (gd_sm f c)))) h n) := by
        intro m
        induction m with
        | zero => intro i o9 _ hi; omega
        | succ m ih =>
          intro i o9 k9 hi hle
          refine pj_ild8 (q := 67) (pj_d p_X12_year 37 rfl) rfl ?_
          refine pj_ild1 (q := 68) (pj_d p_X12_year 38 rfl) rfl ?_
          refine pj_icmp_ge (t := 127) (q := 71) (pj_d p_X12_year 39 rfl) rfl (by decide) (fun c5 => ?_) (fun c5 => ?_)
          · have he : i = c := by have := gd_ge c5 (by omega) (by omega); omega
            subst he
            refine pj_ild3 (q := 128) (pj_d p_X12_year 68 rfl) rfl ?_
            refine pj_if_ne (t := 136) (q := 131) (pj_d p_X12_year 69 rfl) rfl (by decide) (fun c6 => ?_) (fun c6 => ?_)
            · have hj0 : ¬ j = 0 := fun q => c6 (by rw [q]; rfl)
              refine pj_ild7 (q := 138) (pj_d p_X12_year 72 rfl) rfl ?_
              refine pj_iret rfl (pj_d p_X12_year 73 rfl) (by decide) (by decide) ?_
              exact ⟨by rw [if_neg hj0], rfl, rfl⟩
            · have hj0 : j = 0 := (nI_eq (by omega) (by omega)).mp (c6.trans nI_0.symm)
              refine pj_ild6 (q := 133) (pj_d p_X12_year 70 rfl) rfl ?_
              refine pj_goto (t := 138) (pj_d p_X12_year 71 rfl) (by decide) ?_
              refine pj_iret rfl (pj_d p_X12_year 73 rfl) (by decide) (by decide) ?_
              exact ⟨by rw [if_pos hj0], rfl, rfl⟩
          · have hlt : i < c := gd_lt c5 (by omega)
            have hX := gd_X_lt hx i
            have hX1 := gd_X_lt hx (i + 1)
            refine pj_lld4 (q := 73) (pj_d p_X12_year 40 rfl) rfl ?_
            refine pj_ldc2 (q := 76) (pj_d p_X12_year 41 rfl) rfl kX12_235 ?_
            refine pj_lmul (q := 77) (pj_d p_X12_year 42 rfl) rfl ?_
            refine pj_ldc2 (q := 80) (pj_d p_X12_year 43 rfl) rfl kX12_237 ?_
            refine pj_lrem (q := 81) (pj_d p_X12_year 44 rfl) rfl (by decide) ?_
            rw [gd_lmul hX]
            rw [show gd_X x i * 16807 % 2147483647 = gd_X x (i + 1) from rfl]
            refine pj_lst4 (q := 83) (pj_d p_X12_year 45 rfl) rfl rfl ?_
            refine pj_ald0 (q := 84) (pj_d p_X12_year 46 rfl) rfl ?_
            refine pj_lld4 (q := 86) (pj_d p_X12_year 47 rfl) rfl ?_
            refine pj_ldc2 (q := 89) (pj_d p_X12_year 48 rfl) rfl kX12_187 ?_
            refine pj_lrem (q := 90) (pj_d p_X12_year 49 rfl) rfl (by decide) ?_
            refine pj_l2i (q := 91) (pj_d p_X12_year 50 rfl) rfl ?_
            rw [gd_lm6 hX1]
            have h6 : gd_X x (i + 1) % 6 ≤ 5 := by have := Nat.mod_lt (gd_X x (i + 1)) (show 0 < 6 by omega); omega
            refine pj_cp (pj_rS (q := 94) (c_X12_setOf _ h6) (pj_d p_X12_year 51 rfl) rfl kX12_164 o_X12_setOf (by rfl) (by rfl) (Nat.le_of_ble_eq_true rfl) (by decide)) (by decide) (by decide) ?_
            refine pj_cp (pj_rV (q := 97) (c_X12_harmBy hM hT hW (gd_setOf_lt _ h6)) (pj_d p_X12_year 52 rfl) rfl kX12_173 o_X12_harmBy (by assumption) (by rfl) (by rfl) (by rfl) (by rfl) (Nat.le_of_ble_eq_true rfl) (by decide)) (by decide) (by decide) ?_
            rw [show gd_harm τ (gd_setOf (gd_X x (i + 1) % 6)) = gd_yh τ x i from rfl]
            have hb : gd_yh τ x i ≤ 160 := gd_harm_le hW _
            refine pj_ist9 (q := 99) (pj_d p_X12_year 53 rfl) rfl rfl ?_
            refine pj_ild6 (q := 101) (pj_d p_X12_year 54 rfl) rfl ?_
            refine pj_ild9 (q := 103) (pj_d p_X12_year 55 rfl) rfl ?_
            refine pj_iadd (q := 104) (pj_d p_X12_year 56 rfl) rfl ?_
            rw [nI_add]
            refine pj_ist6 (q := 106) (pj_d p_X12_year 57 rfl) rfl rfl ?_
            refine pj_ild7 (q := 108) (pj_d p_X12_year 58 rfl) rfl ?_
            refine pj_ild9 (q := 110) (pj_d p_X12_year 59 rfl) rfl ?_
            have go : ∀ y, gd_sm f i + y = gd_sm f (i + 1) → pj_V E B l Y_X12_year 4 0 0 118 [some (.ref g), some (.int (nI c)), some (.int (nI x)), some (.int (nI j)), some (.long (lN (gd_X x (i + 1)))), none, some (.int (nI (gd_sm (gd_yh τ x) i + gd_yh τ x i))), some (.int (nI (gd_sm f i))), some (.int (nI i)), some (.int (nI (gd_yh τ x i)))] [.int (nI y), .int (nI (gd_sm f i))] h n 0 0 (pj_is (some (.int (if j = 0 then nI (gd_sm (gd_yh τ x) c) else nI (gd_sm f c)))) h n) := by
              intro y hy
              refine pj_iadd (q := 119) (pj_d p_X12_year 64 rfl) rfl ?_
              rw [nI_add, hy]
              refine pj_ist7 (q := 121) (pj_d p_X12_year 65 rfl) rfl rfl ?_
              refine pj_iinc8 (q := 124) (v := 1) (pj_d p_X12_year 66 rfl) rfl rfl (by decide) ?_
              refine pj_goto (t := 65) (pj_d p_X12_year 67 rfl) (by decide) ?_
              rw [nI_1]
              exact ih (i + 1) _ rfl (by omega) (by omega)
            refine pj_if_ne (t := 117) (q := 113) (pj_d p_X12_year 60 rfl) rfl (by decide) (fun c6 => ?_) (fun c6 => ?_)
            · have hne : ¬ gd_yh τ x i = 0 := fun q => c6 (by rw [q]; rfl)
              refine pj_iconst (q := 118) (v := nI 0) (pj_d p_X12_year 63 rfl) rfl (by decide) ?_
              exact go 0 (by rw [gd_sm, ← hf]; simp only [if_neg hne])
            · have heq := (nI_eq (by omega) (by omega)).mp (c6.trans nI_0.symm)
              refine pj_iconst (q := 114) (v := nI 1) (pj_d p_X12_year 61 rfl) rfl (by decide) ?_
              refine pj_goto (t := 118) (pj_d p_X12_year 62 rfl) (by decide) ?_
              exact go 1 (by rw [gd_sm, ← hf]; simp only [if_pos heq])
      exact loop (c + 1) 0 _ (show pj_c1 none = true from rfl) (by omega) (by omega)
    · exact bad ht (by rw [(gd_b_z _).mp c4]; simp)
  · have ht := gd_dec_f c1
    refine pj_ldc (q := 14) (pj_d p_X12_year 6 rfl) rfl kX12_179 ?_
    refine pj_iret rfl (pj_d p_X12_year 7 rfl) (by decide) (by decide) ?_
    exact ⟨by simp [sp_year, ht], rfl, rfl⟩
end
end
section
/-! ===== parted, thief: in the order of codes 7a + b ===== -/
def gd_ct (p : Nat → Bool) : Nat → Nat
  | 0 => 0
  | i + 1 => gd_ct p i + (if p i then 1 else 0)
def gd_fs (p : Nat → Bool) : Nat → Int32
  | 0 => -1000000
  | i + 1 => if gd_ct p i = 0 ∧ p i = true then nI i else gd_fs p i
theorem gd_ct_skip {p : Nat → Bool} {i : Nat} : ∀ j, (∀ c, i ≤ c → c < i + j → p c = false) → gd_ct p (i + j) = gd_ct p i ∧ gd_fs p (i + j) = gd_fs p i
  | 0, _ => ⟨rfl, rfl⟩
  | j + 1, h => by
    obtain ⟨h1, h2⟩ := gd_ct_skip j (fun c a b => h c a (by omega))
    have h3 := h (i + j) (by omega) (by omega)
    refine ⟨?_, ?_⟩
    · rw [← Nat.add_assoc, gd_ct, h1, h3]; rfl
    · rw [← Nat.add_assoc, gd_fs, h3, if_neg (by simp), h2]
theorem gd_ct_to {p : Nat → Bool} {i j : Nat} (hij : i ≤ j) (h : ∀ c, i ≤ c → c < j → p c = false) : gd_ct p j = gd_ct p i ∧ gd_fs p j = gd_fs p i := by
  have := gd_ct_skip (p := p) (i := i) (j - i) (fun c a b => h c a (by omega))
  rwa [show i + (j - i) = j by omega] at this
theorem gd_ct_mono {p : Nat → Bool} (i : Nat) : ∀ j, gd_ct p i ≤ gd_ct p (i + j)
  | 0 => Nat.le_refl _
  | j + 1 => by
    have := gd_ct_mono (p := p) i j
    rw [← Nat.add_assoc, gd_ct]
    omega
theorem gd_ct_le {p : Nat → Bool} : ∀ i, gd_ct p i ≤ i
  | 0 => Nat.le_refl _
  | i + 1 => by
    have := gd_ct_le (p := p) i
    rw [gd_ct]
    split <;> omega
theorem gd_fs_at {p : Nat → Bool} {c : Nat} (h0 : gd_ct p c = 0) (hp : p c = true) : ∀ j, gd_fs p (c + 1 + j) = nI c
  | 0 => by rw [Nat.add_zero, gd_fs, if_pos ⟨h0, hp⟩]
  | j + 1 => by
    rw [← Nat.add_assoc, gd_fs, if_neg, gd_fs_at h0 hp j]
    have h1 := gd_ct_mono (p := p) (c + 1) j
    rw [gd_ct, hp] at h1
    simp at h1
    intro q
    omega
def gd_pp (τ : Nat → Nat) (d e a b : Nat) : Bool := decide (gd_lk τ a (gd_miss τ d) = gd_lk τ b (gd_miss τ d)) && !decide (gd_lk τ a (gd_miss τ e) = gd_lk τ b (gd_miss τ e))
def gd_pc (τ : Nat → Nat) (d e c : Nat) : Bool := decide (c / 7 < c % 7 ∧ c % 7 < τ 1) && gd_pp τ d e (c / 7) (c % 7)
theorem gd_pc_in {τ : Nat → Nat} {d e a b : Nat} (h7 : τ 1 ≤ 7) (hab : a < b) (hb : b < τ 1) : gd_pc τ d e (7 * a + b) = gd_pp τ d e a b := by
  have e1 : (7 * a + b) / 7 = a := by omega
  have e2 : (7 * a + b) % 7 = b := by omega
  rw [gd_pc, e1, e2, decide_eq_true ⟨hab, hb⟩]; rfl
theorem gd_pc_out {τ : Nat → Nat} {d e c : Nat} (h : ¬ (c / 7 < c % 7 ∧ c % 7 < τ 1)) : gd_pc τ d e c = false := by
  rw [gd_pc, decide_eq_false h]; rfl
def sp_parted (τ : Nat → Nat) (d e w : Int32) : Int32 := if τ 0 = 1 then (if gd_rng d 0 100 && gd_rng e 0 100 && gd_rng w 0 1 then (if w.toInt = 0 then nI (gd_ct (gd_pc τ d.toNatClampNeg e.toNatClampNeg) 49) else gd_fs (gd_pc τ d.toNatClampNeg e.toNatClampNeg) 49) else -1000001) else -1000002
def gd_ot (τ : Nat → Nat) (c : Nat) : Nat := gd_bits (gd_like τ (c % 7) (gd_miss τ (c / 7))) - 1
def gd_tf (τ : Nat → Nat) : Nat → Option (Nat × Nat)
  | 0 => none
  | c + 1 => if c % 7 < τ 1 ∧ (∀ q, gd_tf τ c = some q → q.2 < gd_ot τ c) then some (c, gd_ot τ c) else gd_tf τ c
def gd_o1 (o : Option (Nat × Nat)) : Int32 := match o with
  | none => -1000000
  | some q => nI q.1
def gd_o2 (o : Option (Nat × Nat)) : Int32 := match o with
  | none => -1000000
  | some q => nI q.2
def sp_thief (τ : Nat → Nat) (w : Int32) : Int32 := if τ 0 = 1 then (if gd_rng w 0 1 then (if w.toInt = 0 then gd_o1 (gd_tf τ 49) else gd_o2 (gd_tf τ 49)) else -1000001) else -1000002
theorem gd_tf_skip {τ : Nat → Nat} {i j : Nat} (hij : i ≤ j) (h : ∀ c, i ≤ c → c < j → ¬ c % 7 < τ 1) : gd_tf τ j = gd_tf τ i := by
  obtain ⟨m, rfl⟩ := Nat.exists_eq_add_of_le hij
  induction m with
  | zero => rfl
  | succ m ih =>
    rw [← Nat.add_assoc, gd_tf, if_neg (fun q => h (i + m) (by omega) (by omega) q.1)]
    exact ih (by omega) (fun c a b => h c a (by omega))
theorem gd_sm_ge {f : Nat → Nat} {t : Nat} : ∀ {m : Nat}, t < m → f t ≤ gd_sm f m
  | m + 1, h => by
    rw [gd_sm]
    by_cases e : t = m
    · subst e; omega
    · have := gd_sm_ge (f := f) (t := t) (m := m) (by omega); omega
theorem gd_bits_pos : ∀ x, x < 128 → x ≠ 0 → 1 ≤ gd_bits x := by decide +kernel
theorem gd_like_pos {τ : Nat → Nat} {t st : Nat} (ht : t < τ 1) : gd_like τ t st ≠ 0 := by
  have := gd_sm_ge (f := fun k => if gd_lk τ k st = gd_lk τ t st then 2 ^ k else 0) ht
  simp only [if_true] at this
  have h2 : 0 < 2 ^ t := Nat.pow_pos (by omega)
  unfold gd_like
  omega
theorem gd_like128 {τ : Nat → Nat} (h7 : τ 1 ≤ 7) (t st : Nat) : gd_like τ t st < 128 := by
  have h2 := gd_like_lt τ t st (τ 1)
  have h3 : 2 ^ τ 1 ≤ 2 ^ 7 := Nat.pow_le_pow_right (by omega) h7
  exact Nat.lt_of_lt_of_le h2 h3
theorem gd_ot_le (τ : Nat → Nat) (c : Nat) : gd_ot τ c ≤ 7 := by
  have := gd_bits_le (gd_like τ (c % 7) (gd_miss τ (c / 7)))
  unfold gd_ot; omega
theorem gd_tf_le (τ : Nat → Nat) : ∀ c q, gd_tf τ c = some q → q.2 ≤ 7 ∧ q.1 < c
  | 0, q, h => by cases h
  | c + 1, q, h => by
    rw [gd_tf] at h
    split at h
    · cases h; exact ⟨gd_ot_le τ c, by simp⟩
    · have := gd_tf_le τ c q h; exact ⟨this.1, by omega⟩
theorem gd_otI {τ : Nat → Nat} (h7 : τ 1 ≤ 7) {t d : Nat} (ht : t < τ 1) : nI (gd_bits (gd_like τ t (gd_miss τ d))) - nI 1 = nI (gd_ot τ (7 * d + t)) := by
  have e1 : (7 * d + t) / 7 = d := by omega
  have e2 : (7 * d + t) % 7 = t := by omega
  rw [gd_ot, e1, e2]
  exact pk_sub (gd_bits_pos _ (gd_like128 h7 _ _) (gd_like_pos ht))
/-- 'more than the most so far', as the machine compares -/
theorem gd_more {τ : Nat → Nat} (c : Nat) : (nI (gd_ot τ c) ≤ gd_o2 (gd_tf τ c)) ↔ ¬ (∀ q, gd_tf τ c = some q → q.2 < gd_ot τ c) := by
  have h1 := gd_ot_le τ c
  cases hm : gd_tf τ c with
  | none =>
    constructor
    · intro hle
      rw [Int32.le_iff_toInt_le, nI_toInt (by omega), show (gd_o2 none).toInt = -1000000 from by decide] at hle
      omega
    · intro hn
      exact absurd (fun q hq => by cases hq) hn
  | some q =>
    have h2 := (gd_tf_le τ c q hm).1
    constructor
    · intro hle hn
      have := (nI_leI (by omega) (by omega)).mp hle
      have := hn q rfl
      omega
    · intro hn
      refine nI_le ?_ (by omega)
      rcases Nat.lt_or_ge q.2 (gd_ot τ c) with z | z
      · exact absurd (fun q' hq' => by cases hq'; exact z) hn
      · exact z
section
variable {E : pj_E} {B : Nat} {l : Launch} {h : pj_H} {n g : Nat} {τ : Nat → Nat} {v : Nat → Int32}
theorem c_X12_parted (hR : gd_MR h g v τ) (d e w : Int32) : pj_Ct E B l Y_X12_parted 4 0 0 [.ref g, .int d, .int e, .int w] h n (pj_is (some (.int (sp_parted τ d e w))) h n) := by
  obtain ⟨hM, hT, hv, hW, h1⟩ := hR
  have h7 := hW.1
  have h8 := hW.2.1
  refine pj_in rfl (ls := [some (.ref g), some (.int (d)), some (.int (e)), some (.int (w)), none, none, none, none, none]) rfl (Nat.le_of_ble_eq_true rfl) ?_
  refine gd_thr (pj_d p_X12_parted 0 rfl) (pj_d p_X12_parted 1 rfl) (pj_d p_X12_parted 2 rfl) rfl hM hv ?_
  refine pj_ald0 (q := 6) (pj_d p_X12_parted 3 rfl) rfl ?_
  refine pj_cp (pj_rV (q := 9) (c_X12_isThere hM hT h1) (pj_d p_X12_parted 4 rfl) rfl kX12_176 o_X12_isThere (by assumption) (by rfl) (by rfl) (by rfl) (by rfl) (Nat.le_of_ble_eq_true rfl) (by decide)) (by decide) (by decide) ?_
  refine pj_if_ne (t := 15) (q := 12) (pj_d p_X12_parted 5 rfl) rfl (by decide) (fun c1 => ?_) (fun c1 => ?_)
  rotate_left
  · have ht := gd_dec_f c1
    refine pj_ldc (q := 14) (pj_d p_X12_parted 6 rfl) rfl kX12_179 ?_
    refine pj_iret rfl (pj_d p_X12_parted 7 rfl) (by decide) (by decide) ?_
    exact ⟨by simp [sp_parted, ht], rfl, rfl⟩
  have ht := gd_dec_t c1
  have bad : (gd_rng d 0 100 && gd_rng e 0 100 && gd_rng w 0 1) = false → pj_V E B l Y_X12_parted 4 0 0 39 [some (.ref g), some (.int (d)), some (.int (e)), some (.int (w)), none, none, none, none, none] [] h n 0 0 (pj_is (some (.int (sp_parted τ d e w))) h n) := by
    intro hx
    refine pj_ldc (q := 41) (pj_d p_X12_parted 20 rfl) rfl kX12_67 ?_
    refine pj_iret rfl (pj_d p_X12_parted 21 rfl) (by decide) (by decide) ?_
    exact ⟨by rw [sp_parted, if_pos ht, hx]; rfl, rfl, rfl⟩
  refine pj_ild1 (q := 16) (pj_d p_X12_parted 8 rfl) rfl ?_
  refine pj_cp (pj_rS (q := 19) (c_X12_isFar d) (pj_d p_X12_parted 9 rfl) rfl kX12_195 o_X12_isFar (by rfl) (by rfl) (Nat.le_of_ble_eq_true rfl) (by decide)) (by decide) (by decide) ?_
  refine pj_if_eq (t := 39) (q := 22) (pj_d p_X12_parted 10 rfl) rfl (by decide) (fun c2 => ?_) (fun c2 => ?_)
  · exact bad (by rw [(gd_b_z _).mp c2]; rfl)
  refine pj_ild2 (q := 23) (pj_d p_X12_parted 11 rfl) rfl ?_
  refine pj_cp (pj_rS (q := 26) (c_X12_isFar e) (pj_d p_X12_parted 12 rfl) rfl kX12_195 o_X12_isFar (by rfl) (by rfl) (Nat.le_of_ble_eq_true rfl) (by decide)) (by decide) (by decide) ?_
  refine pj_if_eq (t := 39) (q := 29) (pj_d p_X12_parted 13 rfl) rfl (by decide) (fun c3 => ?_) (fun c3 => ?_)
  · exact bad (by rw [(gd_b_z _).mp c3]; simp)
  refine pj_ild3 (q := 30) (pj_d p_X12_parted 14 rfl) rfl ?_
  refine pj_i2l (q := 31) (pj_d p_X12_parted 15 rfl) rfl ?_
  refine pj_lconst (q := 32) (v := lN 0) (pj_d p_X12_parted 16 rfl) rfl (by decide) ?_
  refine pj_lconst (q := 33) (v := lN 1) (pj_d p_X12_parted 17 rfl) rfl (by decide) ?_
  refine pj_cp (pj_rS (q := 36) (c_X12_in w (lN 0) (lN 1) 0 1 (by decide) (by decide)) (pj_d p_X12_parted 18 rfl) rfl kX12_57 o_X12_in (by rfl) (by rfl) (Nat.le_of_ble_eq_true rfl) (by decide)) (by decide) (by decide) ?_
  refine pj_if_ne (t := 42) (q := 39) (pj_d p_X12_parted 19 rfl) rfl (by decide) (fun c4 => ?_) (fun c4 => ?_)
  · have e1 := (gd_b_n _).mp c2
    have e2 := (gd_b_n _).mp c3
    have e3 := (gd_b_n _).mp c4
    obtain ⟨d', hd, rfl, hdc⟩ := gd_rng_of (hi := 100) e1
    obtain ⟨e', he, rfl, hec⟩ := gd_rng_of (hi := 100) e2
    obtain ⟨j, hj, rfl, hjc⟩ := gd_rng_of (hi := 1) e3
    have hji : (nI j).toInt = (j : Int) := nI_toInt (by omega)
    have hsp : sp_parted τ (nI d') (nI e') (nI j) = if j = 0 then nI (gd_ct (gd_pc τ d' e') 49) else gd_fs (gd_pc τ d' e') 49 := by
      rw [sp_parted, if_pos ht, e1, e2, e3, hdc, hec, hji]
      simp
    rw [hsp]
    generalize hp : gd_pc τ d' e' = p
    refine pj_iconst (q := 43) (v := nI 0) (pj_d p_X12_parted 22 rfl) rfl (by decide) ?_
    refine pj_ist4 (q := 45) (pj_d p_X12_parted 23 rfl) rfl rfl ?_
    refine pj_ldc (q := 47) (pj_d p_X12_parted 24 rfl) rfl kX12_90 ?_
    refine pj_ist5 (q := 49) (pj_d p_X12_parted 25 rfl) rfl rfl ?_
    refine pj_iconst (q := 50) (v := nI 0) (pj_d p_X12_parted 26 rfl) rfl (by decide) ?_
    refine pj_ist6 (q := 52) (pj_d p_X12_parted 27 rfl) rfl rfl ?_
    have outer : ∀ m a o7 o8, pj_c1 o7 = true → pj_c1 o8 = true → τ 1 - a < m → a ≤ τ 1 → pj_V E B l Y_X12_parted 4 0 0 52 [some (.ref g), some (.int (nI d')), some (.int (nI e')), some (.int (nI j)), some (.int (nI (gd_ct p (7 * a)))), some (.int (gd_fs p (7 * a))), some (.int (nI a)), o7, o8] [] h n 0 0 (pj_is (some (.int (if j = 0 then nI (gd_ct p 49) else gd_fs p 49))) h n) := by
      intro m
      induction m with
      | zero => intro a o7 o8 _ _ hi; omega
      | succ m ih =>
        intro a o7 o8 k7 k8 hi hle
        refine pj_ild6 (q := 54) (pj_d p_X12_parted 28 rfl) rfl ?_
        refine pj_ald0 (q := 55) (pj_d p_X12_parted 29 rfl) rfl ?_
        refine pj_gf (q := 58) (k := 5) (pj_d p_X12_parted 30 rfl) rfl kX12_19 (by assumption) (by rfl) (by rfl) ?_
        refine pj_iconst (q := 59) (v := nI 1) (pj_d p_X12_parted 31 rfl) rfl (by decide) ?_
        refine pj_ialdN (q := 60) (pj_d p_X12_parted 32 rfl) rfl (by assumption) (by rfl) (by first | assumption | omega) (Nat.le_of_ble_eq_true rfl) ?_
        refine pj_icmp_ge (t := 163) (q := 63) (pj_d p_X12_parted 33 rfl) rfl (by decide) (fun c5 => ?_) (fun c5 => ?_)
        · have he : a = (τ 1) := by have := gd_ge c5 (by omega) (by omega); omega
          subst he
          obtain ⟨s1, s2⟩ := gd_ct_to (p := p) (i := 7 * τ 1) (j := 49) (by omega) (fun c h1 h2 => by rw [← hp]; exact gd_pc_out (by omega))
          refine pj_ild3 (q := 164) (pj_d p_X12_parted 84 rfl) rfl ?_
          refine pj_if_ne (t := 172) (q := 167) (pj_d p_X12_parted 85 rfl) rfl (by decide) (fun c6 => ?_) (fun c6 => ?_)
          · have hj0 : ¬ j = 0 := fun q => c6 (by rw [q]; rfl)
            refine pj_ild5 (q := 174) (pj_d p_X12_parted 88 rfl) rfl ?_
            refine pj_iret rfl (pj_d p_X12_parted 89 rfl) (by decide) (by decide) ?_
            exact ⟨by rw [if_neg hj0, s2], rfl, rfl⟩
          · have hj0 : j = 0 := (nI_eq (by omega) (by omega)).mp (c6.trans nI_0.symm)
            refine pj_ild4 (q := 169) (pj_d p_X12_parted 86 rfl) rfl ?_
            refine pj_goto (t := 174) (pj_d p_X12_parted 87 rfl) (by decide) ?_
            refine pj_iret rfl (pj_d p_X12_parted 89 rfl) (by decide) (by decide) ?_
            exact ⟨by rw [if_pos hj0, s1], rfl, rfl⟩
        have ha : a < τ 1 := gd_lt c5 (by omega)
        refine pj_ild6 (q := 65) (pj_d p_X12_parted 34 rfl) rfl ?_
        refine pj_iconst (q := 66) (v := nI 1) (pj_d p_X12_parted 35 rfl) rfl (by decide) ?_
        refine pj_iadd (q := 67) (pj_d p_X12_parted 36 rfl) rfl ?_
        rw [nI_add]
        refine pj_ist7 (q := 69) (pj_d p_X12_parted 37 rfl) rfl rfl ?_
        have inner : ∀ m2 b o8, pj_c1 o8 = true → a < b → τ 1 - b < m2 → b ≤ τ 1 → pj_V E B l Y_X12_parted 4 0 0 69 [some (.ref g), some (.int (nI d')), some (.int (nI e')), some (.int (nI j)), some (.int (nI (gd_ct p (7 * a + b)))), some (.int (gd_fs p (7 * a + b))), some (.int (nI a)), some (.int (nI b)), o8] [] h n 0 0 (pj_is (some (.int (if j = 0 then nI (gd_ct p 49) else gd_fs p 49))) h n) := by
          intro m2
          induction m2 with
          | zero => intro b o8 _ _ hb; omega
          | succ m2 ih2 =>
            intro b o8 k8 hab hb hble
            refine pj_ild7 (q := 71) (pj_d p_X12_parted 38 rfl) rfl ?_
            refine pj_ald0 (q := 72) (pj_d p_X12_parted 39 rfl) rfl ?_
            refine pj_gf (q := 75) (k := 5) (pj_d p_X12_parted 40 rfl) rfl kX12_19 (by assumption) (by rfl) (by rfl) ?_
            refine pj_iconst (q := 76) (v := nI 1) (pj_d p_X12_parted 41 rfl) rfl (by decide) ?_
            refine pj_ialdN (q := 77) (pj_d p_X12_parted 42 rfl) rfl (by assumption) (by rfl) (by first | assumption | omega) (Nat.le_of_ble_eq_true rfl) ?_
            refine pj_icmp_ge (t := 157) (q := 80) (pj_d p_X12_parted 43 rfl) rfl (by decide) (fun c6 => ?_) (fun c6 => ?_)
            · have he : b = (τ 1) := by have := gd_ge c6 (by omega) (by omega); omega
              subst he
              obtain ⟨s1, s2⟩ := gd_ct_to (p := p) (i := 7 * a + τ 1) (j := 7 * (a + 1)) (by omega) (fun c h1 h2 => by rw [← hp]; exact gd_pc_out (by omega))
              rw [← s1, ← s2]
              refine pj_iinc6 (q := 160) (v := 1) (pj_d p_X12_parted 82 rfl) rfl rfl (by decide) ?_
              refine pj_goto (t := 52) (pj_d p_X12_parted 83 rfl) (by decide) ?_
              rw [nI_1]
              exact ih (a + 1) _ _ rfl k8 (by omega) (by omega)
            have hbt : b < τ 1 := gd_lt c6 (by omega)
            have hpp : p (7 * a + b) = gd_pp τ d' e' a b := by rw [← hp]; exact gd_pc_in h7 hab hbt
            have hcl := gd_ct_le (p := p) (7 * a + b)
            have put : ∀ bb : Bool, p (7 * a + b) = bb → pj_V E B l Y_X12_parted 4 0 0 109 [some (.ref g), some (.int (nI d')), some (.int (nI e')), some (.int (nI j)), some (.int (nI (gd_ct p (7 * a + b)))), some (.int (gd_fs p (7 * a + b))), some (.int (nI a)), some (.int (nI b)), o8] [.int (gd_b bb)] h n 0 0 (pj_is (some (.int (if j = 0 then nI (gd_ct p 49) else gd_fs p 49))) h n) := by
              intro bb hbb
              refine pj_ist8 (q := 111) (pj_d p_X12_parted 59 rfl) rfl rfl ?_
              refine pj_ild8 (q := 113) (pj_d p_X12_parted 60 rfl) rfl ?_
              have cnt : ∀ x y, x = gd_fs p (7 * a + b + 1) → pj_V E B l Y_X12_parted 4 0 0 134 [some (.ref g), some (.int (nI d')), some (.int (nI e')), some (.int (nI j)), some (.int (nI (gd_ct p (7 * a + b)))), some (.int (y)), some (.int (nI a)), some (.int (nI b)), some (.int (gd_b bb))] [.int x] h n 0 0 (pj_is (some (.int (if j = 0 then nI (gd_ct p 49) else gd_fs p 49))) h n) := by
                intro x y hx
                subst hx
                refine pj_ist5 (q := 136) (pj_d p_X12_parted 71 rfl) rfl rfl ?_
                refine pj_ild4 (q := 138) (pj_d p_X12_parted 72 rfl) rfl ?_
                refine pj_ild8 (q := 140) (pj_d p_X12_parted 73 rfl) rfl ?_
                have fin : ∀ z, gd_ct p (7 * a + b) + z = gd_ct p (7 * a + b + 1) → pj_V E B l Y_X12_parted 4 0 0 148 [some (.ref g), some (.int (nI d')), some (.int (nI e')), some (.int (nI j)), some (.int (nI (gd_ct p (7 * a + b)))), some (.int (gd_fs p (7 * a + b + 1))), some (.int (nI a)), some (.int (nI b)), some (.int (gd_b bb))] [.int (nI z), .int (nI (gd_ct p (7 * a + b)))] h n 0 0 (pj_is (some (.int (if j = 0 then nI (gd_ct p 49) else gd_fs p 49))) h n) := by
                  intro z hz
                  refine pj_iadd (q := 149) (pj_d p_X12_parted 78 rfl) rfl ?_
                  rw [nI_add, hz]
                  refine pj_ist4 (q := 151) (pj_d p_X12_parted 79 rfl) rfl rfl ?_
                  refine pj_iinc7 (q := 154) (v := 1) (pj_d p_X12_parted 80 rfl) rfl rfl (by decide) ?_
                  refine pj_goto (t := 69) (pj_d p_X12_parted 81 rfl) (by decide) ?_
                  rw [nI_1]
                  exact ih2 (b + 1) _ rfl (by omega) (by omega) (by omega)
                refine pj_if_eq (t := 147) (q := 143) (pj_d p_X12_parted 74 rfl) rfl (by decide) (fun c8 => ?_) (fun c8 => ?_)
                · refine pj_iconst (q := 148) (v := nI 0) (pj_d p_X12_parted 77 rfl) rfl (by decide) ?_
                  exact fin 0 (by rw [gd_ct, hbb, (gd_b_z _).mp c8]; rfl)
                · refine pj_iconst (q := 144) (v := nI 1) (pj_d p_X12_parted 75 rfl) rfl (by decide) ?_
                  refine pj_goto (t := 148) (pj_d p_X12_parted 76 rfl) (by decide) ?_
                  exact fin 1 (by rw [gd_ct, hbb, (gd_b_n _).mp c8]; rfl)
              refine pj_if_eq (t := 132) (q := 116) (pj_d p_X12_parted 61 rfl) rfl (by decide) (fun c7 => ?_) (fun c7 => ?_)
              · refine pj_ild5 (q := 134) (pj_d p_X12_parted 70 rfl) rfl ?_
                exact cnt _ _ (by rw [gd_fs, hbb, (gd_b_z _).mp c7, if_neg (by simp)])
              refine pj_ild4 (q := 118) (pj_d p_X12_parted 62 rfl) rfl ?_
              refine pj_if_ne (t := 132) (q := 121) (pj_d p_X12_parted 63 rfl) rfl (by decide) (fun c8 => ?_) (fun c8 => ?_)
              · have hne : ¬ gd_ct p (7 * a + b) = 0 := fun q => c8 (by rw [q]; rfl)
                refine pj_ild5 (q := 134) (pj_d p_X12_parted 70 rfl) rfl ?_
                exact cnt _ _ (by rw [gd_fs, if_neg (fun q => hne q.1)])
              · have h0 := (nI_eq (by omega) (by omega)).mp (c8.trans nI_0.symm)
                refine pj_bipush (q := 123) (v := nI 7) (pj_d p_X12_parted 64 rfl) rfl (by decide) ?_
                refine pj_ild6 (q := 125) (pj_d p_X12_parted 65 rfl) rfl ?_
                refine pj_imul (q := 126) (pj_d p_X12_parted 66 rfl) rfl ?_
                refine pj_ild7 (q := 128) (pj_d p_X12_parted 67 rfl) rfl ?_
                refine pj_iadd (q := 129) (pj_d p_X12_parted 68 rfl) rfl ?_
                rw [pk_mul, nI_add]
                refine pj_goto (t := 134) (pj_d p_X12_parted 69 rfl) (by decide) ?_
                exact cnt _ _ (by rw [gd_fs, if_pos ⟨h0, by rw [hbb]; exact (gd_b_n _).mp c7⟩])
            refine pj_ald0 (q := 81) (pj_d p_X12_parted 44 rfl) rfl ?_
            refine pj_ild6 (q := 83) (pj_d p_X12_parted 45 rfl) rfl ?_
            refine pj_ild7 (q := 85) (pj_d p_X12_parted 46 rfl) rfl ?_
            refine pj_ild1 (q := 86) (pj_d p_X12_parted 47 rfl) rfl ?_
            refine pj_cp (pj_rV (q := 89) (c_X12_areAlike hM hT hW (d := d') ha hbt (by omega)) (pj_d p_X12_parted 48 rfl) rfl kX12_198 o_X12_areAlike (by assumption) (by rfl) (by rfl) (by rfl) (by rfl) (Nat.le_of_ble_eq_true rfl) (by decide)) (by decide) (by decide) ?_
            refine pj_if_eq (t := 108) (q := 92) (pj_d p_X12_parted 49 rfl) rfl (by decide) (fun c7 => ?_) (fun c7 => ?_)
            · refine pj_iconst (q := 109) (v := nI 0) (pj_d p_X12_parted 58 rfl) rfl (by decide) ?_
              exact put false (by rw [hpp, gd_pp, (gd_b_z _).mp c7]; rfl)
            refine pj_ald0 (q := 93) (pj_d p_X12_parted 50 rfl) rfl ?_
            refine pj_ild6 (q := 95) (pj_d p_X12_parted 51 rfl) rfl ?_
            refine pj_ild7 (q := 97) (pj_d p_X12_parted 52 rfl) rfl ?_
            refine pj_ild2 (q := 98) (pj_d p_X12_parted 53 rfl) rfl ?_
            refine pj_cp (pj_rV (q := 101) (c_X12_areAlike hM hT hW (d := e') ha hbt (by omega)) (pj_d p_X12_parted 54 rfl) rfl kX12_198 o_X12_areAlike (by assumption) (by rfl) (by rfl) (by rfl) (by rfl) (Nat.le_of_ble_eq_true rfl) (by decide)) (by decide) (by decide) ?_
            refine pj_if_ne (t := 108) (q := 104) (pj_d p_X12_parted 55 rfl) rfl (by decide) (fun c8 => ?_) (fun c8 => ?_)
            · refine pj_iconst (q := 109) (v := nI 0) (pj_d p_X12_parted 58 rfl) rfl (by decide) ?_
              exact put false (by rw [hpp, gd_pp, (gd_b_n _).mp c8]; simp)
            · refine pj_iconst (q := 105) (v := nI 1) (pj_d p_X12_parted 56 rfl) rfl (by decide) ?_
              refine pj_goto (t := 109) (pj_d p_X12_parted 57 rfl) (by decide) ?_
              exact put true (by rw [hpp, gd_pp, (gd_b_n _).mp c7, (gd_b_z _).mp c8]; rfl)
        obtain ⟨s1, s2⟩ := gd_ct_to (p := p) (i := 7 * a) (j := 7 * a + (a + 1)) (by omega) (fun c h1 h2 => by rw [← hp]; exact gd_pc_out (by omega))
        rw [← s1, ← s2]
        exact inner (τ 1 + 1) (a + 1) _ k8 (by omega) (by omega) (by omega)
    exact outer (τ 1 + 1) 0 none none rfl rfl (by omega) (by omega)
  · exact bad (by rw [(gd_b_z _).mp c4]; simp)
theorem c_X12_thief (hR : gd_MR h g v τ) (w : Int32) : pj_Ct E B l Y_X12_thief 4 0 0 [.ref g, .int w] h n (pj_is (some (.int (sp_thief τ w))) h n) := by
  obtain ⟨hM, hT, hv, hW, h1⟩ := hR
  have h7 := hW.1
  have h8 := hW.2.1
  refine pj_in rfl (ls := [some (.ref g), some (.int (w)), none, none, none, none, none]) rfl (Nat.le_of_ble_eq_true rfl) ?_
  refine gd_thr (pj_d p_X12_thief 0 rfl) (pj_d p_X12_thief 1 rfl) (pj_d p_X12_thief 2 rfl) rfl hM hv ?_
  refine pj_ald0 (q := 6) (pj_d p_X12_thief 3 rfl) rfl ?_
  refine pj_cp (pj_rV (q := 9) (c_X12_isThere hM hT h1) (pj_d p_X12_thief 4 rfl) rfl kX12_176 o_X12_isThere (by assumption) (by rfl) (by rfl) (by rfl) (by rfl) (Nat.le_of_ble_eq_true rfl) (by decide)) (by decide) (by decide) ?_
  refine pj_if_ne (t := 15) (q := 12) (pj_d p_X12_thief 5 rfl) rfl (by decide) (fun c1 => ?_) (fun c1 => ?_)
  rotate_left
  · have ht := gd_dec_f c1
    refine pj_ldc (q := 14) (pj_d p_X12_thief 6 rfl) rfl kX12_179 ?_
    refine pj_iret rfl (pj_d p_X12_thief 7 rfl) (by decide) (by decide) ?_
    exact ⟨by simp [sp_thief, ht], rfl, rfl⟩
  have ht := gd_dec_t c1
  refine pj_ild1 (q := 16) (pj_d p_X12_thief 8 rfl) rfl ?_
  refine pj_i2l (q := 17) (pj_d p_X12_thief 9 rfl) rfl ?_
  refine pj_lconst (q := 18) (v := lN 0) (pj_d p_X12_thief 10 rfl) rfl (by decide) ?_
  refine pj_lconst (q := 19) (v := lN 1) (pj_d p_X12_thief 11 rfl) rfl (by decide) ?_
  refine pj_cp (pj_rS (q := 22) (c_X12_in w (lN 0) (lN 1) 0 1 (by decide) (by decide)) (pj_d p_X12_thief 12 rfl) rfl kX12_57 o_X12_in (by rfl) (by rfl) (Nat.le_of_ble_eq_true rfl) (by decide)) (by decide) (by decide) ?_
  refine pj_if_ne (t := 28) (q := 25) (pj_d p_X12_thief 13 rfl) rfl (by decide) (fun c2 => ?_) (fun c2 => ?_)
  · have e3 := (gd_b_n _).mp c2
    obtain ⟨j, hj, rfl, hjc⟩ := gd_rng_of (hi := 1) e3
    have hji : (nI j).toInt = (j : Int) := nI_toInt (by omega)
    have hsp : sp_thief τ (nI j) = if j = 0 then gd_o1 (gd_tf τ 49) else gd_o2 (gd_tf τ 49) := by
      rw [sp_thief, if_pos ht, e3, hji]
      simp
    rw [hsp]
    refine pj_ldc (q := 30) (pj_d p_X12_thief 16 rfl) rfl kX12_90 ?_
    refine pj_ist2 (q := 31) (pj_d p_X12_thief 17 rfl) rfl rfl ?_
    refine pj_ldc (q := 33) (pj_d p_X12_thief 18 rfl) rfl kX12_90 ?_
    refine pj_ist3 (q := 34) (pj_d p_X12_thief 19 rfl) rfl rfl ?_
    refine pj_iconst (q := 35) (v := nI 0) (pj_d p_X12_thief 20 rfl) rfl (by decide) ?_
    refine pj_ist4 (q := 37) (pj_d p_X12_thief 21 rfl) rfl rfl ?_
    have outer : ∀ m d o5 o6, pj_c1 o5 = true → pj_c1 o6 = true → 7 - d < m → d ≤ 7 → pj_V E B l Y_X12_thief 4 0 0 37 [some (.ref g), some (.int (nI j)), some (.int (gd_o1 (gd_tf τ (7 * d)))), some (.int (gd_o2 (gd_tf τ (7 * d)))), some (.int (nI d)), o5, o6] [] h n 0 0 (pj_is (some (.int (if j = 0 then gd_o1 (gd_tf τ 49) else gd_o2 (gd_tf τ 49)))) h n) := by
      intro m
      induction m with
      | zero => intro d o5 o6 _ _ hi; omega
      | succ m ih =>
        intro d o5 o6 k5 k6 hi hle
        refine pj_ild4 (q := 39) (pj_d p_X12_thief 22 rfl) rfl ?_
        refine pj_bipush (q := 41) (v := nI 7) (pj_d p_X12_thief 23 rfl) rfl (by decide) ?_
        refine pj_icmp_ge (t := 121) (q := 44) (pj_d p_X12_thief 24 rfl) rfl (by decide) (fun c5 => ?_) (fun c5 => ?_)
        · have he : d = 7 := by have := gd_ge c5 (by omega) (by omega); omega
          subst he
          refine pj_ild1 (q := 122) (pj_d p_X12_thief 65 rfl) rfl ?_
          refine pj_if_ne (t := 129) (q := 125) (pj_d p_X12_thief 66 rfl) rfl (by decide) (fun c6 => ?_) (fun c6 => ?_)
          · have hj0 : ¬ j = 0 := fun q => c6 (by rw [q]; rfl)
            refine pj_ild3 (q := 130) (pj_d p_X12_thief 69 rfl) rfl ?_
            refine pj_iret rfl (pj_d p_X12_thief 70 rfl) (by decide) (by decide) ?_
            exact ⟨by rw [if_neg hj0], rfl, rfl⟩
          · have hj0 : j = 0 := (nI_eq (by omega) (by omega)).mp (c6.trans nI_0.symm)
            refine pj_ild2 (q := 126) (pj_d p_X12_thief 67 rfl) rfl ?_
            refine pj_goto (t := 130) (pj_d p_X12_thief 68 rfl) (by decide) ?_
            refine pj_iret rfl (pj_d p_X12_thief 70 rfl) (by decide) (by decide) ?_
            exact ⟨by rw [if_pos hj0], rfl, rfl⟩
        have hd : d < 7 := gd_lt c5 (by omega)
        refine pj_iconst (q := 45) (v := nI 0) (pj_d p_X12_thief 25 rfl) rfl (by decide) ?_
        refine pj_ist5 (q := 47) (pj_d p_X12_thief 26 rfl) rfl rfl ?_
        have inner : ∀ m2 t o6, pj_c1 o6 = true → τ 1 - t < m2 → t ≤ τ 1 → pj_V E B l Y_X12_thief 4 0 0 47 [some (.ref g), some (.int (nI j)), some (.int (gd_o1 (gd_tf τ (7 * d + t)))), some (.int (gd_o2 (gd_tf τ (7 * d + t)))), some (.int (nI d)), some (.int (nI t)), o6] [] h n 0 0 (pj_is (some (.int (if j = 0 then gd_o1 (gd_tf τ 49) else gd_o2 (gd_tf τ 49)))) h n) := by
          intro m2
          induction m2 with
          | zero => intro t o6 _ hb; omega
          | succ m2 ih2 =>
            intro t o6 k6 hb hble
            refine pj_ild5 (q := 49) (pj_d p_X12_thief 27 rfl) rfl ?_
            refine pj_ald0 (q := 50) (pj_d p_X12_thief 28 rfl) rfl ?_
            refine pj_gf (q := 53) (k := 5) (pj_d p_X12_thief 29 rfl) rfl kX12_19 (by assumption) (by rfl) (by rfl) ?_
            refine pj_iconst (q := 54) (v := nI 1) (pj_d p_X12_thief 30 rfl) rfl (by decide) ?_
            refine pj_ialdN (q := 55) (pj_d p_X12_thief 31 rfl) rfl (by assumption) (by rfl) (by first | assumption | omega) (Nat.le_of_ble_eq_true rfl) ?_
            refine pj_icmp_ge (t := 115) (q := 58) (pj_d p_X12_thief 32 rfl) rfl (by decide) (fun c6 => ?_) (fun c6 => ?_)
            · have he : t = (τ 1) := by have := gd_ge c6 (by omega) (by omega); omega
              subst he
              rw [← gd_tf_skip (τ := τ) (i := 7 * d + τ 1) (j := 7 * (d + 1)) (by omega) (fun c h1 h2 => by omega)]
              refine pj_iinc4 (q := 118) (v := 1) (pj_d p_X12_thief 63 rfl) rfl rfl (by decide) ?_
              refine pj_goto (t := 37) (pj_d p_X12_thief 64 rfl) (by decide) ?_
              rw [nI_1]
              exact ih (d + 1) _ _ rfl k6 (by omega) (by omega)
            have ht' : t < τ 1 := gd_lt c6 (by omega)
            refine pj_ald0 (q := 59) (pj_d p_X12_thief 33 rfl) rfl ?_
            refine pj_ild5 (q := 61) (pj_d p_X12_thief 34 rfl) rfl ?_
            refine pj_ald0 (q := 62) (pj_d p_X12_thief 35 rfl) rfl ?_
            refine pj_ild4 (q := 64) (pj_d p_X12_thief 36 rfl) rfl ?_
            refine pj_cp (pj_rV (q := 67) (c_X12_missingOn hM hT hW (d := d) (by omega)) (pj_d p_X12_thief 37 rfl) rfl kX12_170 o_X12_missingOn (by assumption) (by rfl) (by rfl) (by rfl) (by rfl) (Nat.le_of_ble_eq_true rfl) (by decide)) (by decide) (by decide) ?_
            refine pj_cp (pj_rV (q := 70) (c_X12_likeBy hM hT hW ht' (gd_miss_lt hW d)) (pj_d p_X12_thief 38 rfl) rfl kX12_202 o_X12_likeBy (by assumption) (by rfl) (by rfl) (by rfl) (by rfl) (Nat.le_of_ble_eq_true rfl) (by decide)) (by decide) (by decide) ?_
            refine pj_cp (pj_rS (q := 73) (c_X12_bits _ (gd_like128 h7 _ _)) (pj_d p_X12_thief 39 rfl) rfl kX12_161 o_X12_bits (by rfl) (by rfl) (Nat.le_of_ble_eq_true rfl) (by decide)) (by decide) (by decide) ?_
            refine pj_iconst (q := 74) (v := nI 1) (pj_d p_X12_thief 40 rfl) rfl (by decide) ?_
            refine pj_isub (q := 75) (pj_d p_X12_thief 41 rfl) rfl ?_
            rw [gd_otI h7 ht']
            refine pj_ist6 (q := 77) (pj_d p_X12_thief 42 rfl) rfl rfl ?_
            refine pj_ild6 (q := 79) (pj_d p_X12_thief 43 rfl) rfl ?_
            refine pj_ild3 (q := 80) (pj_d p_X12_thief 44 rfl) rfl ?_
            have e7 : (7 * d + t) % 7 = t := by omega
            have next : ∀ x y, x = gd_o1 (gd_tf τ (7 * d + t + 1)) → y = gd_o2 (gd_tf τ (7 * d + t + 1)) → pj_V E B l Y_X12_thief 4 0 0 109 [some (.ref g), some (.int (nI j)), some (.int (x)), some (.int (y)), some (.int (nI d)), some (.int (nI t)), some (.int (nI (gd_ot τ (7 * d + t))))] [] h n 0 0 (pj_is (some (.int (if j = 0 then gd_o1 (gd_tf τ 49) else gd_o2 (gd_tf τ 49)))) h n) := by
              intro x y hx hy
              subst hx
              subst hy
              refine pj_iinc5 (q := 112) (v := 1) (pj_d p_X12_thief 61 rfl) rfl rfl (by decide) ?_
              refine pj_goto (t := 47) (pj_d p_X12_thief 62 rfl) (by decide) ?_
              rw [nI_1]
              exact ih2 (t + 1) _ rfl (by omega) (by omega)
            refine pj_icmp_le (t := 94) (q := 83) (pj_d p_X12_thief 45 rfl) rfl (by decide) (fun c7 => ?_) (fun c7 => ?_)
            · have hno := (gd_more _).mp c7
              have hst : gd_tf τ (7 * d + t + 1) = gd_tf τ (7 * d + t) := by rw [gd_tf, if_neg (fun q => hno q.2)]
              refine pj_ild2 (q := 95) (pj_d p_X12_thief 52 rfl) rfl ?_
              refine pj_ist2 (q := 96) (pj_d p_X12_thief 53 rfl) rfl rfl ?_
              refine pj_ild6 (q := 98) (pj_d p_X12_thief 54 rfl) rfl ?_
              refine pj_ild3 (q := 99) (pj_d p_X12_thief 55 rfl) rfl ?_
              refine pj_icmp_le (t := 107) (q := 102) (pj_d p_X12_thief 56 rfl) rfl (by decide) (fun c8 => ?_) (fun c8 => ?_)
              · refine pj_ild3 (q := 108) (pj_d p_X12_thief 59 rfl) rfl ?_
                refine pj_ist3 (q := 109) (pj_d p_X12_thief 60 rfl) rfl rfl ?_
                exact next _ _ (by rw [hst]) (by rw [hst])
              · exact absurd c7 c8
            · have hyes : ∀ q, gd_tf τ (7 * d + t) = some q → q.2 < gd_ot τ (7 * d + t) := Classical.byContradiction fun q => c7 ((gd_more _).mpr q)
              have hst : gd_tf τ (7 * d + t + 1) = some (7 * d + t, gd_ot τ (7 * d + t)) := by rw [gd_tf, if_pos ⟨by rw [e7]; exact ht', hyes⟩]
              refine pj_bipush (q := 85) (v := nI 7) (pj_d p_X12_thief 46 rfl) rfl (by decide) ?_
              refine pj_ild4 (q := 87) (pj_d p_X12_thief 47 rfl) rfl ?_
              refine pj_imul (q := 88) (pj_d p_X12_thief 48 rfl) rfl ?_
              refine pj_ild5 (q := 90) (pj_d p_X12_thief 49 rfl) rfl ?_
              refine pj_iadd (q := 91) (pj_d p_X12_thief 50 rfl) rfl ?_
              rw [pk_mul, nI_add]
              refine pj_goto (t := 95) (pj_d p_X12_thief 51 rfl) (by decide) ?_
              refine pj_ist2 (q := 96) (pj_d p_X12_thief 53 rfl) rfl rfl ?_
              refine pj_ild6 (q := 98) (pj_d p_X12_thief 54 rfl) rfl ?_
              refine pj_ild3 (q := 99) (pj_d p_X12_thief 55 rfl) rfl ?_
              refine pj_icmp_le (t := 107) (q := 102) (pj_d p_X12_thief 56 rfl) rfl (by decide) (fun c8 => ?_) (fun c8 => ?_)
              · exact absurd c8 c7
              · refine pj_ild6 (q := 104) (pj_d p_X12_thief 57 rfl) rfl ?_
                refine pj_goto (t := 108) (pj_d p_X12_thief 58 rfl) (by decide) ?_
                refine pj_ist3 (q := 109) (pj_d p_X12_thief 60 rfl) rfl rfl ?_
                exact next _ _ (by rw [hst]; rfl) (by rw [hst]; rfl)
        exact inner (τ 1 + 1) 0 _ k6 (by omega) (by omega)
    exact outer 8 0 none none rfl rfl (by omega) (by omega)
  · refine pj_ldc (q := 27) (pj_d p_X12_thief 14 rfl) rfl kX12_67 ?_
    refine pj_iret rfl (pj_d p_X12_thief 15 rfl) (by decide) (by decide) ?_
    exact ⟨by simp [sp_thief, ht, (gd_b_z _).mp c2], rfl, rfl⟩
end
end
section
/-! ===== the pure layer: System.arraycopy of ints ===== -/
section PJA
variable {E : pj_E} {B : Nat} {l : Launch} {Y : pj_Y} {d mc ms pc q : Nat} {ls : List (Option Value)} {st : List Value} {h : pj_H} {n ce sl : Nat} {Q : Option Value → pj_H → Nat → Prop}
set_option maxHeartbeats 1000000 in
theorem pj_acopy {i a0 a1 N0 N1 c sp dp : Nat} {f g : Nat → Int32} (hd : decode Y.2.1 pc = .ok (.invokestatic i, 3)) (hq : pc + 3 = q) (hl : Cond.methodLink Y.1.cls i arraycopyName ∈ lw_tbl) (hnat : Cond.native arraycopyName ∈ lw_tbl) (hst : Cond.static arraycopyName ∈ lw_tbl) (hini : Cond.initialized "java/lang/System" ∈ lw_tbl) (ha0 : h a0 = some (.inl (0, N0, .inl f))) (ha1 : h a1 = some (.inl (0, N1, .inl g))) (h4 : sp + c ≤ N0) (h5 : dp + c ≤ N1) (hN0 : N0 ≤ 100000) (hN1 : N1 ≤ 100000) (hdd : 0 < d) (hw : (st.map fun v => v.category).sum + (nativeFrameWords "java/lang/System" "arraycopy" 5 + 11) ≤ 64) (kk : pj_V E B l Y d mc ms q ls st (pj_up h a1 (.inl (0, N1, .inl (va_cpy f g sp dp c)))) n ce sl Q) : pj_V E B l Y d mc ms pc ls (.int (nI c) :: .int (nI dp) :: .ref a1 :: .int (nI sp) :: .ref a0 :: st) h n ce sl Q := by
  subst hq
  intro p e s m args below meth cd H locs la S hr hk hn hW hH hS hL
  have ec : (nI c).toNatClampNeg = c := nI_clamp (by omega)
  have es : (nI sp).toNatClampNeg = sp := nI_clamp (by omega)
  have ed : (nI dp).toNatClampNeg = dp := nI_clamp (by omega)
  have h1 : ¬ nI sp < 0 := nI_pos (by omega)
  have h2 : ¬ nI dp < 0 := nI_pos (by omega)
  have h3 : ¬ nI c < 0 := nI_pos (by omega)
  have tc : (nI c).toInt = (c : Int) := nI_toInt (by omega)
  have ts : (nI sp).toInt = (sp : Int) := nI_toInt (by omega)
  have td : (nI dp).toInt = (dp : Int) := nI_toInt (by omega)
  have hc0 : H[a0]? = some (vp_cell (E.2 0) (N0, .inl f)) := (hH.2 a0 _ ha0).2
  have hc1 : H[a1]? = some (vp_cell (E.2 0) (N1, .inl g)) := (hH.2 a1 _ ha1).2
  intro T hT X
  obtain ⟨-, k0, hk0, cm0, hkk0⟩ := (pj_ty hW (t := 0) rfl).1 N0 (fun j => .int (f j))
  obtain ⟨-, k1, hk1, cm1, hkk1⟩ := (pj_ty hW (t := 0) rfl).1 N1 (fun j => .int (g j))
  obtain ⟨vm', X', step⟩ := X.arraycopy S.1 S.2.2.2.1 (S.2.2.2.2 _ hl) (S.2.2.2.2 _ hnat) (S.2.2.2.2 _ hst) (S.2.2.2.2 _ hini) (src := a0) (dst := a1) (cs := vp_cell (E.2 0) (N0, .inl f)) (cd := vp_cell (E.2 0) (N1, .inl g)) (srcPos := nI sp) (destPos := nI dp) (n := nI c) (by rw [hT]; exact hc0) (by rw [hT]; exact hc1)
    (fun _ h => by cases h) (fun _ h => by cases h) (fun h => by cases h) (fun h => by cases h) hk0 hk1 hkk0 hkk1 (by simp [refKind]) h1 h2 h3
    (by rw [ts, tc]; show ¬ _ > ((arrV (E.2 0) N0 (fun j => .int (f j))).slots.size : Int); rw [arrV_size]; omega)
    (by rw [td, tc]; show ¬ _ > ((arrV (E.2 0) N1 (fun j => .int (g j))).slots.size : Int); rw [arrV_size]; omega)
    (fun vm₁ _ i hi => by
      rw [ec] at hi
      have e : (vp_cell (E.2 0) (N0, .inl f)).slots.getD ((nI sp).toNatClampNeg + i) .null = .int (f ((nI sp).toNatClampNeg + i)) := by
        show (arrV (E.2 0) N0 (fun j => .int (f j))).slots.getD _ _ = _
        rw [Array.getD_eq_getD_getElem?, arrV_read _ _ (by rw [es]; omega)]
        rfl
      refine ⟨?_, ?_⟩
      · rw [e]; rfl
      · rw [e]; exact trivial)
    (g := F0 m pc la (.int (nI c) :: .int (nI dp) :: .ref a1 :: .int (nI sp) :: .ref a0 :: st)) rfl (hL.1.1.trans S.2.2.1.symm) (rest := st) rfl (by rw [S.2.1]; exact hd) (by show 1 ≤ d; omega) (by show 2 * 0 + _ + _ ≤ 64 * d; omega)
  have e1 : copied (vp_cell (E.2 0) (N0, .inl f)) (vp_cell (E.2 0) (N1, .inl g)) (nI sp) (nI dp) (nI c) = vp_cell (E.2 0) (N1, .inl (va_cpy f g sp dp c)) := by
    have := va_copied (fun z => Value.int z) (E.2 0) (E.2 0) f g (n0 := N0) (n1 := N1) (sp := sp) (dp := dp) (n := c) h4
    unfold copied
    rw [es, ed, ec]
    exact this
  rw [e1] at X' step
  have hlt : a1 < H.size := (Array.getElem?_eq_some_iff.mp hc1).1
  have hheap : ((T.setVm vm').setCell a1 (vp_cell (E.2 0) (N1, .inl (va_cpy f g sp dp c)))).heap = H.setIfInBounds a1 (vp_cell (E.2 0) (N1, .inl (va_cpy f g sp dp c))) := by rw [← hT]; rfl
  have oq : ∀ q : Nat, q ≠ a1 → (H.setIfInBounds a1 (vp_cell (E.2 0) (N1, .inl (va_cpy f g sp dp c))))[q]? = H[q]? := fun q hq => by simp [Array.getElem?_setIfInBounds, Ne.symm hq]
  have hz : (H.setIfInBounds a1 (vp_cell (E.2 0) (N1, .inl (va_cpy f g sp dp c)))).size = H.size := by simp
  obtain ⟨t, x1, y1⟩ := kk p e s m args below meth cd _ _ la S hr hk hn hW (hH.up ha1 (show (H.setIfInBounds a1 _)[a1]? = some _ by simp [Array.getElem?_setIfInBounds, hlt]) hz oq) ⟨by simp; exact hS.1, fun q g1 g2 => by
      rw [oq q (fun e => g2 (by rw [e]; exact (hH.2 a1 _ ha1).1))]
      exact hS.2.1 q g1 g2, fun q hq => by
      rcases List.mem_append.mp hq with h | h
      · exact hS.2.2 q h
      · obtain ⟨z, -, hz⟩ := List.mem_map.mp h
        rw [← hz]
        exact (hH.2 a1 _ ha1).1⟩ hL _ hheap X'
  exact ⟨t, step t x1, y1⟩
end PJA
end
