-- ===== PART A: goes FIRST, ahead of the names: the tables' words, and 'selects' of the private methods out of them =====
/-- a private method of a class that the tables say can be made, by its rows of tables_1 -/
def lw_okq (q : MethodName × Nat) : Prop := (q.1.cls ≠ "java/lang/invoke/MethodHandle" ∧ q.1.cls ≠ "java/lang/invoke/VarHandle") ∧ Cond.instantiable q.1.cls q.2 ∈ tables_1 ∧ Cond.privateMethod q.1 ∈ tables_1 ∧ Cond.instanceMethod q.1 ∈ tables_1
theorem lw_p0 : lw_okq (⟨"GreyDays", "finds", "(I)Z"⟩, 8) := ⟨⟨by decide +kernel, by decide +kernel⟩, List.mem_of_getElem? (i := 18) (by decide +kernel), List.mem_of_getElem? (i := 137) (by decide +kernel), List.mem_of_getElem? (i := 138) (by decide +kernel)⟩
theorem lw_p1 : lw_okq (⟨"GreyDays", "finding", "()I"⟩, 8) := ⟨⟨by decide +kernel, by decide +kernel⟩, List.mem_of_getElem? (i := 18) (by decide +kernel), List.mem_of_getElem? (i := 141) (by decide +kernel), List.mem_of_getElem? (i := 142) (by decide +kernel)⟩
theorem lw_p2 : lw_okq (⟨"GreyDays", "findingOfPlaces", "(III)I"⟩, 8) := ⟨⟨by decide +kernel, by decide +kernel⟩, List.mem_of_getElem? (i := 18) (by decide +kernel), List.mem_of_getElem? (i := 155) (by decide +kernel), List.mem_of_getElem? (i := 156) (by decide +kernel)⟩
theorem lw_p3 : lw_okq (⟨"GreyDays", "findingOfMove", "(IIIII)I"⟩, 8) := ⟨⟨by decide +kernel, by decide +kernel⟩, List.mem_of_getElem? (i := 18) (by decide +kernel), List.mem_of_getElem? (i := 180) (by decide +kernel), List.mem_of_getElem? (i := 181) (by decide +kernel)⟩
theorem lw_p4 : lw_okq (⟨"GreyDays$Tape", "readLaw", "(LGreyDays$Town;)V"⟩, 5) := ⟨⟨by decide +kernel, by decide +kernel⟩, List.mem_of_getElem? (i := 48) (by decide +kernel), List.mem_of_getElem? (i := 269) (by decide +kernel), List.mem_of_getElem? (i := 270) (by decide +kernel)⟩
theorem lw_p5 : lw_okq (⟨"GreyDays$Tape", "takeByte", "(I)V"⟩, 5) := ⟨⟨by decide +kernel, by decide +kernel⟩, List.mem_of_getElem? (i := 48) (by decide +kernel), List.mem_of_getElem? (i := 273) (by decide +kernel), List.mem_of_getElem? (i := 274) (by decide +kernel)⟩
theorem lw_p6 : lw_okq (⟨"GreyDays$Tape", "isSound", "()Z"⟩, 5) := ⟨⟨by decide +kernel, by decide +kernel⟩, List.mem_of_getElem? (i := 48) (by decide +kernel), List.mem_of_getElem? (i := 277) (by decide +kernel), List.mem_of_getElem? (i := 278) (by decide +kernel)⟩
theorem lw_p7 : lw_okq (⟨"GreyDays$Tape", "byteHere", "()I"⟩, 5) := ⟨⟨by decide +kernel, by decide +kernel⟩, List.mem_of_getElem? (i := 48) (by decide +kernel), List.mem_of_getElem? (i := 281) (by decide +kernel), List.mem_of_getElem? (i := 282) (by decide +kernel)⟩
theorem lw_p8 : lw_okq (⟨"GreyDays$Tape", "faultAt", "(II)V"⟩, 5) := ⟨⟨by decide +kernel, by decide +kernel⟩, List.mem_of_getElem? (i := 48) (by decide +kernel), List.mem_of_getElem? (i := 285) (by decide +kernel), List.mem_of_getElem? (i := 286) (by decide +kernel)⟩
theorem lw_p9 : lw_okq (⟨"GreyDays$Tape", "takeNumber", "(II)I"⟩, 5) := ⟨⟨by decide +kernel, by decide +kernel⟩, List.mem_of_getElem? (i := 48) (by decide +kernel), List.mem_of_getElem? (i := 289) (by decide +kernel), List.mem_of_getElem? (i := 290) (by decide +kernel)⟩
theorem lw_p10 : lw_okq (⟨"GreyDays$Tape", "figuresHere", "()I"⟩, 5) := ⟨⟨by decide +kernel, by decide +kernel⟩, List.mem_of_getElem? (i := 48) (by decide +kernel), List.mem_of_getElem? (i := 293) (by decide +kernel), List.mem_of_getElem? (i := 294) (by decide +kernel)⟩
theorem lw_p11 : lw_okq (⟨"GreyDays$Tape", "readThings", "(LGreyDays$Town;)V"⟩, 5) := ⟨⟨by decide +kernel, by decide +kernel⟩, List.mem_of_getElem? (i := 48) (by decide +kernel), List.mem_of_getElem? (i := 301) (by decide +kernel), List.mem_of_getElem? (i := 302) (by decide +kernel)⟩
theorem lw_p12 : lw_okq (⟨"GreyDays$Tape", "readThing", "(LGreyDays$Town;I)V"⟩, 5) := ⟨⟨by decide +kernel, by decide +kernel⟩, List.mem_of_getElem? (i := 48) (by decide +kernel), List.mem_of_getElem? (i := 308) (by decide +kernel), List.mem_of_getElem? (i := 309) (by decide +kernel)⟩
theorem lw_p13 : lw_okq (⟨"GreyDays$Tape", "readPairs", "(LGreyDays$Town;)V"⟩, 5) := ⟨⟨by decide +kernel, by decide +kernel⟩, List.mem_of_getElem? (i := 48) (by decide +kernel), List.mem_of_getElem? (i := 375) (by decide +kernel), List.mem_of_getElem? (i := 376) (by decide +kernel)⟩
theorem lw_p14 : lw_okq (⟨"GreyDays$Tape", "readPair", "(LGreyDays$Town;)V"⟩, 5) := ⟨⟨by decide +kernel, by decide +kernel⟩, List.mem_of_getElem? (i := 48) (by decide +kernel), List.mem_of_getElem? (i := 379) (by decide +kernel), List.mem_of_getElem? (i := 380) (by decide +kernel)⟩
theorem lw_p15 : lw_okq (⟨"GreyDays$Town", "isOfPair", "(II)Z"⟩, 12) := ⟨⟨by decide +kernel, by decide +kernel⟩, List.mem_of_getElem? (i := 224) (by decide +kernel), List.mem_of_getElem? (i := 391) (by decide +kernel), List.mem_of_getElem? (i := 392) (by decide +kernel)⟩
def lw_privs_1 : List (MethodName × Nat) := [(⟨"GreyDays", "finds", "(I)Z"⟩, 8), (⟨"GreyDays", "finding", "()I"⟩, 8), (⟨"GreyDays", "findingOfPlaces", "(III)I"⟩, 8), (⟨"GreyDays", "findingOfMove", "(IIIII)I"⟩, 8), (⟨"GreyDays$Tape", "readLaw", "(LGreyDays$Town;)V"⟩, 5), (⟨"GreyDays$Tape", "takeByte", "(I)V"⟩, 5), (⟨"GreyDays$Tape", "isSound", "()Z"⟩, 5), (⟨"GreyDays$Tape", "byteHere", "()I"⟩, 5), (⟨"GreyDays$Tape", "faultAt", "(II)V"⟩, 5), (⟨"GreyDays$Tape", "takeNumber", "(II)I"⟩, 5), (⟨"GreyDays$Tape", "figuresHere", "()I"⟩, 5), (⟨"GreyDays$Tape", "readThings", "(LGreyDays$Town;)V"⟩, 5), (⟨"GreyDays$Tape", "readThing", "(LGreyDays$Town;I)V"⟩, 5), (⟨"GreyDays$Tape", "readPairs", "(LGreyDays$Town;)V"⟩, 5), (⟨"GreyDays$Tape", "readPair", "(LGreyDays$Town;)V"⟩, 5), (⟨"GreyDays$Town", "isOfPair", "(II)Z"⟩, 12)]
theorem lw_r1 : ∀ q ∈ lw_privs_1, lw_okq q := List.forall_mem_cons.mpr ⟨lw_p0, List.forall_mem_cons.mpr ⟨lw_p1, List.forall_mem_cons.mpr ⟨lw_p2, List.forall_mem_cons.mpr ⟨lw_p3, List.forall_mem_cons.mpr ⟨lw_p4, List.forall_mem_cons.mpr ⟨lw_p5, List.forall_mem_cons.mpr ⟨lw_p6, List.forall_mem_cons.mpr ⟨lw_p7, List.forall_mem_cons.mpr ⟨lw_p8, List.forall_mem_cons.mpr ⟨lw_p9, List.forall_mem_cons.mpr ⟨lw_p10, List.forall_mem_cons.mpr ⟨lw_p11, List.forall_mem_cons.mpr ⟨lw_p12, List.forall_mem_cons.mpr ⟨lw_p13, List.forall_mem_cons.mpr ⟨lw_p14, List.forall_mem_cons.mpr ⟨lw_p15, fun _ h => absurd h List.not_mem_nil⟩⟩⟩⟩⟩⟩⟩⟩⟩⟩⟩⟩⟩⟩⟩⟩
theorem lw_p16 : lw_okq (⟨"GreyDays$Town", "keepAct", "(III)V"⟩, 12) := ⟨⟨by decide +kernel, by decide +kernel⟩, List.mem_of_getElem? (i := 224) (by decide +kernel), List.mem_of_getElem? (i := 452) (by decide +kernel), List.mem_of_getElem? (i := 453) (by decide +kernel)⟩
theorem lw_p17 : lw_okq (⟨"GreyDays$Town", "forgetOldestAct", "()V"⟩, 12) := ⟨⟨by decide +kernel, by decide +kernel⟩, List.mem_of_getElem? (i := 224) (by decide +kernel), List.mem_of_getElem? (i := 456) (by decide +kernel), List.mem_of_getElem? (i := 457) (by decide +kernel)⟩
theorem lw_p18 : lw_okq (⟨"GreyDays", "isThing", "(I)Z"⟩, 8) := ⟨⟨by decide +kernel, by decide +kernel⟩, List.mem_of_getElem? (i := 18) (by decide +kernel), List.mem_of_getElem? (i := 465) (by decide +kernel), List.mem_of_getElem? (i := 466) (by decide +kernel)⟩
theorem lw_p19 : lw_okq (⟨"GreyDays", "areTwo", "(II)Z"⟩, 8) := ⟨⟨by decide +kernel, by decide +kernel⟩, List.mem_of_getElem? (i := 18) (by decide +kernel), List.mem_of_getElem? (i := 584) (by decide +kernel), List.mem_of_getElem? (i := 585) (by decide +kernel)⟩
theorem lw_p20 : lw_okq (⟨"GreyDays$Foretold", "lookAt", "(LGreyDays$Town;I)V"⟩, 3) := ⟨⟨by decide +kernel, by decide +kernel⟩, List.mem_of_getElem? (i := 70) (by decide +kernel), List.mem_of_getElem? (i := 614) (by decide +kernel), List.mem_of_getElem? (i := 615) (by decide +kernel)⟩
theorem lw_p21 : lw_okq (⟨"GreyDays$Foretold", "fillDyes", "(LGreyDays$Town;II)Z"⟩, 3) := ⟨⟨by decide +kernel, by decide +kernel⟩, List.mem_of_getElem? (i := 70) (by decide +kernel), List.mem_of_getElem? (i := 699) (by decide +kernel), List.mem_of_getElem? (i := 700) (by decide +kernel)⟩
theorem lw_p22 : lw_okq (⟨"GreyDays$Foretold", "isApartFromRow", "(LGreyDays$Town;II)Z"⟩, 3) := ⟨⟨by decide +kernel, by decide +kernel⟩, List.mem_of_getElem? (i := 70) (by decide +kernel), List.mem_of_getElem? (i := 703) (by decide +kernel), List.mem_of_getElem? (i := 704) (by decide +kernel)⟩
theorem lw_p23 : lw_okq (⟨"GreyDays$Foretold", "countEndings", "(LGreyDays$Town;I)V"⟩, 3) := ⟨⟨by decide +kernel, by decide +kernel⟩, List.mem_of_getElem? (i := 70) (by decide +kernel), List.mem_of_getElem? (i := 741) (by decide +kernel), List.mem_of_getElem? (i := 742) (by decide +kernel)⟩
theorem lw_p24 : lw_okq (⟨"GreyDays$Foretold", "waysOn", "(LGreyDays$Town;II)I"⟩, 3) := ⟨⟨by decide +kernel, by decide +kernel⟩, List.mem_of_getElem? (i := 70) (by decide +kernel), List.mem_of_getElem? (i := 748) (by decide +kernel), List.mem_of_getElem? (i := 749) (by decide +kernel)⟩
theorem lw_p25 : lw_okq (⟨"GreyDays$Foretold", "canFollow", "(III)Z"⟩, 3) := ⟨⟨by decide +kernel, by decide +kernel⟩, List.mem_of_getElem? (i := 70) (by decide +kernel), List.mem_of_getElem? (i := 752) (by decide +kernel), List.mem_of_getElem? (i := 753) (by decide +kernel)⟩
theorem lw_p26 : lw_okq (⟨"GreyDays$Foretold", "nextOnShelf", "(LGreyDays$Town;II)I"⟩, 3) := ⟨⟨by decide +kernel, by decide +kernel⟩, List.mem_of_getElem? (i := 70) (by decide +kernel), List.mem_of_getElem? (i := 760) (by decide +kernel), List.mem_of_getElem? (i := 761) (by decide +kernel)⟩
theorem lw_p27 : lw_okq (⟨"GreyDays$Foretold", "countTold", "(LGreyDays$Town;ZZ)I"⟩, 3) := ⟨⟨by decide +kernel, by decide +kernel⟩, List.mem_of_getElem? (i := 70) (by decide +kernel), List.mem_of_getElem? (i := 799) (by decide +kernel), List.mem_of_getElem? (i := 800) (by decide +kernel)⟩
theorem lw_p28 : lw_okq (⟨"GreyDays$Foretold", "isTold", "(LGreyDays$Town;IZZ)Z"⟩, 3) := ⟨⟨by decide +kernel, by decide +kernel⟩, List.mem_of_getElem? (i := 70) (by decide +kernel), List.mem_of_getElem? (i := 803) (by decide +kernel), List.mem_of_getElem? (i := 804) (by decide +kernel)⟩
theorem lw_p29 : lw_okq (⟨"GreyDays", "countOfTown", "(I)I"⟩, 8) := ⟨⟨by decide +kernel, by decide +kernel⟩, List.mem_of_getElem? (i := 18) (by decide +kernel), List.mem_of_getElem? (i := 977) (by decide +kernel), List.mem_of_getElem? (i := 978) (by decide +kernel)⟩
theorem lw_p30 : lw_okq (⟨"GreyDaysModel", "finding", "(I)I"⟩, 24) := ⟨⟨by decide +kernel, by decide +kernel⟩, List.mem_of_getElem? (i := 989) (by decide +kernel), List.mem_of_getElem? (i := 1082) (by decide +kernel), List.mem_of_getElem? (i := 1083) (by decide +kernel)⟩
theorem lw_p31 : lw_okq (⟨"GreyDaysModel", "begin", "()V"⟩, 24) := ⟨⟨by decide +kernel, by decide +kernel⟩, List.mem_of_getElem? (i := 989) (by decide +kernel), List.mem_of_getElem? (i := 1113) (by decide +kernel), List.mem_of_getElem? (i := 1114) (by decide +kernel)⟩
def lw_privs_2 : List (MethodName × Nat) := [(⟨"GreyDays$Town", "keepAct", "(III)V"⟩, 12), (⟨"GreyDays$Town", "forgetOldestAct", "()V"⟩, 12), (⟨"GreyDays", "isThing", "(I)Z"⟩, 8), (⟨"GreyDays", "areTwo", "(II)Z"⟩, 8), (⟨"GreyDays$Foretold", "lookAt", "(LGreyDays$Town;I)V"⟩, 3), (⟨"GreyDays$Foretold", "fillDyes", "(LGreyDays$Town;II)Z"⟩, 3), (⟨"GreyDays$Foretold", "isApartFromRow", "(LGreyDays$Town;II)Z"⟩, 3), (⟨"GreyDays$Foretold", "countEndings", "(LGreyDays$Town;I)V"⟩, 3), (⟨"GreyDays$Foretold", "waysOn", "(LGreyDays$Town;II)I"⟩, 3), (⟨"GreyDays$Foretold", "canFollow", "(III)Z"⟩, 3), (⟨"GreyDays$Foretold", "nextOnShelf", "(LGreyDays$Town;II)I"⟩, 3), (⟨"GreyDays$Foretold", "countTold", "(LGreyDays$Town;ZZ)I"⟩, 3), (⟨"GreyDays$Foretold", "isTold", "(LGreyDays$Town;IZZ)Z"⟩, 3), (⟨"GreyDays", "countOfTown", "(I)I"⟩, 8), (⟨"GreyDaysModel", "finding", "(I)I"⟩, 24), (⟨"GreyDaysModel", "begin", "()V"⟩, 24)]
theorem lw_r2 : ∀ q ∈ lw_privs_2, lw_okq q := List.forall_mem_cons.mpr ⟨lw_p16, List.forall_mem_cons.mpr ⟨lw_p17, List.forall_mem_cons.mpr ⟨lw_p18, List.forall_mem_cons.mpr ⟨lw_p19, List.forall_mem_cons.mpr ⟨lw_p20, List.forall_mem_cons.mpr ⟨lw_p21, List.forall_mem_cons.mpr ⟨lw_p22, List.forall_mem_cons.mpr ⟨lw_p23, List.forall_mem_cons.mpr ⟨lw_p24, List.forall_mem_cons.mpr ⟨lw_p25, List.forall_mem_cons.mpr ⟨lw_p26, List.forall_mem_cons.mpr ⟨lw_p27, List.forall_mem_cons.mpr ⟨lw_p28, List.forall_mem_cons.mpr ⟨lw_p29, List.forall_mem_cons.mpr ⟨lw_p30, List.forall_mem_cons.mpr ⟨lw_p31, fun _ h => absurd h List.not_mem_nil⟩⟩⟩⟩⟩⟩⟩⟩⟩⟩⟩⟩⟩⟩⟩⟩
theorem lw_p32 : lw_okq (⟨"GreyDaysModel", "nextToken", "()V"⟩, 24) := ⟨⟨by decide +kernel, by decide +kernel⟩, List.mem_of_getElem? (i := 989) (by decide +kernel), List.mem_of_getElem? (i := 1117) (by decide +kernel), List.mem_of_getElem? (i := 1118) (by decide +kernel)⟩
theorem lw_p33 : lw_okq (⟨"GreyDaysModel", "isLetter", "(I)Z"⟩, 24) := ⟨⟨by decide +kernel, by decide +kernel⟩, List.mem_of_getElem? (i := 989) (by decide +kernel), List.mem_of_getElem? (i := 1126) (by decide +kernel), List.mem_of_getElem? (i := 1127) (by decide +kernel)⟩
theorem lw_p34 : lw_okq (⟨"GreyDaysModel", "must", "(Z)V"⟩, 24) := ⟨⟨by decide +kernel, by decide +kernel⟩, List.mem_of_getElem? (i := 989) (by decide +kernel), List.mem_of_getElem? (i := 1130) (by decide +kernel), List.mem_of_getElem? (i := 1131) (by decide +kernel)⟩
theorem lw_p35 : lw_okq (⟨"GreyDaysModel", "bad", "(I)V"⟩, 24) := ⟨⟨by decide +kernel, by decide +kernel⟩, List.mem_of_getElem? (i := 989) (by decide +kernel), List.mem_of_getElem? (i := 1134) (by decide +kernel), List.mem_of_getElem? (i := 1135) (by decide +kernel)⟩
theorem lw_p36 : lw_okq (⟨"GreyDaysModel", "number", "(II)I"⟩, 24) := ⟨⟨by decide +kernel, by decide +kernel⟩, List.mem_of_getElem? (i := 989) (by decide +kernel), List.mem_of_getElem? (i := 1138) (by decide +kernel), List.mem_of_getElem? (i := 1139) (by decide +kernel)⟩
theorem lw_p37 : lw_okq (⟨"GreyDaysModel", "mustSign", "(I)V"⟩, 24) := ⟨⟨by decide +kernel, by decide +kernel⟩, List.mem_of_getElem? (i := 989) (by decide +kernel), List.mem_of_getElem? (i := 1142) (by decide +kernel), List.mem_of_getElem? (i := 1143) (by decide +kernel)⟩
theorem lw_p38 : lw_okq (⟨"GreyDaysModel", "readThing", "()V"⟩, 24) := ⟨⟨by decide +kernel, by decide +kernel⟩, List.mem_of_getElem? (i := 989) (by decide +kernel), List.mem_of_getElem? (i := 1149) (by decide +kernel), List.mem_of_getElem? (i := 1150) (by decide +kernel)⟩
theorem lw_p39 : lw_okq (⟨"GreyDaysModel", "readPair", "()V"⟩, 24) := ⟨⟨by decide +kernel, by decide +kernel⟩, List.mem_of_getElem? (i := 989) (by decide +kernel), List.mem_of_getElem? (i := 1153) (by decide +kernel), List.mem_of_getElem? (i := 1154) (by decide +kernel)⟩
theorem lw_p40 : lw_okq (⟨"GreyDaysModel", "failed", "()Z"⟩, 24) := ⟨⟨by decide +kernel, by decide +kernel⟩, List.mem_of_getElem? (i := 989) (by decide +kernel), List.mem_of_getElem? (i := 1160) (by decide +kernel), List.mem_of_getElem? (i := 1161) (by decide +kernel)⟩
theorem lw_p41 : lw_okq (⟨"GreyDaysModel", "isThere", "()Z"⟩, 24) := ⟨⟨by decide +kernel, by decide +kernel⟩, List.mem_of_getElem? (i := 989) (by decide +kernel), List.mem_of_getElem? (i := 1169) (by decide +kernel), List.mem_of_getElem? (i := 1170) (by decide +kernel)⟩
theorem lw_p42 : lw_okq (⟨"GreyDaysModel", "keep", "()V"⟩, 24) := ⟨⟨by decide +kernel, by decide +kernel⟩, List.mem_of_getElem? (i := 989) (by decide +kernel), List.mem_of_getElem? (i := 1175) (by decide +kernel), List.mem_of_getElem? (i := 1176) (by decide +kernel)⟩
theorem lw_p43 : lw_okq (⟨"GreyDaysModel", "isThing", "(I)Z"⟩, 24) := ⟨⟨by decide +kernel, by decide +kernel⟩, List.mem_of_getElem? (i := 989) (by decide +kernel), List.mem_of_getElem? (i := 1183) (by decide +kernel), List.mem_of_getElem? (i := 1184) (by decide +kernel)⟩
theorem lw_p44 : lw_okq (⟨"GreyDaysModel", "of", "(II)I"⟩, 24) := ⟨⟨by decide +kernel, by decide +kernel⟩, List.mem_of_getElem? (i := 989) (by decide +kernel), List.mem_of_getElem? (i := 1188) (by decide +kernel), List.mem_of_getElem? (i := 1189) (by decide +kernel)⟩
theorem lw_p45 : lw_okq (⟨"GreyDaysModel", "missingOn", "(I)I"⟩, 24) := ⟨⟨by decide +kernel, by decide +kernel⟩, List.mem_of_getElem? (i := 989) (by decide +kernel), List.mem_of_getElem? (i := 1206) (by decide +kernel), List.mem_of_getElem? (i := 1207) (by decide +kernel)⟩
theorem lw_p46 : lw_okq (⟨"GreyDaysModel", "lookOf", "(II)I"⟩, 24) := ⟨⟨by decide +kernel, by decide +kernel⟩, List.mem_of_getElem? (i := 989) (by decide +kernel), List.mem_of_getElem? (i := 1213) (by decide +kernel), List.mem_of_getElem? (i := 1214) (by decide +kernel)⟩
theorem lw_p47 : lw_okq (⟨"GreyDaysModel", "areTwo", "(II)Z"⟩, 24) := ⟨⟨by decide +kernel, by decide +kernel⟩, List.mem_of_getElem? (i := 989) (by decide +kernel), List.mem_of_getElem? (i := 1228) (by decide +kernel), List.mem_of_getElem? (i := 1229) (by decide +kernel)⟩
def lw_privs_3 : List (MethodName × Nat) := [(⟨"GreyDaysModel", "nextToken", "()V"⟩, 24), (⟨"GreyDaysModel", "isLetter", "(I)Z"⟩, 24), (⟨"GreyDaysModel", "must", "(Z)V"⟩, 24), (⟨"GreyDaysModel", "bad", "(I)V"⟩, 24), (⟨"GreyDaysModel", "number", "(II)I"⟩, 24), (⟨"GreyDaysModel", "mustSign", "(I)V"⟩, 24), (⟨"GreyDaysModel", "readThing", "()V"⟩, 24), (⟨"GreyDaysModel", "readPair", "()V"⟩, 24), (⟨"GreyDaysModel", "failed", "()Z"⟩, 24), (⟨"GreyDaysModel", "isThere", "()Z"⟩, 24), (⟨"GreyDaysModel", "keep", "()V"⟩, 24), (⟨"GreyDaysModel", "isThing", "(I)Z"⟩, 24), (⟨"GreyDaysModel", "of", "(II)I"⟩, 24), (⟨"GreyDaysModel", "missingOn", "(I)I"⟩, 24), (⟨"GreyDaysModel", "lookOf", "(II)I"⟩, 24), (⟨"GreyDaysModel", "areTwo", "(II)Z"⟩, 24)]
theorem lw_r3 : ∀ q ∈ lw_privs_3, lw_okq q := List.forall_mem_cons.mpr ⟨lw_p32, List.forall_mem_cons.mpr ⟨lw_p33, List.forall_mem_cons.mpr ⟨lw_p34, List.forall_mem_cons.mpr ⟨lw_p35, List.forall_mem_cons.mpr ⟨lw_p36, List.forall_mem_cons.mpr ⟨lw_p37, List.forall_mem_cons.mpr ⟨lw_p38, List.forall_mem_cons.mpr ⟨lw_p39, List.forall_mem_cons.mpr ⟨lw_p40, List.forall_mem_cons.mpr ⟨lw_p41, List.forall_mem_cons.mpr ⟨lw_p42, List.forall_mem_cons.mpr ⟨lw_p43, List.forall_mem_cons.mpr ⟨lw_p44, List.forall_mem_cons.mpr ⟨lw_p45, List.forall_mem_cons.mpr ⟨lw_p46, List.forall_mem_cons.mpr ⟨lw_p47, fun _ h => absurd h List.not_mem_nil⟩⟩⟩⟩⟩⟩⟩⟩⟩⟩⟩⟩⟩⟩⟩⟩
theorem lw_p48 : lw_okq (⟨"GreyDaysModel", "areAlike", "(III)Z"⟩, 24) := ⟨⟨by decide +kernel, by decide +kernel⟩, List.mem_of_getElem? (i := 989) (by decide +kernel), List.mem_of_getElem? (i := 1244) (by decide +kernel), List.mem_of_getElem? (i := 1245) (by decide +kernel)⟩
theorem lw_p49 : lw_okq (⟨"GreyDaysModel", "likeBy", "(II)I"⟩, 24) := ⟨⟨by decide +kernel, by decide +kernel⟩, List.mem_of_getElem? (i := 989) (by decide +kernel), List.mem_of_getElem? (i := 1252) (by decide +kernel), List.mem_of_getElem? (i := 1253) (by decide +kernel)⟩
theorem lw_p50 : lw_okq (⟨"GreyDaysModel", "harmBy", "(I)I"⟩, 24) := ⟨⟨by decide +kernel, by decide +kernel⟩, List.mem_of_getElem? (i := 989) (by decide +kernel), List.mem_of_getElem? (i := 1264) (by decide +kernel), List.mem_of_getElem? (i := 1265) (by decide +kernel)⟩
theorem lw_p51 : lw_okq (⟨"GreyDaysModel", "harmsOf", "(I)I"⟩, 24) := ⟨⟨by decide +kernel, by decide +kernel⟩, List.mem_of_getElem? (i := 989) (by decide +kernel), List.mem_of_getElem? (i := 1272) (by decide +kernel), List.mem_of_getElem? (i := 1273) (by decide +kernel)⟩
theorem lw_p52 : lw_okq (⟨"GreyDaysModel", "areMixes", "(I)Z"⟩, 24) := ⟨⟨by decide +kernel, by decide +kernel⟩, List.mem_of_getElem? (i := 989) (by decide +kernel), List.mem_of_getElem? (i := 1289) (by decide +kernel), List.mem_of_getElem? (i := 1290) (by decide +kernel)⟩
theorem lw_p53 : lw_okq (⟨"GreyDaysModel", "areApart", "(II)Z"⟩, 24) := ⟨⟨by decide +kernel, by decide +kernel⟩, List.mem_of_getElem? (i := 989) (by decide +kernel), List.mem_of_getElem? (i := 1293) (by decide +kernel), List.mem_of_getElem? (i := 1294) (by decide +kernel)⟩
theorem lw_p54 : lw_okq (⟨"GreyDaysModel", "follow", "(III)I"⟩, 24) := ⟨⟨by decide +kernel, by decide +kernel⟩, List.mem_of_getElem? (i := 989) (by decide +kernel), List.mem_of_getElem? (i := 1309) (by decide +kernel), List.mem_of_getElem? (i := 1310) (by decide +kernel)⟩
theorem lw_p55 : lw_okq (⟨"GreyDaysModel", "toldBy", "(II)I"⟩, 24) := ⟨⟨by decide +kernel, by decide +kernel⟩, List.mem_of_getElem? (i := 989) (by decide +kernel), List.mem_of_getElem? (i := 1326) (by decide +kernel), List.mem_of_getElem? (i := 1327) (by decide +kernel)⟩
theorem lw_p56 : lw_okq (⟨"GreyDaysModel", "sizeOf", "(I)I"⟩, 24) := ⟨⟨by decide +kernel, by decide +kernel⟩, List.mem_of_getElem? (i := 989) (by decide +kernel), List.mem_of_getElem? (i := 1368) (by decide +kernel), List.mem_of_getElem? (i := 1369) (by decide +kernel)⟩
theorem lw_p57 : lw_okq (⟨"GreyDaysModel", "inkSize", "(I)I"⟩, 24) := ⟨⟨by decide +kernel, by decide +kernel⟩, List.mem_of_getElem? (i := 989) (by decide +kernel), List.mem_of_getElem? (i := 1372) (by decide +kernel), List.mem_of_getElem? (i := 1373) (by decide +kernel)⟩
theorem lw_p58 : lw_okq (⟨"GreyDaysModel", "began", "(I)V"⟩, 24) := ⟨⟨by decide +kernel, by decide +kernel⟩, List.mem_of_getElem? (i := 989) (by decide +kernel), List.mem_of_getElem? (i := 1376) (by decide +kernel), List.mem_of_getElem? (i := 1377) (by decide +kernel)⟩
theorem lw_p59 : lw_okq (⟨"GreyDaysModel", "plainSize", "(I)I"⟩, 24) := ⟨⟨by decide +kernel, by decide +kernel⟩, List.mem_of_getElem? (i := 989) (by decide +kernel), List.mem_of_getElem? (i := 1380) (by decide +kernel), List.mem_of_getElem? (i := 1381) (by decide +kernel)⟩
theorem lw_p60 : lw_okq (⟨"GreyDaysModel", "markOf", "(I)I"⟩, 24) := ⟨⟨by decide +kernel, by decide +kernel⟩, List.mem_of_getElem? (i := 989) (by decide +kernel), List.mem_of_getElem? (i := 1384) (by decide +kernel), List.mem_of_getElem? (i := 1385) (by decide +kernel)⟩
def lw_privs_4 : List (MethodName × Nat) := [(⟨"GreyDaysModel", "areAlike", "(III)Z"⟩, 24), (⟨"GreyDaysModel", "likeBy", "(II)I"⟩, 24), (⟨"GreyDaysModel", "harmBy", "(I)I"⟩, 24), (⟨"GreyDaysModel", "harmsOf", "(I)I"⟩, 24), (⟨"GreyDaysModel", "areMixes", "(I)Z"⟩, 24), (⟨"GreyDaysModel", "areApart", "(II)Z"⟩, 24), (⟨"GreyDaysModel", "follow", "(III)I"⟩, 24), (⟨"GreyDaysModel", "toldBy", "(II)I"⟩, 24), (⟨"GreyDaysModel", "sizeOf", "(I)I"⟩, 24), (⟨"GreyDaysModel", "inkSize", "(I)I"⟩, 24), (⟨"GreyDaysModel", "began", "(I)V"⟩, 24), (⟨"GreyDaysModel", "plainSize", "(I)I"⟩, 24), (⟨"GreyDaysModel", "markOf", "(I)I"⟩, 24)]
theorem lw_r4 : ∀ q ∈ lw_privs_4, lw_okq q := List.forall_mem_cons.mpr ⟨lw_p48, List.forall_mem_cons.mpr ⟨lw_p49, List.forall_mem_cons.mpr ⟨lw_p50, List.forall_mem_cons.mpr ⟨lw_p51, List.forall_mem_cons.mpr ⟨lw_p52, List.forall_mem_cons.mpr ⟨lw_p53, List.forall_mem_cons.mpr ⟨lw_p54, List.forall_mem_cons.mpr ⟨lw_p55, List.forall_mem_cons.mpr ⟨lw_p56, List.forall_mem_cons.mpr ⟨lw_p57, List.forall_mem_cons.mpr ⟨lw_p58, List.forall_mem_cons.mpr ⟨lw_p59, List.forall_mem_cons.mpr ⟨lw_p60, fun _ h => absurd h List.not_mem_nil⟩⟩⟩⟩⟩⟩⟩⟩⟩⟩⟩⟩⟩
def lw_privs : List (MethodName × Nat) := lw_privs_1 ++ (lw_privs_2 ++ (lw_privs_3 ++ (lw_privs_4)))
def lw_tbl : List Cond := k2_sels lw_privs ++ tables_1
theorem lw_privs_ok : ∀ q ∈ lw_privs, lw_okq q := by
  show ∀ q ∈ lw_privs_1 ++ (lw_privs_2 ++ (lw_privs_3 ++ (lw_privs_4))), lw_okq q
  exact List.forall_mem_append.mpr ⟨lw_r1, List.forall_mem_append.mpr ⟨lw_r2, List.forall_mem_append.mpr ⟨lw_r3, lw_r4⟩⟩⟩

def RX0 : String := "GreyDays$Asking"
def TX0 : u_T := fun k => match k with
  | 0 => ("GreyDays$Asking", "bodies", "[I", true)
  | 1 => ("GreyDays$Asking", "begun", "I", false)
  | _ => ("GreyDays$Asking", "missingToday", "I", false)
def tyX0 : Nat → FieldType := fun k => match k with
  | 0 => .array .int
  | 1 => .int
  | _ => .int
abbrev wsX00 : List Cond := u_ws RX0 TX0 3
theorem nmX0 : ∀ a, a < 3 → ∀ b, b < 3 → a ≠ b → (TX0 a).2.1 ≠ (TX0 b).2.1 := by decide +kernel
theorem tyX0_ok : ∀ k, k < 3 → parseFieldDescriptor (TX0 k).2.2.1 = some (tyX0 k) := by decide +kernel
abbrev cX0_init : ByteArray := prog_2_method_1_code
def yX0_init : MethodName := ⟨RX0, "<init>", "()V"⟩
abbrev cX0_start : ByteArray := prog_2_method_2_code
def yX0_start : MethodName := ⟨RX0, "start", "(I)V"⟩
abbrev cX0_begin : ByteArray := prog_2_method_3_code
def yX0_begin : MethodName := ⟨RX0, "begin", "(I)V"⟩
abbrev cX0_missingToday : ByteArray := prog_2_method_4_code
def yX0_missingToday : MethodName := ⟨RX0, "missingToday", "()I"⟩
abbrev cX0_left : ByteArray := prog_2_method_5_code
def yX0_left : MethodName := ⟨RX0, "left", "(I)I"⟩
def RX1 : String := "GreyDays$Dyed"
def TX1 : u_T := fun k => match k with
  | 0 => ("GreyDays$Thing", "number", "I", true)
  | 1 => ("GreyDays$Thing", "shape", "I", true)
  | _ => ("GreyDays$Thing", "mix", "I", false)
def tyX1 : Nat → FieldType := fun k => match k with
  | 0 => .int
  | 1 => .int
  | _ => .int
abbrev wsX10 : List Cond := u_ws RX1 TX1 3
theorem nmX1 : ∀ a, a < 3 → ∀ b, b < 3 → a ≠ b → (TX1 a).2.1 ≠ (TX1 b).2.1 := by decide +kernel
theorem tyX1_ok : ∀ k, k < 3 → parseFieldDescriptor (TX1 k).2.2.1 = some (tyX1 k) := by decide +kernel
abbrev cX1_init : ByteArray := prog_3_method_1_code
def yX1_init : MethodName := ⟨RX1, "<init>", "(III)V"⟩
abbrev cX1_kindTold : ByteArray := prog_3_method_2_code
def yX1_kindTold : MethodName := ⟨RX1, "kindTold", "()I"⟩
abbrev cX1_lookOf : ByteArray := prog_3_method_3_code
def yX1_lookOf : MethodName := ⟨RX1, "lookOf", "(II)I"⟩
abbrev cX1_sizeAsked : ByteArray := prog_3_method_4_code
def yX1_sizeAsked : MethodName := ⟨RX1, "sizeAsked", "(LGreyDays$Asking;)I"⟩
abbrev cX1_markAsked : ByteArray := prog_3_method_5_code
def yX1_markAsked : MethodName := ⟨RX1, "markAsked", "(LGreyDays$Asking;)I"⟩
def RX2 : String := "GreyDays$Faded"
def TX2 : u_T := fun k => match k with
  | 0 => ("GreyDays$Thing", "number", "I", true)
  | 1 => ("GreyDays$Thing", "shape", "I", true)
  | _ => ("GreyDays$Thing", "mix", "I", false)
def tyX2 : Nat → FieldType := fun k => match k with
  | 0 => .int
  | 1 => .int
  | _ => .int
abbrev wsX20 : List Cond := u_ws RX2 TX2 3
theorem nmX2 : ∀ a, a < 3 → ∀ b, b < 3 → a ≠ b → (TX2 a).2.1 ≠ (TX2 b).2.1 := by decide +kernel
theorem tyX2_ok : ∀ k, k < 3 → parseFieldDescriptor (TX2 k).2.2.1 = some (tyX2 k) := by decide +kernel
abbrev cX2_init : ByteArray := prog_4_method_1_code
def yX2_init : MethodName := ⟨RX2, "<init>", "(III)V"⟩
abbrev cX2_kindTold : ByteArray := prog_4_method_2_code
def yX2_kindTold : MethodName := ⟨RX2, "kindTold", "()I"⟩
abbrev cX2_lookOf : ByteArray := prog_4_method_3_code
def yX2_lookOf : MethodName := ⟨RX2, "lookOf", "(II)I"⟩
abbrev cX2_sizeAsked : ByteArray := prog_4_method_4_code
def yX2_sizeAsked : MethodName := ⟨RX2, "sizeAsked", "(LGreyDays$Asking;)I"⟩
def RX3 : String := "GreyDays$Foretold"
def TX3 : u_T := fun k => match k with
  | 0 => ("GreyDays$Foretold", "looksThen", "[I", true)
  | 1 => ("GreyDays$Foretold", "dyeRow", "[I", true)
  | _ => ("GreyDays$Foretold", "endings", "[I", true)
def tyX3 : Nat → FieldType := fun k => match k with
  | 0 => .array .int
  | 1 => .array .int
  | _ => .array .int
abbrev wsX30 : List Cond := u_ws RX3 TX3 3
theorem nmX3 : ∀ a, a < 3 → ∀ b, b < 3 → a ≠ b → (TX3 a).2.1 ≠ (TX3 b).2.1 := by decide +kernel
theorem tyX3_ok : ∀ k, k < 3 → parseFieldDescriptor (TX3 k).2.2.1 = some (tyX3 k) := by decide +kernel
abbrev cX3_init : ByteArray := prog_5_method_1_code
def yX3_init : MethodName := ⟨RX3, "<init>", "()V"⟩
abbrev cX3_lookAt : ByteArray := prog_5_method_2_code
def yX3_lookAt : MethodName := ⟨RX3, "lookAt", "(LGreyDays$Town;I)V"⟩
abbrev cX3_alikeWith : ByteArray := prog_5_method_3_code
def yX3_alikeWith : MethodName := ⟨RX3, "alikeWith", "(LGreyDays$Town;II)I"⟩
abbrev cX3_unlikeLooks : ByteArray := prog_5_method_4_code
def yX3_unlikeLooks : MethodName := ⟨RX3, "unlikeLooks", "(LGreyDays$Town;I)I"⟩
abbrev cX3_harmOfDays : ByteArray := prog_5_method_5_code
def yX3_harmOfDays : MethodName := ⟨RX3, "harmOfDays", "(LGreyDays$Town;I)I"⟩
abbrev cX3_clearDays : ByteArray := prog_5_method_6_code
def yX3_clearDays : MethodName := ⟨RX3, "clearDays", "(LGreyDays$Town;)I"⟩
abbrev cX3_worstDay : ByteArray := prog_5_method_7_code
def yX3_worstDay : MethodName := ⟨RX3, "worstDay", "(LGreyDays$Town;)I"⟩
abbrev cX3_leastHarmPaint : ByteArray := prog_5_method_8_code
def yX3_leastHarmPaint : MethodName := ⟨RX3, "leastHarmPaint", "(LGreyDays$Town;I)I"⟩
abbrev cX3_weekHarmWith : ByteArray := prog_5_method_9_code
def yX3_weekHarmWith : MethodName := ⟨RX3, "weekHarmWith", "(LGreyDays$Town;II)I"⟩
abbrev cX3_daysAlike : ByteArray := prog_5_method_10_code
def yX3_daysAlike : MethodName := ⟨RX3, "daysAlike", "(LGreyDays$Town;III)I"⟩
abbrev cX3_countDyePairs : ByteArray := prog_5_method_11_code
def yX3_countDyePairs : MethodName := ⟨RX3, "countDyePairs", "(LGreyDays$Town;)I"⟩
abbrev cX3_dyeOfFirstRow : ByteArray := prog_5_method_12_code
def yX3_dyeOfFirstRow : MethodName := ⟨RX3, "dyeOfFirstRow", "(LGreyDays$Town;II)I"⟩
abbrev cX3_fillDyes : ByteArray := prog_5_method_13_code
def yX3_fillDyes : MethodName := ⟨RX3, "fillDyes", "(LGreyDays$Town;II)Z"⟩
abbrev cX3_isApartFromRow : ByteArray := prog_5_method_14_code
def yX3_isApartFromRow : MethodName := ⟨RX3, "isApartFromRow", "(LGreyDays$Town;II)Z"⟩
abbrev cX3_areApart : ByteArray := prog_5_method_15_code
def yX3_areApart : MethodName := ⟨RX3, "areApart", "(LGreyDays$Town;II)Z"⟩
abbrev cX3_bestHiding : ByteArray := prog_5_method_16_code
def yX3_bestHiding : MethodName := ⟨RX3, "bestHiding", "(LGreyDays$Town;I)I"⟩
abbrev cX3_weekdaysSeen : ByteArray := prog_5_method_17_code
def yX3_weekdaysSeen : MethodName := ⟨RX3, "weekdaysSeen", "(LGreyDays$Town;LGreyDays$Rows;II)I"⟩
abbrev cX3_countOrders : ByteArray := prog_5_method_18_code
def yX3_countOrders : MethodName := ⟨RX3, "countOrders", "(LGreyDays$Town;I)I"⟩
abbrev cX3_placeOfFirstOrder : ByteArray := prog_5_method_19_code
def yX3_placeOfFirstOrder : MethodName := ⟨RX3, "placeOfFirstOrder", "(LGreyDays$Town;II)I"⟩
abbrev cX3_countEndings : ByteArray := prog_5_method_20_code
def yX3_countEndings : MethodName := ⟨RX3, "countEndings", "(LGreyDays$Town;I)V"⟩
abbrev cX3_waysOn : ByteArray := prog_5_method_21_code
def yX3_waysOn : MethodName := ⟨RX3, "waysOn", "(LGreyDays$Town;II)I"⟩
abbrev cX3_nextOnShelf : ByteArray := prog_5_method_22_code
def yX3_nextOnShelf : MethodName := ⟨RX3, "nextOnShelf", "(LGreyDays$Town;II)I"⟩
abbrev cX3_canFollow : ByteArray := prog_5_method_23_code
def yX3_canFollow : MethodName := ⟨RX3, "canFollow", "(III)Z"⟩
abbrev cX3_placeOfEnding : ByteArray := prog_5_method_24_code
def yX3_placeOfEnding : MethodName := ⟨RX3, "placeOfEnding", "(II)I"⟩
abbrev cX3_countParting : ByteArray := prog_5_method_25_code
def yX3_countParting : MethodName := ⟨RX3, "countParting", "(LGreyDays$Town;II)I"⟩
abbrev cX3_firstParting : ByteArray := prog_5_method_26_code
def yX3_firstParting : MethodName := ⟨RX3, "firstParting", "(LGreyDays$Town;II)I"⟩
abbrev cX3_partsBy : ByteArray := prog_5_method_27_code
def yX3_partsBy : MethodName := ⟨RX3, "partsBy", "(LGreyDays$Town;IIII)Z"⟩
abbrev cX3_fewestMissing : ByteArray := prog_5_method_28_code
def yX3_fewestMissing : MethodName := ⟨RX3, "fewestMissing", "(LGreyDays$Town;II)I"⟩
abbrev cX3_bestTest : ByteArray := prog_5_method_29_code
def yX3_bestTest : MethodName := ⟨RX3, "bestTest", "(LGreyDays$Town;IIII)I"⟩
abbrev cX3_countTold : ByteArray := prog_5_method_30_code
def yX3_countTold : MethodName := ⟨RX3, "countTold", "(LGreyDays$Town;ZZ)I"⟩
abbrev cX3_isTold : ByteArray := prog_5_method_31_code
def yX3_isTold : MethodName := ⟨RX3, "isTold", "(LGreyDays$Town;IZZ)Z"⟩
abbrev cX3_likelihood : ByteArray := prog_5_method_32_code
def yX3_likelihood : MethodName := ⟨RX3, "likelihood", "(III)J"⟩
abbrev cX3_ways : ByteArray := prog_5_method_33_code
def yX3_ways : MethodName := ⟨RX3, "ways", "(II)J"⟩
abbrev cX3_power : ByteArray := prog_5_method_34_code
def yX3_power : MethodName := ⟨RX3, "power", "(JI)J"⟩
abbrev cX3_greatestShared : ByteArray := prog_5_method_35_code
def yX3_greatestShared : MethodName := ⟨RX3, "greatestShared", "(JJ)J"⟩
abbrev cX3_drawnYear : ByteArray := prog_5_method_36_code
def yX3_drawnYear : MethodName := ⟨RX3, "drawnYear", "(LGreyDays$Town;III)I"⟩
def RX4 : String := "GreyDays$Ink"
def TX4 : u_T := fun k => match k with
  | 0 => ("GreyDays$Thing", "number", "I", true)
  | 1 => ("GreyDays$Thing", "shape", "I", true)
  | _ => ("GreyDays$Thing", "mix", "I", false)
def tyX4 : Nat → FieldType := fun k => match k with
  | 0 => .int
  | 1 => .int
  | _ => .int
abbrev wsX40 : List Cond := u_ws RX4 TX4 3
theorem nmX4 : ∀ a, a < 3 → ∀ b, b < 3 → a ≠ b → (TX4 a).2.1 ≠ (TX4 b).2.1 := by decide +kernel
theorem tyX4_ok : ∀ k, k < 3 → parseFieldDescriptor (TX4 k).2.2.1 = some (tyX4 k) := by decide +kernel
abbrev cX4_init : ByteArray := prog_6_method_1_code
def yX4_init : MethodName := ⟨RX4, "<init>", "(III)V"⟩
abbrev cX4_kindTold : ByteArray := prog_6_method_2_code
def yX4_kindTold : MethodName := ⟨RX4, "kindTold", "()I"⟩
abbrev cX4_lookOf : ByteArray := prog_6_method_3_code
def yX4_lookOf : MethodName := ⟨RX4, "lookOf", "(II)I"⟩
abbrev cX4_sizeAsked : ByteArray := prog_6_method_4_code
def yX4_sizeAsked : MethodName := ⟨RX4, "sizeAsked", "(LGreyDays$Asking;)I"⟩
abbrev cX4_markAsked : ByteArray := prog_6_method_5_code
def yX4_markAsked : MethodName := ⟨RX4, "markAsked", "(LGreyDays$Asking;)I"⟩
def RX5 : String := "GreyDays$Rows"
def TX5 : u_T := fun k => match k with
  | 0 => ("GreyDays$Rows", "items", "[[I", true)
  | 1 => ("GreyDays$Rows", "lanes", "[I", true)
  | _ => ("GreyDays$Rows", "lengths", "[I", true)
def tyX5 : Nat → FieldType := fun k => match k with
  | 0 => .array (.array .int)
  | 1 => .array .int
  | _ => .array .int
abbrev wsX50 : List Cond := u_ws RX5 TX5 3
theorem nmX5 : ∀ a, a < 3 → ∀ b, b < 3 → a ≠ b → (TX5 a).2.1 ≠ (TX5 b).2.1 := by decide +kernel
theorem tyX5_ok : ∀ k, k < 3 → parseFieldDescriptor (TX5 k).2.2.1 = some (tyX5 k) := by decide +kernel
abbrev cX5_init : ByteArray := prog_7_method_1_code
def yX5_init : MethodName := ⟨RX5, "<init>", "()V"⟩
abbrev cX5_isNumber : ByteArray := prog_7_method_2_code
def yX5_isNumber : MethodName := ⟨RX5, "isNumber", "(I)Z"⟩
abbrev cX5_isThere : ByteArray := prog_7_method_3_code
def yX5_isThere : MethodName := ⟨RX5, "isThere", "(I)Z"⟩
abbrev cX5_haveOneLane : ByteArray := prog_7_method_4_code
def yX5_haveOneLane : MethodName := ⟨RX5, "haveOneLane", "(II)Z"⟩
abbrev cX5_hasPlaces : ByteArray := prog_7_method_5_code
def yX5_hasPlaces : MethodName := ⟨RX5, "hasPlaces", "(III)Z"⟩
abbrev cX5_make : ByteArray := prog_7_method_6_code
def yX5_make : MethodName := ⟨RX5, "make", "(III)V"⟩
abbrev cX5_put : ByteArray := prog_7_method_7_code
def yX5_put : MethodName := ⟨RX5, "put", "(III)I"⟩
abbrev cX5_itemAt : ByteArray := prog_7_method_8_code
def yX5_itemAt : MethodName := ⟨RX5, "itemAt", "(II)I"⟩
abbrev cX5_move : ByteArray := prog_7_method_9_code
def yX5_move : MethodName := ⟨RX5, "move", "(IIIII)V"⟩
abbrev cX5_remove : ByteArray := prog_7_method_10_code
def yX5_remove : MethodName := ⟨RX5, "remove", "(I)I"⟩
abbrev cX5_present : ByteArray := prog_7_method_11_code
def yX5_present : MethodName := ⟨RX5, "present", "()I"⟩
abbrev cX5_cut : ByteArray := prog_7_method_12_code
def yX5_cut : MethodName := ⟨RX5, "cut", "(II)I"⟩
def RX6 : String := "GreyDays$Shining"
def TX6 : u_T := fun k => match k with
  | 0 => ("GreyDays$Thing", "number", "I", true)
  | 1 => ("GreyDays$Thing", "shape", "I", true)
  | _ => ("GreyDays$Thing", "mix", "I", false)
def tyX6 : Nat → FieldType := fun k => match k with
  | 0 => .int
  | 1 => .int
  | _ => .int
abbrev wsX60 : List Cond := u_ws RX6 TX6 3
theorem nmX6 : ∀ a, a < 3 → ∀ b, b < 3 → a ≠ b → (TX6 a).2.1 ≠ (TX6 b).2.1 := by decide +kernel
theorem tyX6_ok : ∀ k, k < 3 → parseFieldDescriptor (TX6 k).2.2.1 = some (tyX6 k) := by decide +kernel
abbrev cX6_init : ByteArray := prog_8_method_1_code
def yX6_init : MethodName := ⟨RX6, "<init>", "(III)V"⟩
abbrev cX6_kindTold : ByteArray := prog_8_method_2_code
def yX6_kindTold : MethodName := ⟨RX6, "kindTold", "()I"⟩
abbrev cX6_lookOf : ByteArray := prog_8_method_3_code
def yX6_lookOf : MethodName := ⟨RX6, "lookOf", "(II)I"⟩
abbrev cX6_markAsked : ByteArray := prog_8_method_4_code
def yX6_markAsked : MethodName := ⟨RX6, "markAsked", "(LGreyDays$Asking;)I"⟩
def RX7 : String := "GreyDays$Tape"
def TX7 : u_T := fun k => match k with
  | 0 => ("GreyDays$Tape", "bytes", "[I", true)
  | 1 => ("GreyDays$Tape", "length", "I", false)
  | 2 => ("GreyDays$Tape", "place", "I", false)
  | 3 => ("GreyDays$Tape", "faultNumber", "I", false)
  | _ => ("GreyDays$Tape", "faultPlace", "I", false)
def tyX7 : Nat → FieldType := fun k => match k with
  | 0 => .array .int
  | 1 => .int
  | 2 => .int
  | 3 => .int
  | _ => .int
abbrev wsX70 : List Cond := u_ws RX7 TX7 5
theorem nmX7 : ∀ a, a < 5 → ∀ b, b < 5 → a ≠ b → (TX7 a).2.1 ≠ (TX7 b).2.1 := by decide +kernel
theorem tyX7_ok : ∀ k, k < 5 → parseFieldDescriptor (TX7 k).2.2.1 = some (tyX7 k) := by decide +kernel
abbrev cX7_init : ByteArray := prog_9_method_1_code
def yX7_init : MethodName := ⟨RX7, "<init>", "()V"⟩
abbrev cX7_put : ByteArray := prog_9_method_2_code
def yX7_put : MethodName := ⟨RX7, "put", "(I)Z"⟩
abbrev cX7_length : ByteArray := prog_9_method_3_code
def yX7_length : MethodName := ⟨RX7, "length", "()I"⟩
abbrev cX7_faultNumber : ByteArray := prog_9_method_4_code
def yX7_faultNumber : MethodName := ⟨RX7, "faultNumber", "()I"⟩
abbrev cX7_faultPlace : ByteArray := prog_9_method_5_code
def yX7_faultPlace : MethodName := ⟨RX7, "faultPlace", "()I"⟩
abbrev cX7_read : ByteArray := prog_9_method_6_code
def yX7_read : MethodName := ⟨RX7, "read", "()LGreyDays$Town;"⟩
abbrev cX7_readLaw : ByteArray := prog_9_method_7_code
def yX7_readLaw : MethodName := ⟨RX7, "readLaw", "(LGreyDays$Town;)V"⟩
abbrev cX7_readThings : ByteArray := prog_9_method_8_code
def yX7_readThings : MethodName := ⟨RX7, "readThings", "(LGreyDays$Town;)V"⟩
abbrev cX7_readThing : ByteArray := prog_9_method_9_code
def yX7_readThing : MethodName := ⟨RX7, "readThing", "(LGreyDays$Town;I)V"⟩
abbrev cX7_readPairs : ByteArray := prog_9_method_10_code
def yX7_readPairs : MethodName := ⟨RX7, "readPairs", "(LGreyDays$Town;)V"⟩
abbrev cX7_readPair : ByteArray := prog_9_method_11_code
def yX7_readPair : MethodName := ⟨RX7, "readPair", "(LGreyDays$Town;)V"⟩
abbrev cX7_takeByte : ByteArray := prog_9_method_12_code
def yX7_takeByte : MethodName := ⟨RX7, "takeByte", "(I)V"⟩
abbrev cX7_takeNumber : ByteArray := prog_9_method_13_code
def yX7_takeNumber : MethodName := ⟨RX7, "takeNumber", "(II)I"⟩
abbrev cX7_figuresHere : ByteArray := prog_9_method_14_code
def yX7_figuresHere : MethodName := ⟨RX7, "figuresHere", "()I"⟩
abbrev cX7_byteHere : ByteArray := prog_9_method_15_code
def yX7_byteHere : MethodName := ⟨RX7, "byteHere", "()I"⟩
abbrev cX7_isSound : ByteArray := prog_9_method_16_code
def yX7_isSound : MethodName := ⟨RX7, "isSound", "()Z"⟩
abbrev cX7_faultAt : ByteArray := prog_9_method_17_code
def yX7_faultAt : MethodName := ⟨RX7, "faultAt", "(II)V"⟩
abbrev cX7_kindOfSort : ByteArray := prog_9_method_18_code
def yX7_kindOfSort : MethodName := ⟨RX7, "kindOfSort", "(I)I"⟩
def RX8 : String := "GreyDays$Thing"
def TX8 : u_T := fun k => match k with
  | _ => ("", "", "", false)
def tyX8 : Nat → FieldType := fun k => match k with
  | _ => .int
abbrev wsX80 : List Cond := u_ws RX8 TX8 0
theorem nmX8 : ∀ a, a < 0 → ∀ b, b < 0 → a ≠ b → (TX8 a).2.1 ≠ (TX8 b).2.1 := by decide +kernel
theorem tyX8_ok : ∀ k, k < 0 → parseFieldDescriptor (TX8 k).2.2.1 = some (tyX8 k) := by decide +kernel
abbrev cX8_init : ByteArray := prog_10_method_1_code
def yX8_init : MethodName := ⟨RX8, "<init>", "(III)V"⟩
abbrev cX8_takesPaint : ByteArray := prog_10_method_4_code
def yX8_takesPaint : MethodName := ⟨RX8, "takesPaint", "()Z"⟩
abbrev cX8_mixed : ByteArray := prog_10_method_5_code
def yX8_mixed : MethodName := ⟨RX8, "mixed", "()I"⟩
abbrev cX8_shaped : ByteArray := prog_10_method_6_code
def yX8_shaped : MethodName := ⟨RX8, "shaped", "()I"⟩
abbrev cX8_mixAnew : ByteArray := prog_10_method_7_code
def yX8_mixAnew : MethodName := ⟨RX8, "mixAnew", "(I)V"⟩
abbrev cX8_lookWithout : ByteArray := prog_10_method_8_code
def yX8_lookWithout : MethodName := ⟨RX8, "lookWithout", "(I)I"⟩
abbrev cX8_sizeAsked : ByteArray := prog_10_method_9_code
def yX8_sizeAsked : MethodName := ⟨RX8, "sizeAsked", "(LGreyDays$Asking;)I"⟩
abbrev cX8_markAsked : ByteArray := prog_10_method_10_code
def yX8_markAsked : MethodName := ⟨RX8, "markAsked", "(LGreyDays$Asking;)I"⟩
def RX9 : String := "GreyDays$Town"
def TX9 : u_T := fun k => match k with
  | 0 => ("GreyDays$Town", "colours", "[I", true)
  | 1 => ("GreyDays$Town", "things", "[LGreyDays$Thing;", true)
  | 2 => ("GreyDays$Town", "thingCount", "I", false)
  | 3 => ("GreyDays$Town", "firsts", "[I", true)
  | 4 => ("GreyDays$Town", "seconds", "[I", true)
  | 5 => ("GreyDays$Town", "harms", "[I", true)
  | 6 => ("GreyDays$Town", "pairCount", "I", false)
  | 7 => ("GreyDays$Town", "day", "I", false)
  | 8 => ("GreyDays$Town", "actSorts", "[I", true)
  | 9 => ("GreyDays$Town", "actPlaces", "[I", true)
  | 10 => ("GreyDays$Town", "actBefores", "[I", true)
  | _ => ("GreyDays$Town", "actCount", "I", false)
def tyX9 : Nat → FieldType := fun k => match k with
  | 0 => .array .int
  | 1 => .array (.object "GreyDays$Thing")
  | 2 => .int
  | 3 => .array .int
  | 4 => .array .int
  | 5 => .array .int
  | 6 => .int
  | 7 => .int
  | 8 => .array .int
  | 9 => .array .int
  | 10 => .array .int
  | _ => .int
abbrev wsX90 : List Cond := u_ws RX9 TX9 12
theorem nmX9 : ∀ a, a < 12 → ∀ b, b < 12 → a ≠ b → (TX9 a).2.1 ≠ (TX9 b).2.1 := by decide +kernel
theorem tyX9_ok : ∀ k, k < 12 → parseFieldDescriptor (TX9 k).2.2.1 = some (tyX9 k) := by decide +kernel
abbrev cX9_init : ByteArray := prog_11_method_1_code
def yX9_init : MethodName := ⟨RX9, "<init>", "()V"⟩
abbrev cX9_duplicate : ByteArray := prog_11_method_2_code
def yX9_duplicate : MethodName := ⟨RX9, "duplicate", "()LGreyDays$Town;"⟩
abbrev cX9_setColourOn : ByteArray := prog_11_method_3_code
def yX9_setColourOn : MethodName := ⟨RX9, "setColourOn", "(II)V"⟩
abbrev cX9_addThing : ByteArray := prog_11_method_4_code
def yX9_addThing : MethodName := ⟨RX9, "addThing", "(III)V"⟩
abbrev cX9_addPair : ByteArray := prog_11_method_5_code
def yX9_addPair : MethodName := ⟨RX9, "addPair", "(III)V"⟩
abbrev cX9_hasThing : ByteArray := prog_11_method_6_code
def yX9_hasThing : MethodName := ⟨RX9, "hasThing", "(I)Z"⟩
abbrev cX9_thingAt : ByteArray := prog_11_method_7_code
def yX9_thingAt : MethodName := ⟨RX9, "thingAt", "(I)LGreyDays$Thing;"⟩
abbrev cX9_thingCount : ByteArray := prog_11_method_8_code
def yX9_thingCount : MethodName := ⟨RX9, "thingCount", "()I"⟩
abbrev cX9_pairCount : ByteArray := prog_11_method_9_code
def yX9_pairCount : MethodName := ⟨RX9, "pairCount", "()I"⟩
abbrev cX9_actCount : ByteArray := prog_11_method_10_code
def yX9_actCount : MethodName := ⟨RX9, "actCount", "()I"⟩
abbrev cX9_today : ByteArray := prog_11_method_11_code
def yX9_today : MethodName := ⟨RX9, "today", "()I"⟩
abbrev cX9_colourOn : ByteArray := prog_11_method_12_code
def yX9_colourOn : MethodName := ⟨RX9, "colourOn", "(I)I"⟩
abbrev cX9_missingIn : ByteArray := prog_11_method_13_code
def yX9_missingIn : MethodName := ⟨RX9, "missingIn", "(I)I"⟩
abbrev cX9_missingOn : ByteArray := prog_11_method_14_code
def yX9_missingOn : MethodName := ⟨RX9, "missingOn", "(I)I"⟩
abbrev cX9_setOf : ByteArray := prog_11_method_15_code
def yX9_setOf : MethodName := ⟨RX9, "setOf", "(I)I"⟩
abbrev cX9_areAlike : ByteArray := prog_11_method_16_code
def yX9_areAlike : MethodName := ⟨RX9, "areAlike", "(III)Z"⟩
abbrev cX9_harmWithout : ByteArray := prog_11_method_17_code
def yX9_harmWithout : MethodName := ⟨RX9, "harmWithout", "(I)I"⟩
abbrev cX9_harmOfPair : ByteArray := prog_11_method_18_code
def yX9_harmOfPair : MethodName := ⟨RX9, "harmOfPair", "(II)I"⟩
abbrev cX9_harmOfPairsWith : ByteArray := prog_11_method_19_code
def yX9_harmOfPairsWith : MethodName := ⟨RX9, "harmOfPairsWith", "(I)I"⟩
abbrev cX9_isOfPair : ByteArray := prog_11_method_20_code
def yX9_isOfPair : MethodName := ⟨RX9, "isOfPair", "(II)Z"⟩
abbrev cX9_passDays : ByteArray := prog_11_method_21_code
def yX9_passDays : MethodName := ⟨RX9, "passDays", "(I)V"⟩
abbrev cX9_repaint : ByteArray := prog_11_method_22_code
def yX9_repaint : MethodName := ⟨RX9, "repaint", "(II)I"⟩
abbrev cX9_changeWeek : ByteArray := prog_11_method_23_code
def yX9_changeWeek : MethodName := ⟨RX9, "changeWeek", "(II)I"⟩
abbrev cX9_keepAct : ByteArray := prog_11_method_24_code
def yX9_keepAct : MethodName := ⟨RX9, "keepAct", "(III)V"⟩
abbrev cX9_forgetOldestAct : ByteArray := prog_11_method_25_code
def yX9_forgetOldestAct : MethodName := ⟨RX9, "forgetOldestAct", "()V"⟩
abbrev cX9_undoLatest : ByteArray := prog_11_method_26_code
def yX9_undoLatest : MethodName := ⟨RX9, "undoLatest", "()V"⟩
def RX10 : String := "GreyDays$Twin"
def TX10 : u_T := fun k => match k with
  | 0 => ("GreyDays$Thing", "number", "I", true)
  | 1 => ("GreyDays$Thing", "shape", "I", true)
  | _ => ("GreyDays$Thing", "mix", "I", false)
def tyX10 : Nat → FieldType := fun k => match k with
  | 0 => .int
  | 1 => .int
  | _ => .int
abbrev wsX100 : List Cond := u_ws RX10 TX10 3
theorem nmX10 : ∀ a, a < 3 → ∀ b, b < 3 → a ≠ b → (TX10 a).2.1 ≠ (TX10 b).2.1 := by decide +kernel
theorem tyX10_ok : ∀ k, k < 3 → parseFieldDescriptor (TX10 k).2.2.1 = some (tyX10 k) := by decide +kernel
abbrev cX10_init : ByteArray := prog_12_method_1_code
def yX10_init : MethodName := ⟨RX10, "<init>", "(III)V"⟩
abbrev cX10_kindTold : ByteArray := prog_12_method_2_code
def yX10_kindTold : MethodName := ⟨RX10, "kindTold", "()I"⟩
abbrev cX10_lookOf : ByteArray := prog_12_method_3_code
def yX10_lookOf : MethodName := ⟨RX10, "lookOf", "(II)I"⟩
abbrev cX10_sizeAsked : ByteArray := prog_12_method_4_code
def yX10_sizeAsked : MethodName := ⟨RX10, "sizeAsked", "(LGreyDays$Asking;)I"⟩
abbrev cX10_markAsked : ByteArray := prog_12_method_5_code
def yX10_markAsked : MethodName := ⟨RX10, "markAsked", "(LGreyDays$Asking;)I"⟩
def RX11 : String := "GreyDays"
def TX11 : u_T := fun k => match k with
  | 0 => ("GreyDays", "rows", "LGreyDays$Rows;", true)
  | 1 => ("GreyDays", "tape", "LGreyDays$Tape;", true)
  | 2 => ("GreyDays", "foretold", "LGreyDays$Foretold;", true)
  | 3 => ("GreyDays", "asking", "LGreyDays$Asking;", true)
  | 4 => ("GreyDays", "images", "[LGreyDays$Town;", true)
  | 5 => ("GreyDays", "present", "LGreyDays$Town;", false)
  | 6 => ("GreyDays", "latestFault", "I", false)
  | _ => ("GreyDays", "latestFinding", "I", false)
def tyX11 : Nat → FieldType := fun k => match k with
  | 0 => .object "GreyDays$Rows"
  | 1 => .object "GreyDays$Tape"
  | 2 => .object "GreyDays$Foretold"
  | 3 => .object "GreyDays$Asking"
  | 4 => .array (.object "GreyDays$Town")
  | 5 => .object "GreyDays$Town"
  | 6 => .int
  | _ => .int
abbrev wsX110 : List Cond := u_ws RX11 TX11 8
theorem nmX11 : ∀ a, a < 8 → ∀ b, b < 8 → a ≠ b → (TX11 a).2.1 ≠ (TX11 b).2.1 := by decide +kernel
theorem tyX11_ok : ∀ k, k < 8 → parseFieldDescriptor (TX11 k).2.2.1 = some (tyX11 k) := by decide +kernel
abbrev cX11_init : ByteArray := prog_1_method_1_code
def yX11_init : MethodName := ⟨RX11, "<init>", "()V"⟩
abbrev cX11_row : ByteArray := prog_1_method_2_code
def yX11_row : MethodName := ⟨RX11, "row", "(III)I"⟩
abbrev cX11_set : ByteArray := prog_1_method_3_code
def yX11_set : MethodName := ⟨RX11, "set", "(III)I"⟩
abbrev cX11_copy : ByteArray := prog_1_method_4_code
def yX11_copy : MethodName := ⟨RX11, "copy", "(IIIII)I"⟩
abbrev cX11_drop : ByteArray := prog_1_method_5_code
def yX11_drop : MethodName := ⟨RX11, "drop", "(I)I"⟩
abbrev cX11_feed : ByteArray := prog_1_method_6_code
def yX11_feed : MethodName := ⟨RX11, "feed", "(I)I"⟩
abbrev cX11_town : ByteArray := prog_1_method_7_code
def yX11_town : MethodName := ⟨RX11, "town", "()I"⟩
abbrev cX11_fault : ByteArray := prog_1_method_8_code
def yX11_fault : MethodName := ⟨RX11, "fault", "()I"⟩
abbrev cX11_undo : ByteArray := prog_1_method_9_code
def yX11_undo : MethodName := ⟨RX11, "undo", "()I"⟩
abbrev cX11_days : ByteArray := prog_1_method_10_code
def yX11_days : MethodName := ⟨RX11, "days", "(I)I"⟩
abbrev cX11_paint : ByteArray := prog_1_method_11_code
def yX11_paint : MethodName := ⟨RX11, "paint", "(II)I"⟩
abbrev cX11_miss : ByteArray := prog_1_method_12_code
def yX11_miss : MethodName := ⟨RX11, "miss", "(II)I"⟩
abbrev cX11_thing : ByteArray := prog_1_method_13_code
def yX11_thing : MethodName := ⟨RX11, "thing", "(II)I"⟩
abbrev cX11_missing : ByteArray := prog_1_method_14_code
def yX11_missing : MethodName := ⟨RX11, "missing", "(I)I"⟩
abbrev cX11_pair : ByteArray := prog_1_method_15_code
def yX11_pair : MethodName := ⟨RX11, "pair", "(II)I"⟩
abbrev cX11_look : ByteArray := prog_1_method_16_code
def yX11_look : MethodName := ⟨RX11, "look", "(II)I"⟩
abbrev cX11_alike : ByteArray := prog_1_method_17_code
def yX11_alike : MethodName := ⟨RX11, "alike", "(III)I"⟩
abbrev cX11_like : ByteArray := prog_1_method_18_code
def yX11_like : MethodName := ⟨RX11, "like", "(II)I"⟩
abbrev cX11_looks : ByteArray := prog_1_method_19_code
def yX11_looks : MethodName := ⟨RX11, "looks", "(I)I"⟩
abbrev cX11_harm : ByteArray := prog_1_method_20_code
def yX11_harm : MethodName := ⟨RX11, "harm", "(I)I"⟩
abbrev cX11_harms : ByteArray := prog_1_method_21_code
def yX11_harms : MethodName := ⟨RX11, "harms", "(I)I"⟩
abbrev cX11_week : ByteArray := prog_1_method_22_code
def yX11_week : MethodName := ⟨RX11, "week", "(I)I"⟩
abbrev cX11_bestPaint : ByteArray := prog_1_method_23_code
def yX11_bestPaint : MethodName := ⟨RX11, "bestPaint", "(I)I"⟩
abbrev cX11_dyes : ByteArray := prog_1_method_24_code
def yX11_dyes : MethodName := ⟨RX11, "dyes", "(II)I"⟩
abbrev cX11_thief : ByteArray := prog_1_method_25_code
def yX11_thief : MethodName := ⟨RX11, "thief", "(I)I"⟩
abbrev cX11_seen : ByteArray := prog_1_method_26_code
def yX11_seen : MethodName := ⟨RX11, "seen", "(II)I"⟩
abbrev cX11_shelf : ByteArray := prog_1_method_27_code
def yX11_shelf : MethodName := ⟨RX11, "shelf", "(II)I"⟩
abbrev cX11_parted : ByteArray := prog_1_method_28_code
def yX11_parted : MethodName := ⟨RX11, "parted", "(III)I"⟩
abbrev cX11_merged : ByteArray := prog_1_method_29_code
def yX11_merged : MethodName := ⟨RX11, "merged", "(II)I"⟩
abbrev cX11_tests : ByteArray := prog_1_method_30_code
def yX11_tests : MethodName := ⟨RX11, "tests", "(IIII)I"⟩
abbrev cX11_bet : ByteArray := prog_1_method_31_code
def yX11_bet : MethodName := ⟨RX11, "bet", "(III)J"⟩
abbrev cX11_year : ByteArray := prog_1_method_32_code
def yX11_year : MethodName := ⟨RX11, "year", "(III)I"⟩
abbrev cX11_image : ByteArray := prog_1_method_33_code
def yX11_image : MethodName := ⟨RX11, "image", "(I)I"⟩
abbrev cX11_restore : ByteArray := prog_1_method_34_code
def yX11_restore : MethodName := ⟨RX11, "restore", "(I)I"⟩
abbrev cX11_kind : ByteArray := prog_1_method_35_code
def yX11_kind : MethodName := ⟨RX11, "kind", "(I)I"⟩
abbrev cX11_as : ByteArray := prog_1_method_36_code
def yX11_as : MethodName := ⟨RX11, "as", "(II)I"⟩
abbrev cX11_ask : ByteArray := prog_1_method_37_code
def yX11_ask : MethodName := ⟨RX11, "ask", "(II)I"⟩
abbrev cX11_trace : ByteArray := prog_1_method_38_code
def yX11_trace : MethodName := ⟨RX11, "trace", "(I)I"⟩
abbrev cX11_count : ByteArray := prog_1_method_39_code
def yX11_count : MethodName := ⟨RX11, "count", "(I)I"⟩
abbrev cX11_status : ByteArray := prog_1_method_40_code
def yX11_status : MethodName := ⟨RX11, "status", "()I"⟩
abbrev cX11_countOfTown : ByteArray := prog_1_method_41_code
def yX11_countOfTown : MethodName := ⟨RX11, "countOfTown", "(I)I"⟩
abbrev cX11_finds : ByteArray := prog_1_method_42_code
def yX11_finds : MethodName := ⟨RX11, "finds", "(I)Z"⟩
abbrev cX11_finding : ByteArray := prog_1_method_43_code
def yX11_finding : MethodName := ⟨RX11, "finding", "()I"⟩
abbrev cX11_findingOfPlaces : ByteArray := prog_1_method_44_code
def yX11_findingOfPlaces : MethodName := ⟨RX11, "findingOfPlaces", "(III)I"⟩
abbrev cX11_findingOfMove : ByteArray := prog_1_method_45_code
def yX11_findingOfMove : MethodName := ⟨RX11, "findingOfMove", "(IIIII)I"⟩
abbrev cX11_isThing : ByteArray := prog_1_method_46_code
def yX11_isThing : MethodName := ⟨RX11, "isThing", "(I)Z"⟩
abbrev cX11_areTwo : ByteArray := prog_1_method_47_code
def yX11_areTwo : MethodName := ⟨RX11, "areTwo", "(II)Z"⟩
abbrev cX11_isOfKind : ByteArray := prog_1_method_48_code
def yX11_isOfKind : MethodName := ⟨RX11, "isOfKind", "(LGreyDays$Thing;I)Z"⟩
abbrev cX11_isSet : ByteArray := prog_1_method_49_code
def yX11_isSet : MethodName := ⟨RX11, "isSet", "(I)Z"⟩
abbrev cX11_isWeekday : ByteArray := prog_1_method_50_code
def yX11_isWeekday : MethodName := ⟨RX11, "isWeekday", "(I)Z"⟩
abbrev cX11_isAhead : ByteArray := prog_1_method_51_code
def yX11_isAhead : MethodName := ⟨RX11, "isAhead", "(I)Z"⟩
abbrev cX11_isChoice : ByteArray := prog_1_method_52_code
def yX11_isChoice : MethodName := ⟨RX11, "isChoice", "(I)Z"⟩
abbrev cX11_isCost : ByteArray := prog_1_method_53_code
def yX11_isCost : MethodName := ⟨RX11, "isCost", "(I)Z"⟩
def RX12 : String := "GreyDaysModel"
def TX12 : u_T := fun k => match k with
  | 0 => ("GreyDaysModel", "thrown", "I", false)
  | 1 => ("GreyDaysModel", "status", "I", false)
  | 2 => ("GreyDaysModel", "lane", "[I", true)
  | 3 => ("GreyDaysModel", "many", "[I", true)
  | 4 => ("GreyDaysModel", "item", "[I", true)
  | 5 => ("GreyDaysModel", "town", "[I", true)
  | 6 => ("GreyDaysModel", "fresh", "[I", true)
  | 7 => ("GreyDaysModel", "was", "[I", true)
  | 8 => ("GreyDaysModel", "acts", "I", false)
  | 9 => ("GreyDaysModel", "tape", "[I", true)
  | 10 => ("GreyDaysModel", "taped", "I", false)
  | 11 => ("GreyDaysModel", "cursor", "I", false)
  | 12 => ("GreyDaysModel", "start", "I", false)
  | 13 => ("GreyDaysModel", "token", "I", false)
  | 14 => ("GreyDaysModel", "value", "I", false)
  | 15 => ("GreyDaysModel", "fault", "I", false)
  | 16 => ("GreyDaysModel", "faultAt", "I", false)
  | 17 => ("GreyDaysModel", "latest", "I", false)
  | 18 => ("GreyDaysModel", "mixes", "[I", true)
  | 19 => ("GreyDaysModel", "orders", "[I", true)
  | 20 => ("GreyDaysModel", "isKept", "[Z", true)
  | 21 => ("GreyDaysModel", "kept", "[I", true)
  | 22 => ("GreyDaysModel", "trace", "[I", true)
  | _ => ("GreyDaysModel", "traced", "I", false)
def tyX12 : Nat → FieldType := fun k => match k with
  | 0 => .int
  | 1 => .int
  | 2 => .array .int
  | 3 => .array .int
  | 4 => .array .int
  | 5 => .array .int
  | 6 => .array .int
  | 7 => .array .int
  | 8 => .int
  | 9 => .array .int
  | 10 => .int
  | 11 => .int
  | 12 => .int
  | 13 => .int
  | 14 => .int
  | 15 => .int
  | 16 => .int
  | 17 => .int
  | 18 => .array .int
  | 19 => .array .int
  | 20 => .array .boolean
  | 21 => .array .int
  | 22 => .array .int
  | _ => .int
abbrev wsX120 : List Cond := u_ws RX12 TX12 24
theorem nmX12 : ∀ a, a < 24 → ∀ b, b < 24 → a ≠ b → (TX12 a).2.1 ≠ (TX12 b).2.1 := by decide +kernel
theorem tyX12_ok : ∀ k, k < 24 → parseFieldDescriptor (TX12 k).2.2.1 = some (tyX12 k) := by decide +kernel
abbrev cX12_init : ByteArray := prog_14_method_1_code
def yX12_init : MethodName := ⟨RX12, "<init>", "()V"⟩
abbrev cX12_in : ByteArray := prog_14_method_3_code
def yX12_in : MethodName := ⟨RX12, "in", "(JJJ)Z"⟩
abbrev cX12_finding : ByteArray := prog_14_method_4_code
def yX12_finding : MethodName := ⟨RX12, "finding", "(I)I"⟩
abbrev cX12_isRow : ByteArray := prog_14_method_5_code
def yX12_isRow : MethodName := ⟨RX12, "isRow", "(I)Z"⟩
abbrev cX12_row : ByteArray := prog_14_method_6_code
def yX12_row : MethodName := ⟨RX12, "row", "(III)I"⟩
abbrev cX12_set : ByteArray := prog_14_method_7_code
def yX12_set : MethodName := ⟨RX12, "set", "(III)I"⟩
abbrev cX12_copy : ByteArray := prog_14_method_8_code
def yX12_copy : MethodName := ⟨RX12, "copy", "(IIIII)I"⟩
abbrev cX12_drop : ByteArray := prog_14_method_9_code
def yX12_drop : MethodName := ⟨RX12, "drop", "(I)I"⟩
abbrev cX12_feed : ByteArray := prog_14_method_10_code
def yX12_feed : MethodName := ⟨RX12, "feed", "(I)I"⟩
abbrev cX12_bad : ByteArray := prog_14_method_11_code
def yX12_bad : MethodName := ⟨RX12, "bad", "(I)V"⟩
abbrev cX12_nextToken : ByteArray := prog_14_method_12_code
def yX12_nextToken : MethodName := ⟨RX12, "nextToken", "()V"⟩
abbrev cX12_must : ByteArray := prog_14_method_13_code
def yX12_must : MethodName := ⟨RX12, "must", "(Z)V"⟩
abbrev cX12_isLetter : ByteArray := prog_14_method_14_code
def yX12_isLetter : MethodName := ⟨RX12, "isLetter", "(I)Z"⟩
abbrev cX12_number : ByteArray := prog_14_method_15_code
def yX12_number : MethodName := ⟨RX12, "number", "(II)I"⟩
abbrev cX12_mustSign : ByteArray := prog_14_method_16_code
def yX12_mustSign : MethodName := ⟨RX12, "mustSign", "(I)V"⟩
abbrev cX12_begin : ByteArray := prog_14_method_17_code
def yX12_begin : MethodName := ⟨RX12, "begin", "()V"⟩
abbrev cX12_failed : ByteArray := prog_14_method_18_code
def yX12_failed : MethodName := ⟨RX12, "failed", "()Z"⟩
abbrev cX12_fault : ByteArray := prog_14_method_19_code
def yX12_fault : MethodName := ⟨RX12, "fault", "()I"⟩
abbrev cX12_kindBy : ByteArray := prog_14_method_20_code
def yX12_kindBy : MethodName := ⟨RX12, "kindBy", "(I)I"⟩
abbrev cX12_readThing : ByteArray := prog_14_method_21_code
def yX12_readThing : MethodName := ⟨RX12, "readThing", "()V"⟩
abbrev cX12_isTold : ByteArray := prog_14_method_22_code
def yX12_isTold : MethodName := ⟨RX12, "isTold", "([III)Z"⟩
abbrev cX12_readPair : ByteArray := prog_14_method_23_code
def yX12_readPair : MethodName := ⟨RX12, "readPair", "()V"⟩
abbrev cX12_town : ByteArray := prog_14_method_24_code
def yX12_town : MethodName := ⟨RX12, "town", "()I"⟩
abbrev cX12_isThere : ByteArray := prog_14_method_25_code
def yX12_isThere : MethodName := ⟨RX12, "isThere", "()Z"⟩
abbrev cX12_isThing : ByteArray := prog_14_method_26_code
def yX12_isThing : MethodName := ⟨RX12, "isThing", "(I)Z"⟩
abbrev cX12_areTwo : ByteArray := prog_14_method_27_code
def yX12_areTwo : MethodName := ⟨RX12, "areTwo", "(II)Z"⟩
abbrev cX12_of : ByteArray := prog_14_method_28_code
def yX12_of : MethodName := ⟨RX12, "of", "(II)I"⟩
abbrev cX12_isFar : ByteArray := prog_14_method_29_code
def yX12_isFar : MethodName := ⟨RX12, "isFar", "(I)Z"⟩
abbrev cX12_bits : ByteArray := prog_14_method_30_code
def yX12_bits : MethodName := ⟨RX12, "bits", "(I)I"⟩
abbrev cX12_lookOf : ByteArray := prog_14_method_31_code
def yX12_lookOf : MethodName := ⟨RX12, "lookOf", "(II)I"⟩
abbrev cX12_setOf : ByteArray := prog_14_method_32_code
def yX12_setOf : MethodName := ⟨RX12, "setOf", "(I)I"⟩
abbrev cX12_missingOn : ByteArray := prog_14_method_33_code
def yX12_missingOn : MethodName := ⟨RX12, "missingOn", "(I)I"⟩
abbrev cX12_harmBy : ByteArray := prog_14_method_34_code
def yX12_harmBy : MethodName := ⟨RX12, "harmBy", "(I)I"⟩
abbrev cX12_harmsOf : ByteArray := prog_14_method_35_code
def yX12_harmsOf : MethodName := ⟨RX12, "harmsOf", "(I)I"⟩
abbrev cX12_likeBy : ByteArray := prog_14_method_36_code
def yX12_likeBy : MethodName := ⟨RX12, "likeBy", "(II)I"⟩
abbrev cX12_keep : ByteArray := prog_14_method_37_code
def yX12_keep : MethodName := ⟨RX12, "keep", "()V"⟩
abbrev cX12_days : ByteArray := prog_14_method_38_code
def yX12_days : MethodName := ⟨RX12, "days", "(I)I"⟩
abbrev cX12_paint : ByteArray := prog_14_method_39_code
def yX12_paint : MethodName := ⟨RX12, "paint", "(II)I"⟩
abbrev cX12_miss : ByteArray := prog_14_method_40_code
def yX12_miss : MethodName := ⟨RX12, "miss", "(II)I"⟩
abbrev cX12_undo : ByteArray := prog_14_method_41_code
def yX12_undo : MethodName := ⟨RX12, "undo", "()I"⟩
abbrev cX12_thing : ByteArray := prog_14_method_42_code
def yX12_thing : MethodName := ⟨RX12, "thing", "(II)I"⟩
abbrev cX12_missing : ByteArray := prog_14_method_43_code
def yX12_missing : MethodName := ⟨RX12, "missing", "(I)I"⟩
abbrev cX12_pair : ByteArray := prog_14_method_44_code
def yX12_pair : MethodName := ⟨RX12, "pair", "(II)I"⟩
abbrev cX12_look : ByteArray := prog_14_method_45_code
def yX12_look : MethodName := ⟨RX12, "look", "(II)I"⟩
abbrev cX12_areAlike : ByteArray := prog_14_method_46_code
def yX12_areAlike : MethodName := ⟨RX12, "areAlike", "(III)Z"⟩
abbrev cX12_alike : ByteArray := prog_14_method_47_code
def yX12_alike : MethodName := ⟨RX12, "alike", "(III)I"⟩
abbrev cX12_like : ByteArray := prog_14_method_48_code
def yX12_like : MethodName := ⟨RX12, "like", "(II)I"⟩
abbrev cX12_looks : ByteArray := prog_14_method_49_code
def yX12_looks : MethodName := ⟨RX12, "looks", "(I)I"⟩
abbrev cX12_harm : ByteArray := prog_14_method_50_code
def yX12_harm : MethodName := ⟨RX12, "harm", "(I)I"⟩
abbrev cX12_harms : ByteArray := prog_14_method_51_code
def yX12_harms : MethodName := ⟨RX12, "harms", "(I)I"⟩
abbrev cX12_week : ByteArray := prog_14_method_52_code
def yX12_week : MethodName := ⟨RX12, "week", "(I)I"⟩
abbrev cX12_bestPaint : ByteArray := prog_14_method_53_code
def yX12_bestPaint : MethodName := ⟨RX12, "bestPaint", "(I)I"⟩
abbrev cX12_areApart : ByteArray := prog_14_method_54_code
def yX12_areApart : MethodName := ⟨RX12, "areApart", "(II)Z"⟩
abbrev cX12_areMixes : ByteArray := prog_14_method_55_code
def yX12_areMixes : MethodName := ⟨RX12, "areMixes", "(I)Z"⟩
abbrev cX12_dyes : ByteArray := prog_14_method_56_code
def yX12_dyes : MethodName := ⟨RX12, "dyes", "(II)I"⟩
abbrev cX12_thief : ByteArray := prog_14_method_57_code
def yX12_thief : MethodName := ⟨RX12, "thief", "(I)I"⟩
abbrev cX12_seen : ByteArray := prog_14_method_58_code
def yX12_seen : MethodName := ⟨RX12, "seen", "(II)I"⟩
abbrev cX12_follow : ByteArray := prog_14_method_59_code
def yX12_follow : MethodName := ⟨RX12, "follow", "(III)I"⟩
abbrev cX12_shelf : ByteArray := prog_14_method_60_code
def yX12_shelf : MethodName := ⟨RX12, "shelf", "(II)I"⟩
abbrev cX12_parted : ByteArray := prog_14_method_61_code
def yX12_parted : MethodName := ⟨RX12, "parted", "(III)I"⟩
abbrev cX12_merged : ByteArray := prog_14_method_62_code
def yX12_merged : MethodName := ⟨RX12, "merged", "(II)I"⟩
abbrev cX12_toldBy : ByteArray := prog_14_method_63_code
def yX12_toldBy : MethodName := ⟨RX12, "toldBy", "(II)I"⟩
abbrev cX12_tests : ByteArray := prog_14_method_64_code
def yX12_tests : MethodName := ⟨RX12, "tests", "(IIII)I"⟩
abbrev cX12_bet : ByteArray := prog_14_method_65_code
def yX12_bet : MethodName := ⟨RX12, "bet", "(III)J"⟩
abbrev cX12_year : ByteArray := prog_14_method_66_code
def yX12_year : MethodName := ⟨RX12, "year", "(III)I"⟩
abbrev cX12_image : ByteArray := prog_14_method_67_code
def yX12_image : MethodName := ⟨RX12, "image", "(I)I"⟩
abbrev cX12_restore : ByteArray := prog_14_method_68_code
def yX12_restore : MethodName := ⟨RX12, "restore", "(I)I"⟩
abbrev cX12_isOf : ByteArray := prog_14_method_69_code
def yX12_isOf : MethodName := ⟨RX12, "isOf", "(II)Z"⟩
abbrev cX12_kind : ByteArray := prog_14_method_70_code
def yX12_kind : MethodName := ⟨RX12, "kind", "(I)I"⟩
abbrev cX12_as : ByteArray := prog_14_method_71_code
def yX12_as : MethodName := ⟨RX12, "as", "(II)I"⟩
abbrev cX12_began : ByteArray := prog_14_method_72_code
def yX12_began : MethodName := ⟨RX12, "began", "(I)V"⟩
abbrev cX12_plainSize : ByteArray := prog_14_method_73_code
def yX12_plainSize : MethodName := ⟨RX12, "plainSize", "(I)I"⟩
abbrev cX12_inkSize : ByteArray := prog_14_method_74_code
def yX12_inkSize : MethodName := ⟨RX12, "inkSize", "(I)I"⟩
abbrev cX12_markOf : ByteArray := prog_14_method_75_code
def yX12_markOf : MethodName := ⟨RX12, "markOf", "(I)I"⟩
abbrev cX12_sizeOf : ByteArray := prog_14_method_76_code
def yX12_sizeOf : MethodName := ⟨RX12, "sizeOf", "(I)I"⟩
abbrev cX12_ask : ByteArray := prog_14_method_77_code
def yX12_ask : MethodName := ⟨RX12, "ask", "(II)I"⟩
abbrev cX12_trace : ByteArray := prog_14_method_78_code
def yX12_trace : MethodName := ⟨RX12, "trace", "(I)I"⟩
abbrev cX12_count : ByteArray := prog_14_method_79_code
def yX12_count : MethodName := ⟨RX12, "count", "(I)I"⟩
abbrev cX12_status : ByteArray := prog_14_method_80_code
def yX12_status : MethodName := ⟨RX12, "status", "()I"⟩
def RJ6 : String := "java/lang/Integer"
def TJ6 : u_T := fun k => match k with
  | _ => ("", "", "", false)
def tyJ6 : Nat → FieldType := fun k => match k with
  | _ => .int
abbrev wsJ60 : List Cond := u_ws RJ6 TJ6 0
theorem nmJ6 : ∀ a, a < 0 → ∀ b, b < 0 → a ≠ b → (TJ6 a).2.1 ≠ (TJ6 b).2.1 := by decide +kernel
theorem tyJ6_ok : ∀ k, k < 0 → parseFieldDescriptor (TJ6 k).2.2.1 = some (tyJ6 k) := by decide +kernel
abbrev cJ6_bitCount_0f7a4 : ByteArray := prog_15_method_49_code
def yJ6_bitCount_0f7a4 : MethodName := ⟨RJ6, "bitCount", "(I)I"⟩
def RJ10 : String := "java/lang/System"
def TJ10 : u_T := fun k => match k with
  | _ => ("", "", "", false)
def tyJ10 : Nat → FieldType := fun k => match k with
  | _ => .int
abbrev wsJ100 : List Cond := u_ws RJ10 TJ10 0
theorem nmJ10 : ∀ a, a < 0 → ∀ b, b < 0 → a ≠ b → (TJ10 a).2.1 ≠ (TJ10 b).2.1 := by decide +kernel
theorem tyJ10_ok : ∀ k, k < 0 → parseFieldDescriptor (TJ10 k).2.2.1 = some (tyJ10 k) := by decide +kernel
def RJ7 : String := "java/util/Arrays"
def TJ7 : u_T := fun k => match k with
  | _ => ("", "", "", false)
def tyJ7 : Nat → FieldType := fun k => match k with
  | _ => .int
abbrev wsJ70 : List Cond := u_ws RJ7 TJ7 0
theorem nmJ7 : ∀ a, a < 0 → ∀ b, b < 0 → a ≠ b → (TJ7 a).2.1 ≠ (TJ7 b).2.1 := by decide +kernel
theorem tyJ7_ok : ∀ k, k < 0 → parseFieldDescriptor (TJ7 k).2.2.1 = some (tyJ7 k) := by decide +kernel
abbrev cJ7_fill_53178 : ByteArray := prog_17_method_103_code
def yJ7_fill_53178 : MethodName := ⟨RJ7, "fill", "([II)V"⟩
def RL : String := "GreyDaysLaw"
abbrev cL_law : ByteArray := code
def yL_law : MethodName := ⟨RL, "law", "([I)Z"⟩
abbrev vwCl : List vw_C := [(RX0, TX0, 3), (RX1, TX1, 3), (RX2, TX2, 3), (RX3, TX3, 3), (RX4, TX4, 3), (RX5, TX5, 3), (RX6, TX6, 3), (RX7, TX7, 5), (RX9, TX9, 12), (RX10, TX10, 3), (RX11, TX11, 8), (RX12, TX12, 24)]
theorem pj_mem {ws : List Cond} (ps : List Nat) (hp : ws = ps.filterMap (fun i => lw_tbl[i]?)) : ∀ w ∈ ws, w ∈ lw_tbl := by
  intro w hw
  rw [hp] at hw
  obtain ⟨i, -, hi⟩ := List.mem_filterMap.mp hw
  exact List.mem_of_getElem? hi
theorem pj_inX0 : ∀ w ∈ u_ws RX0 TX0 3, w ∈ lw_tbl := pj_mem [155, 157, 159] (by decide +kernel)
theorem pj_inX1 : ∀ w ∈ u_ws RX1 TX1 3, w ∈ lw_tbl := pj_mem [431, 432, 433] (by decide +kernel)
theorem pj_inX2 : ∀ w ∈ u_ws RX2 TX2 3, w ∈ lw_tbl := pj_mem [424, 425, 426] (by decide +kernel)
theorem pj_inX3 : ∀ w ∈ u_ws RX3 TX3 3, w ∈ lw_tbl := pj_mem [139, 141, 143] (by decide +kernel)
theorem pj_inX4 : ∀ w ∈ u_ws RX4 TX4 3, w ∈ lw_tbl := pj_mem [414, 415, 416] (by decide +kernel)
theorem pj_inX5 : ∀ w ∈ u_ws RX5 TX5 3, w ∈ lw_tbl := pj_mem [100, 102, 104] (by decide +kernel)
theorem pj_inX6 : ∀ w ∈ u_ws RX6 TX6 3, w ∈ lw_tbl := pj_mem [404, 405, 406] (by decide +kernel)
theorem pj_inX7 : ∀ w ∈ u_ws RX7 TX7 5, w ∈ lw_tbl := pj_mem [119, 121, 123, 125, 127] (by decide +kernel)
theorem pj_inX9 : ∀ w ∈ u_ws RX9 TX9 12, w ∈ lw_tbl := pj_mem [304, 306, 308, 310, 312, 314, 316, 318, 320, 322, 324, 326] (by decide +kernel)
theorem pj_inX10 : ∀ w ∈ u_ws RX10 TX10 3, w ∈ lw_tbl := pj_mem [391, 393, 395] (by decide +kernel)
theorem pj_inX11 : ∀ w ∈ u_ws RX11 TX11 8, w ∈ lw_tbl := pj_mem [172, 174, 176, 178, 180, 182, 184, 186] (by decide +kernel)
theorem pj_inX12 : ∀ w ∈ u_ws RX12 TX12 24, w ∈ lw_tbl := pj_mem [1079, 1081, 1083, 1085, 1087, 1089, 1091, 1093, 1095, 1097, 1099, 1101, 1103, 1105, 1107, 1109, 1111, 1113, 1115, 1117, 1119, 1121, 1123, 1125] (by decide +kernel)
