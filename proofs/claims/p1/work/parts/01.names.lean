-- ===== PART A: goes FIRST, ahead of the names: the tables' words, and 'selects' of the private methods out of them =====
/-- a private method of a class that the tables say can be made, by its rows of tables_1 -/
def lw_okq (q : MethodName × Nat) : Prop := (q.1.cls ≠ "java/lang/invoke/MethodHandle" ∧ q.1.cls ≠ "java/lang/invoke/VarHandle") ∧ Cond.instantiable q.1.cls q.2 ∈ tables_1 ∧ Cond.privateMethod q.1 ∈ tables_1 ∧ Cond.instanceMethod q.1 ∈ tables_1
theorem lw_p0 : lw_okq (⟨"HalfCourt$Tokens", "sortBytes", "(Ljava/lang/String;I)V"⟩, 9) := ⟨⟨by decide +kernel, by decide +kernel⟩, List.mem_of_getElem? (i := 218) (by decide +kernel), List.mem_of_getElem? (i := 225) (by decide +kernel), List.mem_of_getElem? (i := 226) (by decide +kernel)⟩
theorem lw_p1 : lw_okq (⟨"HalfCourt", "putBytes", "(I)V"⟩, 9) := ⟨⟨by decide +kernel, by decide +kernel⟩, List.mem_of_getElem? (i := 22) (by decide +kernel), List.mem_of_getElem? (i := 491) (by decide +kernel), List.mem_of_getElem? (i := 492) (by decide +kernel)⟩
theorem lw_p2 : lw_okq (⟨"HalfCourt$Tokens", "pass", "(I)V"⟩, 9) := ⟨⟨by decide +kernel, by decide +kernel⟩, List.mem_of_getElem? (i := 218) (by decide +kernel), List.mem_of_getElem? (i := 519) (by decide +kernel), List.mem_of_getElem? (i := 520) (by decide +kernel)⟩
theorem lw_p3 : lw_okq (⟨"HalfCourt$Tokens", "takeWord", "()V"⟩, 9) := ⟨⟨by decide +kernel, by decide +kernel⟩, List.mem_of_getElem? (i := 218) (by decide +kernel), List.mem_of_getElem? (i := 523) (by decide +kernel), List.mem_of_getElem? (i := 524) (by decide +kernel)⟩
theorem lw_p4 : lw_okq (⟨"HalfCourt$Tokens", "takeNumber", "()V"⟩, 9) := ⟨⟨by decide +kernel, by decide +kernel⟩, List.mem_of_getElem? (i := 218) (by decide +kernel), List.mem_of_getElem? (i := 527) (by decide +kernel), List.mem_of_getElem? (i := 528) (by decide +kernel)⟩
theorem lw_p5 : lw_okq (⟨"HalfCourt$CaseReader", "lineMayStand", "()Z"⟩, 5) := ⟨⟨by decide +kernel, by decide +kernel⟩, List.mem_of_getElem? (i := 212) (by decide +kernel), List.mem_of_getElem? (i := 531) (by decide +kernel), List.mem_of_getElem? (i := 532) (by decide +kernel)⟩
theorem lw_p6 : lw_okq (⟨"HalfCourt$CaseReader", "refuse", "(I)Z"⟩, 5) := ⟨⟨by decide +kernel, by decide +kernel⟩, List.mem_of_getElem? (i := 212) (by decide +kernel), List.mem_of_getElem? (i := 539) (by decide +kernel), List.mem_of_getElem? (i := 540) (by decide +kernel)⟩
theorem lw_p7 : lw_okq (⟨"HalfCourt$CaseReader", "readLine", "()Z"⟩, 5) := ⟨⟨by decide +kernel, by decide +kernel⟩, List.mem_of_getElem? (i := 212) (by decide +kernel), List.mem_of_getElem? (i := 543) (by decide +kernel), List.mem_of_getElem? (i := 544) (by decide +kernel)⟩
theorem lw_p8 : lw_okq (⟨"HalfCourt$CaseReader", "readScene", "()Z"⟩, 5) := ⟨⟨by decide +kernel, by decide +kernel⟩, List.mem_of_getElem? (i := 212) (by decide +kernel), List.mem_of_getElem? (i := 548) (by decide +kernel), List.mem_of_getElem? (i := 549) (by decide +kernel)⟩
theorem lw_p9 : lw_okq (⟨"HalfCourt$CaseReader", "numberStands", "(II)Z"⟩, 5) := ⟨⟨by decide +kernel, by decide +kernel⟩, List.mem_of_getElem? (i := 212) (by decide +kernel), List.mem_of_getElem? (i := 552) (by decide +kernel), List.mem_of_getElem? (i := 553) (by decide +kernel)⟩
theorem lw_p10 : lw_okq (⟨"HalfCourt$CaseReader", "takenNumber", "()I"⟩, 5) := ⟨⟨by decide +kernel, by decide +kernel⟩, List.mem_of_getElem? (i := 212) (by decide +kernel), List.mem_of_getElem? (i := 556) (by decide +kernel), List.mem_of_getElem? (i := 557) (by decide +kernel)⟩
theorem lw_p11 : lw_okq (⟨"HalfCourt$CaseReader", "take", "(I)Z"⟩, 5) := ⟨⟨by decide +kernel, by decide +kernel⟩, List.mem_of_getElem? (i := 212) (by decide +kernel), List.mem_of_getElem? (i := 560) (by decide +kernel), List.mem_of_getElem? (i := 561) (by decide +kernel)⟩
theorem lw_p12 : lw_okq (⟨"HalfCourt$CaseReader", "readMinutes", "()Z"⟩, 5) := ⟨⟨by decide +kernel, by decide +kernel⟩, List.mem_of_getElem? (i := 212) (by decide +kernel), List.mem_of_getElem? (i := 564) (by decide +kernel), List.mem_of_getElem? (i := 565) (by decide +kernel)⟩
theorem lw_p13 : lw_okq (⟨"HalfCourt$CaseReader", "readWall", "()Z"⟩, 5) := ⟨⟨by decide +kernel, by decide +kernel⟩, List.mem_of_getElem? (i := 212) (by decide +kernel), List.mem_of_getElem? (i := 568) (by decide +kernel), List.mem_of_getElem? (i := 569) (by decide +kernel)⟩
theorem lw_p14 : lw_okq (⟨"HalfCourt$CaseReader", "readFog", "()Z"⟩, 5) := ⟨⟨by decide +kernel, by decide +kernel⟩, List.mem_of_getElem? (i := 212) (by decide +kernel), List.mem_of_getElem? (i := 583) (by decide +kernel), List.mem_of_getElem? (i := 584) (by decide +kernel)⟩
theorem lw_p15 : lw_okq (⟨"HalfCourt$CaseReader", "readName", "(LHalfCourt$Names;)Z"⟩, 5) := ⟨⟨by decide +kernel, by decide +kernel⟩, List.mem_of_getElem? (i := 212) (by decide +kernel), List.mem_of_getElem? (i := 587) (by decide +kernel), List.mem_of_getElem? (i := 588) (by decide +kernel)⟩
def lw_privs_1 : List (MethodName × Nat) := [(⟨"HalfCourt$Tokens", "sortBytes", "(Ljava/lang/String;I)V"⟩, 9), (⟨"HalfCourt", "putBytes", "(I)V"⟩, 9), (⟨"HalfCourt$Tokens", "pass", "(I)V"⟩, 9), (⟨"HalfCourt$Tokens", "takeWord", "()V"⟩, 9), (⟨"HalfCourt$Tokens", "takeNumber", "()V"⟩, 9), (⟨"HalfCourt$CaseReader", "lineMayStand", "()Z"⟩, 5), (⟨"HalfCourt$CaseReader", "refuse", "(I)Z"⟩, 5), (⟨"HalfCourt$CaseReader", "readLine", "()Z"⟩, 5), (⟨"HalfCourt$CaseReader", "readScene", "()Z"⟩, 5), (⟨"HalfCourt$CaseReader", "numberStands", "(II)Z"⟩, 5), (⟨"HalfCourt$CaseReader", "takenNumber", "()I"⟩, 5), (⟨"HalfCourt$CaseReader", "take", "(I)Z"⟩, 5), (⟨"HalfCourt$CaseReader", "readMinutes", "()Z"⟩, 5), (⟨"HalfCourt$CaseReader", "readWall", "()Z"⟩, 5), (⟨"HalfCourt$CaseReader", "readFog", "()Z"⟩, 5), (⟨"HalfCourt$CaseReader", "readName", "(LHalfCourt$Names;)Z"⟩, 5)]
theorem lw_r1 : ∀ q ∈ lw_privs_1, lw_okq q := List.forall_mem_cons.mpr ⟨lw_p0, List.forall_mem_cons.mpr ⟨lw_p1, List.forall_mem_cons.mpr ⟨lw_p2, List.forall_mem_cons.mpr ⟨lw_p3, List.forall_mem_cons.mpr ⟨lw_p4, List.forall_mem_cons.mpr ⟨lw_p5, List.forall_mem_cons.mpr ⟨lw_p6, List.forall_mem_cons.mpr ⟨lw_p7, List.forall_mem_cons.mpr ⟨lw_p8, List.forall_mem_cons.mpr ⟨lw_p9, List.forall_mem_cons.mpr ⟨lw_p10, List.forall_mem_cons.mpr ⟨lw_p11, List.forall_mem_cons.mpr ⟨lw_p12, List.forall_mem_cons.mpr ⟨lw_p13, List.forall_mem_cons.mpr ⟨lw_p14, List.forall_mem_cons.mpr ⟨lw_p15, fun _ h => absurd h List.not_mem_nil⟩⟩⟩⟩⟩⟩⟩⟩⟩⟩⟩⟩⟩⟩⟩⟩
theorem lw_p16 : lw_okq (⟨"HalfCourt$CaseReader", "readDeed", "()Z"⟩, 5) := ⟨⟨by decide +kernel, by decide +kernel⟩, List.mem_of_getElem? (i := 212) (by decide +kernel), List.mem_of_getElem? (i := 600) (by decide +kernel), List.mem_of_getElem? (i := 601) (by decide +kernel)⟩
theorem lw_p17 : lw_okq (⟨"HalfCourt$CaseReader", "readPlaced", "(I)Z"⟩, 5) := ⟨⟨by decide +kernel, by decide +kernel⟩, List.mem_of_getElem? (i := 212) (by decide +kernel), List.mem_of_getElem? (i := 604) (by decide +kernel), List.mem_of_getElem? (i := 605) (by decide +kernel)⟩
theorem lw_p18 : lw_okq (⟨"HalfCourt$CaseReader", "readPlace", "()Z"⟩, 5) := ⟨⟨by decide +kernel, by decide +kernel⟩, List.mem_of_getElem? (i := 212) (by decide +kernel), List.mem_of_getElem? (i := 612) (by decide +kernel), List.mem_of_getElem? (i := 613) (by decide +kernel)⟩
theorem lw_p19 : lw_okq (⟨"HalfCourt$CaseReader", "readTimes", "()Z"⟩, 5) := ⟨⟨by decide +kernel, by decide +kernel⟩, List.mem_of_getElem? (i := 212) (by decide +kernel), List.mem_of_getElem? (i := 616) (by decide +kernel), List.mem_of_getElem? (i := 617) (by decide +kernel)⟩
theorem lw_p20 : lw_okq (⟨"HalfCourt$CaseReader", "readEither", "(I)Z"⟩, 5) := ⟨⟨by decide +kernel, by decide +kernel⟩, List.mem_of_getElem? (i := 212) (by decide +kernel), List.mem_of_getElem? (i := 620) (by decide +kernel), List.mem_of_getElem? (i := 621) (by decide +kernel)⟩
theorem lw_p21 : lw_okq (⟨"HalfCourt$CaseReader", "readBoth", "(I)Z"⟩, 5) := ⟨⟨by decide +kernel, by decide +kernel⟩, List.mem_of_getElem? (i := 212) (by decide +kernel), List.mem_of_getElem? (i := 624) (by decide +kernel), List.mem_of_getElem? (i := 625) (by decide +kernel)⟩
theorem lw_p22 : lw_okq (⟨"HalfCourt$CaseReader", "readOne", "(I)Z"⟩, 5) := ⟨⟨by decide +kernel, by decide +kernel⟩, List.mem_of_getElem? (i := 212) (by decide +kernel), List.mem_of_getElem? (i := 628) (by decide +kernel), List.mem_of_getElem? (i := 629) (by decide +kernel)⟩
theorem lw_p23 : lw_okq (⟨"HalfCourt$CaseReader", "readSum", "(I)Z"⟩, 5) := ⟨⟨by decide +kernel, by decide +kernel⟩, List.mem_of_getElem? (i := 212) (by decide +kernel), List.mem_of_getElem? (i := 640) (by decide +kernel), List.mem_of_getElem? (i := 641) (by decide +kernel)⟩
theorem lw_p24 : lw_okq (⟨"HalfCourt$CaseReader", "readTerm", "(I)Z"⟩, 5) := ⟨⟨by decide +kernel, by decide +kernel⟩, List.mem_of_getElem? (i := 212) (by decide +kernel), List.mem_of_getElem? (i := 644) (by decide +kernel), List.mem_of_getElem? (i := 645) (by decide +kernel)⟩
theorem lw_p25 : lw_okq (⟨"HalfCourt$CaseReader", "readUnit", "(I)Z"⟩, 5) := ⟨⟨by decide +kernel, by decide +kernel⟩, List.mem_of_getElem? (i := 212) (by decide +kernel), List.mem_of_getElem? (i := 648) (by decide +kernel), List.mem_of_getElem? (i := 649) (by decide +kernel)⟩
theorem lw_p26 : lw_okq (⟨"HalfCourt$CaseReader", "readWithin", "(I)Z"⟩, 5) := ⟨⟨by decide +kernel, by decide +kernel⟩, List.mem_of_getElem? (i := 212) (by decide +kernel), List.mem_of_getElem? (i := 653) (by decide +kernel), List.mem_of_getElem? (i := 654) (by decide +kernel)⟩
theorem lw_p27 : lw_okq (⟨"HalfCourt$Hearing", "compareDeeds", "()V"⟩, 14) := ⟨⟨by decide +kernel, by decide +kernel⟩, List.mem_of_getElem? (i := 333) (by decide +kernel), List.mem_of_getElem? (i := 667) (by decide +kernel), List.mem_of_getElem? (i := 668) (by decide +kernel)⟩
theorem lw_p28 : lw_okq (⟨"HalfCourt$Hearing", "lookAround", "(ILHalfCourt$Look;)I"⟩, 14) := ⟨⟨by decide +kernel, by decide +kernel⟩, List.mem_of_getElem? (i := 333) (by decide +kernel), List.mem_of_getElem? (i := 679) (by decide +kernel), List.mem_of_getElem? (i := 680) (by decide +kernel)⟩
theorem lw_p29 : lw_okq (⟨"HalfCourt$CaseFile", "hasWallBetween", "(LHalfCourt$Look;III)Z"⟩, 14) := ⟨⟨by decide +kernel, by decide +kernel⟩, List.mem_of_getElem? (i := 30) (by decide +kernel), List.mem_of_getElem? (i := 695) (by decide +kernel), List.mem_of_getElem? (i := 696) (by decide +kernel)⟩
theorem lw_p30 : lw_okq (⟨"HalfCourt$Hearing", "pairsPartedBy", "(I)J"⟩, 14) := ⟨⟨by decide +kernel, by decide +kernel⟩, List.mem_of_getElem? (i := 333) (by decide +kernel), List.mem_of_getElem? (i := 707) (by decide +kernel), List.mem_of_getElem? (i := 708) (by decide +kernel)⟩
theorem lw_p31 : lw_okq (⟨"HalfCourt$Hearing", "saysUnlike", "(III)Z"⟩, 14) := ⟨⟨by decide +kernel, by decide +kernel⟩, List.mem_of_getElem? (i := 333) (by decide +kernel), List.mem_of_getElem? (i := 711) (by decide +kernel), List.mem_of_getElem? (i := 712) (by decide +kernel)⟩
def lw_privs_2 : List (MethodName × Nat) := [(⟨"HalfCourt$CaseReader", "readDeed", "()Z"⟩, 5), (⟨"HalfCourt$CaseReader", "readPlaced", "(I)Z"⟩, 5), (⟨"HalfCourt$CaseReader", "readPlace", "()Z"⟩, 5), (⟨"HalfCourt$CaseReader", "readTimes", "()Z"⟩, 5), (⟨"HalfCourt$CaseReader", "readEither", "(I)Z"⟩, 5), (⟨"HalfCourt$CaseReader", "readBoth", "(I)Z"⟩, 5), (⟨"HalfCourt$CaseReader", "readOne", "(I)Z"⟩, 5), (⟨"HalfCourt$CaseReader", "readSum", "(I)Z"⟩, 5), (⟨"HalfCourt$CaseReader", "readTerm", "(I)Z"⟩, 5), (⟨"HalfCourt$CaseReader", "readUnit", "(I)Z"⟩, 5), (⟨"HalfCourt$CaseReader", "readWithin", "(I)Z"⟩, 5), (⟨"HalfCourt$Hearing", "compareDeeds", "()V"⟩, 14), (⟨"HalfCourt$Hearing", "lookAround", "(ILHalfCourt$Look;)I"⟩, 14), (⟨"HalfCourt$CaseFile", "hasWallBetween", "(LHalfCourt$Look;III)Z"⟩, 14), (⟨"HalfCourt$Hearing", "pairsPartedBy", "(I)J"⟩, 14), (⟨"HalfCourt$Hearing", "saysUnlike", "(III)Z"⟩, 14)]
theorem lw_r2 : ∀ q ∈ lw_privs_2, lw_okq q := List.forall_mem_cons.mpr ⟨lw_p16, List.forall_mem_cons.mpr ⟨lw_p17, List.forall_mem_cons.mpr ⟨lw_p18, List.forall_mem_cons.mpr ⟨lw_p19, List.forall_mem_cons.mpr ⟨lw_p20, List.forall_mem_cons.mpr ⟨lw_p21, List.forall_mem_cons.mpr ⟨lw_p22, List.forall_mem_cons.mpr ⟨lw_p23, List.forall_mem_cons.mpr ⟨lw_p24, List.forall_mem_cons.mpr ⟨lw_p25, List.forall_mem_cons.mpr ⟨lw_p26, List.forall_mem_cons.mpr ⟨lw_p27, List.forall_mem_cons.mpr ⟨lw_p28, List.forall_mem_cons.mpr ⟨lw_p29, List.forall_mem_cons.mpr ⟨lw_p30, List.forall_mem_cons.mpr ⟨lw_p31, fun _ h => absurd h List.not_mem_nil⟩⟩⟩⟩⟩⟩⟩⟩⟩⟩⟩⟩⟩⟩⟩⟩
theorem lw_p32 : lw_okq (⟨"HalfCourt$Hearing", "hear", "(I)V"⟩, 14) := ⟨⟨by decide +kernel, by decide +kernel⟩, List.mem_of_getElem? (i := 333) (by decide +kernel), List.mem_of_getElem? (i := 738) (by decide +kernel), List.mem_of_getElem? (i := 739) (by decide +kernel)⟩
theorem lw_p33 : lw_okq (⟨"HalfCourt", "telling", "(IIZ)I"⟩, 9) := ⟨⟨by decide +kernel, by decide +kernel⟩, List.mem_of_getElem? (i := 22) (by decide +kernel), List.mem_of_getElem? (i := 808) (by decide +kernel), List.mem_of_getElem? (i := 809) (by decide +kernel)⟩
theorem lw_p34 : lw_okq (⟨"HalfCourt", "countUntrue", "(II)I"⟩, 9) := ⟨⟨by decide +kernel, by decide +kernel⟩, List.mem_of_getElem? (i := 22) (by decide +kernel), List.mem_of_getElem? (i := 825) (by decide +kernel), List.mem_of_getElem? (i := 826) (by decide +kernel)⟩
theorem lw_p35 : lw_okq (⟨"HalfCourt", "isUntrue", "(II)Z"⟩, 9) := ⟨⟨by decide +kernel, by decide +kernel⟩, List.mem_of_getElem? (i := 22) (by decide +kernel), List.mem_of_getElem? (i := 833) (by decide +kernel), List.mem_of_getElem? (i := 834) (by decide +kernel)⟩
theorem lw_p36 : lw_okq (⟨"HalfCourt", "liarBits", "(II)I"⟩, 9) := ⟨⟨by decide +kernel, by decide +kernel⟩, List.mem_of_getElem? (i := 22) (by decide +kernel), List.mem_of_getElem? (i := 841) (by decide +kernel), List.mem_of_getElem? (i := 842) (by decide +kernel)⟩
theorem lw_p37 : lw_okq (⟨"HalfCourt$Hearing", "keepBest", "(IIII)V"⟩, 14) := ⟨⟨by decide +kernel, by decide +kernel⟩, List.mem_of_getElem? (i := 333) (by decide +kernel), List.mem_of_getElem? (i := 913) (by decide +kernel), List.mem_of_getElem? (i := 914) (by decide +kernel)⟩
theorem lw_p38 : lw_okq (⟨"HalfCourt$Plans", "workOut", "()V"⟩, 5) := ⟨⟨by decide +kernel, by decide +kernel⟩, List.mem_of_getElem? (i := 394) (by decide +kernel), List.mem_of_getElem? (i := 929) (by decide +kernel), List.mem_of_getElem? (i := 930) (by decide +kernel)⟩
theorem lw_p39 : lw_okq (⟨"HalfCourt$Plans", "chooseFirst", "(I)V"⟩, 5) := ⟨⟨by decide +kernel, by decide +kernel⟩, List.mem_of_getElem? (i := 394) (by decide +kernel), List.mem_of_getElem? (i := 936) (by decide +kernel), List.mem_of_getElem? (i := 937) (by decide +kernel)⟩
theorem lw_p40 : lw_okq (⟨"HalfCourt$Plans", "greatestLeft", "(II[I)I"⟩, 5) := ⟨⟨by decide +kernel, by decide +kernel⟩, List.mem_of_getElem? (i := 394) (by decide +kernel), List.mem_of_getElem? (i := 941) (by decide +kernel), List.mem_of_getElem? (i := 942) (by decide +kernel)⟩
theorem lw_p41 : lw_okq (⟨"HalfCourt$Plans", "partAll", "(IJ)Z"⟩, 5) := ⟨⟨by decide +kernel, by decide +kernel⟩, List.mem_of_getElem? (i := 394) (by decide +kernel), List.mem_of_getElem? (i := 967) (by decide +kernel), List.mem_of_getElem? (i := 968) (by decide +kernel)⟩
theorem lw_p42 : lw_okq (⟨"HalfCourtModel", "clearBank", "()V"⟩, 67) := ⟨⟨by decide +kernel, by decide +kernel⟩, List.mem_of_getElem? (i := 1004) (by decide +kernel), List.mem_of_getElem? (i := 1010) (by decide +kernel), List.mem_of_getElem? (i := 1011) (by decide +kernel)⟩
theorem lw_p43 : lw_okq (⟨"HalfCourtModel", "lay", "()V"⟩, 67) := ⟨⟨by decide +kernel, by decide +kernel⟩, List.mem_of_getElem? (i := 1004) (by decide +kernel), List.mem_of_getElem? (i := 1014) (by decide +kernel), List.mem_of_getElem? (i := 1015) (by decide +kernel)⟩
theorem lw_p44 : lw_okq (⟨"HalfCourtModel", "witnessMany", "()I"⟩, 67) := ⟨⟨by decide +kernel, by decide +kernel⟩, List.mem_of_getElem? (i := 1004) (by decide +kernel), List.mem_of_getElem? (i := 1018) (by decide +kernel), List.mem_of_getElem? (i := 1019) (by decide +kernel)⟩
theorem lw_p45 : lw_okq (⟨"HalfCourtModel", "isCell", "(II)Z"⟩, 67) := ⟨⟨by decide +kernel, by decide +kernel⟩, List.mem_of_getElem? (i := 1004) (by decide +kernel), List.mem_of_getElem? (i := 1022) (by decide +kernel), List.mem_of_getElem? (i := 1023) (by decide +kernel)⟩
theorem lw_p46 : lw_okq (⟨"HalfCourtModel", "isMinute", "(I)Z"⟩, 67) := ⟨⟨by decide +kernel, by decide +kernel⟩, List.mem_of_getElem? (i := 1004) (by decide +kernel), List.mem_of_getElem? (i := 1029) (by decide +kernel), List.mem_of_getElem? (i := 1030) (by decide +kernel)⟩
theorem lw_p47 : lw_okq (⟨"HalfCourtModel", "edgeOf", "(IIII)I"⟩, 67) := ⟨⟨by decide +kernel, by decide +kernel⟩, List.mem_of_getElem? (i := 1004) (by decide +kernel), List.mem_of_getElem? (i := 1033) (by decide +kernel), List.mem_of_getElem? (i := 1034) (by decide +kernel)⟩
def lw_privs_3 : List (MethodName × Nat) := [(⟨"HalfCourt$Hearing", "hear", "(I)V"⟩, 14), (⟨"HalfCourt", "telling", "(IIZ)I"⟩, 9), (⟨"HalfCourt", "countUntrue", "(II)I"⟩, 9), (⟨"HalfCourt", "isUntrue", "(II)Z"⟩, 9), (⟨"HalfCourt", "liarBits", "(II)I"⟩, 9), (⟨"HalfCourt$Hearing", "keepBest", "(IIII)V"⟩, 14), (⟨"HalfCourt$Plans", "workOut", "()V"⟩, 5), (⟨"HalfCourt$Plans", "chooseFirst", "(I)V"⟩, 5), (⟨"HalfCourt$Plans", "greatestLeft", "(II[I)I"⟩, 5), (⟨"HalfCourt$Plans", "partAll", "(IJ)Z"⟩, 5), (⟨"HalfCourtModel", "clearBank", "()V"⟩, 67), (⟨"HalfCourtModel", "lay", "()V"⟩, 67), (⟨"HalfCourtModel", "witnessMany", "()I"⟩, 67), (⟨"HalfCourtModel", "isCell", "(II)Z"⟩, 67), (⟨"HalfCourtModel", "isMinute", "(I)Z"⟩, 67), (⟨"HalfCourtModel", "edgeOf", "(IIII)I"⟩, 67)]
theorem lw_r3 : ∀ q ∈ lw_privs_3, lw_okq q := List.forall_mem_cons.mpr ⟨lw_p32, List.forall_mem_cons.mpr ⟨lw_p33, List.forall_mem_cons.mpr ⟨lw_p34, List.forall_mem_cons.mpr ⟨lw_p35, List.forall_mem_cons.mpr ⟨lw_p36, List.forall_mem_cons.mpr ⟨lw_p37, List.forall_mem_cons.mpr ⟨lw_p38, List.forall_mem_cons.mpr ⟨lw_p39, List.forall_mem_cons.mpr ⟨lw_p40, List.forall_mem_cons.mpr ⟨lw_p41, List.forall_mem_cons.mpr ⟨lw_p42, List.forall_mem_cons.mpr ⟨lw_p43, List.forall_mem_cons.mpr ⟨lw_p44, List.forall_mem_cons.mpr ⟨lw_p45, List.forall_mem_cons.mpr ⟨lw_p46, List.forall_mem_cons.mpr ⟨lw_p47, fun _ h => absurd h List.not_mem_nil⟩⟩⟩⟩⟩⟩⟩⟩⟩⟩⟩⟩⟩⟩⟩⟩
theorem lw_p48 : lw_okq (⟨"HalfCourtModel", "edgeFrom", "(IIIIII)I"⟩, 67) := ⟨⟨by decide +kernel, by decide +kernel⟩, List.mem_of_getElem? (i := 1004) (by decide +kernel), List.mem_of_getElem? (i := 1037) (by decide +kernel), List.mem_of_getElem? (i := 1038) (by decide +kernel)⟩
theorem lw_p49 : lw_okq (⟨"HalfCourtModel", "isWallAt", "(II)Z"⟩, 67) := ⟨⟨by decide +kernel, by decide +kernel⟩, List.mem_of_getElem? (i := 1004) (by decide +kernel), List.mem_of_getElem? (i := 1053) (by decide +kernel), List.mem_of_getElem? (i := 1054) (by decide +kernel)⟩
theorem lw_p50 : lw_okq (⟨"HalfCourtModel", "mayBeHeard", "(II)Z"⟩, 67) := ⟨⟨by decide +kernel, by decide +kernel⟩, List.mem_of_getElem? (i := 1004) (by decide +kernel), List.mem_of_getElem? (i := 1057) (by decide +kernel), List.mem_of_getElem? (i := 1058) (by decide +kernel)⟩
theorem lw_p51 : lw_okq (⟨"HalfCourtModel", "deedMany", "()I"⟩, 67) := ⟨⟨by decide +kernel, by decide +kernel⟩, List.mem_of_getElem? (i := 1004) (by decide +kernel), List.mem_of_getElem? (i := 1067) (by decide +kernel), List.mem_of_getElem? (i := 1068) (by decide +kernel)⟩
theorem lw_p52 : lw_okq (⟨"HalfCourtModel", "saysUnlike", "(III)Z"⟩, 67) := ⟨⟨by decide +kernel, by decide +kernel⟩, List.mem_of_getElem? (i := 1004) (by decide +kernel), List.mem_of_getElem? (i := 1071) (by decide +kernel), List.mem_of_getElem? (i := 1072) (by decide +kernel)⟩
theorem lw_p53 : lw_okq (⟨"HalfCourtModel", "thingsAt", "(II)I"⟩, 67) := ⟨⟨by decide +kernel, by decide +kernel⟩, List.mem_of_getElem? (i := 1004) (by decide +kernel), List.mem_of_getElem? (i := 1075) (by decide +kernel), List.mem_of_getElem? (i := 1076) (by decide +kernel)⟩
theorem lw_p54 : lw_okq (⟨"HalfCourtModel", "goOn", "()V"⟩, 67) := ⟨⟨by decide +kernel, by decide +kernel⟩, List.mem_of_getElem? (i := 1004) (by decide +kernel), List.mem_of_getElem? (i := 1286) (by decide +kernel), List.mem_of_getElem? (i := 1287) (by decide +kernel)⟩
theorem lw_p55 : lw_okq (⟨"HalfCourtModel", "sign", "(I)I"⟩, 67) := ⟨⟨by decide +kernel, by decide +kernel⟩, List.mem_of_getElem? (i := 1004) (by decide +kernel), List.mem_of_getElem? (i := 1290) (by decide +kernel), List.mem_of_getElem? (i := 1291) (by decide +kernel)⟩
theorem lw_p56 : lw_okq (⟨"HalfCourtModel", "isGood", "()Z"⟩, 67) := ⟨⟨by decide +kernel, by decide +kernel⟩, List.mem_of_getElem? (i := 1004) (by decide +kernel), List.mem_of_getElem? (i := 1328) (by decide +kernel), List.mem_of_getElem? (i := 1329) (by decide +kernel)⟩
theorem lw_p57 : lw_okq (⟨"HalfCourtModel", "readLine", "()V"⟩, 67) := ⟨⟨by decide +kernel, by decide +kernel⟩, List.mem_of_getElem? (i := 1004) (by decide +kernel), List.mem_of_getElem? (i := 1332) (by decide +kernel), List.mem_of_getElem? (i := 1333) (by decide +kernel)⟩
theorem lw_p58 : lw_okq (⟨"HalfCourtModel", "isFull", "()Z"⟩, 67) := ⟨⟨by decide +kernel, by decide +kernel⟩, List.mem_of_getElem? (i := 1004) (by decide +kernel), List.mem_of_getElem? (i := 1336) (by decide +kernel), List.mem_of_getElem? (i := 1337) (by decide +kernel)⟩
theorem lw_p59 : lw_okq (⟨"HalfCourtModel", "isWord", "(J)Z"⟩, 67) := ⟨⟨by decide +kernel, by decide +kernel⟩, List.mem_of_getElem? (i := 1004) (by decide +kernel), List.mem_of_getElem? (i := 1340) (by decide +kernel), List.mem_of_getElem? (i := 1341) (by decide +kernel)⟩
theorem lw_p60 : lw_okq (⟨"HalfCourtModel", "misplaced", "()V"⟩, 67) := ⟨⟨by decide +kernel, by decide +kernel⟩, List.mem_of_getElem? (i := 1004) (by decide +kernel), List.mem_of_getElem? (i := 1344) (by decide +kernel), List.mem_of_getElem? (i := 1345) (by decide +kernel)⟩
theorem lw_p61 : lw_okq (⟨"HalfCourtModel", "fails", "(II)V"⟩, 67) := ⟨⟨by decide +kernel, by decide +kernel⟩, List.mem_of_getElem? (i := 1004) (by decide +kernel), List.mem_of_getElem? (i := 1348) (by decide +kernel), List.mem_of_getElem? (i := 1349) (by decide +kernel)⟩
theorem lw_p62 : lw_okq (⟨"HalfCourtModel", "numeral", "(II)I"⟩, 67) := ⟨⟨by decide +kernel, by decide +kernel⟩, List.mem_of_getElem? (i := 1004) (by decide +kernel), List.mem_of_getElem? (i := 1352) (by decide +kernel), List.mem_of_getElem? (i := 1353) (by decide +kernel)⟩
theorem lw_p63 : lw_okq (⟨"HalfCourtModel", "after", "(JII)I"⟩, 67) := ⟨⟨by decide +kernel, by decide +kernel⟩, List.mem_of_getElem? (i := 1004) (by decide +kernel), List.mem_of_getElem? (i := 1356) (by decide +kernel), List.mem_of_getElem? (i := 1357) (by decide +kernel)⟩
def lw_privs_4 : List (MethodName × Nat) := [(⟨"HalfCourtModel", "edgeFrom", "(IIIIII)I"⟩, 67), (⟨"HalfCourtModel", "isWallAt", "(II)Z"⟩, 67), (⟨"HalfCourtModel", "mayBeHeard", "(II)Z"⟩, 67), (⟨"HalfCourtModel", "deedMany", "()I"⟩, 67), (⟨"HalfCourtModel", "saysUnlike", "(III)Z"⟩, 67), (⟨"HalfCourtModel", "thingsAt", "(II)I"⟩, 67), (⟨"HalfCourtModel", "goOn", "()V"⟩, 67), (⟨"HalfCourtModel", "sign", "(I)I"⟩, 67), (⟨"HalfCourtModel", "isGood", "()Z"⟩, 67), (⟨"HalfCourtModel", "readLine", "()V"⟩, 67), (⟨"HalfCourtModel", "isFull", "()Z"⟩, 67), (⟨"HalfCourtModel", "isWord", "(J)Z"⟩, 67), (⟨"HalfCourtModel", "misplaced", "()V"⟩, 67), (⟨"HalfCourtModel", "fails", "(II)V"⟩, 67), (⟨"HalfCourtModel", "numeral", "(II)I"⟩, 67), (⟨"HalfCourtModel", "after", "(JII)I"⟩, 67)]
theorem lw_r4 : ∀ q ∈ lw_privs_4, lw_okq q := List.forall_mem_cons.mpr ⟨lw_p48, List.forall_mem_cons.mpr ⟨lw_p49, List.forall_mem_cons.mpr ⟨lw_p50, List.forall_mem_cons.mpr ⟨lw_p51, List.forall_mem_cons.mpr ⟨lw_p52, List.forall_mem_cons.mpr ⟨lw_p53, List.forall_mem_cons.mpr ⟨lw_p54, List.forall_mem_cons.mpr ⟨lw_p55, List.forall_mem_cons.mpr ⟨lw_p56, List.forall_mem_cons.mpr ⟨lw_p57, List.forall_mem_cons.mpr ⟨lw_p58, List.forall_mem_cons.mpr ⟨lw_p59, List.forall_mem_cons.mpr ⟨lw_p60, List.forall_mem_cons.mpr ⟨lw_p61, List.forall_mem_cons.mpr ⟨lw_p62, List.forall_mem_cons.mpr ⟨lw_p63, fun _ h => absurd h List.not_mem_nil⟩⟩⟩⟩⟩⟩⟩⟩⟩⟩⟩⟩⟩⟩⟩⟩
theorem lw_p64 : lw_okq (⟨"HalfCourtModel", "must", "(Z)V"⟩, 67) := ⟨⟨by decide +kernel, by decide +kernel⟩, List.mem_of_getElem? (i := 1004) (by decide +kernel), List.mem_of_getElem? (i := 1360) (by decide +kernel), List.mem_of_getElem? (i := 1361) (by decide +kernel)⟩
theorem lw_p65 : lw_okq (⟨"HalfCourtModel", "readWall", "()V"⟩, 67) := ⟨⟨by decide +kernel, by decide +kernel⟩, List.mem_of_getElem? (i := 1004) (by decide +kernel), List.mem_of_getElem? (i := 1364) (by decide +kernel), List.mem_of_getElem? (i := 1365) (by decide +kernel)⟩
theorem lw_p66 : lw_okq (⟨"HalfCourtModel", "readFog", "()V"⟩, 67) := ⟨⟨by decide +kernel, by decide +kernel⟩, List.mem_of_getElem? (i := 1004) (by decide +kernel), List.mem_of_getElem? (i := 1368) (by decide +kernel), List.mem_of_getElem? (i := 1369) (by decide +kernel)⟩
theorem lw_p67 : lw_okq (⟨"HalfCourtModel", "here", "([JII)I"⟩, 67) := ⟨⟨by decide +kernel, by decide +kernel⟩, List.mem_of_getElem? (i := 1004) (by decide +kernel), List.mem_of_getElem? (i := 1372) (by decide +kernel), List.mem_of_getElem? (i := 1373) (by decide +kernel)⟩
theorem lw_p68 : lw_okq (⟨"HalfCourtModel", "fresh", "(Z)J"⟩, 67) := ⟨⟨by decide +kernel, by decide +kernel⟩, List.mem_of_getElem? (i := 1004) (by decide +kernel), List.mem_of_getElem? (i := 1376) (by decide +kernel), List.mem_of_getElem? (i := 1377) (by decide +kernel)⟩
theorem lw_p69 : lw_okq (⟨"HalfCourtModel", "readDeed", "()V"⟩, 67) := ⟨⟨by decide +kernel, by decide +kernel⟩, List.mem_of_getElem? (i := 1004) (by decide +kernel), List.mem_of_getElem? (i := 1380) (by decide +kernel), List.mem_of_getElem? (i := 1381) (by decide +kernel)⟩
theorem lw_p70 : lw_okq (⟨"HalfCourtModel", "readThere", "(I)V"⟩, 67) := ⟨⟨by decide +kernel, by decide +kernel⟩, List.mem_of_getElem? (i := 1004) (by decide +kernel), List.mem_of_getElem? (i := 1384) (by decide +kernel), List.mem_of_getElem? (i := 1385) (by decide +kernel)⟩
theorem lw_p71 : lw_okq (⟨"HalfCourtModel", "readWitness", "()V"⟩, 67) := ⟨⟨by decide +kernel, by decide +kernel⟩, List.mem_of_getElem? (i := 1004) (by decide +kernel), List.mem_of_getElem? (i := 1388) (by decide +kernel), List.mem_of_getElem? (i := 1389) (by decide +kernel)⟩
theorem lw_p72 : lw_okq (⟨"HalfCourtModel", "sideHere", "()I"⟩, 67) := ⟨⟨by decide +kernel, by decide +kernel⟩, List.mem_of_getElem? (i := 1004) (by decide +kernel), List.mem_of_getElem? (i := 1392) (by decide +kernel), List.mem_of_getElem? (i := 1393) (by decide +kernel)⟩
theorem lw_p73 : lw_okq (⟨"HalfCourtModel", "readLaw", "()V"⟩, 67) := ⟨⟨by decide +kernel, by decide +kernel⟩, List.mem_of_getElem? (i := 1004) (by decide +kernel), List.mem_of_getElem? (i := 1396) (by decide +kernel), List.mem_of_getElem? (i := 1397) (by decide +kernel)⟩
theorem lw_p74 : lw_okq (⟨"HalfCourtModel", "e", "()V"⟩, 67) := ⟨⟨by decide +kernel, by decide +kernel⟩, List.mem_of_getElem? (i := 1004) (by decide +kernel), List.mem_of_getElem? (i := 1400) (by decide +kernel), List.mem_of_getElem? (i := 1401) (by decide +kernel)⟩
theorem lw_p75 : lw_okq (⟨"HalfCourtModel", "pushE", "(II)V"⟩, 67) := ⟨⟨by decide +kernel, by decide +kernel⟩, List.mem_of_getElem? (i := 1004) (by decide +kernel), List.mem_of_getElem? (i := 1404) (by decide +kernel), List.mem_of_getElem? (i := 1405) (by decide +kernel)⟩
theorem lw_p76 : lw_okq (⟨"HalfCourtModel", "unit", "()Z"⟩, 67) := ⟨⟨by decide +kernel, by decide +kernel⟩, List.mem_of_getElem? (i := 1004) (by decide +kernel), List.mem_of_getElem? (i := 1408) (by decide +kernel), List.mem_of_getElem? (i := 1409) (by decide +kernel)⟩
theorem lw_p77 : lw_okq (⟨"HalfCourtModel", "isSignHere", "(I)Z"⟩, 67) := ⟨⟨by decide +kernel, by decide +kernel⟩, List.mem_of_getElem? (i := 1004) (by decide +kernel), List.mem_of_getElem? (i := 1412) (by decide +kernel), List.mem_of_getElem? (i := 1413) (by decide +kernel)⟩
theorem lw_p78 : lw_okq (⟨"HalfCourtModel", "wordHere", "()I"⟩, 67) := ⟨⟨by decide +kernel, by decide +kernel⟩, List.mem_of_getElem? (i := 1004) (by decide +kernel), List.mem_of_getElem? (i := 1416) (by decide +kernel), List.mem_of_getElem? (i := 1417) (by decide +kernel)⟩
theorem lw_p79 : lw_okq (⟨"HalfCourtModel", "emit", "(II)V"⟩, 67) := ⟨⟨by decide +kernel, by decide +kernel⟩, List.mem_of_getElem? (i := 1004) (by decide +kernel), List.mem_of_getElem? (i := 1420) (by decide +kernel), List.mem_of_getElem? (i := 1421) (by decide +kernel)⟩
def lw_privs_5 : List (MethodName × Nat) := [(⟨"HalfCourtModel", "must", "(Z)V"⟩, 67), (⟨"HalfCourtModel", "readWall", "()V"⟩, 67), (⟨"HalfCourtModel", "readFog", "()V"⟩, 67), (⟨"HalfCourtModel", "here", "([JII)I"⟩, 67), (⟨"HalfCourtModel", "fresh", "(Z)J"⟩, 67), (⟨"HalfCourtModel", "readDeed", "()V"⟩, 67), (⟨"HalfCourtModel", "readThere", "(I)V"⟩, 67), (⟨"HalfCourtModel", "readWitness", "()V"⟩, 67), (⟨"HalfCourtModel", "sideHere", "()I"⟩, 67), (⟨"HalfCourtModel", "readLaw", "()V"⟩, 67), (⟨"HalfCourtModel", "e", "()V"⟩, 67), (⟨"HalfCourtModel", "pushE", "(II)V"⟩, 67), (⟨"HalfCourtModel", "unit", "()Z"⟩, 67), (⟨"HalfCourtModel", "isSignHere", "(I)Z"⟩, 67), (⟨"HalfCourtModel", "wordHere", "()I"⟩, 67), (⟨"HalfCourtModel", "emit", "(II)V"⟩, 67)]
theorem lw_r5 : ∀ q ∈ lw_privs_5, lw_okq q := List.forall_mem_cons.mpr ⟨lw_p64, List.forall_mem_cons.mpr ⟨lw_p65, List.forall_mem_cons.mpr ⟨lw_p66, List.forall_mem_cons.mpr ⟨lw_p67, List.forall_mem_cons.mpr ⟨lw_p68, List.forall_mem_cons.mpr ⟨lw_p69, List.forall_mem_cons.mpr ⟨lw_p70, List.forall_mem_cons.mpr ⟨lw_p71, List.forall_mem_cons.mpr ⟨lw_p72, List.forall_mem_cons.mpr ⟨lw_p73, List.forall_mem_cons.mpr ⟨lw_p74, List.forall_mem_cons.mpr ⟨lw_p75, List.forall_mem_cons.mpr ⟨lw_p76, List.forall_mem_cons.mpr ⟨lw_p77, List.forall_mem_cons.mpr ⟨lw_p78, List.forall_mem_cons.mpr ⟨lw_p79, fun _ h => absurd h List.not_mem_nil⟩⟩⟩⟩⟩⟩⟩⟩⟩⟩⟩⟩⟩⟩⟩⟩
theorem lw_p80 : lw_okq (⟨"HalfCourtModel", "behindUnit", "()Z"⟩, 67) := ⟨⟨by decide +kernel, by decide +kernel⟩, List.mem_of_getElem? (i := 1004) (by decide +kernel), List.mem_of_getElem? (i := 1424) (by decide +kernel), List.mem_of_getElem? (i := 1425) (by decide +kernel)⟩
theorem lw_p81 : lw_okq (⟨"HalfCourtModel", "rankHere", "()I"⟩, 67) := ⟨⟨by decide +kernel, by decide +kernel⟩, List.mem_of_getElem? (i := 1004) (by decide +kernel), List.mem_of_getElem? (i := 1428) (by decide +kernel), List.mem_of_getElem? (i := 1429) (by decide +kernel)⟩
theorem lw_p82 : lw_okq (⟨"HalfCourtModel", "isCompared", "()Z"⟩, 67) := ⟨⟨by decide +kernel, by decide +kernel⟩, List.mem_of_getElem? (i := 1004) (by decide +kernel), List.mem_of_getElem? (i := 1432) (by decide +kernel), List.mem_of_getElem? (i := 1433) (by decide +kernel)⟩
theorem lw_p83 : lw_okq (⟨"HalfCourtModel", "isWitness", "(I)Z"⟩, 67) := ⟨⟨by decide +kernel, by decide +kernel⟩, List.mem_of_getElem? (i := 1004) (by decide +kernel), List.mem_of_getElem? (i := 1444) (by decide +kernel), List.mem_of_getElem? (i := 1445) (by decide +kernel)⟩
theorem lw_p84 : lw_okq (⟨"HalfCourtModel", "isPlace", "(III)Z"⟩, 67) := ⟨⟨by decide +kernel, by decide +kernel⟩, List.mem_of_getElem? (i := 1004) (by decide +kernel), List.mem_of_getElem? (i := 1448) (by decide +kernel), List.mem_of_getElem? (i := 1449) (by decide +kernel)⟩
theorem lw_p85 : lw_okq (⟨"HalfCourtModel", "isDeed", "(I)Z"⟩, 67) := ⟨⟨by decide +kernel, by decide +kernel⟩, List.mem_of_getElem? (i := 1004) (by decide +kernel), List.mem_of_getElem? (i := 1460) (by decide +kernel), List.mem_of_getElem? (i := 1461) (by decide +kernel)⟩
theorem lw_p86 : lw_okq (⟨"HalfCourtModel", "add", "(III)V"⟩, 67) := ⟨⟨by decide +kernel, by decide +kernel⟩, List.mem_of_getElem? (i := 1004) (by decide +kernel), List.mem_of_getElem? (i := 1471) (by decide +kernel), List.mem_of_getElem? (i := 1472) (by decide +kernel)⟩
theorem lw_p87 : lw_okq (⟨"HalfCourtModel", "wrongMany", "(II)I"⟩, 67) := ⟨⟨by decide +kernel, by decide +kernel⟩, List.mem_of_getElem? (i := 1004) (by decide +kernel), List.mem_of_getElem? (i := 1492) (by decide +kernel), List.mem_of_getElem? (i := 1493) (by decide +kernel)⟩
theorem lw_p88 : lw_okq (⟨"HalfCourtModel", "counts", "(II)Z"⟩, 67) := ⟨⟨by decide +kernel, by decide +kernel⟩, List.mem_of_getElem? (i := 1004) (by decide +kernel), List.mem_of_getElem? (i := 1496) (by decide +kernel), List.mem_of_getElem? (i := 1497) (by decide +kernel)⟩
theorem lw_p89 : lw_okq (⟨"HalfCourtModel", "liarsOf", "(II)I"⟩, 67) := ⟨⟨by decide +kernel, by decide +kernel⟩, List.mem_of_getElem? (i := 1004) (by decide +kernel), List.mem_of_getElem? (i := 1504) (by decide +kernel), List.mem_of_getElem? (i := 1505) (by decide +kernel)⟩
theorem lw_p90 : lw_okq (⟨"HalfCourtModel", "leastBy", "(ZII)I"⟩, 67) := ⟨⟨by decide +kernel, by decide +kernel⟩, List.mem_of_getElem? (i := 1004) (by decide +kernel), List.mem_of_getElem? (i := 1512) (by decide +kernel), List.mem_of_getElem? (i := 1513) (by decide +kernel)⟩
theorem lw_p91 : lw_okq (⟨"HalfCourtModel", "useOf", "(III)I"⟩, 67) := ⟨⟨by decide +kernel, by decide +kernel⟩, List.mem_of_getElem? (i := 1004) (by decide +kernel), List.mem_of_getElem? (i := 1544) (by decide +kernel), List.mem_of_getElem? (i := 1545) (by decide +kernel)⟩
theorem lw_p92 : lw_okq (⟨"HalfCourtModel", "seatParts", "(II)Z"⟩, 67) := ⟨⟨by decide +kernel, by decide +kernel⟩, List.mem_of_getElem? (i := 1004) (by decide +kernel), List.mem_of_getElem? (i := 1548) (by decide +kernel), List.mem_of_getElem? (i := 1549) (by decide +kernel)⟩
theorem lw_p93 : lw_okq (⟨"HalfCourtModel", "isSet", "(I)Z"⟩, 67) := ⟨⟨by decide +kernel, by decide +kernel⟩, List.mem_of_getElem? (i := 1004) (by decide +kernel), List.mem_of_getElem? (i := 1569) (by decide +kernel), List.mem_of_getElem? (i := 1570) (by decide +kernel)⟩
theorem lw_p94 : lw_okq (⟨"HalfCourtModel", "doesList", "(II)Z"⟩, 67) := ⟨⟨by decide +kernel, by decide +kernel⟩, List.mem_of_getElem? (i := 1004) (by decide +kernel), List.mem_of_getElem? (i := 1573) (by decide +kernel), List.mem_of_getElem? (i := 1574) (by decide +kernel)⟩
theorem lw_p95 : lw_okq (⟨"HalfCourtModel", "layRounds", "(I)V"⟩, 67) := ⟨⟨by decide +kernel, by decide +kernel⟩, List.mem_of_getElem? (i := 1004) (by decide +kernel), List.mem_of_getElem? (i := 1581) (by decide +kernel), List.mem_of_getElem? (i := 1582) (by decide +kernel)⟩
def lw_privs_6 : List (MethodName × Nat) := [(⟨"HalfCourtModel", "behindUnit", "()Z"⟩, 67), (⟨"HalfCourtModel", "rankHere", "()I"⟩, 67), (⟨"HalfCourtModel", "isCompared", "()Z"⟩, 67), (⟨"HalfCourtModel", "isWitness", "(I)Z"⟩, 67), (⟨"HalfCourtModel", "isPlace", "(III)Z"⟩, 67), (⟨"HalfCourtModel", "isDeed", "(I)Z"⟩, 67), (⟨"HalfCourtModel", "add", "(III)V"⟩, 67), (⟨"HalfCourtModel", "wrongMany", "(II)I"⟩, 67), (⟨"HalfCourtModel", "counts", "(II)Z"⟩, 67), (⟨"HalfCourtModel", "liarsOf", "(II)I"⟩, 67), (⟨"HalfCourtModel", "leastBy", "(ZII)I"⟩, 67), (⟨"HalfCourtModel", "useOf", "(III)I"⟩, 67), (⟨"HalfCourtModel", "seatParts", "(II)Z"⟩, 67), (⟨"HalfCourtModel", "isSet", "(I)Z"⟩, 67), (⟨"HalfCourtModel", "doesList", "(II)Z"⟩, 67), (⟨"HalfCourtModel", "layRounds", "(I)V"⟩, 67)]
theorem lw_r6 : ∀ q ∈ lw_privs_6, lw_okq q := List.forall_mem_cons.mpr ⟨lw_p80, List.forall_mem_cons.mpr ⟨lw_p81, List.forall_mem_cons.mpr ⟨lw_p82, List.forall_mem_cons.mpr ⟨lw_p83, List.forall_mem_cons.mpr ⟨lw_p84, List.forall_mem_cons.mpr ⟨lw_p85, List.forall_mem_cons.mpr ⟨lw_p86, List.forall_mem_cons.mpr ⟨lw_p87, List.forall_mem_cons.mpr ⟨lw_p88, List.forall_mem_cons.mpr ⟨lw_p89, List.forall_mem_cons.mpr ⟨lw_p90, List.forall_mem_cons.mpr ⟨lw_p91, List.forall_mem_cons.mpr ⟨lw_p92, List.forall_mem_cons.mpr ⟨lw_p93, List.forall_mem_cons.mpr ⟨lw_p94, List.forall_mem_cons.mpr ⟨lw_p95, fun _ h => absurd h List.not_mem_nil⟩⟩⟩⟩⟩⟩⟩⟩⟩⟩⟩⟩⟩⟩⟩⟩
theorem lw_p96 : lw_okq (⟨"HalfCourtModel", "canPart", "(II)Z"⟩, 67) := ⟨⟨by decide +kernel, by decide +kernel⟩, List.mem_of_getElem? (i := 1004) (by decide +kernel), List.mem_of_getElem? (i := 1585) (by decide +kernel), List.mem_of_getElem? (i := 1586) (by decide +kernel)⟩
theorem lw_p97 : lw_okq (⟨"HalfCourtModel", "worstLeft", "([III)I"⟩, 67) := ⟨⟨by decide +kernel, by decide +kernel⟩, List.mem_of_getElem? (i := 1004) (by decide +kernel), List.mem_of_getElem? (i := 1589) (by decide +kernel), List.mem_of_getElem? (i := 1590) (by decide +kernel)⟩
def lw_privs_7 : List (MethodName × Nat) := [(⟨"HalfCourtModel", "canPart", "(II)Z"⟩, 67), (⟨"HalfCourtModel", "worstLeft", "([III)I"⟩, 67)]
theorem lw_r7 : ∀ q ∈ lw_privs_7, lw_okq q := List.forall_mem_cons.mpr ⟨lw_p96, List.forall_mem_cons.mpr ⟨lw_p97, fun _ h => absurd h List.not_mem_nil⟩⟩
def lw_privs : List (MethodName × Nat) := lw_privs_1 ++ (lw_privs_2 ++ (lw_privs_3 ++ (lw_privs_4 ++ (lw_privs_5 ++ (lw_privs_6 ++ (lw_privs_7))))))
def lw_tbl : List Cond := k2_sels lw_privs ++ tables_1
theorem lw_privs_ok : ∀ q ∈ lw_privs, lw_okq q := by
  show ∀ q ∈ lw_privs_1 ++ (lw_privs_2 ++ (lw_privs_3 ++ (lw_privs_4 ++ (lw_privs_5 ++ (lw_privs_6 ++ (lw_privs_7)))))), lw_okq q
  exact List.forall_mem_append.mpr ⟨lw_r1, List.forall_mem_append.mpr ⟨lw_r2, List.forall_mem_append.mpr ⟨lw_r3, List.forall_mem_append.mpr ⟨lw_r4, List.forall_mem_append.mpr ⟨lw_r5, List.forall_mem_append.mpr ⟨lw_r6, lw_r7⟩⟩⟩⟩⟩⟩
def RX0 : String := "HalfCourt$CaseFile"
def TX0 : u_T := fun k => match k with
  | 0 => ("HalfCourt$CaseFile", "across", "I", false)
  | 1 => ("HalfCourt$CaseFile", "up", "I", false)
  | 2 => ("HalfCourt$CaseFile", "minutes", "I", false)
  | 3 => ("HalfCourt$CaseFile", "wallCount", "I", false)
  | 4 => ("HalfCourt$CaseFile", "fogCount", "I", false)
  | 5 => ("HalfCourt$CaseFile", "placed", "I", false)
  | 6 => ("HalfCourt$CaseFile", "walls", "J", false)
  | 7 => ("HalfCourt$CaseFile", "far", "[I", true)
  | 8 => ("HalfCourt$CaseFile", "things", "LHalfCourt$Names;", true)
  | 9 => ("HalfCourt$CaseFile", "deeds", "LHalfCourt$Names;", true)
  | 10 => ("HalfCourt$CaseFile", "witnesses", "LHalfCourt$Names;", true)
  | 11 => ("HalfCourt$CaseFile", "where", "[I", true)
  | 12 => ("HalfCourt$CaseFile", "looks", "[LHalfCourt$Look;", true)
  | _ => ("HalfCourt$CaseFile", "law", "LHalfCourt$Law;", true)
def tyX0 : Nat → FieldType := fun k => match k with
  | 0 => .int
  | 1 => .int
  | 2 => .int
  | 3 => .int
  | 4 => .int
  | 5 => .int
  | 6 => .long
  | 7 => .array .int
  | 8 => .object "HalfCourt$Names"
  | 9 => .object "HalfCourt$Names"
  | 10 => .object "HalfCourt$Names"
  | 11 => .array .int
  | 12 => .array (.object "HalfCourt$Look")
  | _ => .object "HalfCourt$Law"
abbrev wsX00 : List Cond := u_ws RX0 TX0 14
theorem nmX0 : ∀ a, a < 14 → ∀ b, b < 14 → a ≠ b → (TX0 a).2.1 ≠ (TX0 b).2.1 := by decide +kernel
theorem tyX0_ok : ∀ k, k < 14 → parseFieldDescriptor (TX0 k).2.2.1 = some (tyX0 k) := by decide +kernel
abbrev cX0_init : ByteArray := prog_2_method_1_code
def yX0_init : MethodName := ⟨RX0, "<init>", "()V"⟩
abbrev cX0_clear : ByteArray := prog_2_method_2_code
def yX0_clear : MethodName := ⟨RX0, "clear", "()V"⟩
abbrev cX0_whereIndex : ByteArray := prog_2_method_3_code
def yX0_whereIndex : MethodName := ⟨RX0, "whereIndex", "(III)I"⟩
abbrev cX0_hasWitness : ByteArray := prog_2_method_4_code
def yX0_hasWitness : MethodName := ⟨RX0, "hasWitness", "(I)Z"⟩
abbrev cX0_hasDeed : ByteArray := prog_2_method_5_code
def yX0_hasDeed : MethodName := ⟨RX0, "hasDeed", "(I)Z"⟩
abbrev cX0_hasDeeds : ByteArray := prog_2_method_6_code
def yX0_hasDeeds : MethodName := ⟨RX0, "hasDeeds", "(I)Z"⟩
abbrev cX0_hasCell : ByteArray := prog_2_method_7_code
def yX0_hasCell : MethodName := ⟨RX0, "hasCell", "(II)Z"⟩
abbrev cX0_hasMinute : ByteArray := prog_2_method_8_code
def yX0_hasMinute : MethodName := ⟨RX0, "hasMinute", "(I)Z"⟩
abbrev cX0_hasSpot : ByteArray := prog_2_method_9_code
def yX0_hasSpot : MethodName := ⟨RX0, "hasSpot", "(III)Z"⟩
abbrev cX0_hasWall : ByteArray := prog_2_method_10_code
def yX0_hasWall : MethodName := ⟨RX0, "hasWall", "(II)Z"⟩
abbrev cX0_build : ByteArray := prog_2_method_11_code
def yX0_build : MethodName := ⟨RX0, "build", "(II)V"⟩
abbrev cX0_thingsAt : ByteArray := prog_2_method_12_code
def yX0_thingsAt : MethodName := ⟨RX0, "thingsAt", "(III)I"⟩
abbrev cX0_unlikeCells : ByteArray := prog_2_method_13_code
def yX0_unlikeCells : MethodName := ⟨RX0, "unlikeCells", "(III)J"⟩
abbrev cX0_hindrance : ByteArray := prog_2_method_14_code
def yX0_hindrance : MethodName := ⟨RX0, "hindrance", "(LHalfCourt$Look;III)I"⟩
abbrev cX0_hasWallBetween : ByteArray := prog_2_method_15_code
def yX0_hasWallBetween : MethodName := ⟨RX0, "hasWallBetween", "(LHalfCourt$Look;III)Z"⟩
abbrev cX0_mayHear : ByteArray := prog_2_method_16_code
def yX0_mayHear : MethodName := ⟨RX0, "mayHear", "(II)Z"⟩
def RX1 : String := "HalfCourt$CaseReader"
def TX1 : u_T := fun k => match k with
  | 0 => ("HalfCourt$CaseReader", "tokens", "LHalfCourt$Tokens;", true)
  | 1 => ("HalfCourt$CaseReader", "file", "LHalfCourt$CaseFile;", false)
  | 2 => ("HalfCourt$CaseReader", "look", "LHalfCourt$Look;", false)
  | 3 => ("HalfCourt$CaseReader", "found", "I", false)
  | _ => ("HalfCourt$CaseReader", "place", "I", false)
def tyX1 : Nat → FieldType := fun k => match k with
  | 0 => .object "HalfCourt$Tokens"
  | 1 => .object "HalfCourt$CaseFile"
  | 2 => .object "HalfCourt$Look"
  | 3 => .int
  | _ => .int
abbrev wsX10 : List Cond := u_ws RX1 TX1 5
theorem nmX1 : ∀ a, a < 5 → ∀ b, b < 5 → a ≠ b → (TX1 a).2.1 ≠ (TX1 b).2.1 := by decide +kernel
theorem tyX1_ok : ∀ k, k < 5 → parseFieldDescriptor (TX1 k).2.2.1 = some (tyX1 k) := by decide +kernel
abbrev cX1_init : ByteArray := prog_3_method_1_code
def yX1_init : MethodName := ⟨RX1, "<init>", "(LHalfCourt$CaseFile;)V"⟩
abbrev cX1_read : ByteArray := prog_3_method_2_code
def yX1_read : MethodName := ⟨RX1, "read", "([BILHalfCourt$CaseFile;)Z"⟩
abbrev cX1_readLine : ByteArray := prog_3_method_3_code
def yX1_readLine : MethodName := ⟨RX1, "readLine", "()Z"⟩
abbrev cX1_lineMayStand : ByteArray := prog_3_method_4_code
def yX1_lineMayStand : MethodName := ⟨RX1, "lineMayStand", "()Z"⟩
abbrev cX1_readScene : ByteArray := prog_3_method_5_code
def yX1_readScene : MethodName := ⟨RX1, "readScene", "()Z"⟩
abbrev cX1_readMinutes : ByteArray := prog_3_method_6_code
def yX1_readMinutes : MethodName := ⟨RX1, "readMinutes", "()Z"⟩
abbrev cX1_readWall : ByteArray := prog_3_method_7_code
def yX1_readWall : MethodName := ⟨RX1, "readWall", "()Z"⟩
abbrev cX1_readFog : ByteArray := prog_3_method_8_code
def yX1_readFog : MethodName := ⟨RX1, "readFog", "()Z"⟩
abbrev cX1_readName : ByteArray := prog_3_method_9_code
def yX1_readName : MethodName := ⟨RX1, "readName", "(LHalfCourt$Names;)Z"⟩
abbrev cX1_readDeed : ByteArray := prog_3_method_10_code
def yX1_readDeed : MethodName := ⟨RX1, "readDeed", "()Z"⟩
abbrev cX1_readPlaced : ByteArray := prog_3_method_11_code
def yX1_readPlaced : MethodName := ⟨RX1, "readPlaced", "(I)Z"⟩
abbrev cX1_readPlace : ByteArray := prog_3_method_12_code
def yX1_readPlace : MethodName := ⟨RX1, "readPlace", "()Z"⟩
abbrev cX1_readTimes : ByteArray := prog_3_method_13_code
def yX1_readTimes : MethodName := ⟨RX1, "readTimes", "()Z"⟩
abbrev cX1_readEither : ByteArray := prog_3_method_14_code
def yX1_readEither : MethodName := ⟨RX1, "readEither", "(I)Z"⟩
abbrev cX1_readBoth : ByteArray := prog_3_method_15_code
def yX1_readBoth : MethodName := ⟨RX1, "readBoth", "(I)Z"⟩
abbrev cX1_readOne : ByteArray := prog_3_method_16_code
def yX1_readOne : MethodName := ⟨RX1, "readOne", "(I)Z"⟩
abbrev cX1_readSum : ByteArray := prog_3_method_17_code
def yX1_readSum : MethodName := ⟨RX1, "readSum", "(I)Z"⟩
abbrev cX1_readTerm : ByteArray := prog_3_method_18_code
def yX1_readTerm : MethodName := ⟨RX1, "readTerm", "(I)Z"⟩
abbrev cX1_isTermSign : ByteArray := prog_3_method_19_code
def yX1_isTermSign : MethodName := ⟨RX1, "isTermSign", "(I)Z"⟩
abbrev cX1_readUnit : ByteArray := prog_3_method_20_code
def yX1_readUnit : MethodName := ⟨RX1, "readUnit", "(I)Z"⟩
abbrev cX1_readWithin : ByteArray := prog_3_method_21_code
def yX1_readWithin : MethodName := ⟨RX1, "readWithin", "(I)Z"⟩
abbrev cX1_take : ByteArray := prog_3_method_22_code
def yX1_take : MethodName := ⟨RX1, "take", "(I)Z"⟩
abbrev cX1_numberStands : ByteArray := prog_3_method_23_code
def yX1_numberStands : MethodName := ⟨RX1, "numberStands", "(II)Z"⟩
abbrev cX1_takenNumber : ByteArray := prog_3_method_24_code
def yX1_takenNumber : MethodName := ⟨RX1, "takenNumber", "()I"⟩
abbrev cX1_refuse : ByteArray := prog_3_method_25_code
def yX1_refuse : MethodName := ⟨RX1, "refuse", "(I)Z"⟩
def RX2 : String := "HalfCourt$Hearing"
def TX2 : u_T := fun k => match k with
  | 0 => ("HalfCourt$Hearing", "file", "LHalfCourt$CaseFile;", false)
  | 1 => ("HalfCourt$Hearing", "sight", "[J", true)
  | 2 => ("HalfCourt$Hearing", "seen", "[J", true)
  | 3 => ("HalfCourt$Hearing", "unlike", "[J", true)
  | 4 => ("HalfCourt$Hearing", "guest", "LHalfCourt$Look;", true)
  | 5 => ("HalfCourt$Hearing", "heard", "I", false)
  | 6 => ("HalfCourt$Hearing", "bestKnown", "Z", false)
  | 7 => ("HalfCourt$Hearing", "sees", "[I", true)
  | 8 => ("HalfCourt$Hearing", "partedBy", "[J", true)
  | 9 => ("HalfCourt$Hearing", "parted", "J", false)
  | 10 => ("HalfCourt$Hearing", "bestX", "I", false)
  | 11 => ("HalfCourt$Hearing", "bestY", "I", false)
  | 12 => ("HalfCourt$Hearing", "bestSide", "I", false)
  | _ => ("HalfCourt$Hearing", "bestUse", "I", false)
def tyX2 : Nat → FieldType := fun k => match k with
  | 0 => .object "HalfCourt$CaseFile"
  | 1 => .array .long
  | 2 => .array .long
  | 3 => .array .long
  | 4 => .object "HalfCourt$Look"
  | 5 => .int
  | 6 => .boolean
  | 7 => .array .int
  | 8 => .array .long
  | 9 => .long
  | 10 => .int
  | 11 => .int
  | 12 => .int
  | _ => .int
abbrev wsX20 : List Cond := u_ws RX2 TX2 14
theorem nmX2 : ∀ a, a < 14 → ∀ b, b < 14 → a ≠ b → (TX2 a).2.1 ≠ (TX2 b).2.1 := by decide +kernel
theorem tyX2_ok : ∀ k, k < 14 → parseFieldDescriptor (TX2 k).2.2.1 = some (tyX2 k) := by decide +kernel
abbrev cX2_init : ByteArray := prog_4_method_1_code
def yX2_init : MethodName := ⟨RX2, "<init>", "(LHalfCourt$CaseFile;)V"⟩
abbrev cX2_hold : ByteArray := prog_4_method_2_code
def yX2_hold : MethodName := ⟨RX2, "hold", "(LHalfCourt$CaseFile;)V"⟩
abbrev cX2_compareDeeds : ByteArray := prog_4_method_3_code
def yX2_compareDeeds : MethodName := ⟨RX2, "compareDeeds", "()V"⟩
abbrev cX2_unlikeIndex : ByteArray := prog_4_method_4_code
def yX2_unlikeIndex : MethodName := ⟨RX2, "unlikeIndex", "(III)I"⟩
abbrev cX2_lookAround : ByteArray := prog_4_method_5_code
def yX2_lookAround : MethodName := ⟨RX2, "lookAround", "(ILHalfCourt$Look;)I"⟩
abbrev cX2_pairsPartedBy : ByteArray := prog_4_method_6_code
def yX2_pairsPartedBy : MethodName := ⟨RX2, "pairsPartedBy", "(I)J"⟩
abbrev cX2_saysUnlike : ByteArray := prog_4_method_7_code
def yX2_saysUnlike : MethodName := ⟨RX2, "saysUnlike", "(III)Z"⟩
abbrev cX2_hear : ByteArray := prog_4_method_8_code
def yX2_hear : MethodName := ⟨RX2, "hear", "(I)V"⟩
abbrev cX2_isHeard : ByteArray := prog_4_method_9_code
def yX2_isHeard : MethodName := ⟨RX2, "isHeard", "(I)Z"⟩
abbrev cX2_sawCell : ByteArray := prog_4_method_10_code
def yX2_sawCell : MethodName := ⟨RX2, "sawCell", "(III)Z"⟩
abbrev cX2_countUnlike : ByteArray := prog_4_method_11_code
def yX2_countUnlike : MethodName := ⟨RX2, "countUnlike", "(II)I"⟩
abbrev cX2_countBlind : ByteArray := prog_4_method_12_code
def yX2_countBlind : MethodName := ⟨RX2, "countBlind", "(I)I"⟩
abbrev cX2_useOf : ByteArray := prog_4_method_13_code
def yX2_useOf : MethodName := ⟨RX2, "useOf", "(III)I"⟩
abbrev cX2_findBest : ByteArray := prog_4_method_14_code
def yX2_findBest : MethodName := ⟨RX2, "findBest", "()Z"⟩
abbrev cX2_keepBest : ByteArray := prog_4_method_15_code
def yX2_keepBest : MethodName := ⟨RX2, "keepBest", "(IIII)V"⟩
def RX3 : String := "HalfCourt$Law"
def TX3 : u_T := fun k => match k with
  | 0 => ("HalfCourt$Law", "steps", "[I", true)
  | 1 => ("HalfCourt$Law", "stack", "[I", true)
  | 2 => ("HalfCourt$Law", "length", "I", false)
  | _ => ("HalfCourt$Law", "units", "I", false)
def tyX3 : Nat → FieldType := fun k => match k with
  | 0 => .array .int
  | 1 => .array .int
  | 2 => .int
  | _ => .int
abbrev wsX30 : List Cond := u_ws RX3 TX3 4
theorem nmX3 : ∀ a, a < 4 → ∀ b, b < 4 → a ≠ b → (TX3 a).2.1 ≠ (TX3 b).2.1 := by decide +kernel
theorem tyX3_ok : ∀ k, k < 4 → parseFieldDescriptor (TX3 k).2.2.1 = some (tyX3 k) := by decide +kernel
abbrev cX3_init : ByteArray := prog_5_method_1_code
def yX3_init : MethodName := ⟨RX3, "<init>", "()V"⟩
abbrev cX3_clear : ByteArray := prog_5_method_2_code
def yX3_clear : MethodName := ⟨RX3, "clear", "()V"⟩
abbrev cX3_addNumber : ByteArray := prog_5_method_3_code
def yX3_addNumber : MethodName := ⟨RX3, "addNumber", "(I)V"⟩
abbrev cX3_addStep : ByteArray := prog_5_method_4_code
def yX3_addStep : MethodName := ⟨RX3, "addStep", "(I)V"⟩
abbrev cX3_value : ByteArray := prog_5_method_5_code
def yX3_value : MethodName := ⟨RX3, "value", "(IIII)I"⟩
abbrev cX3_isJoint : ByteArray := prog_5_method_6_code
def yX3_isJoint : MethodName := ⟨RX3, "isJoint", "(I)Z"⟩
abbrev cX3_unitValue : ByteArray := prog_5_method_7_code
def yX3_unitValue : MethodName := ⟨RX3, "unitValue", "(IIIII)I"⟩
abbrev cX3_joined : ByteArray := prog_5_method_8_code
def yX3_joined : MethodName := ⟨RX3, "joined", "(III)I"⟩
abbrev cX3_bit : ByteArray := prog_5_method_9_code
def yX3_bit : MethodName := ⟨RX3, "bit", "(Z)I"⟩
def RX4 : String := "HalfCourt$Look"
def TX4 : u_T := fun k => match k with
  | 0 => ("HalfCourt$Look", "x", "I", false)
  | 1 => ("HalfCourt$Look", "y", "I", false)
  | 2 => ("HalfCourt$Look", "side", "I", false)
  | 3 => ("HalfCourt$Look", "from", "I", false)
  | 4 => ("HalfCourt$Look", "to", "I", false)
  | _ => ("HalfCourt$Look", "fee", "I", false)
def tyX4 : Nat → FieldType := fun k => match k with
  | 0 => .int
  | 1 => .int
  | 2 => .int
  | 3 => .int
  | 4 => .int
  | _ => .int
abbrev wsX40 : List Cond := u_ws RX4 TX4 6
theorem nmX4 : ∀ a, a < 6 → ∀ b, b < 6 → a ≠ b → (TX4 a).2.1 ≠ (TX4 b).2.1 := by decide +kernel
theorem tyX4_ok : ∀ k, k < 6 → parseFieldDescriptor (TX4 k).2.2.1 = some (tyX4 k) := by decide +kernel
abbrev cX4_init : ByteArray := prog_6_method_1_code
def yX4_init : MethodName := ⟨RX4, "<init>", "()V"⟩
abbrev cX4_faces : ByteArray := prog_6_method_2_code
def yX4_faces : MethodName := ⟨RX4, "faces", "(II)Z"⟩
def RX5 : String := "HalfCourt$Names"
def TX5 : u_T := fun k => match k with
  | 0 => ("HalfCourt$Names", "words", "[J", true)
  | _ => ("HalfCourt$Names", "count", "I", false)
def tyX5 : Nat → FieldType := fun k => match k with
  | 0 => .array .long
  | _ => .int
abbrev wsX50 : List Cond := u_ws RX5 TX5 2
theorem nmX5 : ∀ a, a < 2 → ∀ b, b < 2 → a ≠ b → (TX5 a).2.1 ≠ (TX5 b).2.1 := by decide +kernel
theorem tyX5_ok : ∀ k, k < 2 → parseFieldDescriptor (TX5 k).2.2.1 = some (tyX5 k) := by decide +kernel
abbrev cX5_init : ByteArray := prog_7_method_1_code
def yX5_init : MethodName := ⟨RX5, "<init>", "(I)V"⟩
abbrev cX5_isFull : ByteArray := prog_7_method_2_code
def yX5_isFull : MethodName := ⟨RX5, "isFull", "()Z"⟩
abbrev cX5_add : ByteArray := prog_7_method_3_code
def yX5_add : MethodName := ⟨RX5, "add", "(J)V"⟩
abbrev cX5_find : ByteArray := prog_7_method_4_code
def yX5_find : MethodName := ⟨RX5, "find", "(J)I"⟩
def RX6 : String := "HalfCourt$Plans"
def TX6 : u_T := fun k => match k with
  | 0 => ("HalfCourt$Plans", "hearing", "LHalfCourt$Hearing;", true)
  | 1 => ("HalfCourt$Plans", "known", "Z", false)
  | 2 => ("HalfCourt$Plans", "fees", "[I", true)
  | 3 => ("HalfCourt$Plans", "first", "[I", true)
  | _ => ("HalfCourt$Plans", "turnFees", "[I", true)
def tyX6 : Nat → FieldType := fun k => match k with
  | 0 => .object "HalfCourt$Hearing"
  | 1 => .boolean
  | 2 => .array .int
  | 3 => .array .int
  | _ => .array .int
abbrev wsX60 : List Cond := u_ws RX6 TX6 5
theorem nmX6 : ∀ a, a < 5 → ∀ b, b < 5 → a ≠ b → (TX6 a).2.1 ≠ (TX6 b).2.1 := by decide +kernel
theorem tyX6_ok : ∀ k, k < 5 → parseFieldDescriptor (TX6 k).2.2.1 = some (tyX6 k) := by decide +kernel
abbrev cX6_init : ByteArray := prog_8_method_1_code
def yX6_init : MethodName := ⟨RX6, "<init>", "(LHalfCourt$Hearing;)V"⟩
abbrev cX6_forget : ByteArray := prog_8_method_2_code
def yX6_forget : MethodName := ⟨RX6, "forget", "()V"⟩
abbrev cX6_cheapest : ByteArray := prog_8_method_3_code
def yX6_cheapest : MethodName := ⟨RX6, "cheapest", "(I)I"⟩
abbrev cX6_feesOf : ByteArray := prog_8_method_4_code
def yX6_feesOf : MethodName := ⟨RX6, "feesOf", "(I)I"⟩
abbrev cX6_partAll : ByteArray := prog_8_method_5_code
def yX6_partAll : MethodName := ⟨RX6, "partAll", "(IJ)Z"⟩
abbrev cX6_feesByRounds : ByteArray := prog_8_method_6_code
def yX6_feesByRounds : MethodName := ⟨RX6, "feesByRounds", "(I)I"⟩
abbrev cX6_firstCalled : ByteArray := prog_8_method_7_code
def yX6_firstCalled : MethodName := ⟨RX6, "firstCalled", "(I)I"⟩
abbrev cX6_feesByTurn : ByteArray := prog_8_method_8_code
def yX6_feesByTurn : MethodName := ⟨RX6, "feesByTurn", "(I)I"⟩
abbrev cX6_workOut : ByteArray := prog_8_method_9_code
def yX6_workOut : MethodName := ⟨RX6, "workOut", "()V"⟩
abbrev cX6_chooseFirst : ByteArray := prog_8_method_10_code
def yX6_chooseFirst : MethodName := ⟨RX6, "chooseFirst", "(I)V"⟩
abbrev cX6_greatestLeft : ByteArray := prog_8_method_11_code
def yX6_greatestLeft : MethodName := ⟨RX6, "greatestLeft", "(II[I)I"⟩
def RX7 : String := "HalfCourt$Protocol"
def TX7 : u_T := fun k => match k with
  | 0 => ("HalfCourt$Protocol", "who", "[I", true)
  | 1 => ("HalfCourt$Protocol", "cell", "[I", true)
  | 2 => ("HalfCourt$Protocol", "minute", "[I", true)
  | 3 => ("HalfCourt$Protocol", "things", "[I", true)
  | 4 => ("HalfCourt$Protocol", "told", "[I", true)
  | 5 => ("HalfCourt$Protocol", "untold", "[I", true)
  | 6 => ("HalfCourt$Protocol", "count", "I", false)
  | 7 => ("HalfCourt$Protocol", "time", "I", false)
  | _ => ("HalfCourt$Protocol", "kept", "Z", false)
def tyX7 : Nat → FieldType := fun k => match k with
  | 0 => .array .int
  | 1 => .array .int
  | 2 => .array .int
  | 3 => .array .int
  | 4 => .array .int
  | 5 => .array .int
  | 6 => .int
  | 7 => .int
  | _ => .boolean
abbrev wsX70 : List Cond := u_ws RX7 TX7 9
theorem nmX7 : ∀ a, a < 9 → ∀ b, b < 9 → a ≠ b → (TX7 a).2.1 ≠ (TX7 b).2.1 := by decide +kernel
theorem tyX7_ok : ∀ k, k < 9 → parseFieldDescriptor (TX7 k).2.2.1 = some (tyX7 k) := by decide +kernel
abbrev cX7_init : ByteArray := prog_9_method_1_code
def yX7_init : MethodName := ⟨RX7, "<init>", "()V"⟩
abbrev cX7_write : ByteArray := prog_9_method_2_code
def yX7_write : MethodName := ⟨RX7, "write", "(IIII)I"⟩
abbrev cX7_counts : ByteArray := prog_9_method_3_code
def yX7_counts : MethodName := ⟨RX7, "counts", "(II)Z"⟩
abbrev cX7_clash : ByteArray := prog_9_method_4_code
def yX7_clash : MethodName := ⟨RX7, "clash", "(II)Z"⟩
abbrev cX7_copy : ByteArray := prog_9_method_5_code
def yX7_copy : MethodName := ⟨RX7, "copy", "(LHalfCourt$Protocol;)V"⟩
def RX8 : String := "HalfCourt$Tokens"
def TX8 : u_T := fun k => match k with
  | 0 => ("HalfCourt$Tokens", "sorts", "[I", true)
  | 1 => ("HalfCourt$Tokens", "words", "[J", true)
  | 2 => ("HalfCourt$Tokens", "text", "[B", false)
  | 3 => ("HalfCourt$Tokens", "length", "I", false)
  | 4 => ("HalfCourt$Tokens", "next", "I", false)
  | 5 => ("HalfCourt$Tokens", "kind", "I", false)
  | 6 => ("HalfCourt$Tokens", "start", "I", false)
  | 7 => ("HalfCourt$Tokens", "number", "I", false)
  | _ => ("HalfCourt$Tokens", "word", "J", false)
def tyX8 : Nat → FieldType := fun k => match k with
  | 0 => .array .int
  | 1 => .array .long
  | 2 => .array .byte
  | 3 => .int
  | 4 => .int
  | 5 => .int
  | 6 => .int
  | 7 => .int
  | _ => .long
abbrev wsX80 : List Cond := u_ws RX8 TX8 9
theorem nmX8 : ∀ a, a < 9 → ∀ b, b < 9 → a ≠ b → (TX8 a).2.1 ≠ (TX8 b).2.1 := by decide +kernel
theorem tyX8_ok : ∀ k, k < 9 → parseFieldDescriptor (TX8 k).2.2.1 = some (tyX8 k) := by decide +kernel
abbrev cX8_init : ByteArray := prog_10_method_1_code
def yX8_init : MethodName := ⟨RX8, "<init>", "()V"⟩
abbrev cX8_sortBytes : ByteArray := prog_10_method_2_code
def yX8_sortBytes : MethodName := ⟨RX8, "sortBytes", "(Ljava/lang/String;I)V"⟩
abbrev cX8_begin : ByteArray := prog_10_method_3_code
def yX8_begin : MethodName := ⟨RX8, "begin", "([BI)V"⟩
abbrev cX8_advance : ByteArray := prog_10_method_4_code
def yX8_advance : MethodName := ⟨RX8, "advance", "()V"⟩
abbrev cX8_pass : ByteArray := prog_10_method_5_code
def yX8_pass : MethodName := ⟨RX8, "pass", "(I)V"⟩
abbrev cX8_takeWord : ByteArray := prog_10_method_6_code
def yX8_takeWord : MethodName := ⟨RX8, "takeWord", "()V"⟩
abbrev cX8_takeNumber : ByteArray := prog_10_method_7_code
def yX8_takeNumber : MethodName := ⟨RX8, "takeNumber", "()V"⟩
def RX9 : String := "HalfCourt"
def TX9 : u_T := fun k => match k with
  | 0 => ("HalfCourt", "tape", "[B", true)
  | 1 => ("HalfCourt", "bytes", "I", false)
  | 2 => ("HalfCourt", "open", "LHalfCourt$CaseFile;", false)
  | 3 => ("HalfCourt", "spare", "LHalfCourt$CaseFile;", false)
  | 4 => ("HalfCourt", "reader", "LHalfCourt$CaseReader;", true)
  | 5 => ("HalfCourt", "hearing", "LHalfCourt$Hearing;", true)
  | 6 => ("HalfCourt", "plans", "LHalfCourt$Plans;", true)
  | 7 => ("HalfCourt", "protocol", "LHalfCourt$Protocol;", true)
  | _ => ("HalfCourt", "boxes", "[LHalfCourt$Protocol;", true)
def tyX9 : Nat → FieldType := fun k => match k with
  | 0 => .array .byte
  | 1 => .int
  | 2 => .object "HalfCourt$CaseFile"
  | 3 => .object "HalfCourt$CaseFile"
  | 4 => .object "HalfCourt$CaseReader"
  | 5 => .object "HalfCourt$Hearing"
  | 6 => .object "HalfCourt$Plans"
  | 7 => .object "HalfCourt$Protocol"
  | _ => .array (.object "HalfCourt$Protocol")
abbrev wsX90 : List Cond := u_ws RX9 TX9 9
theorem nmX9 : ∀ a, a < 9 → ∀ b, b < 9 → a ≠ b → (TX9 a).2.1 ≠ (TX9 b).2.1 := by decide +kernel
theorem tyX9_ok : ∀ k, k < 9 → parseFieldDescriptor (TX9 k).2.2.1 = some (tyX9 k) := by decide +kernel
abbrev cX9_init : ByteArray := prog_1_method_1_code
def yX9_init : MethodName := ⟨RX9, "<init>", "()V"⟩
abbrev cX9_feed : ByteArray := prog_1_method_2_code
def yX9_feed : MethodName := ⟨RX9, "feed", "(IIIII)I"⟩
abbrev cX9_end : ByteArray := prog_1_method_3_code
def yX9_end : MethodName := ⟨RX9, "end", "(I)I"⟩
abbrev cX9_trial : ByteArray := prog_1_method_4_code
def yX9_trial : MethodName := ⟨RX9, "trial", "()I"⟩
abbrev cX9_fault : ByteArray := prog_1_method_5_code
def yX9_fault : MethodName := ⟨RX9, "fault", "(I)I"⟩
abbrev cX9_edge : ByteArray := prog_1_method_6_code
def yX9_edge : MethodName := ⟨RX9, "edge", "(IIII)I"⟩
abbrev cX9_witness : ByteArray := prog_1_method_7_code
def yX9_witness : MethodName := ⟨RX9, "witness", "(II)I"⟩
abbrev cX9_scene : ByteArray := prog_1_method_8_code
def yX9_scene : MethodName := ⟨RX9, "scene", "(IIII)I"⟩
abbrev cX9_state : ByteArray := prog_1_method_9_code
def yX9_state : MethodName := ⟨RX9, "state", "(IIIII)I"⟩
abbrev cX9_call : ByteArray := prog_1_method_10_code
def yX9_call : MethodName := ⟨RX9, "call", "(II)I"⟩
abbrev cX9_untell : ByteArray := prog_1_method_11_code
def yX9_untell : MethodName := ⟨RX9, "untell", "(I)Z"⟩
abbrev cX9_later : ByteArray := prog_1_method_12_code
def yX9_later : MethodName := ⟨RX9, "later", "(I)I"⟩
abbrev cX9_fits : ByteArray := prog_1_method_13_code
def yX9_fits : MethodName := ⟨RX9, "fits", "(I)I"⟩
abbrev cX9_liars : ByteArray := prog_1_method_14_code
def yX9_liars : MethodName := ⟨RX9, "liars", "(II)I"⟩
abbrev cX9_fewest : ByteArray := prog_1_method_15_code
def yX9_fewest : MethodName := ⟨RX9, "fewest", "(II)I"⟩
abbrev cX9_sure : ByteArray := prog_1_method_16_code
def yX9_sure : MethodName := ⟨RX9, "sure", "(IIIZI)I"⟩
abbrev cX9_twice : ByteArray := prog_1_method_17_code
def yX9_twice : MethodName := ⟨RX9, "twice", "(I)I"⟩
abbrev cX9_struck : ByteArray := prog_1_method_18_code
def yX9_struck : MethodName := ⟨RX9, "struck", "(II)I"⟩
abbrev cX9_apart : ByteArray := prog_1_method_19_code
def yX9_apart : MethodName := ⟨RX9, "apart", "(II)I"⟩
abbrev cX9_blind : ByteArray := prog_1_method_20_code
def yX9_blind : MethodName := ⟨RX9, "blind", "(I)I"⟩
abbrev cX9_seat : ByteArray := prog_1_method_21_code
def yX9_seat : MethodName := ⟨RX9, "seat", "(III)I"⟩
abbrev cX9_bestSeat : ByteArray := prog_1_method_22_code
def yX9_bestSeat : MethodName := ⟨RX9, "bestSeat", "(I)I"⟩
abbrev cX9_byTurn : ByteArray := prog_1_method_23_code
def yX9_byTurn : MethodName := ⟨RX9, "byTurn", "(I)I"⟩
abbrev cX9_parted : ByteArray := prog_1_method_24_code
def yX9_parted : MethodName := ⟨RX9, "parted", "(II)I"⟩
abbrev cX9_parts : ByteArray := prog_1_method_25_code
def yX9_parts : MethodName := ⟨RX9, "parts", "(III)I"⟩
abbrev cX9_list : ByteArray := prog_1_method_26_code
def yX9_list : MethodName := ⟨RX9, "list", "(II)I"⟩
abbrev cX9_rounds : ByteArray := prog_1_method_27_code
def yX9_rounds : MethodName := ⟨RX9, "rounds", "(II)I"⟩
abbrev cX9_image : ByteArray := prog_1_method_28_code
def yX9_image : MethodName := ⟨RX9, "image", "(I)I"⟩
abbrev cX9_back : ByteArray := prog_1_method_29_code
def yX9_back : MethodName := ⟨RX9, "back", "(I)I"⟩
abbrev cX9_about : ByteArray := prog_1_method_30_code
def yX9_about : MethodName := ⟨RX9, "about", "(I)I"⟩
abbrev cX9_putBytes : ByteArray := prog_1_method_31_code
def yX9_putBytes : MethodName := ⟨RX9, "putBytes", "(I)V"⟩
abbrev cX9_telling : ByteArray := prog_1_method_32_code
def yX9_telling : MethodName := ⟨RX9, "telling", "(IIZ)I"⟩
abbrev cX9_isUntrue : ByteArray := prog_1_method_33_code
def yX9_isUntrue : MethodName := ⟨RX9, "isUntrue", "(II)Z"⟩
abbrev cX9_countUntrue : ByteArray := prog_1_method_34_code
def yX9_countUntrue : MethodName := ⟨RX9, "countUntrue", "(II)I"⟩
abbrev cX9_liarBits : ByteArray := prog_1_method_35_code
def yX9_liarBits : MethodName := ⟨RX9, "liarBits", "(II)I"⟩
abbrev cX9_eitherOf : ByteArray := prog_1_method_36_code
def yX9_eitherOf : MethodName := ⟨RX9, "eitherOf", "(III)I"⟩
abbrev cX9_cellOf : ByteArray := prog_1_method_37_code
def yX9_cellOf : MethodName := ⟨RX9, "cellOf", "(II)I"⟩
abbrev cX9_pairBit : ByteArray := prog_1_method_38_code
def yX9_pairBit : MethodName := ⟨RX9, "pairBit", "(II)J"⟩
abbrev cX9_pairsOf : ByteArray := prog_1_method_39_code
def yX9_pairsOf : MethodName := ⟨RX9, "pairsOf", "(I)J"⟩
def RX10 : String := "HalfCourtModel"
def TX10 : u_T := fun k => match k with
  | 0 => ("HalfCourtModel", "tape", "[B", true)
  | 1 => ("HalfCourtModel", "text", "[B", true)
  | 2 => ("HalfCourtModel", "taped", "I", false)
  | 3 => ("HalfCourtModel", "size", "I", false)
  | 4 => ("HalfCourtModel", "faultKind", "I", false)
  | 5 => ("HalfCourtModel", "faultPlace", "I", false)
  | 6 => ("HalfCourtModel", "at", "I", false)
  | 7 => ("HalfCourtModel", "end", "I", false)
  | 8 => ("HalfCourtModel", "token", "I", false)
  | 9 => ("HalfCourtModel", "number", "I", false)
  | 10 => ("HalfCourtModel", "name", "J", false)
  | 11 => ("HalfCourtModel", "across", "[I", true)
  | 12 => ("HalfCourtModel", "ups", "[I", true)
  | 13 => ("HalfCourtModel", "minutes", "[I", true)
  | 14 => ("HalfCourtModel", "walls", "[I", true)
  | 15 => ("HalfCourtModel", "fogs", "[I", true)
  | 16 => ("HalfCourtModel", "things", "[I", true)
  | 17 => ("HalfCourtModel", "deeds", "[I", true)
  | 18 => ("HalfCourtModel", "told", "[I", true)
  | 19 => ("HalfCourtModel", "witnesses", "[I", true)
  | 20 => ("HalfCourtModel", "units", "[I", true)
  | 21 => ("HalfCourtModel", "fog", "[I", true)
  | 22 => ("HalfCourtModel", "wX", "[I", true)
  | 23 => ("HalfCourtModel", "wY", "[I", true)
  | 24 => ("HalfCourtModel", "wSide", "[I", true)
  | 25 => ("HalfCourtModel", "wFrom", "[I", true)
  | 26 => ("HalfCourtModel", "wTo", "[I", true)
  | 27 => ("HalfCourtModel", "wFee", "[I", true)
  | 28 => ("HalfCourtModel", "deedThings", "[I", true)
  | 29 => ("HalfCourtModel", "ruleTo", "[I", true)
  | 30 => ("HalfCourtModel", "isWall", "[Z", true)
  | 31 => ("HalfCourtModel", "isScene", "[Z", true)
  | 32 => ("HalfCourtModel", "isMinutes", "[Z", true)
  | 33 => ("HalfCourtModel", "isLaw", "[Z", true)
  | 34 => ("HalfCourtModel", "tName", "[J", true)
  | 35 => ("HalfCourtModel", "dName", "[J", true)
  | 36 => ("HalfCourtModel", "wName", "[J", true)
  | 37 => ("HalfCourtModel", "code", "[I", true)
  | 38 => ("HalfCourtModel", "codeNumber", "[I", true)
  | 39 => ("HalfCourtModel", "eWhat", "[I", true)
  | 40 => ("HalfCourtModel", "eSign", "[I", true)
  | 41 => ("HalfCourtModel", "pile", "[I", true)
  | 42 => ("HalfCourtModel", "bank", "I", false)
  | 43 => ("HalfCourtModel", "rb", "I", false)
  | 44 => ("HalfCourtModel", "codes", "I", false)
  | 45 => ("HalfCourtModel", "within", "I", false)
  | 46 => ("HalfCourtModel", "piled", "I", false)
  | 47 => ("HalfCourtModel", "doesSee", "[Z", true)
  | 48 => ("HalfCourtModel", "isHeard", "[Z", true)
  | 49 => ("HalfCourtModel", "isSeen", "[Z", true)
  | 50 => ("HalfCourtModel", "seesMany", "[I", true)
  | 51 => ("HalfCourtModel", "unlike", "[I", true)
  | 52 => ("HalfCourtModel", "parts", "[I", true)
  | 53 => ("HalfCourtModel", "sWitness", "[I", true)
  | 54 => ("HalfCourtModel", "sPlace", "[I", true)
  | 55 => ("HalfCourtModel", "sThings", "[I", true)
  | 56 => ("HalfCourtModel", "sTold", "[I", true)
  | 57 => ("HalfCourtModel", "sUntold", "[I", true)
  | 58 => ("HalfCourtModel", "many", "I", false)
  | 59 => ("HalfCourtModel", "time", "I", false)
  | 60 => ("HalfCourtModel", "seatSees", "[Z", true)
  | 61 => ("HalfCourtModel", "fees", "[I", true)
  | 62 => ("HalfCourtModel", "firstOf", "[I", true)
  | 63 => ("HalfCourtModel", "turnFees", "[I", true)
  | 64 => ("HalfCourtModel", "boxMany", "[I", true)
  | 65 => ("HalfCourtModel", "boxTime", "[I", true)
  | _ => ("HalfCourtModel", "boxStatements", "[I", true)
def tyX10 : Nat → FieldType := fun k => match k with
  | 0 => .array .byte
  | 1 => .array .byte
  | 2 => .int
  | 3 => .int
  | 4 => .int
  | 5 => .int
  | 6 => .int
  | 7 => .int
  | 8 => .int
  | 9 => .int
  | 10 => .long
  | 11 => .array .int
  | 12 => .array .int
  | 13 => .array .int
  | 14 => .array .int
  | 15 => .array .int
  | 16 => .array .int
  | 17 => .array .int
  | 18 => .array .int
  | 19 => .array .int
  | 20 => .array .int
  | 21 => .array .int
  | 22 => .array .int
  | 23 => .array .int
  | 24 => .array .int
  | 25 => .array .int
  | 26 => .array .int
  | 27 => .array .int
  | 28 => .array .int
  | 29 => .array .int
  | 30 => .array .boolean
  | 31 => .array .boolean
  | 32 => .array .boolean
  | 33 => .array .boolean
  | 34 => .array .long
  | 35 => .array .long
  | 36 => .array .long
  | 37 => .array .int
  | 38 => .array .int
  | 39 => .array .int
  | 40 => .array .int
  | 41 => .array .int
  | 42 => .int
  | 43 => .int
  | 44 => .int
  | 45 => .int
  | 46 => .int
  | 47 => .array .boolean
  | 48 => .array .boolean
  | 49 => .array .boolean
  | 50 => .array .int
  | 51 => .array .int
  | 52 => .array .int
  | 53 => .array .int
  | 54 => .array .int
  | 55 => .array .int
  | 56 => .array .int
  | 57 => .array .int
  | 58 => .int
  | 59 => .int
  | 60 => .array .boolean
  | 61 => .array .int
  | 62 => .array .int
  | 63 => .array .int
  | 64 => .array .int
  | 65 => .array .int
  | _ => .array .int
abbrev wsX100 : List Cond := u_ws RX10 TX10 67
theorem nmX10 : ∀ a, a < 67 → ∀ b, b < 67 → a ≠ b → (TX10 a).2.1 ≠ (TX10 b).2.1 := by decide +kernel
theorem tyX10_ok : ∀ k, k < 67 → parseFieldDescriptor (TX10 k).2.2.1 = some (tyX10 k) := by decide +kernel
abbrev cX10_init : ByteArray := prog_12_method_1_code
def yX10_init : MethodName := ⟨RX10, "<init>", "()V"⟩
abbrev cX10_sign : ByteArray := prog_12_method_2_code
def yX10_sign : MethodName := ⟨RX10, "sign", "(I)I"⟩
abbrev cX10_isLetter : ByteArray := prog_12_method_3_code
def yX10_isLetter : MethodName := ⟨RX10, "isLetter", "(I)Z"⟩
abbrev cX10_isDigit : ByteArray := prog_12_method_4_code
def yX10_isDigit : MethodName := ⟨RX10, "isDigit", "(I)Z"⟩
abbrev cX10_fails : ByteArray := prog_12_method_5_code
def yX10_fails : MethodName := ⟨RX10, "fails", "(II)V"⟩
abbrev cX10_isGood : ByteArray := prog_12_method_6_code
def yX10_isGood : MethodName := ⟨RX10, "isGood", "()Z"⟩
abbrev cX10_isKept : ByteArray := prog_12_method_7_code
def yX10_isKept : MethodName := ⟨RX10, "isKept", "(J)Z"⟩
abbrev cX10_isSign : ByteArray := prog_12_method_8_code
def yX10_isSign : MethodName := ⟨RX10, "isSign", "(I)Z"⟩
abbrev cX10_goOn : ByteArray := prog_12_method_9_code
def yX10_goOn : MethodName := ⟨RX10, "goOn", "()V"⟩
abbrev cX10_isSignHere : ByteArray := prog_12_method_10_code
def yX10_isSignHere : MethodName := ⟨RX10, "isSignHere", "(I)Z"⟩
abbrev cX10_isWord : ByteArray := prog_12_method_11_code
def yX10_isWord : MethodName := ⟨RX10, "isWord", "(J)Z"⟩
abbrev cX10_misplaced : ByteArray := prog_12_method_12_code
def yX10_misplaced : MethodName := ⟨RX10, "misplaced", "()V"⟩
abbrev cX10_must : ByteArray := prog_12_method_13_code
def yX10_must : MethodName := ⟨RX10, "must", "(Z)V"⟩
abbrev cX10_numeral : ByteArray := prog_12_method_14_code
def yX10_numeral : MethodName := ⟨RX10, "numeral", "(II)I"⟩
abbrev cX10_after : ByteArray := prog_12_method_15_code
def yX10_after : MethodName := ⟨RX10, "after", "(JII)I"⟩
abbrev cX10_clearBank : ByteArray := prog_12_method_16_code
def yX10_clearBank : MethodName := ⟨RX10, "clearBank", "()V"⟩
abbrev cX10_trial : ByteArray := prog_12_method_17_code
def yX10_trial : MethodName := ⟨RX10, "trial", "()I"⟩
abbrev cX10_isFull : ByteArray := prog_12_method_18_code
def yX10_isFull : MethodName := ⟨RX10, "isFull", "()Z"⟩
abbrev cX10_readLine : ByteArray := prog_12_method_19_code
def yX10_readLine : MethodName := ⟨RX10, "readLine", "()V"⟩
abbrev cX10_here : ByteArray := prog_12_method_20_code
def yX10_here : MethodName := ⟨RX10, "here", "([JII)I"⟩
abbrev cX10_fresh : ByteArray := prog_12_method_21_code
def yX10_fresh : MethodName := ⟨RX10, "fresh", "(Z)J"⟩
abbrev cX10_readWall : ByteArray := prog_12_method_22_code
def yX10_readWall : MethodName := ⟨RX10, "readWall", "()V"⟩
abbrev cX10_readFog : ByteArray := prog_12_method_23_code
def yX10_readFog : MethodName := ⟨RX10, "readFog", "()V"⟩
abbrev cX10_readDeed : ByteArray := prog_12_method_24_code
def yX10_readDeed : MethodName := ⟨RX10, "readDeed", "()V"⟩
abbrev cX10_readThere : ByteArray := prog_12_method_25_code
def yX10_readThere : MethodName := ⟨RX10, "readThere", "(I)V"⟩
abbrev cX10_sideHere : ByteArray := prog_12_method_26_code
def yX10_sideHere : MethodName := ⟨RX10, "sideHere", "()I"⟩
abbrev cX10_readWitness : ByteArray := prog_12_method_27_code
def yX10_readWitness : MethodName := ⟨RX10, "readWitness", "()V"⟩
abbrev cX10_readLaw : ByteArray := prog_12_method_28_code
def yX10_readLaw : MethodName := ⟨RX10, "readLaw", "()V"⟩
abbrev cX10_emit : ByteArray := prog_12_method_29_code
def yX10_emit : MethodName := ⟨RX10, "emit", "(II)V"⟩
abbrev cX10_pushE : ByteArray := prog_12_method_30_code
def yX10_pushE : MethodName := ⟨RX10, "pushE", "(II)V"⟩
abbrev cX10_e : ByteArray := prog_12_method_31_code
def yX10_e : MethodName := ⟨RX10, "e", "()V"⟩
abbrev cX10_wordHere : ByteArray := prog_12_method_32_code
def yX10_wordHere : MethodName := ⟨RX10, "wordHere", "()I"⟩
abbrev cX10_unit : ByteArray := prog_12_method_33_code
def yX10_unit : MethodName := ⟨RX10, "unit", "()Z"⟩
abbrev cX10_rankHere : ByteArray := prog_12_method_34_code
def yX10_rankHere : MethodName := ⟨RX10, "rankHere", "()I"⟩
abbrev cX10_isCompared : ByteArray := prog_12_method_35_code
def yX10_isCompared : MethodName := ⟨RX10, "isCompared", "()Z"⟩
abbrev cX10_behindUnit : ByteArray := prog_12_method_36_code
def yX10_behindUnit : MethodName := ⟨RX10, "behindUnit", "()Z"⟩
abbrev cX10_two : ByteArray := prog_12_method_37_code
def yX10_two : MethodName := ⟨RX10, "two", "(III)I"⟩
abbrev cX10_mayBeHeard : ByteArray := prog_12_method_38_code
def yX10_mayBeHeard : MethodName := ⟨RX10, "mayBeHeard", "(II)Z"⟩
abbrev cX10_fault : ByteArray := prog_12_method_39_code
def yX10_fault : MethodName := ⟨RX10, "fault", "(I)I"⟩
abbrev cX10_isIn : ByteArray := prog_12_method_40_code
def yX10_isIn : MethodName := ⟨RX10, "isIn", "(III)Z"⟩
abbrev cX10_bitsOf : ByteArray := prog_12_method_41_code
def yX10_bitsOf : MethodName := ⟨RX10, "bitsOf", "(I)I"⟩
abbrev cX10_witnessMany : ByteArray := prog_12_method_42_code
def yX10_witnessMany : MethodName := ⟨RX10, "witnessMany", "()I"⟩
abbrev cX10_deedMany : ByteArray := prog_12_method_43_code
def yX10_deedMany : MethodName := ⟨RX10, "deedMany", "()I"⟩
abbrev cX10_isWitness : ByteArray := prog_12_method_44_code
def yX10_isWitness : MethodName := ⟨RX10, "isWitness", "(I)Z"⟩
abbrev cX10_isDeed : ByteArray := prog_12_method_45_code
def yX10_isDeed : MethodName := ⟨RX10, "isDeed", "(I)Z"⟩
abbrev cX10_isCell : ByteArray := prog_12_method_46_code
def yX10_isCell : MethodName := ⟨RX10, "isCell", "(II)Z"⟩
abbrev cX10_isMinute : ByteArray := prog_12_method_47_code
def yX10_isMinute : MethodName := ⟨RX10, "isMinute", "(I)Z"⟩
abbrev cX10_isWallAt : ByteArray := prog_12_method_48_code
def yX10_isWallAt : MethodName := ⟨RX10, "isWallAt", "(II)Z"⟩
abbrev cX10_great : ByteArray := prog_12_method_49_code
def yX10_great : MethodName := ⟨RX10, "great", "(II)I"⟩
abbrev cX10_size : ByteArray := prog_12_method_50_code
def yX10_size : MethodName := ⟨RX10, "size", "(I)I"⟩
abbrev cX10_part : ByteArray := prog_12_method_51_code
def yX10_part : MethodName := ⟨RX10, "part", "(III)I"⟩
abbrev cX10_isOnSide : ByteArray := prog_12_method_52_code
def yX10_isOnSide : MethodName := ⟨RX10, "isOnSide", "(III)Z"⟩
abbrev cX10_edgeFrom : ByteArray := prog_12_method_53_code
def yX10_edgeFrom : MethodName := ⟨RX10, "edgeFrom", "(IIIIII)I"⟩
abbrev cX10_edgeOf : ByteArray := prog_12_method_54_code
def yX10_edgeOf : MethodName := ⟨RX10, "edgeOf", "(IIII)I"⟩
abbrev cX10_lay : ByteArray := prog_12_method_55_code
def yX10_lay : MethodName := ⟨RX10, "lay", "()V"⟩
abbrev cX10_thingsAt : ByteArray := prog_12_method_56_code
def yX10_thingsAt : MethodName := ⟨RX10, "thingsAt", "(II)I"⟩
abbrev cX10_saysUnlike : ByteArray := prog_12_method_57_code
def yX10_saysUnlike : MethodName := ⟨RX10, "saysUnlike", "(III)Z"⟩
abbrev cX10_placeOf : ByteArray := prog_12_method_58_code
def yX10_placeOf : MethodName := ⟨RX10, "placeOf", "(III)I"⟩
abbrev cX10_isPlace : ByteArray := prog_12_method_59_code
def yX10_isPlace : MethodName := ⟨RX10, "isPlace", "(III)Z"⟩
abbrev cX10_edge : ByteArray := prog_12_method_60_code
def yX10_edge : MethodName := ⟨RX10, "edge", "(IIII)I"⟩
abbrev cX10_witness : ByteArray := prog_12_method_61_code
def yX10_witness : MethodName := ⟨RX10, "witness", "(II)I"⟩
abbrev cX10_scene : ByteArray := prog_12_method_62_code
def yX10_scene : MethodName := ⟨RX10, "scene", "(IIII)I"⟩
abbrev cX10_add : ByteArray := prog_12_method_63_code
def yX10_add : MethodName := ⟨RX10, "add", "(III)V"⟩
abbrev cX10_state : ByteArray := prog_12_method_64_code
def yX10_state : MethodName := ⟨RX10, "state", "(IIIII)I"⟩
abbrev cX10_call : ByteArray := prog_12_method_65_code
def yX10_call : MethodName := ⟨RX10, "call", "(II)I"⟩
abbrev cX10_untell : ByteArray := prog_12_method_66_code
def yX10_untell : MethodName := ⟨RX10, "untell", "(I)Z"⟩
abbrev cX10_later : ByteArray := prog_12_method_67_code
def yX10_later : MethodName := ⟨RX10, "later", "(I)I"⟩
abbrev cX10_counts : ByteArray := prog_12_method_68_code
def yX10_counts : MethodName := ⟨RX10, "counts", "(II)Z"⟩
abbrev cX10_wrongMany : ByteArray := prog_12_method_69_code
def yX10_wrongMany : MethodName := ⟨RX10, "wrongMany", "(II)I"⟩
abbrev cX10_liarsOf : ByteArray := prog_12_method_70_code
def yX10_liarsOf : MethodName := ⟨RX10, "liarsOf", "(II)I"⟩
abbrev cX10_fits : ByteArray := prog_12_method_71_code
def yX10_fits : MethodName := ⟨RX10, "fits", "(I)I"⟩
abbrev cX10_liars : ByteArray := prog_12_method_72_code
def yX10_liars : MethodName := ⟨RX10, "liars", "(II)I"⟩
abbrev cX10_leastBy : ByteArray := prog_12_method_73_code
def yX10_leastBy : MethodName := ⟨RX10, "leastBy", "(ZII)I"⟩
abbrev cX10_fewest : ByteArray := prog_12_method_74_code
def yX10_fewest : MethodName := ⟨RX10, "fewest", "(II)I"⟩
abbrev cX10_struck : ByteArray := prog_12_method_75_code
def yX10_struck : MethodName := ⟨RX10, "struck", "(II)I"⟩
abbrev cX10_sure : ByteArray := prog_12_method_76_code
def yX10_sure : MethodName := ⟨RX10, "sure", "(IIIZI)I"⟩
abbrev cX10_twice : ByteArray := prog_12_method_77_code
def yX10_twice : MethodName := ⟨RX10, "twice", "(I)I"⟩
abbrev cX10_apart : ByteArray := prog_12_method_78_code
def yX10_apart : MethodName := ⟨RX10, "apart", "(II)I"⟩
abbrev cX10_blind : ByteArray := prog_12_method_79_code
def yX10_blind : MethodName := ⟨RX10, "blind", "(I)I"⟩
abbrev cX10_useOf : ByteArray := prog_12_method_80_code
def yX10_useOf : MethodName := ⟨RX10, "useOf", "(III)I"⟩
abbrev cX10_seatParts : ByteArray := prog_12_method_81_code
def yX10_seatParts : MethodName := ⟨RX10, "seatParts", "(II)Z"⟩
abbrev cX10_seat : ByteArray := prog_12_method_82_code
def yX10_seat : MethodName := ⟨RX10, "seat", "(III)I"⟩
abbrev cX10_bestSeat : ByteArray := prog_12_method_83_code
def yX10_bestSeat : MethodName := ⟨RX10, "bestSeat", "(I)I"⟩
abbrev cX10_parted : ByteArray := prog_12_method_84_code
def yX10_parted : MethodName := ⟨RX10, "parted", "(II)I"⟩
abbrev cX10_parts : ByteArray := prog_12_method_85_code
def yX10_parts : MethodName := ⟨RX10, "parts", "(III)I"⟩
abbrev cX10_isSet : ByteArray := prog_12_method_86_code
def yX10_isSet : MethodName := ⟨RX10, "isSet", "(I)Z"⟩
abbrev cX10_doesList : ByteArray := prog_12_method_87_code
def yX10_doesList : MethodName := ⟨RX10, "doesList", "(II)Z"⟩
abbrev cX10_list : ByteArray := prog_12_method_88_code
def yX10_list : MethodName := ⟨RX10, "list", "(II)I"⟩
abbrev cX10_canPart : ByteArray := prog_12_method_89_code
def yX10_canPart : MethodName := ⟨RX10, "canPart", "(II)Z"⟩
abbrev cX10_worstLeft : ByteArray := prog_12_method_90_code
def yX10_worstLeft : MethodName := ⟨RX10, "worstLeft", "([III)I"⟩
abbrev cX10_layRounds : ByteArray := prog_12_method_91_code
def yX10_layRounds : MethodName := ⟨RX10, "layRounds", "(I)V"⟩
abbrev cX10_rounds : ByteArray := prog_12_method_92_code
def yX10_rounds : MethodName := ⟨RX10, "rounds", "(II)I"⟩
abbrev cX10_byTurn : ByteArray := prog_12_method_93_code
def yX10_byTurn : MethodName := ⟨RX10, "byTurn", "(I)I"⟩
abbrev cX10_image : ByteArray := prog_12_method_94_code
def yX10_image : MethodName := ⟨RX10, "image", "(I)I"⟩
abbrev cX10_back : ByteArray := prog_12_method_95_code
def yX10_back : MethodName := ⟨RX10, "back", "(I)I"⟩
abbrev cX10_about : ByteArray := prog_12_method_96_code
def yX10_about : MethodName := ⟨RX10, "about", "(I)I"⟩
abbrev cX10_feed : ByteArray := prog_12_method_97_code
def yX10_feed : MethodName := ⟨RX10, "feed", "(IIIII)I"⟩
abbrev cX10_end : ByteArray := prog_12_method_98_code
def yX10_end : MethodName := ⟨RX10, "end", "(I)I"⟩
def RJx145de : String := "java/io/Serializable"
def TJx145de : u_T := fun k => match k with
  | _ => ("", "", "", false)
def tyJx145de : Nat → FieldType := fun k => match k with
  | _ => .int
abbrev wsJx145de0 : List Cond := u_ws RJx145de TJx145de 0
theorem nmJx145de : ∀ a, a < 0 → ∀ b, b < 0 → a ≠ b → (TJx145de a).2.1 ≠ (TJx145de b).2.1 := by decide +kernel
theorem tyJx145de_ok : ∀ k, k < 0 → parseFieldDescriptor (TJx145de k).2.2.1 = some (tyJx145de k) := by decide +kernel
def RJx9f9b0 : String := "java/lang/CharSequence"
def TJx9f9b0 : u_T := fun k => match k with
  | _ => ("", "", "", false)
def tyJx9f9b0 : Nat → FieldType := fun k => match k with
  | _ => .int
abbrev wsJx9f9b00 : List Cond := u_ws RJx9f9b0 TJx9f9b0 0
theorem nmJx9f9b0 : ∀ a, a < 0 → ∀ b, b < 0 → a ≠ b → (TJx9f9b0 a).2.1 ≠ (TJx9f9b0 b).2.1 := by decide +kernel
theorem tyJx9f9b0_ok : ∀ k, k < 0 → parseFieldDescriptor (TJx9f9b0 k).2.2.1 = some (tyJx9f9b0 k) := by decide +kernel
def RJxb160c : String := "java/lang/Comparable"
def TJxb160c : u_T := fun k => match k with
  | _ => ("", "", "", false)
def tyJxb160c : Nat → FieldType := fun k => match k with
  | _ => .int
abbrev wsJxb160c0 : List Cond := u_ws RJxb160c TJxb160c 0
theorem nmJxb160c : ∀ a, a < 0 → ∀ b, b < 0 → a ≠ b → (TJxb160c a).2.1 ≠ (TJxb160c b).2.1 := by decide +kernel
theorem tyJxb160c_ok : ∀ k, k < 0 → parseFieldDescriptor (TJxb160c k).2.2.1 = some (tyJxb160c k) := by decide +kernel
def RJ6 : String := "java/lang/Integer"
def TJ6 : u_T := fun k => match k with
  | _ => ("", "", "", false)
def tyJ6 : Nat → FieldType := fun k => match k with
  | _ => .int
abbrev wsJ60 : List Cond := u_ws RJ6 TJ6 0
theorem nmJ6 : ∀ a, a < 0 → ∀ b, b < 0 → a ≠ b → (TJ6 a).2.1 ≠ (TJ6 b).2.1 := by decide +kernel
theorem tyJ6_ok : ∀ k, k < 0 → parseFieldDescriptor (TJ6 k).2.2.1 = some (tyJ6 k) := by decide +kernel
abbrev cJ6_bitCount_0f7a4 : ByteArray := prog_13_method_49_code
def yJ6_bitCount_0f7a4 : MethodName := ⟨RJ6, "bitCount", "(I)I"⟩
def RJ13 : String := "java/lang/Long"
def TJ13 : u_T := fun k => match k with
  | _ => ("", "", "", false)
def tyJ13 : Nat → FieldType := fun k => match k with
  | _ => .int
abbrev wsJ130 : List Cond := u_ws RJ13 TJ13 0
theorem nmJ13 : ∀ a, a < 0 → ∀ b, b < 0 → a ≠ b → (TJ13 a).2.1 ≠ (TJ13 b).2.1 := by decide +kernel
theorem tyJ13_ok : ∀ k, k < 0 → parseFieldDescriptor (TJ13 k).2.2.1 = some (tyJ13 k) := by decide +kernel
abbrev cJ13_bitCount_95d88 : ByteArray := prog_14_method_50_code
def yJ13_bitCount_95d88 : MethodName := ⟨RJ13, "bitCount", "(J)I"⟩
def RJ9 : String := "java/lang/Math"
def TJ9 : u_T := fun k => match k with
  | _ => ("", "", "", false)
def tyJ9 : Nat → FieldType := fun k => match k with
  | _ => .int
abbrev wsJ90 : List Cond := u_ws RJ9 TJ9 0
theorem nmJ9 : ∀ a, a < 0 → ∀ b, b < 0 → a ≠ b → (TJ9 a).2.1 ≠ (TJ9 b).2.1 := by decide +kernel
theorem tyJ9_ok : ∀ k, k < 0 → parseFieldDescriptor (TJ9 k).2.2.1 = some (tyJ9 k) := by decide +kernel
abbrev cJ9_abs_0f7a4 : ByteArray := prog_15_method_59_code
def yJ9_abs_0f7a4 : MethodName := ⟨RJ9, "abs", "(I)I"⟩
abbrev cJ9_max_7cf53 : ByteArray := prog_15_method_65_code
def yJ9_max_7cf53 : MethodName := ⟨RJ9, "max", "(II)I"⟩
abbrev cJ9_min_7cf53 : ByteArray := prog_15_method_69_code
def yJ9_min_7cf53 : MethodName := ⟨RJ9, "min", "(II)I"⟩
def RJ0 : String := "java/lang/String"
def TJ0 : u_T := fun k => match k with
  | _ => ("", "", "", false)
def tyJ0 : Nat → FieldType := fun k => match k with
  | _ => .int
abbrev wsJ00 : List Cond := u_ws RJ0 TJ0 0
theorem nmJ0 : ∀ a, a < 0 → ∀ b, b < 0 → a ≠ b → (TJ0 a).2.1 ≠ (TJ0 b).2.1 := by decide +kernel
theorem tyJ0_ok : ∀ k, k < 0 → parseFieldDescriptor (TJ0 k).2.2.1 = some (tyJ0 k) := by decide +kernel
abbrev cJ0_length_8abf5 : ByteArray := prog_16_method_54_code
def yJ0_length_8abf5 : MethodName := ⟨RJ0, "length", "()I"⟩
abbrev cJ0_charAt_5068e : ByteArray := prog_16_method_56_code
def yJ0_charAt_5068e : MethodName := ⟨RJ0, "charAt", "(I)C"⟩
abbrev cJ0_coder_7d493 : ByteArray := prog_16_method_152_code
def yJ0_coder_7d493 : MethodName := ⟨RJ0, "coder", "()B"⟩
abbrev cJ0_isLatin1_aae02 : ByteArray := prog_16_method_154_code
def yJ0_isLatin1_aae02 : MethodName := ⟨RJ0, "isLatin1", "()Z"⟩
abbrev cJ0_checkIndex_df160 : ByteArray := prog_16_method_155_code
def yJ0_checkIndex_df160 : MethodName := ⟨RJ0, "checkIndex", "(II)V"⟩
def RJ1 : String := "java/lang/StringLatin1"
def TJ1 : u_T := fun k => match k with
  | _ => ("", "", "", false)
def tyJ1 : Nat → FieldType := fun k => match k with
  | _ => .int
abbrev wsJ10 : List Cond := u_ws RJ1 TJ1 0
theorem nmJ1 : ∀ a, a < 0 → ∀ b, b < 0 → a ≠ b → (TJ1 a).2.1 ≠ (TJ1 b).2.1 := by decide +kernel
theorem tyJ1_ok : ∀ k, k < 0 → parseFieldDescriptor (TJ1 k).2.2.1 = some (tyJ1 k) := by decide +kernel
abbrev cJ1_charAt_3b067 : ByteArray := prog_17_method_2_code
def yJ1_charAt_3b067 : MethodName := ⟨RJ1, "charAt", "([BI)C"⟩
def RJ2 : String := "java/lang/StringUTF16"
def TJ2 : u_T := fun k => match k with
  | _ => ("", "", "", false)
def tyJ2 : Nat → FieldType := fun k => match k with
  | _ => .int
abbrev wsJ20 : List Cond := u_ws RJ2 TJ2 0
theorem nmJ2 : ∀ a, a < 0 → ∀ b, b < 0 → a ≠ b → (TJ2 a).2.1 ≠ (TJ2 b).2.1 := by decide +kernel
theorem tyJ2_ok : ∀ k, k < 0 → parseFieldDescriptor (TJ2 k).2.2.1 = some (tyJ2 k) := by decide +kernel
abbrev cJ2_getChar_3b067 : ByteArray := prog_18_method_5_code
def yJ2_getChar_3b067 : MethodName := ⟨RJ2, "getChar", "([BI)C"⟩
abbrev cJ2_length_9d52b : ByteArray := prog_18_method_6_code
def yJ2_length_9d52b : MethodName := ⟨RJ2, "length", "([B)I"⟩
abbrev cJ2_charAt_3b067 : ByteArray := prog_18_method_83_code
def yJ2_charAt_3b067 : MethodName := ⟨RJ2, "charAt", "([BI)C"⟩
abbrev cJ2_checkIndex_2214a : ByteArray := prog_18_method_91_code
def yJ2_checkIndex_2214a : MethodName := ⟨RJ2, "checkIndex", "(I[B)V"⟩
def RJ10 : String := "java/lang/System"
def TJ10 : u_T := fun k => match k with
  | _ => ("", "", "", false)
def tyJ10 : Nat → FieldType := fun k => match k with
  | _ => .int
abbrev wsJ100 : List Cond := u_ws RJ10 TJ10 0
theorem nmJ10 : ∀ a, a < 0 → ∀ b, b < 0 → a ≠ b → (TJ10 a).2.1 ≠ (TJ10 b).2.1 := by decide +kernel
theorem tyJ10_ok : ∀ k, k < 0 → parseFieldDescriptor (TJ10 k).2.2.1 = some (tyJ10 k) := by decide +kernel
def RJxfd54e : String := "java/lang/constant/Constable"
def TJxfd54e : u_T := fun k => match k with
  | _ => ("", "", "", false)
def tyJxfd54e : Nat → FieldType := fun k => match k with
  | _ => .int
abbrev wsJxfd54e0 : List Cond := u_ws RJxfd54e TJxfd54e 0
theorem nmJxfd54e : ∀ a, a < 0 → ∀ b, b < 0 → a ≠ b → (TJxfd54e a).2.1 ≠ (TJxfd54e b).2.1 := by decide +kernel
theorem tyJxfd54e_ok : ∀ k, k < 0 → parseFieldDescriptor (TJxfd54e k).2.2.1 = some (tyJxfd54e k) := by decide +kernel
def RJx3cf43 : String := "java/lang/constant/ConstantDesc"
def TJx3cf43 : u_T := fun k => match k with
  | _ => ("", "", "", false)
def tyJx3cf43 : Nat → FieldType := fun k => match k with
  | _ => .int
abbrev wsJx3cf430 : List Cond := u_ws RJx3cf43 TJx3cf43 0
theorem nmJx3cf43 : ∀ a, a < 0 → ∀ b, b < 0 → a ≠ b → (TJx3cf43 a).2.1 ≠ (TJx3cf43 b).2.1 := by decide +kernel
theorem tyJx3cf43_ok : ∀ k, k < 0 → parseFieldDescriptor (TJx3cf43 k).2.2.1 = some (tyJx3cf43 k) := by decide +kernel
def RJ7 : String := "java/util/Arrays"
def TJ7 : u_T := fun k => match k with
  | _ => ("", "", "", false)
def tyJ7 : Nat → FieldType := fun k => match k with
  | _ => .int
abbrev wsJ70 : List Cond := u_ws RJ7 TJ7 0
theorem nmJ7 : ∀ a, a < 0 → ∀ b, b < 0 → a ≠ b → (TJ7 a).2.1 ≠ (TJ7 b).2.1 := by decide +kernel
theorem tyJ7_ok : ∀ k, k < 0 → parseFieldDescriptor (TJ7 k).2.2.1 = some (tyJ7 k) := by decide +kernel
abbrev cJ7_fill_d0a16 : ByteArray := prog_20_method_101_code
def yJ7_fill_d0a16 : MethodName := ⟨RJ7, "fill", "([JJ)V"⟩
abbrev cJ7_fill_53178 : ByteArray := prog_20_method_103_code
def yJ7_fill_53178 : MethodName := ⟨RJ7, "fill", "([II)V"⟩
def RJ3 : String := "jdk/internal/util/Preconditions"
def TJ3 : u_T := fun k => match k with
  | _ => ("", "", "", false)
def tyJ3 : Nat → FieldType := fun k => match k with
  | _ => .int
abbrev wsJ30 : List Cond := u_ws RJ3 TJ3 0
theorem nmJ3 : ∀ a, a < 0 → ∀ b, b < 0 → a ≠ b → (TJ3 a).2.1 ≠ (TJ3 b).2.1 := by decide +kernel
theorem tyJ3_ok : ∀ k, k < 0 → parseFieldDescriptor (TJ3 k).2.2.1 = some (tyJ3 k) := by decide +kernel
abbrev cJ3_checkIndex_8e157 : ByteArray := prog_21_method_11_code
def yJ3_checkIndex_8e157 : MethodName := ⟨RJ3, "checkIndex", "(IILjava/util/function/BiFunction;)I"⟩
def RL : String := "HalfCourtLaw"
abbrev cL_law : ByteArray := code
def yL_law : MethodName := ⟨RL, "law", "([I)Z"⟩
abbrev CL : List vw_C := [(RX0, TX0, 14), (RX1, TX1, 5), (RX2, TX2, 14), (RX3, TX3, 4), (RX4, TX4, 6), (RX5, TX5, 2), (RX6, TX6, 5), (RX7, TX7, 9), (RX8, TX8, 9), (RX9, TX9, 9), (RX10, TX10, 67)]
def TB : List Cond := lw_tbl.filter goodWord
theorem tbm {w : Cond} (i : Nat) (h : lw_tbl[i]? = some w) (g : goodWord w = true) : w ∈ TB := List.mem_filter.mpr ⟨List.mem_of_getElem? h, g⟩
