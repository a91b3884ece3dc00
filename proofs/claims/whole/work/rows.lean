section
-- ===== PART A: goes FIRST, ahead of the names: the tables' words, and 'selects' of the private methods out of them =====
/-- a private method of a class that the tables say can be made, by its rows of tables_1 -/
def lw_okq (q : MethodName × Nat) : Prop := (q.1.cls ≠ "java/lang/invoke/MethodHandle" ∧ q.1.cls ≠ "java/lang/invoke/VarHandle") ∧ Cond.instantiable q.1.cls q.2 ∈ tables_1 ∧ Cond.privateMethod q.1 ∈ tables_1 ∧ Cond.instanceMethod q.1 ∈ tables_1
theorem lw_p0 : lw_okq (⟨"EightWorlds$Changes", "forgetFirst", "()V"⟩, 6) := ⟨⟨by decide +kernel, by decide +kernel⟩, List.mem_of_getElem? (i := 73) (by decide +kernel), List.mem_of_getElem? (i := 316) (by decide +kernel), List.mem_of_getElem? (i := 317) (by decide +kernel)⟩
theorem lw_p1 : lw_okq (⟨"EightWorlds$Tape", "readLine", "()V"⟩, 6) := ⟨⟨by decide +kernel, by decide +kernel⟩, List.mem_of_getElem? (i := 43) (by decide +kernel), List.mem_of_getElem? (i := 339) (by decide +kernel), List.mem_of_getElem? (i := 340) (by decide +kernel)⟩
theorem lw_p2 : lw_okq (⟨"EightWorlds$Tape", "readAny", "(I)V"⟩, 6) := ⟨⟨by decide +kernel, by decide +kernel⟩, List.mem_of_getElem? (i := 43) (by decide +kernel), List.mem_of_getElem? (i := 343) (by decide +kernel), List.mem_of_getElem? (i := 344) (by decide +kernel)⟩
theorem lw_p3 : lw_okq (⟨"EightWorlds$Tape", "readAll", "(I)V"⟩, 6) := ⟨⟨by decide +kernel, by decide +kernel⟩, List.mem_of_getElem? (i := 43) (by decide +kernel), List.mem_of_getElem? (i := 347) (by decide +kernel), List.mem_of_getElem? (i := 348) (by decide +kernel)⟩
theorem lw_p4 : lw_okq (⟨"EightWorlds$Tape", "readCompared", "(I)V"⟩, 6) := ⟨⟨by decide +kernel, by decide +kernel⟩, List.mem_of_getElem? (i := 43) (by decide +kernel), List.mem_of_getElem? (i := 351) (by decide +kernel), List.mem_of_getElem? (i := 352) (by decide +kernel)⟩
theorem lw_p5 : lw_okq (⟨"EightWorlds$Tape", "readSum", "(I)V"⟩, 6) := ⟨⟨by decide +kernel, by decide +kernel⟩, List.mem_of_getElem? (i := 43) (by decide +kernel), List.mem_of_getElem? (i := 355) (by decide +kernel), List.mem_of_getElem? (i := 356) (by decide +kernel)⟩
theorem lw_p6 : lw_okq (⟨"EightWorlds$Tape", "readProduct", "(I)V"⟩, 6) := ⟨⟨by decide +kernel, by decide +kernel⟩, List.mem_of_getElem? (i := 43) (by decide +kernel), List.mem_of_getElem? (i := 359) (by decide +kernel), List.mem_of_getElem? (i := 360) (by decide +kernel)⟩
theorem lw_p7 : lw_okq (⟨"EightWorlds$Tape", "readOne", "(I)V"⟩, 6) := ⟨⟨by decide +kernel, by decide +kernel⟩, List.mem_of_getElem? (i := 43) (by decide +kernel), List.mem_of_getElem? (i := 363) (by decide +kernel), List.mem_of_getElem? (i := 364) (by decide +kernel)⟩
theorem lw_p8 : lw_okq (⟨"EightWorlds$Tape", "next", "()I"⟩, 6) := ⟨⟨by decide +kernel, by decide +kernel⟩, List.mem_of_getElem? (i := 43) (by decide +kernel), List.mem_of_getElem? (i := 367) (by decide +kernel), List.mem_of_getElem? (i := 368) (by decide +kernel)⟩
theorem lw_p9 : lw_okq (⟨"EightWorlds$Tape", "readNumber", "()V"⟩, 6) := ⟨⟨by decide +kernel, by decide +kernel⟩, List.mem_of_getElem? (i := 43) (by decide +kernel), List.mem_of_getElem? (i := 374) (by decide +kernel), List.mem_of_getElem? (i := 375) (by decide +kernel)⟩
theorem lw_p10 : lw_okq (⟨"EightWorlds$Tape", "mark", "(II)V"⟩, 6) := ⟨⟨by decide +kernel, by decide +kernel⟩, List.mem_of_getElem? (i := 43) (by decide +kernel), List.mem_of_getElem? (i := 378) (by decide +kernel), List.mem_of_getElem? (i := 379) (by decide +kernel)⟩
theorem lw_p11 : lw_okq (⟨"EightWorlds$Tape", "readOpen", "(II)V"⟩, 6) := ⟨⟨by decide +kernel, by decide +kernel⟩, List.mem_of_getElem? (i := 43) (by decide +kernel), List.mem_of_getElem? (i := 382) (by decide +kernel), List.mem_of_getElem? (i := 383) (by decide +kernel)⟩
theorem lw_p12 : lw_okq (⟨"EightWorlds$Tape", "fail", "()V"⟩, 6) := ⟨⟨by decide +kernel, by decide +kernel⟩, List.mem_of_getElem? (i := 43) (by decide +kernel), List.mem_of_getElem? (i := 386) (by decide +kernel), List.mem_of_getElem? (i := 387) (by decide +kernel)⟩
theorem lw_p13 : lw_okq (⟨"EightWorlds", "lawOf", "(I)LEightWorlds$Law;"⟩, 16) := ⟨⟨by decide +kernel, by decide +kernel⟩, List.mem_of_getElem? (i := 16) (by decide +kernel), List.mem_of_getElem? (i := 424) (by decide +kernel), List.mem_of_getElem? (i := 425) (by decide +kernel)⟩
theorem lw_p14 : lw_okq (⟨"EightWorlds", "worldOf", "(I)LEightWorlds$World;"⟩, 16) := ⟨⟨by decide +kernel, by decide +kernel⟩, List.mem_of_getElem? (i := 16) (by decide +kernel), List.mem_of_getElem? (i := 439) (by decide +kernel), List.mem_of_getElem? (i := 440) (by decide +kernel)⟩
theorem lw_p15 : lw_okq (⟨"EightWorlds$World", "greatest", "([I)I"⟩, 16) := ⟨⟨by decide +kernel, by decide +kernel⟩, List.mem_of_getElem? (i := 131) (by decide +kernel), List.mem_of_getElem? (i := 473) (by decide +kernel), List.mem_of_getElem? (i := 474) (by decide +kernel)⟩
def lw_privs_1 : List (MethodName × Nat) := [(⟨"EightWorlds$Changes", "forgetFirst", "()V"⟩, 6), (⟨"EightWorlds$Tape", "readLine", "()V"⟩, 6), (⟨"EightWorlds$Tape", "readAny", "(I)V"⟩, 6), (⟨"EightWorlds$Tape", "readAll", "(I)V"⟩, 6), (⟨"EightWorlds$Tape", "readCompared", "(I)V"⟩, 6), (⟨"EightWorlds$Tape", "readSum", "(I)V"⟩, 6), (⟨"EightWorlds$Tape", "readProduct", "(I)V"⟩, 6), (⟨"EightWorlds$Tape", "readOne", "(I)V"⟩, 6), (⟨"EightWorlds$Tape", "next", "()I"⟩, 6), (⟨"EightWorlds$Tape", "readNumber", "()V"⟩, 6), (⟨"EightWorlds$Tape", "mark", "(II)V"⟩, 6), (⟨"EightWorlds$Tape", "readOpen", "(II)V"⟩, 6), (⟨"EightWorlds$Tape", "fail", "()V"⟩, 6), (⟨"EightWorlds", "lawOf", "(I)LEightWorlds$Law;"⟩, 16), (⟨"EightWorlds", "worldOf", "(I)LEightWorlds$World;"⟩, 16), (⟨"EightWorlds$World", "greatest", "([I)I"⟩, 16)]
theorem lw_r1 : ∀ q ∈ lw_privs_1, lw_okq q := List.forall_mem_cons.mpr ⟨lw_p0, List.forall_mem_cons.mpr ⟨lw_p1, List.forall_mem_cons.mpr ⟨lw_p2, List.forall_mem_cons.mpr ⟨lw_p3, List.forall_mem_cons.mpr ⟨lw_p4, List.forall_mem_cons.mpr ⟨lw_p5, List.forall_mem_cons.mpr ⟨lw_p6, List.forall_mem_cons.mpr ⟨lw_p7, List.forall_mem_cons.mpr ⟨lw_p8, List.forall_mem_cons.mpr ⟨lw_p9, List.forall_mem_cons.mpr ⟨lw_p10, List.forall_mem_cons.mpr ⟨lw_p11, List.forall_mem_cons.mpr ⟨lw_p12, List.forall_mem_cons.mpr ⟨lw_p13, List.forall_mem_cons.mpr ⟨lw_p14, List.forall_mem_cons.mpr ⟨lw_p15, fun _ h => absurd h List.not_mem_nil⟩⟩⟩⟩⟩⟩⟩⟩⟩⟩⟩⟩⟩⟩⟩⟩
theorem lw_p16 : lw_okq (⟨"EightWorlds$World", "oneComes", "()V"⟩, 16) := ⟨⟨by decide +kernel, by decide +kernel⟩, List.mem_of_getElem? (i := 131) (by decide +kernel), List.mem_of_getElem? (i := 505) (by decide +kernel), List.mem_of_getElem? (i := 506) (by decide +kernel)⟩
theorem lw_p17 : lw_okq (⟨"EightWorlds", "shelfOf", "(I)LEightWorlds$Shelf;"⟩, 16) := ⟨⟨by decide +kernel, by decide +kernel⟩, List.mem_of_getElem? (i := 16) (by decide +kernel), List.mem_of_getElem? (i := 530) (by decide +kernel), List.mem_of_getElem? (i := 531) (by decide +kernel)⟩
theorem lw_p18 : lw_okq (⟨"EightWorlds", "apart", "(LEightWorlds$World;LEightWorlds$World;)I"⟩, 16) := ⟨⟨by decide +kernel, by decide +kernel⟩, List.mem_of_getElem? (i := 16) (by decide +kernel), List.mem_of_getElem? (i := 558) (by decide +kernel), List.mem_of_getElem? (i := 559) (by decide +kernel)⟩
theorem lw_p19 : lw_okq (⟨"EightWorlds", "luckOf", "(II)I"⟩, 16) := ⟨⟨by decide +kernel, by decide +kernel⟩, List.mem_of_getElem? (i := 16) (by decide +kernel), List.mem_of_getElem? (i := 566) (by decide +kernel), List.mem_of_getElem? (i := 567) (by decide +kernel)⟩
theorem lw_p20 : lw_okq (⟨"EightWorlds", "waysOf", "(IIII)I"⟩, 16) := ⟨⟨by decide +kernel, by decide +kernel⟩, List.mem_of_getElem? (i := 16) (by decide +kernel), List.mem_of_getElem? (i := 585) (by decide +kernel), List.mem_of_getElem? (i := 586) (by decide +kernel)⟩
theorem lw_p21 : lw_okq (⟨"EightWorlds$Odds", "start", "()V"⟩, 6) := ⟨⟨by decide +kernel, by decide +kernel⟩, List.mem_of_getElem? (i := 201) (by decide +kernel), List.mem_of_getElem? (i := 602) (by decide +kernel), List.mem_of_getElem? (i := 603) (by decide +kernel)⟩
theorem lw_p22 : lw_okq (⟨"EightWorlds$Odds", "think", "(LEightWorlds$World;I)V"⟩, 6) := ⟨⟨by decide +kernel, by decide +kernel⟩, List.mem_of_getElem? (i := 201) (by decide +kernel), List.mem_of_getElem? (i := 607) (by decide +kernel), List.mem_of_getElem? (i := 608) (by decide +kernel)⟩
theorem lw_p23 : lw_okq (⟨"EightWorlds$Odds", "turn", "(I)Z"⟩, 6) := ⟨⟨by decide +kernel, by decide +kernel⟩, List.mem_of_getElem? (i := 201) (by decide +kernel), List.mem_of_getElem? (i := 616) (by decide +kernel), List.mem_of_getElem? (i := 617) (by decide +kernel)⟩
theorem lw_p24 : lw_okq (⟨"EightWorlds$Odds", "goBack", "(LEightWorlds$World;I)V"⟩, 6) := ⟨⟨by decide +kernel, by decide +kernel⟩, List.mem_of_getElem? (i := 201) (by decide +kernel), List.mem_of_getElem? (i := 622) (by decide +kernel), List.mem_of_getElem? (i := 623) (by decide +kernel)⟩
theorem lw_p25 : lw_okq (⟨"EightWorlds$Odds", "mixed", "()J"⟩, 6) := ⟨⟨by decide +kernel, by decide +kernel⟩, List.mem_of_getElem? (i := 201) (by decide +kernel), List.mem_of_getElem? (i := 627) (by decide +kernel), List.mem_of_getElem? (i := 628) (by decide +kernel)⟩
theorem lw_p26 : lw_okq (⟨"EightWorlds", "toldOf", "(I)I"⟩, 16) := ⟨⟨by decide +kernel, by decide +kernel⟩, List.mem_of_getElem? (i := 16) (by decide +kernel), List.mem_of_getElem? (i := 648) (by decide +kernel), List.mem_of_getElem? (i := 649) (by decide +kernel)⟩
theorem lw_p27 : lw_okq (⟨"EightWorlds", "isTrueOf", "(LEightWorlds$Law;LEightWorlds$World;)Z"⟩, 16) := ⟨⟨by decide +kernel, by decide +kernel⟩, List.mem_of_getElem? (i := 16) (by decide +kernel), List.mem_of_getElem? (i := 687) (by decide +kernel), List.mem_of_getElem? (i := 688) (by decide +kernel)⟩
theorem lw_p28 : lw_okq (⟨"EightWorlds", "weightSaid", "(LEightWorlds$Law;II)I"⟩, 16) := ⟨⟨by decide +kernel, by decide +kernel⟩, List.mem_of_getElem? (i := 16) (by decide +kernel), List.mem_of_getElem? (i := 691) (by decide +kernel), List.mem_of_getElem? (i := 692) (by decide +kernel)⟩
theorem lw_p29 : lw_okq (⟨"EightWorlds", "apartInThought", "(LEightWorlds$Law;II)I"⟩, 16) := ⟨⟨by decide +kernel, by decide +kernel⟩, List.mem_of_getElem? (i := 16) (by decide +kernel), List.mem_of_getElem? (i := 704) (by decide +kernel), List.mem_of_getElem? (i := 705) (by decide +kernel)⟩
theorem lw_p30 : lw_okq (⟨"EightWorlds", "farApart", "([I[I)I"⟩, 16) := ⟨⟨by decide +kernel, by decide +kernel⟩, List.mem_of_getElem? (i := 16) (by decide +kernel), List.mem_of_getElem? (i := 712) (by decide +kernel), List.mem_of_getElem? (i := 713) (by decide +kernel)⟩
theorem lw_p31 : lw_okq (⟨"EightWorlds", "apply", "(II)V"⟩, 16) := ⟨⟨by decide +kernel, by decide +kernel⟩, List.mem_of_getElem? (i := 16) (by decide +kernel), List.mem_of_getElem? (i := 729) (by decide +kernel), List.mem_of_getElem? (i := 730) (by decide +kernel)⟩
def lw_privs_2 : List (MethodName × Nat) := [(⟨"EightWorlds$World", "oneComes", "()V"⟩, 16), (⟨"EightWorlds", "shelfOf", "(I)LEightWorlds$Shelf;"⟩, 16), (⟨"EightWorlds", "apart", "(LEightWorlds$World;LEightWorlds$World;)I"⟩, 16), (⟨"EightWorlds", "luckOf", "(II)I"⟩, 16), (⟨"EightWorlds", "waysOf", "(IIII)I"⟩, 16), (⟨"EightWorlds$Odds", "start", "()V"⟩, 6), (⟨"EightWorlds$Odds", "think", "(LEightWorlds$World;I)V"⟩, 6), (⟨"EightWorlds$Odds", "turn", "(I)Z"⟩, 6), (⟨"EightWorlds$Odds", "goBack", "(LEightWorlds$World;I)V"⟩, 6), (⟨"EightWorlds$Odds", "mixed", "()J"⟩, 6), (⟨"EightWorlds", "toldOf", "(I)I"⟩, 16), (⟨"EightWorlds", "isTrueOf", "(LEightWorlds$Law;LEightWorlds$World;)Z"⟩, 16), (⟨"EightWorlds", "weightSaid", "(LEightWorlds$Law;II)I"⟩, 16), (⟨"EightWorlds", "apartInThought", "(LEightWorlds$Law;II)I"⟩, 16), (⟨"EightWorlds", "farApart", "([I[I)I"⟩, 16), (⟨"EightWorlds", "apply", "(II)V"⟩, 16)]
theorem lw_r2 : ∀ q ∈ lw_privs_2, lw_okq q := List.forall_mem_cons.mpr ⟨lw_p16, List.forall_mem_cons.mpr ⟨lw_p17, List.forall_mem_cons.mpr ⟨lw_p18, List.forall_mem_cons.mpr ⟨lw_p19, List.forall_mem_cons.mpr ⟨lw_p20, List.forall_mem_cons.mpr ⟨lw_p21, List.forall_mem_cons.mpr ⟨lw_p22, List.forall_mem_cons.mpr ⟨lw_p23, List.forall_mem_cons.mpr ⟨lw_p24, List.forall_mem_cons.mpr ⟨lw_p25, List.forall_mem_cons.mpr ⟨lw_p26, List.forall_mem_cons.mpr ⟨lw_p27, List.forall_mem_cons.mpr ⟨lw_p28, List.forall_mem_cons.mpr ⟨lw_p29, List.forall_mem_cons.mpr ⟨lw_p30, List.forall_mem_cons.mpr ⟨lw_p31, fun _ h => absurd h List.not_mem_nil⟩⟩⟩⟩⟩⟩⟩⟩⟩⟩⟩⟩⟩⟩⟩⟩
theorem lw_p32 : lw_okq (⟨"EightWorlds$Acts", "own", "(III)I"⟩, 5) := ⟨⟨by decide +kernel, by decide +kernel⟩, List.mem_of_getElem? (i := 104) (by decide +kernel), List.mem_of_getElem? (i := 753) (by decide +kernel), List.mem_of_getElem? (i := 754) (by decide +kernel)⟩
theorem lw_p33 : lw_okq (⟨"EightWorlds$Acts", "ask", "(IIII)I"⟩, 5) := ⟨⟨by decide +kernel, by decide +kernel⟩, List.mem_of_getElem? (i := 104) (by decide +kernel), List.mem_of_getElem? (i := 757) (by decide +kernel), List.mem_of_getElem? (i := 758) (by decide +kernel)⟩
theorem lw_p34 : lw_okq (⟨"EightWorlds$Acts", "run", "(IIII)I"⟩, 5) := ⟨⟨by decide +kernel, by decide +kernel⟩, List.mem_of_getElem? (i := 104) (by decide +kernel), List.mem_of_getElem? (i := 765) (by decide +kernel), List.mem_of_getElem? (i := 766) (by decide +kernel)⟩
theorem lw_p35 : lw_okq (⟨"EightWorlds$Acts", "above", "(IIII)I"⟩, 5) := ⟨⟨by decide +kernel, by decide +kernel⟩, List.mem_of_getElem? (i := 104) (by decide +kernel), List.mem_of_getElem? (i := 769) (by decide +kernel), List.mem_of_getElem? (i := 770) (by decide +kernel)⟩
theorem lw_p36 : lw_okq (⟨"EightWorldsModel", "isSong", "(I)Z"⟩, 45) := ⟨⟨by decide +kernel, by decide +kernel⟩, List.mem_of_getElem? (i := 824) (by decide +kernel), List.mem_of_getElem? (i := 986) (by decide +kernel), List.mem_of_getElem? (i := 987) (by decide +kernel)⟩
theorem lw_p37 : lw_okq (⟨"EightWorldsModel", "becomes", "(II)I"⟩, 45) := ⟨⟨by decide +kernel, by decide +kernel⟩, List.mem_of_getElem? (i := 824) (by decide +kernel), List.mem_of_getElem? (i := 990) (by decide +kernel), List.mem_of_getElem? (i := 991) (by decide +kernel)⟩
theorem lw_p38 : lw_okq (⟨"EightWorldsModel", "workOut", "(II)I"⟩, 45) := ⟨⟨by decide +kernel, by decide +kernel⟩, List.mem_of_getElem? (i := 824) (by decide +kernel), List.mem_of_getElem? (i := 1003) (by decide +kernel), List.mem_of_getElem? (i := 1004) (by decide +kernel)⟩
theorem lw_p39 : lw_okq (⟨"EightWorldsModel", "either", "()I"⟩, 45) := ⟨⟨by decide +kernel, by decide +kernel⟩, List.mem_of_getElem? (i := 824) (by decide +kernel), List.mem_of_getElem? (i := 1007) (by decide +kernel), List.mem_of_getElem? (i := 1008) (by decide +kernel)⟩
theorem lw_p40 : lw_okq (⟨"EightWorldsModel", "both", "()I"⟩, 45) := ⟨⟨by decide +kernel, by decide +kernel⟩, List.mem_of_getElem? (i := 824) (by decide +kernel), List.mem_of_getElem? (i := 1011) (by decide +kernel), List.mem_of_getElem? (i := 1012) (by decide +kernel)⟩
theorem lw_p41 : lw_okq (⟨"EightWorldsModel", "compared", "()I"⟩, 45) := ⟨⟨by decide +kernel, by decide +kernel⟩, List.mem_of_getElem? (i := 824) (by decide +kernel), List.mem_of_getElem? (i := 1015) (by decide +kernel), List.mem_of_getElem? (i := 1016) (by decide +kernel)⟩
theorem lw_p42 : lw_okq (⟨"EightWorldsModel", "sums", "()I"⟩, 45) := ⟨⟨by decide +kernel, by decide +kernel⟩, List.mem_of_getElem? (i := 824) (by decide +kernel), List.mem_of_getElem? (i := 1019) (by decide +kernel), List.mem_of_getElem? (i := 1020) (by decide +kernel)⟩
theorem lw_p43 : lw_okq (⟨"EightWorldsModel", "product", "()I"⟩, 45) := ⟨⟨by decide +kernel, by decide +kernel⟩, List.mem_of_getElem? (i := 824) (by decide +kernel), List.mem_of_getElem? (i := 1023) (by decide +kernel), List.mem_of_getElem? (i := 1024) (by decide +kernel)⟩
theorem lw_p44 : lw_okq (⟨"EightWorldsModel", "one", "()I"⟩, 45) := ⟨⟨by decide +kernel, by decide +kernel⟩, List.mem_of_getElem? (i := 824) (by decide +kernel), List.mem_of_getElem? (i := 1027) (by decide +kernel), List.mem_of_getElem? (i := 1028) (by decide +kernel)⟩
theorem lw_p45 : lw_okq (⟨"EightWorldsModel", "byteAt", "()I"⟩, 45) := ⟨⟨by decide +kernel, by decide +kernel⟩, List.mem_of_getElem? (i := 824) (by decide +kernel), List.mem_of_getElem? (i := 1031) (by decide +kernel), List.mem_of_getElem? (i := 1032) (by decide +kernel)⟩
theorem lw_p46 : lw_okq (⟨"EightWorldsModel", "wrong", "()I"⟩, 45) := ⟨⟨by decide +kernel, by decide +kernel⟩, List.mem_of_getElem? (i := 824) (by decide +kernel), List.mem_of_getElem? (i := 1035) (by decide +kernel), List.mem_of_getElem? (i := 1036) (by decide +kernel)⟩
theorem lw_p47 : lw_okq (⟨"EightWorldsModel", "takes", "(I)Z"⟩, 45) := ⟨⟨by decide +kernel, by decide +kernel⟩, List.mem_of_getElem? (i := 824) (by decide +kernel), List.mem_of_getElem? (i := 1039) (by decide +kernel), List.mem_of_getElem? (i := 1040) (by decide +kernel)⟩
def lw_privs_3 : List (MethodName × Nat) := [(⟨"EightWorlds$Acts", "own", "(III)I"⟩, 5), (⟨"EightWorlds$Acts", "ask", "(IIII)I"⟩, 5), (⟨"EightWorlds$Acts", "run", "(IIII)I"⟩, 5), (⟨"EightWorlds$Acts", "above", "(IIII)I"⟩, 5), (⟨"EightWorldsModel", "isSong", "(I)Z"⟩, 45), (⟨"EightWorldsModel", "becomes", "(II)I"⟩, 45), (⟨"EightWorldsModel", "workOut", "(II)I"⟩, 45), (⟨"EightWorldsModel", "either", "()I"⟩, 45), (⟨"EightWorldsModel", "both", "()I"⟩, 45), (⟨"EightWorldsModel", "compared", "()I"⟩, 45), (⟨"EightWorldsModel", "sums", "()I"⟩, 45), (⟨"EightWorldsModel", "product", "()I"⟩, 45), (⟨"EightWorldsModel", "one", "()I"⟩, 45), (⟨"EightWorldsModel", "byteAt", "()I"⟩, 45), (⟨"EightWorldsModel", "wrong", "()I"⟩, 45), (⟨"EightWorldsModel", "takes", "(I)Z"⟩, 45)]
theorem lw_r3 : ∀ q ∈ lw_privs_3, lw_okq q := List.forall_mem_cons.mpr ⟨lw_p32, List.forall_mem_cons.mpr ⟨lw_p33, List.forall_mem_cons.mpr ⟨lw_p34, List.forall_mem_cons.mpr ⟨lw_p35, List.forall_mem_cons.mpr ⟨lw_p36, List.forall_mem_cons.mpr ⟨lw_p37, List.forall_mem_cons.mpr ⟨lw_p38, List.forall_mem_cons.mpr ⟨lw_p39, List.forall_mem_cons.mpr ⟨lw_p40, List.forall_mem_cons.mpr ⟨lw_p41, List.forall_mem_cons.mpr ⟨lw_p42, List.forall_mem_cons.mpr ⟨lw_p43, List.forall_mem_cons.mpr ⟨lw_p44, List.forall_mem_cons.mpr ⟨lw_p45, List.forall_mem_cons.mpr ⟨lw_p46, List.forall_mem_cons.mpr ⟨lw_p47, fun _ h => absurd h List.not_mem_nil⟩⟩⟩⟩⟩⟩⟩⟩⟩⟩⟩⟩⟩⟩⟩⟩
theorem lw_p48 : lw_okq (⟨"EightWorldsModel", "isLaw", "(I)Z"⟩, 45) := ⟨⟨by decide +kernel, by decide +kernel⟩, List.mem_of_getElem? (i := 824) (by decide +kernel), List.mem_of_getElem? (i := 1050) (by decide +kernel), List.mem_of_getElem? (i := 1051) (by decide +kernel)⟩
theorem lw_p49 : lw_okq (⟨"EightWorldsModel", "begins", "(IIIIII)V"⟩, 45) := ⟨⟨by decide +kernel, by decide +kernel⟩, List.mem_of_getElem? (i := 824) (by decide +kernel), List.mem_of_getElem? (i := 1055) (by decide +kernel), List.mem_of_getElem? (i := 1056) (by decide +kernel)⟩
theorem lw_p50 : lw_okq (⟨"EightWorldsModel", "isWorld", "(I)Z"⟩, 45) := ⟨⟨by decide +kernel, by decide +kernel⟩, List.mem_of_getElem? (i := 824) (by decide +kernel), List.mem_of_getElem? (i := 1063) (by decide +kernel), List.mem_of_getElem? (i := 1064) (by decide +kernel)⟩
theorem lw_p51 : lw_okq (⟨"EightWorldsModel", "songAt", "(II)I"⟩, 45) := ⟨⟨by decide +kernel, by decide +kernel⟩, List.mem_of_getElem? (i := 824) (by decide +kernel), List.mem_of_getElem? (i := 1072) (by decide +kernel), List.mem_of_getElem? (i := 1073) (by decide +kernel)⟩
theorem lw_p52 : lw_okq (⟨"EightWorldsModel", "place", "(II)I"⟩, 45) := ⟨⟨by decide +kernel, by decide +kernel⟩, List.mem_of_getElem? (i := 824) (by decide +kernel), List.mem_of_getElem? (i := 1076) (by decide +kernel), List.mem_of_getElem? (i := 1077) (by decide +kernel)⟩
theorem lw_p53 : lw_okq (⟨"EightWorldsModel", "countOf", "(II)I"⟩, 45) := ⟨⟨by decide +kernel, by decide +kernel⟩, List.mem_of_getElem? (i := 824) (by decide +kernel), List.mem_of_getElem? (i := 1080) (by decide +kernel), List.mem_of_getElem? (i := 1081) (by decide +kernel)⟩
theorem lw_p54 : lw_okq (⟨"EightWorldsModel", "seenPlace", "(II)I"⟩, 45) := ⟨⟨by decide +kernel, by decide +kernel⟩, List.mem_of_getElem? (i := 824) (by decide +kernel), List.mem_of_getElem? (i := 1086) (by decide +kernel), List.mem_of_getElem? (i := 1087) (by decide +kernel)⟩
theorem lw_p55 : lw_okq (⟨"EightWorldsModel", "share", "(II)I"⟩, 45) := ⟨⟨by decide +kernel, by decide +kernel⟩, List.mem_of_getElem? (i := 824) (by decide +kernel), List.mem_of_getElem? (i := 1090) (by decide +kernel), List.mem_of_getElem? (i := 1091) (by decide +kernel)⟩
theorem lw_p56 : lw_okq (⟨"EightWorldsModel", "allCounts", "(I)I"⟩, 45) := ⟨⟨by decide +kernel, by decide +kernel⟩, List.mem_of_getElem? (i := 824) (by decide +kernel), List.mem_of_getElem? (i := 1094) (by decide +kernel), List.mem_of_getElem? (i := 1095) (by decide +kernel)⟩
theorem lw_p57 : lw_okq (⟨"EightWorldsModel", "weightOf", "(II)I"⟩, 45) := ⟨⟨by decide +kernel, by decide +kernel⟩, List.mem_of_getElem? (i := 824) (by decide +kernel), List.mem_of_getElem? (i := 1103) (by decide +kernel), List.mem_of_getElem? (i := 1104) (by decide +kernel)⟩
theorem lw_p58 : lw_okq (⟨"EightWorldsModel", "weighs", "(IIIIII)I"⟩, 45) := ⟨⟨by decide +kernel, by decide +kernel⟩, List.mem_of_getElem? (i := 824) (by decide +kernel), List.mem_of_getElem? (i := 1107) (by decide +kernel), List.mem_of_getElem? (i := 1108) (by decide +kernel)⟩
theorem lw_p59 : lw_okq (⟨"EightWorldsModel", "comesAll", "(II)I"⟩, 45) := ⟨⟨by decide +kernel, by decide +kernel⟩, List.mem_of_getElem? (i := 824) (by decide +kernel), List.mem_of_getElem? (i := 1116) (by decide +kernel), List.mem_of_getElem? (i := 1117) (by decide +kernel)⟩
theorem lw_p60 : lw_okq (⟨"EightWorldsModel", "comesOne", "(I)Z"⟩, 45) := ⟨⟨by decide +kernel, by decide +kernel⟩, List.mem_of_getElem? (i := 824) (by decide +kernel), List.mem_of_getElem? (i := 1120) (by decide +kernel), List.mem_of_getElem? (i := 1121) (by decide +kernel)⟩
theorem lw_p61 : lw_okq (⟨"EightWorldsModel", "findWeights", "(I)I"⟩, 45) := ⟨⟨by decide +kernel, by decide +kernel⟩, List.mem_of_getElem? (i := 824) (by decide +kernel), List.mem_of_getElem? (i := 1124) (by decide +kernel), List.mem_of_getElem? (i := 1125) (by decide +kernel)⟩
theorem lw_p62 : lw_okq (⟨"EightWorldsModel", "keeps", "(II)V"⟩, 45) := ⟨⟨by decide +kernel, by decide +kernel⟩, List.mem_of_getElem? (i := 824) (by decide +kernel), List.mem_of_getElem? (i := 1129) (by decide +kernel), List.mem_of_getElem? (i := 1130) (by decide +kernel)⟩
theorem lw_p63 : lw_okq (⟨"EightWorldsModel", "areTwo", "(I)Z"⟩, 45) := ⟨⟨by decide +kernel, by decide +kernel⟩, List.mem_of_getElem? (i := 824) (by decide +kernel), List.mem_of_getElem? (i := 1160) (by decide +kernel), List.mem_of_getElem? (i := 1161) (by decide +kernel)⟩
def lw_privs_4 : List (MethodName × Nat) := [(⟨"EightWorldsModel", "isLaw", "(I)Z"⟩, 45), (⟨"EightWorldsModel", "begins", "(IIIIII)V"⟩, 45), (⟨"EightWorldsModel", "isWorld", "(I)Z"⟩, 45), (⟨"EightWorldsModel", "songAt", "(II)I"⟩, 45), (⟨"EightWorldsModel", "place", "(II)I"⟩, 45), (⟨"EightWorldsModel", "countOf", "(II)I"⟩, 45), (⟨"EightWorldsModel", "seenPlace", "(II)I"⟩, 45), (⟨"EightWorldsModel", "share", "(II)I"⟩, 45), (⟨"EightWorldsModel", "allCounts", "(I)I"⟩, 45), (⟨"EightWorldsModel", "weightOf", "(II)I"⟩, 45), (⟨"EightWorldsModel", "weighs", "(IIIIII)I"⟩, 45), (⟨"EightWorldsModel", "comesAll", "(II)I"⟩, 45), (⟨"EightWorldsModel", "comesOne", "(I)Z"⟩, 45), (⟨"EightWorldsModel", "findWeights", "(I)I"⟩, 45), (⟨"EightWorldsModel", "keeps", "(II)V"⟩, 45), (⟨"EightWorldsModel", "areTwo", "(I)Z"⟩, 45)]
theorem lw_r4 : ∀ q ∈ lw_privs_4, lw_okq q := List.forall_mem_cons.mpr ⟨lw_p48, List.forall_mem_cons.mpr ⟨lw_p49, List.forall_mem_cons.mpr ⟨lw_p50, List.forall_mem_cons.mpr ⟨lw_p51, List.forall_mem_cons.mpr ⟨lw_p52, List.forall_mem_cons.mpr ⟨lw_p53, List.forall_mem_cons.mpr ⟨lw_p54, List.forall_mem_cons.mpr ⟨lw_p55, List.forall_mem_cons.mpr ⟨lw_p56, List.forall_mem_cons.mpr ⟨lw_p57, List.forall_mem_cons.mpr ⟨lw_p58, List.forall_mem_cons.mpr ⟨lw_p59, List.forall_mem_cons.mpr ⟨lw_p60, List.forall_mem_cons.mpr ⟨lw_p61, List.forall_mem_cons.mpr ⟨lw_p62, List.forall_mem_cons.mpr ⟨lw_p63, fun _ h => absurd h List.not_mem_nil⟩⟩⟩⟩⟩⟩⟩⟩⟩⟩⟩⟩⟩⟩⟩⟩
theorem lw_p64 : lw_okq (⟨"EightWorldsModel", "unlikeOf", "(II)I"⟩, 45) := ⟨⟨by decide +kernel, by decide +kernel⟩, List.mem_of_getElem? (i := 824) (by decide +kernel), List.mem_of_getElem? (i := 1164) (by decide +kernel), List.mem_of_getElem? (i := 1165) (by decide +kernel)⟩
theorem lw_p65 : lw_okq (⟨"EightWorldsModel", "luckOf", "(II)I"⟩, 45) := ⟨⟨by decide +kernel, by decide +kernel⟩, List.mem_of_getElem? (i := 824) (by decide +kernel), List.mem_of_getElem? (i := 1172) (by decide +kernel), List.mem_of_getElem? (i := 1173) (by decide +kernel)⟩
theorem lw_p66 : lw_okq (⟨"EightWorldsModel", "findPairs", "(I)V"⟩, 45) := ⟨⟨by decide +kernel, by decide +kernel⟩, List.mem_of_getElem? (i := 824) (by decide +kernel), List.mem_of_getElem? (i := 1180) (by decide +kernel), List.mem_of_getElem? (i := 1181) (by decide +kernel)⟩
theorem lw_p67 : lw_okq (⟨"EightWorldsModel", "follows", "(IIII)J"⟩, 45) := ⟨⟨by decide +kernel, by decide +kernel⟩, List.mem_of_getElem? (i := 824) (by decide +kernel), List.mem_of_getElem? (i := 1193) (by decide +kernel), List.mem_of_getElem? (i := 1194) (by decide +kernel)⟩
theorem lw_p68 : lw_okq (⟨"EightWorldsModel", "firstCounted", "()I"⟩, 45) := ⟨⟨by decide +kernel, by decide +kernel⟩, List.mem_of_getElem? (i := 824) (by decide +kernel), List.mem_of_getElem? (i := 1202) (by decide +kernel), List.mem_of_getElem? (i := 1203) (by decide +kernel)⟩
theorem lw_p69 : lw_okq (⟨"EightWorldsModel", "chartOf", "(I)I"⟩, 45) := ⟨⟨by decide +kernel, by decide +kernel⟩, List.mem_of_getElem? (i := 824) (by decide +kernel), List.mem_of_getElem? (i := 1215) (by decide +kernel), List.mem_of_getElem? (i := 1216) (by decide +kernel)⟩
theorem lw_p70 : lw_okq (⟨"EightWorldsModel", "isSaid", "(II)Z"⟩, 45) := ⟨⟨by decide +kernel, by decide +kernel⟩, List.mem_of_getElem? (i := 824) (by decide +kernel), List.mem_of_getElem? (i := 1240) (by decide +kernel), List.mem_of_getElem? (i := 1241) (by decide +kernel)⟩
theorem lw_p71 : lw_okq (⟨"EightWorldsModel", "trueFrom", "(III)I"⟩, 45) := ⟨⟨by decide +kernel, by decide +kernel⟩, List.mem_of_getElem? (i := 824) (by decide +kernel), List.mem_of_getElem? (i := 1244) (by decide +kernel), List.mem_of_getElem? (i := 1245) (by decide +kernel)⟩
theorem lw_p72 : lw_okq (⟨"EightWorldsModel", "unlikeBy", "(III)I"⟩, 45) := ⟨⟨by decide +kernel, by decide +kernel⟩, List.mem_of_getElem? (i := 824) (by decide +kernel), List.mem_of_getElem? (i := 1253) (by decide +kernel), List.mem_of_getElem? (i := 1254) (by decide +kernel)⟩
theorem lw_p73 : lw_okq (⟨"EightWorldsModel", "lineOf", "(I)I"⟩, 45) := ⟨⟨by decide +kernel, by decide +kernel⟩, List.mem_of_getElem? (i := 824) (by decide +kernel), List.mem_of_getElem? (i := 1261) (by decide +kernel), List.mem_of_getElem? (i := 1262) (by decide +kernel)⟩
theorem lw_p74 : lw_okq (⟨"EightWorldsModel", "lineBy", "(I)I"⟩, 45) := ⟨⟨by decide +kernel, by decide +kernel⟩, List.mem_of_getElem? (i := 824) (by decide +kernel), List.mem_of_getElem? (i := 1265) (by decide +kernel), List.mem_of_getElem? (i := 1266) (by decide +kernel)⟩
theorem lw_p75 : lw_okq (⟨"EightWorldsModel", "isBody", "(I)Z"⟩, 45) := ⟨⟨by decide +kernel, by decide +kernel⟩, List.mem_of_getElem? (i := 824) (by decide +kernel), List.mem_of_getElem? (i := 1283) (by decide +kernel), List.mem_of_getElem? (i := 1284) (by decide +kernel)⟩
theorem lw_p76 : lw_okq (⟨"EightWorldsModel", "triesAs", "(II)I"⟩, 45) := ⟨⟨by decide +kernel, by decide +kernel⟩, List.mem_of_getElem? (i := 824) (by decide +kernel), List.mem_of_getElem? (i := 1287) (by decide +kernel), List.mem_of_getElem? (i := 1288) (by decide +kernel)⟩
theorem lw_p77 : lw_okq (⟨"EightWorldsModel", "runs", "(I)V"⟩, 45) := ⟨⟨by decide +kernel, by decide +kernel⟩, List.mem_of_getElem? (i := 824) (by decide +kernel), List.mem_of_getElem? (i := 1291) (by decide +kernel), List.mem_of_getElem? (i := 1292) (by decide +kernel)⟩
theorem lw_p78 : lw_okq (⟨"EightWorldsModel", "keepsAs", "(II)I"⟩, 45) := ⟨⟨by decide +kernel, by decide +kernel⟩, List.mem_of_getElem? (i := 824) (by decide +kernel), List.mem_of_getElem? (i := 1295) (by decide +kernel), List.mem_of_getElem? (i := 1296) (by decide +kernel)⟩
theorem lw_p79 : lw_okq (⟨"EightWorldsModel", "countsAs", "(II)I"⟩, 45) := ⟨⟨by decide +kernel, by decide +kernel⟩, List.mem_of_getElem? (i := 824) (by decide +kernel), List.mem_of_getElem? (i := 1299) (by decide +kernel), List.mem_of_getElem? (i := 1300) (by decide +kernel)⟩
def lw_privs_5 : List (MethodName × Nat) := [(⟨"EightWorldsModel", "unlikeOf", "(II)I"⟩, 45), (⟨"EightWorldsModel", "luckOf", "(II)I"⟩, 45), (⟨"EightWorldsModel", "findPairs", "(I)V"⟩, 45), (⟨"EightWorldsModel", "follows", "(IIII)J"⟩, 45), (⟨"EightWorldsModel", "firstCounted", "()I"⟩, 45), (⟨"EightWorldsModel", "chartOf", "(I)I"⟩, 45), (⟨"EightWorldsModel", "isSaid", "(II)Z"⟩, 45), (⟨"EightWorldsModel", "trueFrom", "(III)I"⟩, 45), (⟨"EightWorldsModel", "unlikeBy", "(III)I"⟩, 45), (⟨"EightWorldsModel", "lineOf", "(I)I"⟩, 45), (⟨"EightWorldsModel", "lineBy", "(I)I"⟩, 45), (⟨"EightWorldsModel", "isBody", "(I)Z"⟩, 45), (⟨"EightWorldsModel", "triesAs", "(II)I"⟩, 45), (⟨"EightWorldsModel", "runs", "(I)V"⟩, 45), (⟨"EightWorldsModel", "keepsAs", "(II)I"⟩, 45), (⟨"EightWorldsModel", "countsAs", "(II)I"⟩, 45)]
theorem lw_r5 : ∀ q ∈ lw_privs_5, lw_okq q := List.forall_mem_cons.mpr ⟨lw_p64, List.forall_mem_cons.mpr ⟨lw_p65, List.forall_mem_cons.mpr ⟨lw_p66, List.forall_mem_cons.mpr ⟨lw_p67, List.forall_mem_cons.mpr ⟨lw_p68, List.forall_mem_cons.mpr ⟨lw_p69, List.forall_mem_cons.mpr ⟨lw_p70, List.forall_mem_cons.mpr ⟨lw_p71, List.forall_mem_cons.mpr ⟨lw_p72, List.forall_mem_cons.mpr ⟨lw_p73, List.forall_mem_cons.mpr ⟨lw_p74, List.forall_mem_cons.mpr ⟨lw_p75, List.forall_mem_cons.mpr ⟨lw_p76, List.forall_mem_cons.mpr ⟨lw_p77, List.forall_mem_cons.mpr ⟨lw_p78, List.forall_mem_cons.mpr ⟨lw_p79, fun _ h => absurd h List.not_mem_nil⟩⟩⟩⟩⟩⟩⟩⟩⟩⟩⟩⟩⟩⟩⟩⟩
theorem lw_p80 : lw_okq (⟨"EightWorldsModel", "tellsAs", "(II)I"⟩, 45) := ⟨⟨by decide +kernel, by decide +kernel⟩, List.mem_of_getElem? (i := 824) (by decide +kernel), List.mem_of_getElem? (i := 1303) (by decide +kernel), List.mem_of_getElem? (i := 1304) (by decide +kernel)⟩
theorem lw_p81 : lw_okq (⟨"EightWorldsModel", "refusal", "(II)I"⟩, 45) := ⟨⟨by decide +kernel, by decide +kernel⟩, List.mem_of_getElem? (i := 824) (by decide +kernel), List.mem_of_getElem? (i := 1323) (by decide +kernel), List.mem_of_getElem? (i := 1324) (by decide +kernel)⟩
theorem lw_p82 : lw_okq (⟨"EightWorldsModel", "kindOf", "(I)I"⟩, 45) := ⟨⟨by decide +kernel, by decide +kernel⟩, List.mem_of_getElem? (i := 824) (by decide +kernel), List.mem_of_getElem? (i := 1343) (by decide +kernel), List.mem_of_getElem? (i := 1344) (by decide +kernel)⟩
def lw_privs_6 : List (MethodName × Nat) := [(⟨"EightWorldsModel", "tellsAs", "(II)I"⟩, 45), (⟨"EightWorldsModel", "refusal", "(II)I"⟩, 45), (⟨"EightWorldsModel", "kindOf", "(I)I"⟩, 45)]
theorem lw_r6 : ∀ q ∈ lw_privs_6, lw_okq q := List.forall_mem_cons.mpr ⟨lw_p80, List.forall_mem_cons.mpr ⟨lw_p81, List.forall_mem_cons.mpr ⟨lw_p82, fun _ h => absurd h List.not_mem_nil⟩⟩⟩
def lw_privs : List (MethodName × Nat) := lw_privs_1 ++ (lw_privs_2 ++ (lw_privs_3 ++ (lw_privs_4 ++ (lw_privs_5 ++ (lw_privs_6)))))
def lw_tbl : List Cond := k2_sels lw_privs ++ tables_1
theorem lw_privs_ok : ∀ q ∈ lw_privs, lw_okq q := by
  show ∀ q ∈ lw_privs_1 ++ (lw_privs_2 ++ (lw_privs_3 ++ (lw_privs_4 ++ (lw_privs_5 ++ (lw_privs_6))))), lw_okq q
  exact List.forall_mem_append.mpr ⟨lw_r1, List.forall_mem_append.mpr ⟨lw_r2, List.forall_mem_append.mpr ⟨lw_r3, List.forall_mem_append.mpr ⟨lw_r4, List.forall_mem_append.mpr ⟨lw_r5, lw_r6⟩⟩⟩⟩⟩
end
section
def RX0 : String := "EightWorlds$Acts"
def TX0 : u_T := fun k => match k with
  | 0 => ("EightWorlds$Acts", "kinds", "[I", true)
  | 1 => ("EightWorlds$Acts", "size", "I", false)
  | 2 => ("EightWorlds$Acts", "traced", "[I", true)
  | 3 => ("EightWorlds$Acts", "ran", "I", false)
  | _ => ("EightWorlds$Acts", "number", "I", false)
def tyX0 : Nat → FieldType := fun k => match k with
  | 0 => .array .int
  | 1 => .int
  | 2 => .array .int
  | 3 => .int
  | _ => .int
abbrev wsX00 : List Cond := u_ws RX0 TX0 5
theorem nmX0 : ∀ a, a < 5 → ∀ b, b < 5 → a ≠ b → (TX0 a).2.1 ≠ (TX0 b).2.1 := by decide +kernel
theorem tyX0_ok : ∀ k, k < 5 → parseFieldDescriptor (TX0 k).2.2.1 = some (tyX0 k) := by decide +kernel
abbrev cX0_init : ByteArray := prog_2_method_1_code
def yX0_init : MethodName := ⟨RX0, "<init>", "()V"⟩
abbrev cX0_has : ByteArray := prog_2_method_2_code
def yX0_has : MethodName := ⟨RX0, "has", "(I)Z"⟩
abbrev cX0_isUnder : ByteArray := prog_2_method_3_code
def yX0_isUnder : MethodName := ⟨RX0, "isUnder", "(II)Z"⟩
abbrev cX0_perform : ByteArray := prog_2_method_4_code
def yX0_perform : MethodName := ⟨RX0, "perform", "(III)I"⟩
abbrev cX0_own : ByteArray := prog_2_method_5_code
def yX0_own : MethodName := ⟨RX0, "own", "(III)I"⟩
abbrev cX0_above : ByteArray := prog_2_method_6_code
def yX0_above : MethodName := ⟨RX0, "above", "(IIII)I"⟩
abbrev cX0_ask : ByteArray := prog_2_method_7_code
def yX0_ask : MethodName := ⟨RX0, "ask", "(IIII)I"⟩
abbrev cX0_run : ByteArray := prog_2_method_8_code
def yX0_run : MethodName := ⟨RX0, "run", "(IIII)I"⟩
def RX1 : String := "EightWorlds$Changes"
def TX1 : u_T := fun k => match k with
  | 0 => ("EightWorlds$Changes", "worlds", "[I", true)
  | 1 => ("EightWorlds$Changes", "songs", "[I", true)
  | 2 => ("EightWorlds$Changes", "ahead", "[I", true)
  | 3 => ("EightWorlds$Changes", "behind", "[I", true)
  | 4 => ("EightWorlds$Changes", "done", "I", false)
  | _ => ("EightWorlds$Changes", "size", "I", false)
def tyX1 : Nat → FieldType := fun k => match k with
  | 0 => .array .int
  | 1 => .array .int
  | 2 => .array .int
  | 3 => .array .int
  | 4 => .int
  | _ => .int
abbrev wsX10 : List Cond := u_ws RX1 TX1 6
theorem nmX1 : ∀ a, a < 6 → ∀ b, b < 6 → a ≠ b → (TX1 a).2.1 ≠ (TX1 b).2.1 := by decide +kernel
theorem tyX1_ok : ∀ k, k < 6 → parseFieldDescriptor (TX1 k).2.2.1 = some (tyX1 k) := by decide +kernel
abbrev cX1_init : ByteArray := prog_3_method_1_code
def yX1_init : MethodName := ⟨RX1, "<init>", "()V"⟩
abbrev cX1_note : ByteArray := prog_3_method_2_code
def yX1_note : MethodName := ⟨RX1, "note", "(IIII)V"⟩
abbrev cX1_forgetFirst : ByteArray := prog_3_method_3_code
def yX1_forgetFirst : MethodName := ⟨RX1, "forgetFirst", "()V"⟩
def RX2 : String := "EightWorlds$Law"
def TX2 : u_T := fun k => match k with
  | 0 => ("EightWorlds$Law", "code", "[I", true)
  | _ => ("EightWorlds$Law", "stack", "[I", true)
def tyX2 : Nat → FieldType := fun k => match k with
  | 0 => .array .int
  | _ => .array .int
abbrev wsX20 : List Cond := u_ws RX2 TX2 2
theorem nmX2 : ∀ a, a < 2 → ∀ b, b < 2 → a ≠ b → (TX2 a).2.1 ≠ (TX2 b).2.1 := by decide +kernel
theorem tyX2_ok : ∀ k, k < 2 → parseFieldDescriptor (TX2 k).2.2.1 = some (tyX2 k) := by decide +kernel
abbrev cX2_init : ByteArray := prog_4_method_1_code
def yX2_init : MethodName := ⟨RX2, "<init>", "([I)V"⟩
abbrev cX2_weigh : ByteArray := prog_4_method_2_code
def yX2_weigh : MethodName := ⟨RX2, "weigh", "([I)I"⟩
abbrev cX2_joined : ByteArray := prog_4_method_3_code
def yX2_joined : MethodName := ⟨RX2, "joined", "(III)I"⟩
def RX3 : String := "EightWorlds$Odds"
def TX3 : u_T := fun k => match k with
  | 0 => ("EightWorlds$Odds", "songs", "LEightWorlds$Songs;", true)
  | 1 => ("EightWorlds$Odds", "now", "LEightWorlds$World;", true)
  | 2 => ("EightWorlds$Odds", "cells", "[J", true)
  | 3 => ("EightWorlds$Odds", "more", "[I", true)
  | 4 => ("EightWorlds$Odds", "sum", "I", false)
  | _ => ("EightWorlds$Odds", "cell", "I", false)
def tyX3 : Nat → FieldType := fun k => match k with
  | 0 => .object "EightWorlds$Songs"
  | 1 => .object "EightWorlds$World"
  | 2 => .array .long
  | 3 => .array .int
  | 4 => .int
  | _ => .int
abbrev wsX30 : List Cond := u_ws RX3 TX3 6
theorem nmX3 : ∀ a, a < 6 → ∀ b, b < 6 → a ≠ b → (TX3 a).2.1 ≠ (TX3 b).2.1 := by decide +kernel
theorem tyX3_ok : ∀ k, k < 6 → parseFieldDescriptor (TX3 k).2.2.1 = some (tyX3 k) := by decide +kernel
abbrev cX3_init : ByteArray := prog_5_method_1_code
def yX3_init : MethodName := ⟨RX3, "<init>", "(LEightWorlds$Songs;LEightWorlds$World;)V"⟩
abbrev cX3_foretell : ByteArray := prog_5_method_2_code
def yX3_foretell : MethodName := ⟨RX3, "foretell", "(LEightWorlds$World;III)I"⟩
abbrev cX3_goBack : ByteArray := prog_5_method_3_code
def yX3_goBack : MethodName := ⟨RX3, "goBack", "(LEightWorlds$World;I)V"⟩
abbrev cX3_mixed : ByteArray := prog_5_method_4_code
def yX3_mixed : MethodName := ⟨RX3, "mixed", "()J"⟩
abbrev cX3_start : ByteArray := prog_5_method_5_code
def yX3_start : MethodName := ⟨RX3, "start", "()V"⟩
abbrev cX3_turn : ByteArray := prog_5_method_6_code
def yX3_turn : MethodName := ⟨RX3, "turn", "(I)Z"⟩
abbrev cX3_think : ByteArray := prog_5_method_7_code
def yX3_think : MethodName := ⟨RX3, "think", "(LEightWorlds$World;I)V"⟩
def RX4 : String := "EightWorlds$Shelf"
def TX4 : u_T := fun k => match k with
  | 0 => ("EightWorlds$Shelf", "holds", "I", false)
  | 1 => ("EightWorlds$Shelf", "body", "I", false)
  | 2 => ("EightWorlds$Shelf", "sort", "I", false)
  | 3 => ("EightWorlds$Shelf", "size", "I", false)
  | _ => ("EightWorlds$Shelf", "cells", "[J", true)
def tyX4 : Nat → FieldType := fun k => match k with
  | 0 => .int
  | 1 => .int
  | 2 => .int
  | 3 => .int
  | _ => .array .long
abbrev wsX40 : List Cond := u_ws RX4 TX4 5
theorem nmX4 : ∀ a, a < 5 → ∀ b, b < 5 → a ≠ b → (TX4 a).2.1 ≠ (TX4 b).2.1 := by decide +kernel
theorem tyX4_ok : ∀ k, k < 5 → parseFieldDescriptor (TX4 k).2.2.1 = some (tyX4 k) := by decide +kernel
abbrev cX4_init : ByteArray := prog_6_method_1_code
def yX4_init : MethodName := ⟨RX4, "<init>", "()V"⟩
abbrev cX4_has : ByteArray := prog_6_method_2_code
def yX4_has : MethodName := ⟨RX4, "has", "(I)Z"⟩
abbrev cX4_hasRun : ByteArray := prog_6_method_3_code
def yX4_hasRun : MethodName := ⟨RX4, "hasRun", "(II)Z"⟩
abbrev cX4_lowest : ByteArray := prog_6_method_4_code
def yX4_lowest : MethodName := ⟨RX4, "lowest", "(J)J"⟩
def RX5 : String := "EightWorlds$Songs"
def TX5 : u_T := fun k => match k with
  | 0 => ("EightWorlds$Songs", "worths", "[I", true)
  | _ => ("EightWorlds$Songs", "size", "I", false)
def tyX5 : Nat → FieldType := fun k => match k with
  | 0 => .array .int
  | _ => .int
abbrev wsX50 : List Cond := u_ws RX5 TX5 2
theorem nmX5 : ∀ a, a < 2 → ∀ b, b < 2 → a ≠ b → (TX5 a).2.1 ≠ (TX5 b).2.1 := by decide +kernel
theorem tyX5_ok : ∀ k, k < 2 → parseFieldDescriptor (TX5 k).2.2.1 = some (tyX5 k) := by decide +kernel
abbrev cX5_init : ByteArray := prog_7_method_1_code
def yX5_init : MethodName := ⟨RX5, "<init>", "()V"⟩
abbrev cX5_has : ByteArray := prog_7_method_2_code
def yX5_has : MethodName := ⟨RX5, "has", "(I)Z"⟩
abbrev cX5_allWorths : ByteArray := prog_7_method_3_code
def yX5_allWorths : MethodName := ⟨RX5, "allWorths", "()I"⟩
def RX6 : String := "EightWorlds$Tape"
def TX6 : u_T := fun k => match k with
  | 0 => ("EightWorlds$Tape", "bytes", "[I", true)
  | 1 => ("EightWorlds$Tape", "length", "I", false)
  | 2 => ("EightWorlds$Tape", "marks", "[I", true)
  | 3 => ("EightWorlds$Tape", "written", "I", false)
  | 4 => ("EightWorlds$Tape", "at", "I", false)
  | _ => ("EightWorlds$Tape", "fault", "I", false)
def tyX6 : Nat → FieldType := fun k => match k with
  | 0 => .array .int
  | 1 => .int
  | 2 => .array .int
  | 3 => .int
  | 4 => .int
  | _ => .int
abbrev wsX60 : List Cond := u_ws RX6 TX6 6
theorem nmX6 : ∀ a, a < 6 → ∀ b, b < 6 → a ≠ b → (TX6 a).2.1 ≠ (TX6 b).2.1 := by decide +kernel
theorem tyX6_ok : ∀ k, k < 6 → parseFieldDescriptor (TX6 k).2.2.1 = some (tyX6 k) := by decide +kernel
abbrev cX6_init : ByteArray := prog_8_method_1_code
def yX6_init : MethodName := ⟨RX6, "<init>", "()V"⟩
abbrev cX6_write : ByteArray := prog_8_method_2_code
def yX6_write : MethodName := ⟨RX6, "write", "(I)V"⟩
abbrev cX6_read : ByteArray := prog_8_method_3_code
def yX6_read : MethodName := ⟨RX6, "read", "()I"⟩
abbrev cX6_codeRead : ByteArray := prog_8_method_4_code
def yX6_codeRead : MethodName := ⟨RX6, "codeRead", "()[I"⟩
abbrev cX6_fail : ByteArray := prog_8_method_5_code
def yX6_fail : MethodName := ⟨RX6, "fail", "()V"⟩
abbrev cX6_next : ByteArray := prog_8_method_6_code
def yX6_next : MethodName := ⟨RX6, "next", "()I"⟩
abbrev cX6_mark : ByteArray := prog_8_method_7_code
def yX6_mark : MethodName := ⟨RX6, "mark", "(II)V"⟩
abbrev cX6_readLine : ByteArray := prog_8_method_8_code
def yX6_readLine : MethodName := ⟨RX6, "readLine", "()V"⟩
abbrev cX6_readAny : ByteArray := prog_8_method_9_code
def yX6_readAny : MethodName := ⟨RX6, "readAny", "(I)V"⟩
abbrev cX6_readAll : ByteArray := prog_8_method_10_code
def yX6_readAll : MethodName := ⟨RX6, "readAll", "(I)V"⟩
abbrev cX6_readCompared : ByteArray := prog_8_method_11_code
def yX6_readCompared : MethodName := ⟨RX6, "readCompared", "(I)V"⟩
abbrev cX6_readSum : ByteArray := prog_8_method_12_code
def yX6_readSum : MethodName := ⟨RX6, "readSum", "(I)V"⟩
abbrev cX6_readProduct : ByteArray := prog_8_method_13_code
def yX6_readProduct : MethodName := ⟨RX6, "readProduct", "(I)V"⟩
abbrev cX6_readOne : ByteArray := prog_8_method_14_code
def yX6_readOne : MethodName := ⟨RX6, "readOne", "(I)V"⟩
abbrev cX6_readNumber : ByteArray := prog_8_method_15_code
def yX6_readNumber : MethodName := ⟨RX6, "readNumber", "()V"⟩
abbrev cX6_readOpen : ByteArray := prog_8_method_16_code
def yX6_readOpen : MethodName := ⟨RX6, "readOpen", "(II)V"⟩
abbrev cX6_nameOf : ByteArray := prog_8_method_17_code
def yX6_nameOf : MethodName := ⟨RX6, "nameOf", "(I)I"⟩
def RX7 : String := "EightWorlds$World"
def TX7 : u_T := fun k => match k with
  | 0 => ("EightWorlds$World", "songs", "LEightWorlds$Songs;", true)
  | 1 => ("EightWorlds$World", "law", "LEightWorlds$Law;", false)
  | 2 => ("EightWorlds$World", "lawNumber", "I", false)
  | 3 => ("EightWorlds$World", "show", "I", false)
  | 4 => ("EightWorlds$World", "until", "I", false)
  | 5 => ("EightWorlds$World", "nothing", "I", false)
  | 6 => ("EightWorlds$World", "z", "I", false)
  | 7 => ("EightWorlds$World", "came", "I", false)
  | 8 => ("EightWorlds$World", "kept", "I", false)
  | 9 => ("EightWorlds$World", "shop", "I", false)
  | 10 => ("EightWorlds$World", "counts", "[I", true)
  | 11 => ("EightWorlds$World", "order", "[I", true)
  | 12 => ("EightWorlds$World", "places", "[I", true)
  | 13 => ("EightWorlds$World", "weights", "[I", true)
  | 14 => ("EightWorlds$World", "log", "[B", true)
  | _ => ("EightWorlds$World", "seen", "[I", true)
def tyX7 : Nat → FieldType := fun k => match k with
  | 0 => .object "EightWorlds$Songs"
  | 1 => .object "EightWorlds$Law"
  | 2 => .int
  | 3 => .int
  | 4 => .int
  | 5 => .int
  | 6 => .int
  | 7 => .int
  | 8 => .int
  | 9 => .int
  | 10 => .array .int
  | 11 => .array .int
  | 12 => .array .int
  | 13 => .array .int
  | 14 => .array .byte
  | _ => .array .int
abbrev wsX70 : List Cond := u_ws RX7 TX7 16
theorem nmX7 : ∀ a, a < 16 → ∀ b, b < 16 → a ≠ b → (TX7 a).2.1 ≠ (TX7 b).2.1 := by decide +kernel
theorem tyX7_ok : ∀ k, k < 16 → parseFieldDescriptor (TX7 k).2.2.1 = some (tyX7 k) := by decide +kernel
abbrev cX7_init : ByteArray := prog_9_method_1_code
def yX7_init : MethodName := ⟨RX7, "<init>", "(LEightWorlds$Songs;)V"⟩
abbrev cX7_rank : ByteArray := prog_9_method_2_code
def yX7_rank : MethodName := ⟨RX7, "rank", "([II[I)V"⟩
abbrev cX7_drawn : ByteArray := prog_9_method_3_code
def yX7_drawn : MethodName := ⟨RX7, "drawn", "(I)I"⟩
abbrev cX7_begin : ByteArray := prog_9_method_4_code
def yX7_begin : MethodName := ⟨RX7, "begin", "(LEightWorlds$Law;I)V"⟩
abbrev cX7_followLawOf : ByteArray := prog_9_method_5_code
def yX7_followLawOf : MethodName := ⟨RX7, "followLawOf", "(LEightWorlds$World;)V"⟩
abbrev cX7_arrange : ByteArray := prog_9_method_6_code
def yX7_arrange : MethodName := ⟨RX7, "arrange", "()V"⟩
abbrev cX7_first : ByteArray := prog_9_method_7_code
def yX7_first : MethodName := ⟨RX7, "first", "()I"⟩
abbrev cX7_greatest : ByteArray := prog_9_method_8_code
def yX7_greatest : MethodName := ⟨RX7, "greatest", "([I)I"⟩
abbrev cX7_firstOnes : ByteArray := prog_9_method_9_code
def yX7_firstOnes : MethodName := ⟨RX7, "firstOnes", "(I)I"⟩
abbrev cX7_placeSeen : ByteArray := prog_9_method_10_code
def yX7_placeSeen : MethodName := ⟨RX7, "placeSeen", "(I)I"⟩
abbrev cX7_weigh : ByteArray := prog_9_method_11_code
def yX7_weigh : MethodName := ⟨RX7, "weigh", "(I)I"⟩
abbrev cX7_weighAll : ByteArray := prog_9_method_12_code
def yX7_weighAll : MethodName := ⟨RX7, "weighAll", "()I"⟩
abbrev cX7_manyCome : ByteArray := prog_9_method_13_code
def yX7_manyCome : MethodName := ⟨RX7, "manyCome", "(I)I"⟩
abbrev cX7_oneComes : ByteArray := prog_9_method_14_code
def yX7_oneComes : MethodName := ⟨RX7, "oneComes", "()V"⟩
abbrev cX7_receive : ByteArray := prog_9_method_15_code
def yX7_receive : MethodName := ⟨RX7, "receive", "(I)V"⟩
abbrev cX7_logged : ByteArray := prog_9_method_16_code
def yX7_logged : MethodName := ⟨RX7, "logged", "()I"⟩
abbrev cX7_allCounts : ByteArray := prog_9_method_17_code
def yX7_allCounts : MethodName := ⟨RX7, "allCounts", "()I"⟩
abbrev cX7_share : ByteArray := prog_9_method_18_code
def yX7_share : MethodName := ⟨RX7, "share", "(I)I"⟩
abbrev cX7_way : ByteArray := prog_9_method_19_code
def yX7_way : MethodName := ⟨RX7, "way", "(II)I"⟩
abbrev cX7_settled : ByteArray := prog_9_method_20_code
def yX7_settled : MethodName := ⟨RX7, "settled", "([I)I"⟩
def RX8 : String := "EightWorlds"
def TX8 : u_T := fun k => match k with
  | 0 => ("EightWorlds", "songs", "LEightWorlds$Songs;", true)
  | 1 => ("EightWorlds", "tape", "LEightWorlds$Tape;", true)
  | 2 => ("EightWorlds", "laws", "[LEightWorlds$Law;", true)
  | 3 => ("EightWorlds", "lawCount", "I", false)
  | 4 => ("EightWorlds", "worlds", "[LEightWorlds$World;", true)
  | 5 => ("EightWorlds", "worldCount", "I", false)
  | 6 => ("EightWorlds", "changes", "LEightWorlds$Changes;", true)
  | 7 => ("EightWorlds", "acts", "LEightWorlds$Acts;", true)
  | 8 => ("EightWorlds", "shelves", "[LEightWorlds$Shelf;", true)
  | 9 => ("EightWorlds", "thought", "LEightWorlds$World;", true)
  | 10 => ("EightWorlds", "otherThought", "LEightWorlds$World;", true)
  | 11 => ("EightWorlds", "chances", "LEightWorlds$Odds;", true)
  | 12 => ("EightWorlds", "seen", "[I", true)
  | 13 => ("EightWorlds", "sums", "[I", true)
  | 14 => ("EightWorlds", "ranks", "[I", true)
  | _ => ("EightWorlds", "orderWeights", "[I", true)
def tyX8 : Nat → FieldType := fun k => match k with
  | 0 => .object "EightWorlds$Songs"
  | 1 => .object "EightWorlds$Tape"
  | 2 => .array (.object "EightWorlds$Law")
  | 3 => .int
  | 4 => .array (.object "EightWorlds$World")
  | 5 => .int
  | 6 => .object "EightWorlds$Changes"
  | 7 => .object "EightWorlds$Acts"
  | 8 => .array (.object "EightWorlds$Shelf")
  | 9 => .object "EightWorlds$World"
  | 10 => .object "EightWorlds$World"
  | 11 => .object "EightWorlds$Odds"
  | 12 => .array .int
  | 13 => .array .int
  | 14 => .array .int
  | _ => .array .int
abbrev wsX80 : List Cond := u_ws RX8 TX8 16
theorem nmX8 : ∀ a, a < 16 → ∀ b, b < 16 → a ≠ b → (TX8 a).2.1 ≠ (TX8 b).2.1 := by decide +kernel
theorem tyX8_ok : ∀ k, k < 16 → parseFieldDescriptor (TX8 k).2.2.1 = some (tyX8 k) := by decide +kernel
abbrev cX8_init : ByteArray := prog_1_method_1_code
def yX8_init : MethodName := ⟨RX8, "<init>", "()V"⟩
abbrev cX8_song : ByteArray := prog_1_method_2_code
def yX8_song : MethodName := ⟨RX8, "song", "(I)I"⟩
abbrev cX8_worth : ByteArray := prog_1_method_3_code
def yX8_worth : MethodName := ⟨RX8, "worth", "(II)I"⟩
abbrev cX8_feed : ByteArray := prog_1_method_4_code
def yX8_feed : MethodName := ⟨RX8, "feed", "(II)I"⟩
abbrev cX8_law : ByteArray := prog_1_method_5_code
def yX8_law : MethodName := ⟨RX8, "law", "()I"⟩
abbrev cX8_world : ByteArray := prog_1_method_6_code
def yX8_world : MethodName := ⟨RX8, "world", "(III)I"⟩
abbrev cX8_nothing : ByteArray := prog_1_method_7_code
def yX8_nothing : MethodName := ⟨RX8, "nothing", "(II)I"⟩
abbrev cX8_of : ByteArray := prog_1_method_8_code
def yX8_of : MethodName := ⟨RX8, "of", "(II)I"⟩
abbrev cX8_ofSong : ByteArray := prog_1_method_9_code
def yX8_ofSong : MethodName := ⟨RX8, "ofSong", "(LEightWorlds$World;II)I"⟩
abbrev cX8_weight : ByteArray := prog_1_method_10_code
def yX8_weight : MethodName := ⟨RX8, "weight", "(II)I"⟩
abbrev cX8_come : ByteArray := prog_1_method_11_code
def yX8_come : MethodName := ⟨RX8, "come", "(II)I"⟩
abbrev cX8_keepings : ByteArray := prog_1_method_12_code
def yX8_keepings : MethodName := ⟨RX8, "keepings", "(IIII)I"⟩
abbrev cX8_led : ByteArray := prog_1_method_13_code
def yX8_led : MethodName := ⟨RX8, "led", "(II)I"⟩
abbrev cX8_lawOf : ByteArray := prog_1_method_14_code
def yX8_lawOf : MethodName := ⟨RX8, "lawOf", "(I)LEightWorlds$Law;"⟩
abbrev cX8_worldOf : ByteArray := prog_1_method_15_code
def yX8_worldOf : MethodName := ⟨RX8, "worldOf", "(I)LEightWorlds$World;"⟩
abbrev cX8_shelfOf : ByteArray := prog_1_method_16_code
def yX8_shelfOf : MethodName := ⟨RX8, "shelfOf", "(I)LEightWorlds$Shelf;"⟩
abbrev cX8_unequal : ByteArray := prog_1_method_17_code
def yX8_unequal : MethodName := ⟨RX8, "unequal", "(I)I"⟩
abbrev cX8_unlike : ByteArray := prog_1_method_18_code
def yX8_unlike : MethodName := ⟨RX8, "unlike", "(I)I"⟩
abbrev cX8_apart : ByteArray := prog_1_method_19_code
def yX8_apart : MethodName := ⟨RX8, "apart", "(LEightWorlds$World;LEightWorlds$World;)I"⟩
abbrev cX8_luck : ByteArray := prog_1_method_20_code
def yX8_luck : MethodName := ⟨RX8, "luck", "(II)I"⟩
abbrev cX8_luckOf : ByteArray := prog_1_method_21_code
def yX8_luckOf : MethodName := ⟨RX8, "luckOf", "(II)I"⟩
abbrev cX8_right : ByteArray := prog_1_method_22_code
def yX8_right : MethodName := ⟨RX8, "right", "(I)I"⟩
abbrev cX8_guess : ByteArray := prog_1_method_23_code
def yX8_guess : MethodName := ⟨RX8, "guess", "(II)I"⟩
abbrev cX8_waysOf : ByteArray := prog_1_method_24_code
def yX8_waysOf : MethodName := ⟨RX8, "waysOf", "(IIII)I"⟩
abbrev cX8_odds : ByteArray := prog_1_method_25_code
def yX8_odds : MethodName := ⟨RX8, "odds", "(IIII)I"⟩
abbrev cX8_after : ByteArray := prog_1_method_26_code
def yX8_after : MethodName := ⟨RX8, "after", "(I)I"⟩
abbrev cX8_shop : ByteArray := prog_1_method_27_code
def yX8_shop : MethodName := ⟨RX8, "shop", "(II)I"⟩
abbrev cX8_chart : ByteArray := prog_1_method_28_code
def yX8_chart : MethodName := ⟨RX8, "chart", "(II)I"⟩
abbrev cX8_toldOf : ByteArray := prog_1_method_29_code
def yX8_toldOf : MethodName := ⟨RX8, "toldOf", "(I)I"⟩
abbrev cX8_crate : ByteArray := prog_1_method_30_code
def yX8_crate : MethodName := ⟨RX8, "crate", "(III)I"⟩
abbrev cX8_found : ByteArray := prog_1_method_31_code
def yX8_found : MethodName := ⟨RX8, "found", "(II)I"⟩
abbrev cX8_house : ByteArray := prog_1_method_32_code
def yX8_house : MethodName := ⟨RX8, "house", "(IIII)I"⟩
abbrev cX8_said : ByteArray := prog_1_method_33_code
def yX8_said : MethodName := ⟨RX8, "said", "(II)I"⟩
abbrev cX8_isTrueOf : ByteArray := prog_1_method_34_code
def yX8_isTrueOf : MethodName := ⟨RX8, "isTrueOf", "(LEightWorlds$Law;LEightWorlds$World;)Z"⟩
abbrev cX8_weightSaid : ByteArray := prog_1_method_35_code
def yX8_weightSaid : MethodName := ⟨RX8, "weightSaid", "(LEightWorlds$Law;II)I"⟩
abbrev cX8_ordersFrom : ByteArray := prog_1_method_36_code
def yX8_ordersFrom : MethodName := ⟨RX8, "ordersFrom", "([IIIII)I"⟩
abbrev cX8_strong : ByteArray := prog_1_method_37_code
def yX8_strong : MethodName := ⟨RX8, "strong", "(III)I"⟩
abbrev cX8_apartInThought : ByteArray := prog_1_method_38_code
def yX8_apartInThought : MethodName := ⟨RX8, "apartInThought", "(LEightWorlds$Law;II)I"⟩
abbrev cX8_line : ByteArray := prog_1_method_39_code
def yX8_line : MethodName := ⟨RX8, "line", "(I)I"⟩
abbrev cX8_against : ByteArray := prog_1_method_40_code
def yX8_against : MethodName := ⟨RX8, "against", "(III)I"⟩
abbrev cX8_farApart : ByteArray := prog_1_method_41_code
def yX8_farApart : MethodName := ⟨RX8, "farApart", "([I[I)I"⟩
abbrev cX8_shuffle : ByteArray := prog_1_method_42_code
def yX8_shuffle : MethodName := ⟨RX8, "shuffle", "([III)I"⟩
abbrev cX8_undo : ByteArray := prog_1_method_43_code
def yX8_undo : MethodName := ⟨RX8, "undo", "()I"⟩
abbrev cX8_redo : ByteArray := prog_1_method_44_code
def yX8_redo : MethodName := ⟨RX8, "redo", "()I"⟩
abbrev cX8_apply : ByteArray := prog_1_method_45_code
def yX8_apply : MethodName := ⟨RX8, "apply", "(II)V"⟩
abbrev cX8_body : ByteArray := prog_1_method_46_code
def yX8_body : MethodName := ⟨RX8, "body", "(I)I"⟩
abbrev cX8_act : ByteArray := prog_1_method_47_code
def yX8_act : MethodName := ⟨RX8, "act", "(III)I"⟩
abbrev cX8_trace : ByteArray := prog_1_method_48_code
def yX8_trace : MethodName := ⟨RX8, "trace", "(I)I"⟩
abbrev cX8_keep : ByteArray := prog_1_method_49_code
def yX8_keep : MethodName := ⟨RX8, "keep", "(II)I"⟩
abbrev cX8_row : ByteArray := prog_1_method_50_code
def yX8_row : MethodName := ⟨RX8, "row", "(III)I"⟩
abbrev cX8_put : ByteArray := prog_1_method_51_code
def yX8_put : MethodName := ⟨RX8, "put", "(IIJ)I"⟩
abbrev cX8_element : ByteArray := prog_1_method_52_code
def yX8_element : MethodName := ⟨RX8, "element", "(II)J"⟩
abbrev cX8_refusalOf : ByteArray := prog_1_method_53_code
def yX8_refusalOf : MethodName := ⟨RX8, "refusalOf", "(LEightWorlds$Shelf;I)I"⟩
abbrev cX8_shift : ByteArray := prog_1_method_54_code
def yX8_shift : MethodName := ⟨RX8, "shift", "(IIIII)I"⟩
abbrev cX8_taken : ByteArray := prog_1_method_55_code
def yX8_taken : MethodName := ⟨RX8, "taken", "(II)I"⟩
abbrev cX8_count : ByteArray := prog_1_method_56_code
def yX8_count : MethodName := ⟨RX8, "count", "(I)I"⟩
def RX9 : String := "EightWorldsModel"
def TX9 : u_T := fun k => match k with
  | 0 => ("EightWorldsModel", "may", "[I", true)
  | 1 => ("EightWorldsModel", "changeAt", "[I", true)
  | 2 => ("EightWorldsModel", "changeWas", "[I", true)
  | 3 => ("EightWorldsModel", "changeIs", "[I", true)
  | 4 => ("EightWorldsModel", "keptMany", "I", false)
  | 5 => ("EightWorldsModel", "done", "I", false)
  | 6 => ("EightWorldsModel", "songs", "I", false)
  | 7 => ("EightWorldsModel", "tape", "[I", true)
  | 8 => ("EightWorldsModel", "tapeMany", "I", false)
  | 9 => ("EightWorldsModel", "laws", "I", false)
  | 10 => ("EightWorldsModel", "text", "[I", true)
  | 11 => ("EightWorldsModel", "textMany", "[I", true)
  | 12 => ("EightWorldsModel", "base", "I", false)
  | 13 => ("EightWorldsModel", "at", "I", false)
  | 14 => ("EightWorldsModel", "ends", "I", false)
  | 15 => ("EightWorldsModel", "fault", "I", false)
  | 16 => ("EightWorldsModel", "opened", "I", false)
  | 17 => ("EightWorldsModel", "names", "[I", true)
  | 18 => ("EightWorldsModel", "worlds", "I", false)
  | 19 => ("EightWorldsModel", "lawOf", "[I", true)
  | 20 => ("EightWorldsModel", "show", "[I", true)
  | 21 => ("EightWorldsModel", "until", "[I", true)
  | 22 => ("EightWorldsModel", "drawOf", "[I", true)
  | 23 => ("EightWorldsModel", "came", "[I", true)
  | 24 => ("EightWorldsModel", "kept", "[I", true)
  | 25 => ("EightWorldsModel", "led", "[I", true)
  | 26 => ("EightWorldsModel", "weights", "[I", true)
  | 27 => ("EightWorldsModel", "likePairs", "I", false)
  | 28 => ("EightWorldsModel", "allPairs", "I", false)
  | 29 => ("EightWorldsModel", "bestPairs", "I", false)
  | 30 => ("EightWorldsModel", "ownAt", "[I", true)
  | 31 => ("EightWorldsModel", "counted", "[I", true)
  | 32 => ("EightWorldsModel", "shop", "[I", true)
  | 33 => ("EightWorldsModel", "saidWeight", "[I", true)
  | 34 => ("EightWorldsModel", "otherPlace", "[I", true)
  | 35 => ("EightWorldsModel", "bodies", "I", false)
  | 36 => ("EightWorldsModel", "bodyKind", "[I", true)
  | 37 => ("EightWorldsModel", "trace", "[I", true)
  | 38 => ("EightWorldsModel", "ran", "I", false)
  | 39 => ("EightWorldsModel", "ownKind", "I", false)
  | 40 => ("EightWorldsModel", "ownNumber", "I", false)
  | 41 => ("EightWorldsModel", "shelf", "[I", true)
  | 42 => ("EightWorldsModel", "many", "[I", true)
  | 43 => ("EightWorldsModel", "items", "[J", true)
  | _ => ("EightWorldsModel", "carried", "[J", true)
def tyX9 : Nat → FieldType := fun k => match k with
  | 0 => .array .int
  | 1 => .array .int
  | 2 => .array .int
  | 3 => .array .int
  | 4 => .int
  | 5 => .int
  | 6 => .int
  | 7 => .array .int
  | 8 => .int
  | 9 => .int
  | 10 => .array .int
  | 11 => .array .int
  | 12 => .int
  | 13 => .int
  | 14 => .int
  | 15 => .int
  | 16 => .int
  | 17 => .array .int
  | 18 => .int
  | 19 => .array .int
  | 20 => .array .int
  | 21 => .array .int
  | 22 => .array .int
  | 23 => .array .int
  | 24 => .array .int
  | 25 => .array .int
  | 26 => .array .int
  | 27 => .int
  | 28 => .int
  | 29 => .int
  | 30 => .array .int
  | 31 => .array .int
  | 32 => .array .int
  | 33 => .array .int
  | 34 => .array .int
  | 35 => .int
  | 36 => .array .int
  | 37 => .array .int
  | 38 => .int
  | 39 => .int
  | 40 => .int
  | 41 => .array .int
  | 42 => .array .int
  | 43 => .array .long
  | _ => .array .long
abbrev wsX90 : List Cond := u_ws RX9 TX9 45
theorem nmX9 : ∀ a, a < 45 → ∀ b, b < 45 → a ≠ b → (TX9 a).2.1 ≠ (TX9 b).2.1 := by decide +kernel
theorem tyX9_ok : ∀ k, k < 45 → parseFieldDescriptor (TX9 k).2.2.1 = some (tyX9 k) := by decide +kernel
abbrev cX9_within : ByteArray := prog_11_method_1_code
def yX9_within : MethodName := ⟨RX9, "within", "(JJJ)Z"⟩
abbrev cX9_size : ByteArray := prog_11_method_2_code
def yX9_size : MethodName := ⟨RX9, "size", "(I)I"⟩
abbrev cX9_init : ByteArray := prog_11_method_3_code
def yX9_init : MethodName := ⟨RX9, "<init>", "()V"⟩
abbrev cX9_becomes : ByteArray := prog_11_method_4_code
def yX9_becomes : MethodName := ⟨RX9, "becomes", "(II)I"⟩
abbrev cX9_undo : ByteArray := prog_11_method_5_code
def yX9_undo : MethodName := ⟨RX9, "undo", "()I"⟩
abbrev cX9_redo : ByteArray := prog_11_method_6_code
def yX9_redo : MethodName := ⟨RX9, "redo", "()I"⟩
abbrev cX9_isSong : ByteArray := prog_11_method_7_code
def yX9_isSong : MethodName := ⟨RX9, "isSong", "(I)Z"⟩
abbrev cX9_isLaw : ByteArray := prog_11_method_8_code
def yX9_isLaw : MethodName := ⟨RX9, "isLaw", "(I)Z"⟩
abbrev cX9_song : ByteArray := prog_11_method_9_code
def yX9_song : MethodName := ⟨RX9, "song", "(I)I"⟩
abbrev cX9_worth : ByteArray := prog_11_method_10_code
def yX9_worth : MethodName := ⟨RX9, "worth", "(II)I"⟩
abbrev cX9_feed : ByteArray := prog_11_method_11_code
def yX9_feed : MethodName := ⟨RX9, "feed", "(II)I"⟩
abbrev cX9_byteAt : ByteArray := prog_11_method_12_code
def yX9_byteAt : MethodName := ⟨RX9, "byteAt", "()I"⟩
abbrev cX9_wrong : ByteArray := prog_11_method_13_code
def yX9_wrong : MethodName := ⟨RX9, "wrong", "()I"⟩
abbrev cX9_takes : ByteArray := prog_11_method_14_code
def yX9_takes : MethodName := ⟨RX9, "takes", "(I)Z"⟩
abbrev cX9_either : ByteArray := prog_11_method_15_code
def yX9_either : MethodName := ⟨RX9, "either", "()I"⟩
abbrev cX9_both : ByteArray := prog_11_method_16_code
def yX9_both : MethodName := ⟨RX9, "both", "()I"⟩
abbrev cX9_compared : ByteArray := prog_11_method_17_code
def yX9_compared : MethodName := ⟨RX9, "compared", "()I"⟩
abbrev cX9_sums : ByteArray := prog_11_method_18_code
def yX9_sums : MethodName := ⟨RX9, "sums", "()I"⟩
abbrev cX9_product : ByteArray := prog_11_method_19_code
def yX9_product : MethodName := ⟨RX9, "product", "()I"⟩
abbrev cX9_nameOf : ByteArray := prog_11_method_20_code
def yX9_nameOf : MethodName := ⟨RX9, "nameOf", "(I)I"⟩
abbrev cX9_one : ByteArray := prog_11_method_21_code
def yX9_one : MethodName := ⟨RX9, "one", "()I"⟩
abbrev cX9_workOut : ByteArray := prog_11_method_22_code
def yX9_workOut : MethodName := ⟨RX9, "workOut", "(II)I"⟩
abbrev cX9_law : ByteArray := prog_11_method_23_code
def yX9_law : MethodName := ⟨RX9, "law", "()I"⟩
abbrev cX9_isWorld : ByteArray := prog_11_method_24_code
def yX9_isWorld : MethodName := ⟨RX9, "isWorld", "(I)Z"⟩
abbrev cX9_countOf : ByteArray := prog_11_method_25_code
def yX9_countOf : MethodName := ⟨RX9, "countOf", "(II)I"⟩
abbrev cX9_begins : ByteArray := prog_11_method_26_code
def yX9_begins : MethodName := ⟨RX9, "begins", "(IIIIII)V"⟩
abbrev cX9_world : ByteArray := prog_11_method_27_code
def yX9_world : MethodName := ⟨RX9, "world", "(III)I"⟩
abbrev cX9_nothing : ByteArray := prog_11_method_28_code
def yX9_nothing : MethodName := ⟨RX9, "nothing", "(II)I"⟩
abbrev cX9_place : ByteArray := prog_11_method_29_code
def yX9_place : MethodName := ⟨RX9, "place", "(II)I"⟩
abbrev cX9_seenPlace : ByteArray := prog_11_method_30_code
def yX9_seenPlace : MethodName := ⟨RX9, "seenPlace", "(II)I"⟩
abbrev cX9_songAt : ByteArray := prog_11_method_31_code
def yX9_songAt : MethodName := ⟨RX9, "songAt", "(II)I"⟩
abbrev cX9_weighs : ByteArray := prog_11_method_32_code
def yX9_weighs : MethodName := ⟨RX9, "weighs", "(IIIIII)I"⟩
abbrev cX9_weightOf : ByteArray := prog_11_method_33_code
def yX9_weightOf : MethodName := ⟨RX9, "weightOf", "(II)I"⟩
abbrev cX9_allCounts : ByteArray := prog_11_method_34_code
def yX9_allCounts : MethodName := ⟨RX9, "allCounts", "(I)I"⟩
abbrev cX9_share : ByteArray := prog_11_method_35_code
def yX9_share : MethodName := ⟨RX9, "share", "(II)I"⟩
abbrev cX9_of : ByteArray := prog_11_method_36_code
def yX9_of : MethodName := ⟨RX9, "of", "(II)I"⟩
abbrev cX9_weight : ByteArray := prog_11_method_37_code
def yX9_weight : MethodName := ⟨RX9, "weight", "(II)I"⟩
abbrev cX9_findWeights : ByteArray := prog_11_method_38_code
def yX9_findWeights : MethodName := ⟨RX9, "findWeights", "(I)I"⟩
abbrev cX9_keeps : ByteArray := prog_11_method_39_code
def yX9_keeps : MethodName := ⟨RX9, "keeps", "(II)V"⟩
abbrev cX9_comesOne : ByteArray := prog_11_method_40_code
def yX9_comesOne : MethodName := ⟨RX9, "comesOne", "(I)Z"⟩
abbrev cX9_comesAll : ByteArray := prog_11_method_41_code
def yX9_comesAll : MethodName := ⟨RX9, "comesAll", "(II)I"⟩
abbrev cX9_come : ByteArray := prog_11_method_42_code
def yX9_come : MethodName := ⟨RX9, "come", "(II)I"⟩
abbrev cX9_keepings : ByteArray := prog_11_method_43_code
def yX9_keepings : MethodName := ⟨RX9, "keepings", "(IIII)I"⟩
abbrev cX9_led : ByteArray := prog_11_method_44_code
def yX9_led : MethodName := ⟨RX9, "led", "(II)I"⟩
abbrev cX9_unequal : ByteArray := prog_11_method_45_code
def yX9_unequal : MethodName := ⟨RX9, "unequal", "(I)I"⟩
abbrev cX9_areTwo : ByteArray := prog_11_method_46_code
def yX9_areTwo : MethodName := ⟨RX9, "areTwo", "(I)Z"⟩
abbrev cX9_unlikeOf : ByteArray := prog_11_method_47_code
def yX9_unlikeOf : MethodName := ⟨RX9, "unlikeOf", "(II)I"⟩
abbrev cX9_unlike : ByteArray := prog_11_method_48_code
def yX9_unlike : MethodName := ⟨RX9, "unlike", "(I)I"⟩
abbrev cX9_luckOf : ByteArray := prog_11_method_49_code
def yX9_luckOf : MethodName := ⟨RX9, "luckOf", "(II)I"⟩
abbrev cX9_luck : ByteArray := prog_11_method_50_code
def yX9_luck : MethodName := ⟨RX9, "luck", "(II)I"⟩
abbrev cX9_findPairs : ByteArray := prog_11_method_51_code
def yX9_findPairs : MethodName := ⟨RX9, "findPairs", "(I)V"⟩
abbrev cX9_right : ByteArray := prog_11_method_52_code
def yX9_right : MethodName := ⟨RX9, "right", "(I)I"⟩
abbrev cX9_guess : ByteArray := prog_11_method_53_code
def yX9_guess : MethodName := ⟨RX9, "guess", "(II)I"⟩
abbrev cX9_follows : ByteArray := prog_11_method_54_code
def yX9_follows : MethodName := ⟨RX9, "follows", "(IIII)J"⟩
abbrev cX9_odds : ByteArray := prog_11_method_55_code
def yX9_odds : MethodName := ⟨RX9, "odds", "(IIII)I"⟩
abbrev cX9_firstCounted : ByteArray := prog_11_method_56_code
def yX9_firstCounted : MethodName := ⟨RX9, "firstCounted", "()I"⟩
abbrev cX9_after : ByteArray := prog_11_method_57_code
def yX9_after : MethodName := ⟨RX9, "after", "(I)I"⟩
abbrev cX9_shop : ByteArray := prog_11_method_58_code
def yX9_shop : MethodName := ⟨RX9, "shop", "(II)I"⟩
abbrev cX9_chartOf : ByteArray := prog_11_method_59_code
def yX9_chartOf : MethodName := ⟨RX9, "chartOf", "(I)I"⟩
abbrev cX9_chart : ByteArray := prog_11_method_60_code
def yX9_chart : MethodName := ⟨RX9, "chart", "(II)I"⟩
abbrev cX9_crate : ByteArray := prog_11_method_61_code
def yX9_crate : MethodName := ⟨RX9, "crate", "(III)I"⟩
abbrev cX9_found : ByteArray := prog_11_method_62_code
def yX9_found : MethodName := ⟨RX9, "found", "(II)I"⟩
abbrev cX9_bitsOf : ByteArray := prog_11_method_63_code
def yX9_bitsOf : MethodName := ⟨RX9, "bitsOf", "(I)I"⟩
abbrev cX9_house : ByteArray := prog_11_method_64_code
def yX9_house : MethodName := ⟨RX9, "house", "(IIII)I"⟩
abbrev cX9_trueFrom : ByteArray := prog_11_method_65_code
def yX9_trueFrom : MethodName := ⟨RX9, "trueFrom", "(III)I"⟩
abbrev cX9_isSaid : ByteArray := prog_11_method_66_code
def yX9_isSaid : MethodName := ⟨RX9, "isSaid", "(II)Z"⟩
abbrev cX9_said : ByteArray := prog_11_method_67_code
def yX9_said : MethodName := ⟨RX9, "said", "(II)I"⟩
abbrev cX9_unlikeBy : ByteArray := prog_11_method_68_code
def yX9_unlikeBy : MethodName := ⟨RX9, "unlikeBy", "(III)I"⟩
abbrev cX9_strong : ByteArray := prog_11_method_69_code
def yX9_strong : MethodName := ⟨RX9, "strong", "(III)I"⟩
abbrev cX9_lineBy : ByteArray := prog_11_method_70_code
def yX9_lineBy : MethodName := ⟨RX9, "lineBy", "(I)I"⟩
abbrev cX9_lineOf : ByteArray := prog_11_method_71_code
def yX9_lineOf : MethodName := ⟨RX9, "lineOf", "(I)I"⟩
abbrev cX9_line : ByteArray := prog_11_method_72_code
def yX9_line : MethodName := ⟨RX9, "line", "(I)I"⟩
abbrev cX9_against : ByteArray := prog_11_method_73_code
def yX9_against : MethodName := ⟨RX9, "against", "(III)I"⟩
abbrev cX9_isBody : ByteArray := prog_11_method_74_code
def yX9_isBody : MethodName := ⟨RX9, "isBody", "(I)Z"⟩
abbrev cX9_kindOf : ByteArray := prog_11_method_75_code
def yX9_kindOf : MethodName := ⟨RX9, "kindOf", "(I)I"⟩
abbrev cX9_body : ByteArray := prog_11_method_76_code
def yX9_body : MethodName := ⟨RX9, "body", "(I)I"⟩
abbrev cX9_above : ByteArray := prog_11_method_77_code
def yX9_above : MethodName := ⟨RX9, "above", "(I)I"⟩
abbrev cX9_runs : ByteArray := prog_11_method_78_code
def yX9_runs : MethodName := ⟨RX9, "runs", "(I)V"⟩
abbrev cX9_triesAs : ByteArray := prog_11_method_79_code
def yX9_triesAs : MethodName := ⟨RX9, "triesAs", "(II)I"⟩
abbrev cX9_keepsAs : ByteArray := prog_11_method_80_code
def yX9_keepsAs : MethodName := ⟨RX9, "keepsAs", "(II)I"⟩
abbrev cX9_countsAs : ByteArray := prog_11_method_81_code
def yX9_countsAs : MethodName := ⟨RX9, "countsAs", "(II)I"⟩
abbrev cX9_tellsAs : ByteArray := prog_11_method_82_code
def yX9_tellsAs : MethodName := ⟨RX9, "tellsAs", "(II)I"⟩
abbrev cX9_act : ByteArray := prog_11_method_83_code
def yX9_act : MethodName := ⟨RX9, "act", "(III)I"⟩
abbrev cX9_trace : ByteArray := prog_11_method_84_code
def yX9_trace : MethodName := ⟨RX9, "trace", "(I)I"⟩
abbrev cX9_isShelf : ByteArray := prog_11_method_85_code
def yX9_isShelf : MethodName := ⟨RX9, "isShelf", "(I)Z"⟩
abbrev cX9_keep : ByteArray := prog_11_method_86_code
def yX9_keep : MethodName := ⟨RX9, "keep", "(II)I"⟩
abbrev cX9_row : ByteArray := prog_11_method_87_code
def yX9_row : MethodName := ⟨RX9, "row", "(III)I"⟩
abbrev cX9_refusal : ByteArray := prog_11_method_88_code
def yX9_refusal : MethodName := ⟨RX9, "refusal", "(II)I"⟩
abbrev cX9_asSort : ByteArray := prog_11_method_89_code
def yX9_asSort : MethodName := ⟨RX9, "asSort", "(IJ)J"⟩
abbrev cX9_put : ByteArray := prog_11_method_90_code
def yX9_put : MethodName := ⟨RX9, "put", "(IIJ)I"⟩
abbrev cX9_element : ByteArray := prog_11_method_91_code
def yX9_element : MethodName := ⟨RX9, "element", "(II)J"⟩
abbrev cX9_shift : ByteArray := prog_11_method_92_code
def yX9_shift : MethodName := ⟨RX9, "shift", "(IIIII)I"⟩
abbrev cX9_taken : ByteArray := prog_11_method_93_code
def yX9_taken : MethodName := ⟨RX9, "taken", "(II)I"⟩
abbrev cX9_count : ByteArray := prog_11_method_94_code
def yX9_count : MethodName := ⟨RX9, "count", "(I)I"⟩
def RJx8e188 : String := "java/lang/Cloneable"
def TJx8e188 : u_T := fun k => match k with
  | _ => ("", "", "", false)
def tyJx8e188 : Nat → FieldType := fun k => match k with
  | _ => .int
theorem nmJx8e188 : ∀ a, a < 0 → ∀ b, b < 0 → a ≠ b → (TJx8e188 a).2.1 ≠ (TJx8e188 b).2.1 := by decide +kernel
theorem tyJx8e188_ok : ∀ k, k < 0 → parseFieldDescriptor (TJx8e188 k).2.2.1 = some (tyJx8e188 k) := by decide +kernel
def RJ6 : String := "java/lang/Integer"
def TJ6 : u_T := fun k => match k with
  | _ => ("", "", "", false)
def tyJ6 : Nat → FieldType := fun k => match k with
  | _ => .int
theorem nmJ6 : ∀ a, a < 0 → ∀ b, b < 0 → a ≠ b → (TJ6 a).2.1 ≠ (TJ6 b).2.1 := by decide +kernel
theorem tyJ6_ok : ∀ k, k < 0 → parseFieldDescriptor (TJ6 k).2.2.1 = some (tyJ6 k) := by decide +kernel
abbrev cJ6_compare_7cf53 : ByteArray := prog_13_method_40_code
def yJ6_compare_7cf53 : MethodName := ⟨RJ6, "compare", "(II)I"⟩
abbrev cJ6_bitCount_0f7a4 : ByteArray := prog_13_method_49_code
def yJ6_bitCount_0f7a4 : MethodName := ⟨RJ6, "bitCount", "(I)I"⟩
def RJ9 : String := "java/lang/Math"
def TJ9 : u_T := fun k => match k with
  | _ => ("", "", "", false)
def tyJ9 : Nat → FieldType := fun k => match k with
  | _ => .int
theorem nmJ9 : ∀ a, a < 0 → ∀ b, b < 0 → a ≠ b → (TJ9 a).2.1 ≠ (TJ9 b).2.1 := by decide +kernel
theorem tyJ9_ok : ∀ k, k < 0 → parseFieldDescriptor (TJ9 k).2.2.1 = some (tyJ9 k) := by decide +kernel
abbrev cJ9_abs_0f7a4 : ByteArray := prog_14_method_59_code
def yJ9_abs_0f7a4 : MethodName := ⟨RJ9, "abs", "(I)I"⟩
abbrev cJ9_max_7cf53 : ByteArray := prog_14_method_65_code
def yJ9_max_7cf53 : MethodName := ⟨RJ9, "max", "(II)I"⟩
abbrev cJ9_min_7cf53 : ByteArray := prog_14_method_69_code
def yJ9_min_7cf53 : MethodName := ⟨RJ9, "min", "(II)I"⟩
def RJ10 : String := "java/lang/System"
def TJ10 : u_T := fun k => match k with
  | _ => ("", "", "", false)
def tyJ10 : Nat → FieldType := fun k => match k with
  | _ => .int
theorem nmJ10 : ∀ a, a < 0 → ∀ b, b < 0 → a ≠ b → (TJ10 a).2.1 ≠ (TJ10 b).2.1 := by decide +kernel
theorem tyJ10_ok : ∀ k, k < 0 → parseFieldDescriptor (TJ10 k).2.2.1 = some (tyJ10 k) := by decide +kernel
def RJ7 : String := "java/util/Arrays"
def TJ7 : u_T := fun k => match k with
  | _ => ("", "", "", false)
def tyJ7 : Nat → FieldType := fun k => match k with
  | _ => .int
theorem nmJ7 : ∀ a, a < 0 → ∀ b, b < 0 → a ≠ b → (TJ7 a).2.1 ≠ (TJ7 b).2.1 := by decide +kernel
theorem tyJ7_ok : ∀ k, k < 0 → parseFieldDescriptor (TJ7 k).2.2.1 = some (tyJ7 k) := by decide +kernel
abbrev cJ7_fill_d0a16 : ByteArray := prog_16_method_101_code
def yJ7_fill_d0a16 : MethodName := ⟨RJ7, "fill", "([JJ)V"⟩
abbrev cJ7_fill_53178 : ByteArray := prog_16_method_103_code
def yJ7_fill_53178 : MethodName := ⟨RJ7, "fill", "([II)V"⟩
abbrev cJ7_copyOf_59c91 : ByteArray := prog_16_method_123_code
def yJ7_copyOf_59c91 : MethodName := ⟨RJ7, "copyOf", "([II)[I"⟩
def RL : String := "EightWorldsLaw"
abbrev cL_law : ByteArray := code
def yL_law : MethodName := ⟨RL, "law", "([I)Z"⟩
abbrev vwCl : List vw_C := [(RX0, TX0, 5), (RX1, TX1, 6), (RX2, TX2, 2), (RX3, TX3, 6), (RX4, TX4, 5), (RX5, TX5, 2), (RX6, TX6, 6), (RX7, TX7, 16), (RX8, TX8, 16), (RX9, TX9, 45)]
end
section
theorem dJ6_compare_7cf53_0 : decode cJ6_compare_7cf53 0 = .ok (.iload_n 0, 1) := by decide +kernel
theorem dJ6_compare_7cf53_1 : decode cJ6_compare_7cf53 1 = .ok (.iload_n 1, 1) := by decide +kernel
theorem dJ6_compare_7cf53_2 : decode cJ6_compare_7cf53 2 = .ok (.if_icmp .ge 7, 3) := by decide +kernel
theorem dJ6_compare_7cf53_5 : decode cJ6_compare_7cf53 5 = .ok (.iconst (-1), 1) := by decide +kernel
theorem dJ6_compare_7cf53_6 : decode cJ6_compare_7cf53 6 = .ok (.goto 13, 3) := by decide +kernel
theorem dJ6_compare_7cf53_9 : decode cJ6_compare_7cf53 9 = .ok (.iload_n 0, 1) := by decide +kernel
theorem dJ6_compare_7cf53_10 : decode cJ6_compare_7cf53 10 = .ok (.iload_n 1, 1) := by decide +kernel
theorem dJ6_compare_7cf53_11 : decode cJ6_compare_7cf53 11 = .ok (.if_icmp .ne 7, 3) := by decide +kernel
theorem dJ6_compare_7cf53_14 : decode cJ6_compare_7cf53 14 = .ok (.iconst 0, 1) := by decide +kernel
theorem dJ6_compare_7cf53_15 : decode cJ6_compare_7cf53 15 = .ok (.goto 4, 3) := by decide +kernel
theorem dJ6_compare_7cf53_18 : decode cJ6_compare_7cf53 18 = .ok (.iconst 1, 1) := by decide +kernel
theorem dJ6_compare_7cf53_19 : decode cJ6_compare_7cf53 19 = .ok (.ireturn, 1) := by decide +kernel
theorem dJ6_bitCount_0f7a4_0 : decode cJ6_bitCount_0f7a4 0 = .ok (.iload_n 0, 1) := by decide +kernel
theorem dJ6_bitCount_0f7a4_1 : decode cJ6_bitCount_0f7a4 1 = .ok (.iload_n 0, 1) := by decide +kernel
theorem dJ6_bitCount_0f7a4_2 : decode cJ6_bitCount_0f7a4 2 = .ok (.iconst 1, 1) := by decide +kernel
theorem dJ6_bitCount_0f7a4_3 : decode cJ6_bitCount_0f7a4 3 = .ok (.iushr, 1) := by decide +kernel
theorem dJ6_bitCount_0f7a4_4 : decode cJ6_bitCount_0f7a4 4 = .ok (.ldc_w 265, 3) := by decide +kernel
theorem dJ6_bitCount_0f7a4_7 : decode cJ6_bitCount_0f7a4 7 = .ok (.iand, 1) := by decide +kernel
theorem dJ6_bitCount_0f7a4_8 : decode cJ6_bitCount_0f7a4 8 = .ok (.isub, 1) := by decide +kernel
theorem dJ6_bitCount_0f7a4_9 : decode cJ6_bitCount_0f7a4 9 = .ok (.istore_n 0, 1) := by decide +kernel
theorem dJ6_bitCount_0f7a4_10 : decode cJ6_bitCount_0f7a4 10 = .ok (.iload_n 0, 1) := by decide +kernel
theorem dJ6_bitCount_0f7a4_11 : decode cJ6_bitCount_0f7a4 11 = .ok (.ldc_w 266, 3) := by decide +kernel
theorem dJ6_bitCount_0f7a4_14 : decode cJ6_bitCount_0f7a4 14 = .ok (.iand, 1) := by decide +kernel
theorem dJ6_bitCount_0f7a4_15 : decode cJ6_bitCount_0f7a4 15 = .ok (.iload_n 0, 1) := by decide +kernel
theorem dJ6_bitCount_0f7a4_16 : decode cJ6_bitCount_0f7a4 16 = .ok (.iconst 2, 1) := by decide +kernel
theorem dJ6_bitCount_0f7a4_17 : decode cJ6_bitCount_0f7a4 17 = .ok (.iushr, 1) := by decide +kernel
theorem dJ6_bitCount_0f7a4_18 : decode cJ6_bitCount_0f7a4 18 = .ok (.ldc_w 266, 3) := by decide +kernel
theorem dJ6_bitCount_0f7a4_21 : decode cJ6_bitCount_0f7a4 21 = .ok (.iand, 1) := by decide +kernel
theorem dJ6_bitCount_0f7a4_22 : decode cJ6_bitCount_0f7a4 22 = .ok (.iadd, 1) := by decide +kernel
theorem dJ6_bitCount_0f7a4_23 : decode cJ6_bitCount_0f7a4 23 = .ok (.istore_n 0, 1) := by decide +kernel
theorem dJ6_bitCount_0f7a4_24 : decode cJ6_bitCount_0f7a4 24 = .ok (.iload_n 0, 1) := by decide +kernel
theorem dJ6_bitCount_0f7a4_25 : decode cJ6_bitCount_0f7a4 25 = .ok (.iload_n 0, 1) := by decide +kernel
theorem dJ6_bitCount_0f7a4_26 : decode cJ6_bitCount_0f7a4 26 = .ok (.iconst 4, 1) := by decide +kernel
theorem dJ6_bitCount_0f7a4_27 : decode cJ6_bitCount_0f7a4 27 = .ok (.iushr, 1) := by decide +kernel
theorem dJ6_bitCount_0f7a4_28 : decode cJ6_bitCount_0f7a4 28 = .ok (.iadd, 1) := by decide +kernel
theorem dJ6_bitCount_0f7a4_29 : decode cJ6_bitCount_0f7a4 29 = .ok (.ldc_w 267, 3) := by decide +kernel
theorem dJ6_bitCount_0f7a4_32 : decode cJ6_bitCount_0f7a4 32 = .ok (.iand, 1) := by decide +kernel
theorem dJ6_bitCount_0f7a4_33 : decode cJ6_bitCount_0f7a4 33 = .ok (.istore_n 0, 1) := by decide +kernel
theorem dJ6_bitCount_0f7a4_34 : decode cJ6_bitCount_0f7a4 34 = .ok (.iload_n 0, 1) := by decide +kernel
theorem dJ6_bitCount_0f7a4_35 : decode cJ6_bitCount_0f7a4 35 = .ok (.iload_n 0, 1) := by decide +kernel
theorem dJ6_bitCount_0f7a4_36 : decode cJ6_bitCount_0f7a4 36 = .ok (.bipush 8, 2) := by decide +kernel
theorem dJ6_bitCount_0f7a4_38 : decode cJ6_bitCount_0f7a4 38 = .ok (.iushr, 1) := by decide +kernel
theorem dJ6_bitCount_0f7a4_39 : decode cJ6_bitCount_0f7a4 39 = .ok (.iadd, 1) := by decide +kernel
theorem dJ6_bitCount_0f7a4_40 : decode cJ6_bitCount_0f7a4 40 = .ok (.istore_n 0, 1) := by decide +kernel
theorem dJ6_bitCount_0f7a4_41 : decode cJ6_bitCount_0f7a4 41 = .ok (.iload_n 0, 1) := by decide +kernel
theorem dJ6_bitCount_0f7a4_42 : decode cJ6_bitCount_0f7a4 42 = .ok (.iload_n 0, 1) := by decide +kernel
theorem dJ6_bitCount_0f7a4_43 : decode cJ6_bitCount_0f7a4 43 = .ok (.bipush 16, 2) := by decide +kernel
theorem dJ6_bitCount_0f7a4_45 : decode cJ6_bitCount_0f7a4 45 = .ok (.iushr, 1) := by decide +kernel
theorem dJ6_bitCount_0f7a4_46 : decode cJ6_bitCount_0f7a4 46 = .ok (.iadd, 1) := by decide +kernel
theorem dJ6_bitCount_0f7a4_47 : decode cJ6_bitCount_0f7a4 47 = .ok (.istore_n 0, 1) := by decide +kernel
theorem dJ6_bitCount_0f7a4_48 : decode cJ6_bitCount_0f7a4 48 = .ok (.iload_n 0, 1) := by decide +kernel
theorem dJ6_bitCount_0f7a4_49 : decode cJ6_bitCount_0f7a4 49 = .ok (.bipush 63, 2) := by decide +kernel
theorem dJ6_bitCount_0f7a4_51 : decode cJ6_bitCount_0f7a4 51 = .ok (.iand, 1) := by decide +kernel
theorem dJ6_bitCount_0f7a4_52 : decode cJ6_bitCount_0f7a4 52 = .ok (.ireturn, 1) := by decide +kernel
end
section
theorem dJ7_fill_d0a16_0 : decode cJ7_fill_d0a16 0 = .ok (.iconst 0, 1) := by decide +kernel
theorem dJ7_fill_d0a16_1 : decode cJ7_fill_d0a16 1 = .ok (.istore_n 3, 1) := by decide +kernel
theorem dJ7_fill_d0a16_2 : decode cJ7_fill_d0a16 2 = .ok (.aload_n 0, 1) := by decide +kernel
theorem dJ7_fill_d0a16_3 : decode cJ7_fill_d0a16 3 = .ok (.arraylength, 1) := by decide +kernel
theorem dJ7_fill_d0a16_4 : decode cJ7_fill_d0a16 4 = .ok (.istore 4, 2) := by decide +kernel
theorem dJ7_fill_d0a16_6 : decode cJ7_fill_d0a16 6 = .ok (.iload_n 3, 1) := by decide +kernel
theorem dJ7_fill_d0a16_7 : decode cJ7_fill_d0a16 7 = .ok (.iload 4, 2) := by decide +kernel
theorem dJ7_fill_d0a16_9 : decode cJ7_fill_d0a16 9 = .ok (.if_icmp .ge 13, 3) := by decide +kernel
theorem dJ7_fill_d0a16_12 : decode cJ7_fill_d0a16 12 = .ok (.aload_n 0, 1) := by decide +kernel
theorem dJ7_fill_d0a16_13 : decode cJ7_fill_d0a16 13 = .ok (.iload_n 3, 1) := by decide +kernel
theorem dJ7_fill_d0a16_14 : decode cJ7_fill_d0a16 14 = .ok (.lload_n 1, 1) := by decide +kernel
theorem dJ7_fill_d0a16_15 : decode cJ7_fill_d0a16 15 = .ok (.lastore, 1) := by decide +kernel
theorem dJ7_fill_d0a16_16 : decode cJ7_fill_d0a16 16 = .ok (.iinc 3 1, 3) := by decide +kernel
theorem dJ7_fill_d0a16_19 : decode cJ7_fill_d0a16 19 = .ok (.goto (-13), 3) := by decide +kernel
theorem dJ7_fill_d0a16_22 : decode cJ7_fill_d0a16 22 = .ok (.return_, 1) := by decide +kernel
theorem dJ7_fill_53178_0 : decode cJ7_fill_53178 0 = .ok (.iconst 0, 1) := by decide +kernel
theorem dJ7_fill_53178_1 : decode cJ7_fill_53178 1 = .ok (.istore_n 2, 1) := by decide +kernel
theorem dJ7_fill_53178_2 : decode cJ7_fill_53178 2 = .ok (.aload_n 0, 1) := by decide +kernel
theorem dJ7_fill_53178_3 : decode cJ7_fill_53178 3 = .ok (.arraylength, 1) := by decide +kernel
theorem dJ7_fill_53178_4 : decode cJ7_fill_53178 4 = .ok (.istore_n 3, 1) := by decide +kernel
theorem dJ7_fill_53178_5 : decode cJ7_fill_53178 5 = .ok (.iload_n 2, 1) := by decide +kernel
theorem dJ7_fill_53178_6 : decode cJ7_fill_53178 6 = .ok (.iload_n 3, 1) := by decide +kernel
theorem dJ7_fill_53178_7 : decode cJ7_fill_53178 7 = .ok (.if_icmp .ge 13, 3) := by decide +kernel
theorem dJ7_fill_53178_10 : decode cJ7_fill_53178 10 = .ok (.aload_n 0, 1) := by decide +kernel
theorem dJ7_fill_53178_11 : decode cJ7_fill_53178 11 = .ok (.iload_n 2, 1) := by decide +kernel
theorem dJ7_fill_53178_12 : decode cJ7_fill_53178 12 = .ok (.iload_n 1, 1) := by decide +kernel
theorem dJ7_fill_53178_13 : decode cJ7_fill_53178 13 = .ok (.iastore, 1) := by decide +kernel
theorem dJ7_fill_53178_14 : decode cJ7_fill_53178 14 = .ok (.iinc 2 1, 3) := by decide +kernel
theorem dJ7_fill_53178_17 : decode cJ7_fill_53178 17 = .ok (.goto (-12), 3) := by decide +kernel
theorem dJ7_fill_53178_20 : decode cJ7_fill_53178 20 = .ok (.return_, 1) := by decide +kernel
theorem dJ7_copyOf_59c91_0 : decode cJ7_copyOf_59c91 0 = .ok (.iload_n 1, 1) := by decide +kernel
theorem dJ7_copyOf_59c91_1 : decode cJ7_copyOf_59c91 1 = .ok (.aload_n 0, 1) := by decide +kernel
theorem dJ7_copyOf_59c91_2 : decode cJ7_copyOf_59c91 2 = .ok (.arraylength, 1) := by decide +kernel
theorem dJ7_copyOf_59c91_3 : decode cJ7_copyOf_59c91 3 = .ok (.if_icmp .ne 11, 3) := by decide +kernel
theorem dJ7_copyOf_59c91_6 : decode cJ7_copyOf_59c91 6 = .ok (.aload_n 0, 1) := by decide +kernel
theorem dJ7_copyOf_59c91_7 : decode cJ7_copyOf_59c91 7 = .ok (.invokevirtual 316, 3) := by decide +kernel
theorem dJ7_copyOf_59c91_10 : decode cJ7_copyOf_59c91 10 = .ok (.checkcast 317, 3) := by decide +kernel
theorem dJ7_copyOf_59c91_13 : decode cJ7_copyOf_59c91 13 = .ok (.areturn, 1) := by decide +kernel
theorem dJ7_copyOf_59c91_14 : decode cJ7_copyOf_59c91 14 = .ok (.iload_n 1, 1) := by decide +kernel
theorem dJ7_copyOf_59c91_15 : decode cJ7_copyOf_59c91 15 = .ok (.newarray .int, 2) := by decide +kernel
theorem dJ7_copyOf_59c91_17 : decode cJ7_copyOf_59c91 17 = .ok (.astore_n 2, 1) := by decide +kernel
theorem dJ7_copyOf_59c91_18 : decode cJ7_copyOf_59c91 18 = .ok (.aload_n 0, 1) := by decide +kernel
theorem dJ7_copyOf_59c91_19 : decode cJ7_copyOf_59c91 19 = .ok (.iconst 0, 1) := by decide +kernel
theorem dJ7_copyOf_59c91_20 : decode cJ7_copyOf_59c91 20 = .ok (.aload_n 2, 1) := by decide +kernel
theorem dJ7_copyOf_59c91_21 : decode cJ7_copyOf_59c91 21 = .ok (.iconst 0, 1) := by decide +kernel
theorem dJ7_copyOf_59c91_22 : decode cJ7_copyOf_59c91 22 = .ok (.aload_n 0, 1) := by decide +kernel
theorem dJ7_copyOf_59c91_23 : decode cJ7_copyOf_59c91 23 = .ok (.arraylength, 1) := by decide +kernel
theorem dJ7_copyOf_59c91_24 : decode cJ7_copyOf_59c91 24 = .ok (.iload_n 1, 1) := by decide +kernel
theorem dJ7_copyOf_59c91_25 : decode cJ7_copyOf_59c91 25 = .ok (.invokestatic 304, 3) := by decide +kernel
theorem dJ7_copyOf_59c91_28 : decode cJ7_copyOf_59c91 28 = .ok (.invokestatic 150, 3) := by decide +kernel
theorem dJ7_copyOf_59c91_31 : decode cJ7_copyOf_59c91 31 = .ok (.aload_n 2, 1) := by decide +kernel
theorem dJ7_copyOf_59c91_32 : decode cJ7_copyOf_59c91 32 = .ok (.areturn, 1) := by decide +kernel
end
section
theorem dJ9_abs_0f7a4_0 : decode cJ9_abs_0f7a4 0 = .ok (.iload_n 0, 1) := by decide +kernel
theorem dJ9_abs_0f7a4_1 : decode cJ9_abs_0f7a4 1 = .ok (.ifCond .ge 8, 3) := by decide +kernel
theorem dJ9_abs_0f7a4_4 : decode cJ9_abs_0f7a4 4 = .ok (.iload_n 0, 1) := by decide +kernel
theorem dJ9_abs_0f7a4_5 : decode cJ9_abs_0f7a4 5 = .ok (.ineg, 1) := by decide +kernel
theorem dJ9_abs_0f7a4_6 : decode cJ9_abs_0f7a4 6 = .ok (.goto 4, 3) := by decide +kernel
theorem dJ9_abs_0f7a4_9 : decode cJ9_abs_0f7a4 9 = .ok (.iload_n 0, 1) := by decide +kernel
theorem dJ9_abs_0f7a4_10 : decode cJ9_abs_0f7a4 10 = .ok (.ireturn, 1) := by decide +kernel
theorem dJ9_max_7cf53_0 : decode cJ9_max_7cf53 0 = .ok (.iload_n 0, 1) := by decide +kernel
theorem dJ9_max_7cf53_1 : decode cJ9_max_7cf53 1 = .ok (.iload_n 1, 1) := by decide +kernel
theorem dJ9_max_7cf53_2 : decode cJ9_max_7cf53 2 = .ok (.if_icmp .lt 7, 3) := by decide +kernel
theorem dJ9_max_7cf53_5 : decode cJ9_max_7cf53 5 = .ok (.iload_n 0, 1) := by decide +kernel
theorem dJ9_max_7cf53_6 : decode cJ9_max_7cf53 6 = .ok (.goto 4, 3) := by decide +kernel
theorem dJ9_max_7cf53_9 : decode cJ9_max_7cf53 9 = .ok (.iload_n 1, 1) := by decide +kernel
theorem dJ9_max_7cf53_10 : decode cJ9_max_7cf53 10 = .ok (.ireturn, 1) := by decide +kernel
theorem dJ9_min_7cf53_0 : decode cJ9_min_7cf53 0 = .ok (.iload_n 0, 1) := by decide +kernel
theorem dJ9_min_7cf53_1 : decode cJ9_min_7cf53 1 = .ok (.iload_n 1, 1) := by decide +kernel
theorem dJ9_min_7cf53_2 : decode cJ9_min_7cf53 2 = .ok (.if_icmp .gt 7, 3) := by decide +kernel
theorem dJ9_min_7cf53_5 : decode cJ9_min_7cf53 5 = .ok (.iload_n 0, 1) := by decide +kernel
theorem dJ9_min_7cf53_6 : decode cJ9_min_7cf53 6 = .ok (.goto 4, 3) := by decide +kernel
theorem dJ9_min_7cf53_9 : decode cJ9_min_7cf53 9 = .ok (.iload_n 1, 1) := by decide +kernel
theorem dJ9_min_7cf53_10 : decode cJ9_min_7cf53 10 = .ok (.ireturn, 1) := by decide +kernel
end
section
theorem dL_law_0 : decode cL_law 0 = .ok (.new 7, 3) := by decide +kernel
theorem dL_law_3 : decode cL_law 3 = .ok (.dup, 1) := by decide +kernel
theorem dL_law_4 : decode cL_law 4 = .ok (.invokespecial 9, 3) := by decide +kernel
theorem dL_law_7 : decode cL_law 7 = .ok (.astore_n 1, 1) := by decide +kernel
theorem dL_law_8 : decode cL_law 8 = .ok (.new 10, 3) := by decide +kernel
theorem dL_law_11 : decode cL_law 11 = .ok (.dup, 1) := by decide +kernel
theorem dL_law_12 : decode cL_law 12 = .ok (.invokespecial 12, 3) := by decide +kernel
theorem dL_law_15 : decode cL_law 15 = .ok (.astore_n 2, 1) := by decide +kernel
theorem dL_law_16 : decode cL_law 16 = .ok (.iconst 0, 1) := by decide +kernel
theorem dL_law_17 : decode cL_law 17 = .ok (.istore_n 3, 1) := by decide +kernel
theorem dL_law_18 : decode cL_law 18 = .ok (.iload_n 3, 1) := by decide +kernel
theorem dL_law_19 : decode cL_law 19 = .ok (.aload_n 0, 1) := by decide +kernel
theorem dL_law_20 : decode cL_law 20 = .ok (.arraylength, 1) := by decide +kernel
theorem dL_law_21 : decode cL_law 21 = .ok (.bipush 6, 2) := by decide +kernel
theorem dL_law_23 : decode cL_law 23 = .ok (.isub, 1) := by decide +kernel
theorem dL_law_24 : decode cL_law 24 = .ok (.if_icmp .gt 1514, 3) := by decide +kernel
theorem dL_law_27 : decode cL_law 27 = .ok (.aload_n 0, 1) := by decide +kernel
theorem dL_law_28 : decode cL_law 28 = .ok (.iload_n 3, 1) := by decide +kernel
theorem dL_law_29 : decode cL_law 29 = .ok (.iaload, 1) := by decide +kernel
theorem dL_law_30 : decode cL_law 30 = .ok (.bipush 63, 2) := by decide +kernel
theorem dL_law_32 : decode cL_law 32 = .ok (.iand, 1) := by decide +kernel
theorem dL_law_33 : decode cL_law 33 = .ok (.tableswitch 1499 0 38 #[171, 194, 227, 260, 273, 316, 349, 382, 415, 448, 501, 534, 557, 580, 613, 636, 669, 722, 745, 778, 811, 854, 887, 940, 973, 1016, 1039, 1082, 1095, 1108, 1131, 1174, 1197, 1230, 1273, 1346, 1380, 1443, 1476], 171) := by decide +kernel
theorem dL_law_204 : decode cL_law 204 = .ok (.aload_n 1, 1) := by decide +kernel
theorem dL_law_205 : decode cL_law 205 = .ok (.aload_n 0, 1) := by decide +kernel
theorem dL_law_206 : decode cL_law 206 = .ok (.iload_n 3, 1) := by decide +kernel
theorem dL_law_207 : decode cL_law 207 = .ok (.iconst 1, 1) := by decide +kernel
theorem dL_law_208 : decode cL_law 208 = .ok (.iadd, 1) := by decide +kernel
theorem dL_law_209 : decode cL_law 209 = .ok (.iaload, 1) := by decide +kernel
theorem dL_law_210 : decode cL_law 210 = .ok (.invokevirtual 13, 3) := by decide +kernel
theorem dL_law_213 : decode cL_law 213 = .ok (.aload_n 2, 1) := by decide +kernel
theorem dL_law_214 : decode cL_law 214 = .ok (.aload_n 0, 1) := by decide +kernel
theorem dL_law_215 : decode cL_law 215 = .ok (.iload_n 3, 1) := by decide +kernel
theorem dL_law_216 : decode cL_law 216 = .ok (.iconst 1, 1) := by decide +kernel
theorem dL_law_217 : decode cL_law 217 = .ok (.iadd, 1) := by decide +kernel
theorem dL_law_218 : decode cL_law 218 = .ok (.iaload, 1) := by decide +kernel
theorem dL_law_219 : decode cL_law 219 = .ok (.invokevirtual 17, 3) := by decide +kernel
theorem dL_law_222 : decode cL_law 222 = .ok (.if_icmp .eq 1310, 3) := by decide +kernel
theorem dL_law_225 : decode cL_law 225 = .ok (.iconst 0, 1) := by decide +kernel
theorem dL_law_226 : decode cL_law 226 = .ok (.ireturn, 1) := by decide +kernel
theorem dL_law_227 : decode cL_law 227 = .ok (.aload_n 1, 1) := by decide +kernel
theorem dL_law_228 : decode cL_law 228 = .ok (.aload_n 0, 1) := by decide +kernel
theorem dL_law_229 : decode cL_law 229 = .ok (.iload_n 3, 1) := by decide +kernel
theorem dL_law_230 : decode cL_law 230 = .ok (.iconst 1, 1) := by decide +kernel
theorem dL_law_231 : decode cL_law 231 = .ok (.iadd, 1) := by decide +kernel
theorem dL_law_232 : decode cL_law 232 = .ok (.iaload, 1) := by decide +kernel
theorem dL_law_233 : decode cL_law 233 = .ok (.aload_n 0, 1) := by decide +kernel
theorem dL_law_234 : decode cL_law 234 = .ok (.iload_n 3, 1) := by decide +kernel
theorem dL_law_235 : decode cL_law 235 = .ok (.iconst 2, 1) := by decide +kernel
theorem dL_law_236 : decode cL_law 236 = .ok (.iadd, 1) := by decide +kernel
theorem dL_law_237 : decode cL_law 237 = .ok (.iaload, 1) := by decide +kernel
theorem dL_law_238 : decode cL_law 238 = .ok (.invokevirtual 18, 3) := by decide +kernel
theorem dL_law_241 : decode cL_law 241 = .ok (.aload_n 2, 1) := by decide +kernel
theorem dL_law_242 : decode cL_law 242 = .ok (.aload_n 0, 1) := by decide +kernel
theorem dL_law_243 : decode cL_law 243 = .ok (.iload_n 3, 1) := by decide +kernel
theorem dL_law_244 : decode cL_law 244 = .ok (.iconst 1, 1) := by decide +kernel
theorem dL_law_245 : decode cL_law 245 = .ok (.iadd, 1) := by decide +kernel
theorem dL_law_246 : decode cL_law 246 = .ok (.iaload, 1) := by decide +kernel
theorem dL_law_247 : decode cL_law 247 = .ok (.aload_n 0, 1) := by decide +kernel
theorem dL_law_248 : decode cL_law 248 = .ok (.iload_n 3, 1) := by decide +kernel
theorem dL_law_249 : decode cL_law 249 = .ok (.iconst 2, 1) := by decide +kernel
theorem dL_law_250 : decode cL_law 250 = .ok (.iadd, 1) := by decide +kernel
theorem dL_law_251 : decode cL_law 251 = .ok (.iaload, 1) := by decide +kernel
theorem dL_law_252 : decode cL_law 252 = .ok (.invokevirtual 22, 3) := by decide +kernel
theorem dL_law_255 : decode cL_law 255 = .ok (.if_icmp .eq 1277, 3) := by decide +kernel
theorem dL_law_258 : decode cL_law 258 = .ok (.iconst 0, 1) := by decide +kernel
theorem dL_law_259 : decode cL_law 259 = .ok (.ireturn, 1) := by decide +kernel
theorem dL_law_260 : decode cL_law 260 = .ok (.aload_n 1, 1) := by decide +kernel
theorem dL_law_261 : decode cL_law 261 = .ok (.aload_n 0, 1) := by decide +kernel
theorem dL_law_262 : decode cL_law 262 = .ok (.iload_n 3, 1) := by decide +kernel
theorem dL_law_263 : decode cL_law 263 = .ok (.iconst 1, 1) := by decide +kernel
theorem dL_law_264 : decode cL_law 264 = .ok (.iadd, 1) := by decide +kernel
theorem dL_law_265 : decode cL_law 265 = .ok (.iaload, 1) := by decide +kernel
theorem dL_law_266 : decode cL_law 266 = .ok (.aload_n 0, 1) := by decide +kernel
theorem dL_law_267 : decode cL_law 267 = .ok (.iload_n 3, 1) := by decide +kernel
theorem dL_law_268 : decode cL_law 268 = .ok (.iconst 2, 1) := by decide +kernel
theorem dL_law_269 : decode cL_law 269 = .ok (.iadd, 1) := by decide +kernel
theorem dL_law_270 : decode cL_law 270 = .ok (.iaload, 1) := by decide +kernel
theorem dL_law_271 : decode cL_law 271 = .ok (.invokevirtual 23, 3) := by decide +kernel
theorem dL_law_274 : decode cL_law 274 = .ok (.aload_n 2, 1) := by decide +kernel
theorem dL_law_275 : decode cL_law 275 = .ok (.aload_n 0, 1) := by decide +kernel
theorem dL_law_276 : decode cL_law 276 = .ok (.iload_n 3, 1) := by decide +kernel
theorem dL_law_277 : decode cL_law 277 = .ok (.iconst 1, 1) := by decide +kernel
theorem dL_law_278 : decode cL_law 278 = .ok (.iadd, 1) := by decide +kernel
theorem dL_law_279 : decode cL_law 279 = .ok (.iaload, 1) := by decide +kernel
theorem dL_law_280 : decode cL_law 280 = .ok (.aload_n 0, 1) := by decide +kernel
theorem dL_law_281 : decode cL_law 281 = .ok (.iload_n 3, 1) := by decide +kernel
theorem dL_law_282 : decode cL_law 282 = .ok (.iconst 2, 1) := by decide +kernel
theorem dL_law_283 : decode cL_law 283 = .ok (.iadd, 1) := by decide +kernel
theorem dL_law_284 : decode cL_law 284 = .ok (.iaload, 1) := by decide +kernel
theorem dL_law_285 : decode cL_law 285 = .ok (.invokevirtual 26, 3) := by decide +kernel
theorem dL_law_288 : decode cL_law 288 = .ok (.if_icmp .eq 1244, 3) := by decide +kernel
theorem dL_law_291 : decode cL_law 291 = .ok (.iconst 0, 1) := by decide +kernel
theorem dL_law_292 : decode cL_law 292 = .ok (.ireturn, 1) := by decide +kernel
theorem dL_law_293 : decode cL_law 293 = .ok (.aload_n 1, 1) := by decide +kernel
theorem dL_law_294 : decode cL_law 294 = .ok (.invokevirtual 27, 3) := by decide +kernel
theorem dL_law_297 : decode cL_law 297 = .ok (.aload_n 2, 1) := by decide +kernel
theorem dL_law_298 : decode cL_law 298 = .ok (.invokevirtual 31, 3) := by decide +kernel
theorem dL_law_301 : decode cL_law 301 = .ok (.if_icmp .eq 1231, 3) := by decide +kernel
theorem dL_law_304 : decode cL_law 304 = .ok (.iconst 0, 1) := by decide +kernel
theorem dL_law_305 : decode cL_law 305 = .ok (.ireturn, 1) := by decide +kernel
theorem dL_law_306 : decode cL_law 306 = .ok (.aload_n 1, 1) := by decide +kernel
theorem dL_law_307 : decode cL_law 307 = .ok (.aload_n 0, 1) := by decide +kernel
theorem dL_law_308 : decode cL_law 308 = .ok (.iload_n 3, 1) := by decide +kernel
theorem dL_law_309 : decode cL_law 309 = .ok (.iconst 1, 1) := by decide +kernel
theorem dL_law_310 : decode cL_law 310 = .ok (.iadd, 1) := by decide +kernel
theorem dL_law_311 : decode cL_law 311 = .ok (.iaload, 1) := by decide +kernel
theorem dL_law_312 : decode cL_law 312 = .ok (.aload_n 0, 1) := by decide +kernel
theorem dL_law_313 : decode cL_law 313 = .ok (.iload_n 3, 1) := by decide +kernel
theorem dL_law_314 : decode cL_law 314 = .ok (.iconst 2, 1) := by decide +kernel
theorem dL_law_315 : decode cL_law 315 = .ok (.iadd, 1) := by decide +kernel
theorem dL_law_316 : decode cL_law 316 = .ok (.iaload, 1) := by decide +kernel
theorem dL_law_317 : decode cL_law 317 = .ok (.aload_n 0, 1) := by decide +kernel
theorem dL_law_318 : decode cL_law 318 = .ok (.iload_n 3, 1) := by decide +kernel
theorem dL_law_319 : decode cL_law 319 = .ok (.iconst 3, 1) := by decide +kernel
theorem dL_law_320 : decode cL_law 320 = .ok (.iadd, 1) := by decide +kernel
theorem dL_law_321 : decode cL_law 321 = .ok (.iaload, 1) := by decide +kernel
theorem dL_law_322 : decode cL_law 322 = .ok (.invokevirtual 32, 3) := by decide +kernel
theorem dL_law_325 : decode cL_law 325 = .ok (.aload_n 2, 1) := by decide +kernel
theorem dL_law_326 : decode cL_law 326 = .ok (.aload_n 0, 1) := by decide +kernel
theorem dL_law_327 : decode cL_law 327 = .ok (.iload_n 3, 1) := by decide +kernel
theorem dL_law_328 : decode cL_law 328 = .ok (.iconst 1, 1) := by decide +kernel
theorem dL_law_329 : decode cL_law 329 = .ok (.iadd, 1) := by decide +kernel
theorem dL_law_330 : decode cL_law 330 = .ok (.iaload, 1) := by decide +kernel
theorem dL_law_331 : decode cL_law 331 = .ok (.aload_n 0, 1) := by decide +kernel
theorem dL_law_332 : decode cL_law 332 = .ok (.iload_n 3, 1) := by decide +kernel
theorem dL_law_333 : decode cL_law 333 = .ok (.iconst 2, 1) := by decide +kernel
theorem dL_law_334 : decode cL_law 334 = .ok (.iadd, 1) := by decide +kernel
theorem dL_law_335 : decode cL_law 335 = .ok (.iaload, 1) := by decide +kernel
theorem dL_law_336 : decode cL_law 336 = .ok (.aload_n 0, 1) := by decide +kernel
theorem dL_law_337 : decode cL_law 337 = .ok (.iload_n 3, 1) := by decide +kernel
theorem dL_law_338 : decode cL_law 338 = .ok (.iconst 3, 1) := by decide +kernel
theorem dL_law_339 : decode cL_law 339 = .ok (.iadd, 1) := by decide +kernel
theorem dL_law_340 : decode cL_law 340 = .ok (.iaload, 1) := by decide +kernel
theorem dL_law_341 : decode cL_law 341 = .ok (.invokevirtual 36, 3) := by decide +kernel
theorem dL_law_344 : decode cL_law 344 = .ok (.if_icmp .eq 1188, 3) := by decide +kernel
theorem dL_law_347 : decode cL_law 347 = .ok (.iconst 0, 1) := by decide +kernel
theorem dL_law_348 : decode cL_law 348 = .ok (.ireturn, 1) := by decide +kernel
theorem dL_law_349 : decode cL_law 349 = .ok (.aload_n 1, 1) := by decide +kernel
theorem dL_law_350 : decode cL_law 350 = .ok (.aload_n 0, 1) := by decide +kernel
theorem dL_law_351 : decode cL_law 351 = .ok (.iload_n 3, 1) := by decide +kernel
theorem dL_law_352 : decode cL_law 352 = .ok (.iconst 1, 1) := by decide +kernel
theorem dL_law_353 : decode cL_law 353 = .ok (.iadd, 1) := by decide +kernel
theorem dL_law_354 : decode cL_law 354 = .ok (.iaload, 1) := by decide +kernel
theorem dL_law_355 : decode cL_law 355 = .ok (.aload_n 0, 1) := by decide +kernel
theorem dL_law_356 : decode cL_law 356 = .ok (.iload_n 3, 1) := by decide +kernel
theorem dL_law_357 : decode cL_law 357 = .ok (.iconst 2, 1) := by decide +kernel
theorem dL_law_358 : decode cL_law 358 = .ok (.iadd, 1) := by decide +kernel
theorem dL_law_359 : decode cL_law 359 = .ok (.iaload, 1) := by decide +kernel
theorem dL_law_360 : decode cL_law 360 = .ok (.invokevirtual 37, 3) := by decide +kernel
theorem dL_law_363 : decode cL_law 363 = .ok (.aload_n 2, 1) := by decide +kernel
theorem dL_law_364 : decode cL_law 364 = .ok (.aload_n 0, 1) := by decide +kernel
theorem dL_law_365 : decode cL_law 365 = .ok (.iload_n 3, 1) := by decide +kernel
theorem dL_law_366 : decode cL_law 366 = .ok (.iconst 1, 1) := by decide +kernel
theorem dL_law_367 : decode cL_law 367 = .ok (.iadd, 1) := by decide +kernel
theorem dL_law_368 : decode cL_law 368 = .ok (.iaload, 1) := by decide +kernel
theorem dL_law_369 : decode cL_law 369 = .ok (.aload_n 0, 1) := by decide +kernel
theorem dL_law_370 : decode cL_law 370 = .ok (.iload_n 3, 1) := by decide +kernel
theorem dL_law_371 : decode cL_law 371 = .ok (.iconst 2, 1) := by decide +kernel
theorem dL_law_372 : decode cL_law 372 = .ok (.iadd, 1) := by decide +kernel
theorem dL_law_373 : decode cL_law 373 = .ok (.iaload, 1) := by decide +kernel
theorem dL_law_374 : decode cL_law 374 = .ok (.invokevirtual 40, 3) := by decide +kernel
theorem dL_law_377 : decode cL_law 377 = .ok (.if_icmp .eq 1155, 3) := by decide +kernel
theorem dL_law_380 : decode cL_law 380 = .ok (.iconst 0, 1) := by decide +kernel
theorem dL_law_381 : decode cL_law 381 = .ok (.ireturn, 1) := by decide +kernel
theorem dL_law_382 : decode cL_law 382 = .ok (.aload_n 1, 1) := by decide +kernel
theorem dL_law_383 : decode cL_law 383 = .ok (.aload_n 0, 1) := by decide +kernel
theorem dL_law_384 : decode cL_law 384 = .ok (.iload_n 3, 1) := by decide +kernel
theorem dL_law_385 : decode cL_law 385 = .ok (.iconst 1, 1) := by decide +kernel
theorem dL_law_386 : decode cL_law 386 = .ok (.iadd, 1) := by decide +kernel
theorem dL_law_387 : decode cL_law 387 = .ok (.iaload, 1) := by decide +kernel
theorem dL_law_388 : decode cL_law 388 = .ok (.aload_n 0, 1) := by decide +kernel
theorem dL_law_389 : decode cL_law 389 = .ok (.iload_n 3, 1) := by decide +kernel
theorem dL_law_390 : decode cL_law 390 = .ok (.iconst 2, 1) := by decide +kernel
theorem dL_law_391 : decode cL_law 391 = .ok (.iadd, 1) := by decide +kernel
theorem dL_law_392 : decode cL_law 392 = .ok (.iaload, 1) := by decide +kernel
theorem dL_law_393 : decode cL_law 393 = .ok (.invokevirtual 41, 3) := by decide +kernel
theorem dL_law_396 : decode cL_law 396 = .ok (.aload_n 2, 1) := by decide +kernel
theorem dL_law_397 : decode cL_law 397 = .ok (.aload_n 0, 1) := by decide +kernel
theorem dL_law_398 : decode cL_law 398 = .ok (.iload_n 3, 1) := by decide +kernel
theorem dL_law_399 : decode cL_law 399 = .ok (.iconst 1, 1) := by decide +kernel
theorem dL_law_400 : decode cL_law 400 = .ok (.iadd, 1) := by decide +kernel
theorem dL_law_401 : decode cL_law 401 = .ok (.iaload, 1) := by decide +kernel
theorem dL_law_402 : decode cL_law 402 = .ok (.aload_n 0, 1) := by decide +kernel
theorem dL_law_403 : decode cL_law 403 = .ok (.iload_n 3, 1) := by decide +kernel
theorem dL_law_404 : decode cL_law 404 = .ok (.iconst 2, 1) := by decide +kernel
theorem dL_law_405 : decode cL_law 405 = .ok (.iadd, 1) := by decide +kernel
theorem dL_law_406 : decode cL_law 406 = .ok (.iaload, 1) := by decide +kernel
theorem dL_law_407 : decode cL_law 407 = .ok (.invokevirtual 44, 3) := by decide +kernel
theorem dL_law_410 : decode cL_law 410 = .ok (.if_icmp .eq 1122, 3) := by decide +kernel
theorem dL_law_413 : decode cL_law 413 = .ok (.iconst 0, 1) := by decide +kernel
theorem dL_law_414 : decode cL_law 414 = .ok (.ireturn, 1) := by decide +kernel
theorem dL_law_415 : decode cL_law 415 = .ok (.aload_n 1, 1) := by decide +kernel
theorem dL_law_416 : decode cL_law 416 = .ok (.aload_n 0, 1) := by decide +kernel
theorem dL_law_417 : decode cL_law 417 = .ok (.iload_n 3, 1) := by decide +kernel
theorem dL_law_418 : decode cL_law 418 = .ok (.iconst 1, 1) := by decide +kernel
theorem dL_law_419 : decode cL_law 419 = .ok (.iadd, 1) := by decide +kernel
theorem dL_law_420 : decode cL_law 420 = .ok (.iaload, 1) := by decide +kernel
theorem dL_law_421 : decode cL_law 421 = .ok (.aload_n 0, 1) := by decide +kernel
theorem dL_law_422 : decode cL_law 422 = .ok (.iload_n 3, 1) := by decide +kernel
theorem dL_law_423 : decode cL_law 423 = .ok (.iconst 2, 1) := by decide +kernel
theorem dL_law_424 : decode cL_law 424 = .ok (.iadd, 1) := by decide +kernel
theorem dL_law_425 : decode cL_law 425 = .ok (.iaload, 1) := by decide +kernel
theorem dL_law_426 : decode cL_law 426 = .ok (.invokevirtual 45, 3) := by decide +kernel
theorem dL_law_429 : decode cL_law 429 = .ok (.aload_n 2, 1) := by decide +kernel
theorem dL_law_430 : decode cL_law 430 = .ok (.aload_n 0, 1) := by decide +kernel
theorem dL_law_431 : decode cL_law 431 = .ok (.iload_n 3, 1) := by decide +kernel
theorem dL_law_432 : decode cL_law 432 = .ok (.iconst 1, 1) := by decide +kernel
theorem dL_law_433 : decode cL_law 433 = .ok (.iadd, 1) := by decide +kernel
theorem dL_law_434 : decode cL_law 434 = .ok (.iaload, 1) := by decide +kernel
theorem dL_law_435 : decode cL_law 435 = .ok (.aload_n 0, 1) := by decide +kernel
theorem dL_law_436 : decode cL_law 436 = .ok (.iload_n 3, 1) := by decide +kernel
theorem dL_law_437 : decode cL_law 437 = .ok (.iconst 2, 1) := by decide +kernel
theorem dL_law_438 : decode cL_law 438 = .ok (.iadd, 1) := by decide +kernel
theorem dL_law_439 : decode cL_law 439 = .ok (.iaload, 1) := by decide +kernel
theorem dL_law_440 : decode cL_law 440 = .ok (.invokevirtual 48, 3) := by decide +kernel
theorem dL_law_443 : decode cL_law 443 = .ok (.if_icmp .eq 1089, 3) := by decide +kernel
theorem dL_law_446 : decode cL_law 446 = .ok (.iconst 0, 1) := by decide +kernel
theorem dL_law_447 : decode cL_law 447 = .ok (.ireturn, 1) := by decide +kernel
theorem dL_law_448 : decode cL_law 448 = .ok (.aload_n 1, 1) := by decide +kernel
theorem dL_law_449 : decode cL_law 449 = .ok (.aload_n 0, 1) := by decide +kernel
theorem dL_law_450 : decode cL_law 450 = .ok (.iload_n 3, 1) := by decide +kernel
theorem dL_law_451 : decode cL_law 451 = .ok (.iconst 1, 1) := by decide +kernel
theorem dL_law_452 : decode cL_law 452 = .ok (.iadd, 1) := by decide +kernel
theorem dL_law_453 : decode cL_law 453 = .ok (.iaload, 1) := by decide +kernel
theorem dL_law_454 : decode cL_law 454 = .ok (.aload_n 0, 1) := by decide +kernel
theorem dL_law_455 : decode cL_law 455 = .ok (.iload_n 3, 1) := by decide +kernel
theorem dL_law_456 : decode cL_law 456 = .ok (.iconst 2, 1) := by decide +kernel
theorem dL_law_457 : decode cL_law 457 = .ok (.iadd, 1) := by decide +kernel
theorem dL_law_458 : decode cL_law 458 = .ok (.iaload, 1) := by decide +kernel
theorem dL_law_459 : decode cL_law 459 = .ok (.invokevirtual 49, 3) := by decide +kernel
theorem dL_law_462 : decode cL_law 462 = .ok (.aload_n 2, 1) := by decide +kernel
theorem dL_law_463 : decode cL_law 463 = .ok (.aload_n 0, 1) := by decide +kernel
theorem dL_law_464 : decode cL_law 464 = .ok (.iload_n 3, 1) := by decide +kernel
theorem dL_law_465 : decode cL_law 465 = .ok (.iconst 1, 1) := by decide +kernel
theorem dL_law_466 : decode cL_law 466 = .ok (.iadd, 1) := by decide +kernel
theorem dL_law_467 : decode cL_law 467 = .ok (.iaload, 1) := by decide +kernel
theorem dL_law_468 : decode cL_law 468 = .ok (.aload_n 0, 1) := by decide +kernel
theorem dL_law_469 : decode cL_law 469 = .ok (.iload_n 3, 1) := by decide +kernel
theorem dL_law_470 : decode cL_law 470 = .ok (.iconst 2, 1) := by decide +kernel
theorem dL_law_471 : decode cL_law 471 = .ok (.iadd, 1) := by decide +kernel
theorem dL_law_472 : decode cL_law 472 = .ok (.iaload, 1) := by decide +kernel
theorem dL_law_473 : decode cL_law 473 = .ok (.invokevirtual 52, 3) := by decide +kernel
theorem dL_law_476 : decode cL_law 476 = .ok (.if_icmp .eq 1056, 3) := by decide +kernel
theorem dL_law_479 : decode cL_law 479 = .ok (.iconst 0, 1) := by decide +kernel
theorem dL_law_480 : decode cL_law 480 = .ok (.ireturn, 1) := by decide +kernel
theorem dL_law_481 : decode cL_law 481 = .ok (.aload_n 1, 1) := by decide +kernel
theorem dL_law_482 : decode cL_law 482 = .ok (.aload_n 0, 1) := by decide +kernel
theorem dL_law_483 : decode cL_law 483 = .ok (.iload_n 3, 1) := by decide +kernel
theorem dL_law_484 : decode cL_law 484 = .ok (.iconst 1, 1) := by decide +kernel
theorem dL_law_485 : decode cL_law 485 = .ok (.iadd, 1) := by decide +kernel
theorem dL_law_486 : decode cL_law 486 = .ok (.iaload, 1) := by decide +kernel
theorem dL_law_487 : decode cL_law 487 = .ok (.aload_n 0, 1) := by decide +kernel
theorem dL_law_488 : decode cL_law 488 = .ok (.iload_n 3, 1) := by decide +kernel
theorem dL_law_489 : decode cL_law 489 = .ok (.iconst 2, 1) := by decide +kernel
theorem dL_law_490 : decode cL_law 490 = .ok (.iadd, 1) := by decide +kernel
theorem dL_law_491 : decode cL_law 491 = .ok (.iaload, 1) := by decide +kernel
theorem dL_law_492 : decode cL_law 492 = .ok (.aload_n 0, 1) := by decide +kernel
theorem dL_law_493 : decode cL_law 493 = .ok (.iload_n 3, 1) := by decide +kernel
theorem dL_law_494 : decode cL_law 494 = .ok (.iconst 3, 1) := by decide +kernel
theorem dL_law_495 : decode cL_law 495 = .ok (.iadd, 1) := by decide +kernel
theorem dL_law_496 : decode cL_law 496 = .ok (.iaload, 1) := by decide +kernel
theorem dL_law_497 : decode cL_law 497 = .ok (.aload_n 0, 1) := by decide +kernel
theorem dL_law_498 : decode cL_law 498 = .ok (.iload_n 3, 1) := by decide +kernel
theorem dL_law_499 : decode cL_law 499 = .ok (.iconst 4, 1) := by decide +kernel
theorem dL_law_500 : decode cL_law 500 = .ok (.iadd, 1) := by decide +kernel
theorem dL_law_501 : decode cL_law 501 = .ok (.iaload, 1) := by decide +kernel
theorem dL_law_502 : decode cL_law 502 = .ok (.invokevirtual 53, 3) := by decide +kernel
theorem dL_law_505 : decode cL_law 505 = .ok (.aload_n 2, 1) := by decide +kernel
theorem dL_law_506 : decode cL_law 506 = .ok (.aload_n 0, 1) := by decide +kernel
theorem dL_law_507 : decode cL_law 507 = .ok (.iload_n 3, 1) := by decide +kernel
theorem dL_law_508 : decode cL_law 508 = .ok (.iconst 1, 1) := by decide +kernel
theorem dL_law_509 : decode cL_law 509 = .ok (.iadd, 1) := by decide +kernel
theorem dL_law_510 : decode cL_law 510 = .ok (.iaload, 1) := by decide +kernel
theorem dL_law_511 : decode cL_law 511 = .ok (.aload_n 0, 1) := by decide +kernel
theorem dL_law_512 : decode cL_law 512 = .ok (.iload_n 3, 1) := by decide +kernel
theorem dL_law_513 : decode cL_law 513 = .ok (.iconst 2, 1) := by decide +kernel
theorem dL_law_514 : decode cL_law 514 = .ok (.iadd, 1) := by decide +kernel
theorem dL_law_515 : decode cL_law 515 = .ok (.iaload, 1) := by decide +kernel
theorem dL_law_516 : decode cL_law 516 = .ok (.aload_n 0, 1) := by decide +kernel
theorem dL_law_517 : decode cL_law 517 = .ok (.iload_n 3, 1) := by decide +kernel
theorem dL_law_518 : decode cL_law 518 = .ok (.iconst 3, 1) := by decide +kernel
theorem dL_law_519 : decode cL_law 519 = .ok (.iadd, 1) := by decide +kernel
theorem dL_law_520 : decode cL_law 520 = .ok (.iaload, 1) := by decide +kernel
theorem dL_law_521 : decode cL_law 521 = .ok (.aload_n 0, 1) := by decide +kernel
theorem dL_law_522 : decode cL_law 522 = .ok (.iload_n 3, 1) := by decide +kernel
theorem dL_law_523 : decode cL_law 523 = .ok (.iconst 4, 1) := by decide +kernel
theorem dL_law_524 : decode cL_law 524 = .ok (.iadd, 1) := by decide +kernel
theorem dL_law_525 : decode cL_law 525 = .ok (.iaload, 1) := by decide +kernel
theorem dL_law_526 : decode cL_law 526 = .ok (.invokevirtual 57, 3) := by decide +kernel
theorem dL_law_529 : decode cL_law 529 = .ok (.if_icmp .eq 1003, 3) := by decide +kernel
theorem dL_law_532 : decode cL_law 532 = .ok (.iconst 0, 1) := by decide +kernel
theorem dL_law_533 : decode cL_law 533 = .ok (.ireturn, 1) := by decide +kernel
theorem dL_law_534 : decode cL_law 534 = .ok (.aload_n 1, 1) := by decide +kernel
theorem dL_law_535 : decode cL_law 535 = .ok (.aload_n 0, 1) := by decide +kernel
theorem dL_law_536 : decode cL_law 536 = .ok (.iload_n 3, 1) := by decide +kernel
theorem dL_law_537 : decode cL_law 537 = .ok (.iconst 1, 1) := by decide +kernel
theorem dL_law_538 : decode cL_law 538 = .ok (.iadd, 1) := by decide +kernel
theorem dL_law_539 : decode cL_law 539 = .ok (.iaload, 1) := by decide +kernel
theorem dL_law_540 : decode cL_law 540 = .ok (.aload_n 0, 1) := by decide +kernel
theorem dL_law_541 : decode cL_law 541 = .ok (.iload_n 3, 1) := by decide +kernel
theorem dL_law_542 : decode cL_law 542 = .ok (.iconst 2, 1) := by decide +kernel
theorem dL_law_543 : decode cL_law 543 = .ok (.iadd, 1) := by decide +kernel
theorem dL_law_544 : decode cL_law 544 = .ok (.iaload, 1) := by decide +kernel
theorem dL_law_545 : decode cL_law 545 = .ok (.invokevirtual 58, 3) := by decide +kernel
theorem dL_law_548 : decode cL_law 548 = .ok (.aload_n 2, 1) := by decide +kernel
theorem dL_law_549 : decode cL_law 549 = .ok (.aload_n 0, 1) := by decide +kernel
theorem dL_law_550 : decode cL_law 550 = .ok (.iload_n 3, 1) := by decide +kernel
theorem dL_law_551 : decode cL_law 551 = .ok (.iconst 1, 1) := by decide +kernel
theorem dL_law_552 : decode cL_law 552 = .ok (.iadd, 1) := by decide +kernel
theorem dL_law_553 : decode cL_law 553 = .ok (.iaload, 1) := by decide +kernel
theorem dL_law_554 : decode cL_law 554 = .ok (.aload_n 0, 1) := by decide +kernel
theorem dL_law_555 : decode cL_law 555 = .ok (.iload_n 3, 1) := by decide +kernel
theorem dL_law_556 : decode cL_law 556 = .ok (.iconst 2, 1) := by decide +kernel
theorem dL_law_557 : decode cL_law 557 = .ok (.iadd, 1) := by decide +kernel
theorem dL_law_558 : decode cL_law 558 = .ok (.iaload, 1) := by decide +kernel
theorem dL_law_559 : decode cL_law 559 = .ok (.invokevirtual 61, 3) := by decide +kernel
theorem dL_law_562 : decode cL_law 562 = .ok (.if_icmp .eq 970, 3) := by decide +kernel
theorem dL_law_565 : decode cL_law 565 = .ok (.iconst 0, 1) := by decide +kernel
theorem dL_law_566 : decode cL_law 566 = .ok (.ireturn, 1) := by decide +kernel
theorem dL_law_567 : decode cL_law 567 = .ok (.aload_n 1, 1) := by decide +kernel
theorem dL_law_568 : decode cL_law 568 = .ok (.aload_n 0, 1) := by decide +kernel
theorem dL_law_569 : decode cL_law 569 = .ok (.iload_n 3, 1) := by decide +kernel
theorem dL_law_570 : decode cL_law 570 = .ok (.iconst 1, 1) := by decide +kernel
theorem dL_law_571 : decode cL_law 571 = .ok (.iadd, 1) := by decide +kernel
theorem dL_law_572 : decode cL_law 572 = .ok (.iaload, 1) := by decide +kernel
theorem dL_law_573 : decode cL_law 573 = .ok (.invokevirtual 62, 3) := by decide +kernel
theorem dL_law_576 : decode cL_law 576 = .ok (.aload_n 2, 1) := by decide +kernel
theorem dL_law_577 : decode cL_law 577 = .ok (.aload_n 0, 1) := by decide +kernel
theorem dL_law_578 : decode cL_law 578 = .ok (.iload_n 3, 1) := by decide +kernel
theorem dL_law_579 : decode cL_law 579 = .ok (.iconst 1, 1) := by decide +kernel
theorem dL_law_580 : decode cL_law 580 = .ok (.iadd, 1) := by decide +kernel
theorem dL_law_581 : decode cL_law 581 = .ok (.iaload, 1) := by decide +kernel
theorem dL_law_582 : decode cL_law 582 = .ok (.invokevirtual 65, 3) := by decide +kernel
theorem dL_law_585 : decode cL_law 585 = .ok (.if_icmp .eq 947, 3) := by decide +kernel
theorem dL_law_588 : decode cL_law 588 = .ok (.iconst 0, 1) := by decide +kernel
theorem dL_law_589 : decode cL_law 589 = .ok (.ireturn, 1) := by decide +kernel
theorem dL_law_590 : decode cL_law 590 = .ok (.aload_n 1, 1) := by decide +kernel
theorem dL_law_591 : decode cL_law 591 = .ok (.aload_n 0, 1) := by decide +kernel
theorem dL_law_592 : decode cL_law 592 = .ok (.iload_n 3, 1) := by decide +kernel
theorem dL_law_593 : decode cL_law 593 = .ok (.iconst 1, 1) := by decide +kernel
theorem dL_law_594 : decode cL_law 594 = .ok (.iadd, 1) := by decide +kernel
theorem dL_law_595 : decode cL_law 595 = .ok (.iaload, 1) := by decide +kernel
theorem dL_law_596 : decode cL_law 596 = .ok (.invokevirtual 66, 3) := by decide +kernel
theorem dL_law_599 : decode cL_law 599 = .ok (.aload_n 2, 1) := by decide +kernel
theorem dL_law_600 : decode cL_law 600 = .ok (.aload_n 0, 1) := by decide +kernel
theorem dL_law_601 : decode cL_law 601 = .ok (.iload_n 3, 1) := by decide +kernel
theorem dL_law_602 : decode cL_law 602 = .ok (.iconst 1, 1) := by decide +kernel
theorem dL_law_603 : decode cL_law 603 = .ok (.iadd, 1) := by decide +kernel
theorem dL_law_604 : decode cL_law 604 = .ok (.iaload, 1) := by decide +kernel
theorem dL_law_605 : decode cL_law 605 = .ok (.invokevirtual 69, 3) := by decide +kernel
theorem dL_law_608 : decode cL_law 608 = .ok (.if_icmp .eq 924, 3) := by decide +kernel
theorem dL_law_611 : decode cL_law 611 = .ok (.iconst 0, 1) := by decide +kernel
theorem dL_law_612 : decode cL_law 612 = .ok (.ireturn, 1) := by decide +kernel
theorem dL_law_613 : decode cL_law 613 = .ok (.aload_n 1, 1) := by decide +kernel
theorem dL_law_614 : decode cL_law 614 = .ok (.aload_n 0, 1) := by decide +kernel
theorem dL_law_615 : decode cL_law 615 = .ok (.iload_n 3, 1) := by decide +kernel
theorem dL_law_616 : decode cL_law 616 = .ok (.iconst 1, 1) := by decide +kernel
theorem dL_law_617 : decode cL_law 617 = .ok (.iadd, 1) := by decide +kernel
theorem dL_law_618 : decode cL_law 618 = .ok (.iaload, 1) := by decide +kernel
theorem dL_law_619 : decode cL_law 619 = .ok (.aload_n 0, 1) := by decide +kernel
theorem dL_law_620 : decode cL_law 620 = .ok (.iload_n 3, 1) := by decide +kernel
theorem dL_law_621 : decode cL_law 621 = .ok (.iconst 2, 1) := by decide +kernel
theorem dL_law_622 : decode cL_law 622 = .ok (.iadd, 1) := by decide +kernel
theorem dL_law_623 : decode cL_law 623 = .ok (.iaload, 1) := by decide +kernel
theorem dL_law_624 : decode cL_law 624 = .ok (.invokevirtual 70, 3) := by decide +kernel
theorem dL_law_627 : decode cL_law 627 = .ok (.aload_n 2, 1) := by decide +kernel
theorem dL_law_628 : decode cL_law 628 = .ok (.aload_n 0, 1) := by decide +kernel
theorem dL_law_629 : decode cL_law 629 = .ok (.iload_n 3, 1) := by decide +kernel
theorem dL_law_630 : decode cL_law 630 = .ok (.iconst 1, 1) := by decide +kernel
theorem dL_law_631 : decode cL_law 631 = .ok (.iadd, 1) := by decide +kernel
theorem dL_law_632 : decode cL_law 632 = .ok (.iaload, 1) := by decide +kernel
theorem dL_law_633 : decode cL_law 633 = .ok (.aload_n 0, 1) := by decide +kernel
theorem dL_law_634 : decode cL_law 634 = .ok (.iload_n 3, 1) := by decide +kernel
theorem dL_law_635 : decode cL_law 635 = .ok (.iconst 2, 1) := by decide +kernel
theorem dL_law_636 : decode cL_law 636 = .ok (.iadd, 1) := by decide +kernel
theorem dL_law_637 : decode cL_law 637 = .ok (.iaload, 1) := by decide +kernel
theorem dL_law_638 : decode cL_law 638 = .ok (.invokevirtual 73, 3) := by decide +kernel
theorem dL_law_641 : decode cL_law 641 = .ok (.if_icmp .eq 891, 3) := by decide +kernel
theorem dL_law_644 : decode cL_law 644 = .ok (.iconst 0, 1) := by decide +kernel
theorem dL_law_645 : decode cL_law 645 = .ok (.ireturn, 1) := by decide +kernel
theorem dL_law_646 : decode cL_law 646 = .ok (.aload_n 1, 1) := by decide +kernel
theorem dL_law_647 : decode cL_law 647 = .ok (.aload_n 0, 1) := by decide +kernel
theorem dL_law_648 : decode cL_law 648 = .ok (.iload_n 3, 1) := by decide +kernel
theorem dL_law_649 : decode cL_law 649 = .ok (.iconst 1, 1) := by decide +kernel
theorem dL_law_650 : decode cL_law 650 = .ok (.iadd, 1) := by decide +kernel
theorem dL_law_651 : decode cL_law 651 = .ok (.iaload, 1) := by decide +kernel
theorem dL_law_652 : decode cL_law 652 = .ok (.invokevirtual 74, 3) := by decide +kernel
theorem dL_law_655 : decode cL_law 655 = .ok (.aload_n 2, 1) := by decide +kernel
theorem dL_law_656 : decode cL_law 656 = .ok (.aload_n 0, 1) := by decide +kernel
theorem dL_law_657 : decode cL_law 657 = .ok (.iload_n 3, 1) := by decide +kernel
theorem dL_law_658 : decode cL_law 658 = .ok (.iconst 1, 1) := by decide +kernel
theorem dL_law_659 : decode cL_law 659 = .ok (.iadd, 1) := by decide +kernel
theorem dL_law_660 : decode cL_law 660 = .ok (.iaload, 1) := by decide +kernel
theorem dL_law_661 : decode cL_law 661 = .ok (.invokevirtual 77, 3) := by decide +kernel
theorem dL_law_664 : decode cL_law 664 = .ok (.if_icmp .eq 868, 3) := by decide +kernel
theorem dL_law_667 : decode cL_law 667 = .ok (.iconst 0, 1) := by decide +kernel
theorem dL_law_668 : decode cL_law 668 = .ok (.ireturn, 1) := by decide +kernel
theorem dL_law_669 : decode cL_law 669 = .ok (.aload_n 1, 1) := by decide +kernel
theorem dL_law_670 : decode cL_law 670 = .ok (.aload_n 0, 1) := by decide +kernel
theorem dL_law_671 : decode cL_law 671 = .ok (.iload_n 3, 1) := by decide +kernel
theorem dL_law_672 : decode cL_law 672 = .ok (.iconst 1, 1) := by decide +kernel
theorem dL_law_673 : decode cL_law 673 = .ok (.iadd, 1) := by decide +kernel
theorem dL_law_674 : decode cL_law 674 = .ok (.iaload, 1) := by decide +kernel
theorem dL_law_675 : decode cL_law 675 = .ok (.aload_n 0, 1) := by decide +kernel
theorem dL_law_676 : decode cL_law 676 = .ok (.iload_n 3, 1) := by decide +kernel
theorem dL_law_677 : decode cL_law 677 = .ok (.iconst 2, 1) := by decide +kernel
theorem dL_law_678 : decode cL_law 678 = .ok (.iadd, 1) := by decide +kernel
theorem dL_law_679 : decode cL_law 679 = .ok (.iaload, 1) := by decide +kernel
theorem dL_law_680 : decode cL_law 680 = .ok (.invokevirtual 78, 3) := by decide +kernel
theorem dL_law_683 : decode cL_law 683 = .ok (.aload_n 2, 1) := by decide +kernel
theorem dL_law_684 : decode cL_law 684 = .ok (.aload_n 0, 1) := by decide +kernel
theorem dL_law_685 : decode cL_law 685 = .ok (.iload_n 3, 1) := by decide +kernel
theorem dL_law_686 : decode cL_law 686 = .ok (.iconst 1, 1) := by decide +kernel
theorem dL_law_687 : decode cL_law 687 = .ok (.iadd, 1) := by decide +kernel
theorem dL_law_688 : decode cL_law 688 = .ok (.iaload, 1) := by decide +kernel
theorem dL_law_689 : decode cL_law 689 = .ok (.aload_n 0, 1) := by decide +kernel
theorem dL_law_690 : decode cL_law 690 = .ok (.iload_n 3, 1) := by decide +kernel
theorem dL_law_691 : decode cL_law 691 = .ok (.iconst 2, 1) := by decide +kernel
theorem dL_law_692 : decode cL_law 692 = .ok (.iadd, 1) := by decide +kernel
theorem dL_law_693 : decode cL_law 693 = .ok (.iaload, 1) := by decide +kernel
theorem dL_law_694 : decode cL_law 694 = .ok (.invokevirtual 81, 3) := by decide +kernel
theorem dL_law_697 : decode cL_law 697 = .ok (.if_icmp .eq 835, 3) := by decide +kernel
theorem dL_law_700 : decode cL_law 700 = .ok (.iconst 0, 1) := by decide +kernel
theorem dL_law_701 : decode cL_law 701 = .ok (.ireturn, 1) := by decide +kernel
theorem dL_law_702 : decode cL_law 702 = .ok (.aload_n 1, 1) := by decide +kernel
theorem dL_law_703 : decode cL_law 703 = .ok (.aload_n 0, 1) := by decide +kernel
theorem dL_law_704 : decode cL_law 704 = .ok (.iload_n 3, 1) := by decide +kernel
theorem dL_law_705 : decode cL_law 705 = .ok (.iconst 1, 1) := by decide +kernel
theorem dL_law_706 : decode cL_law 706 = .ok (.iadd, 1) := by decide +kernel
theorem dL_law_707 : decode cL_law 707 = .ok (.iaload, 1) := by decide +kernel
theorem dL_law_708 : decode cL_law 708 = .ok (.aload_n 0, 1) := by decide +kernel
theorem dL_law_709 : decode cL_law 709 = .ok (.iload_n 3, 1) := by decide +kernel
theorem dL_law_710 : decode cL_law 710 = .ok (.iconst 2, 1) := by decide +kernel
theorem dL_law_711 : decode cL_law 711 = .ok (.iadd, 1) := by decide +kernel
theorem dL_law_712 : decode cL_law 712 = .ok (.iaload, 1) := by decide +kernel
theorem dL_law_713 : decode cL_law 713 = .ok (.aload_n 0, 1) := by decide +kernel
theorem dL_law_714 : decode cL_law 714 = .ok (.iload_n 3, 1) := by decide +kernel
theorem dL_law_715 : decode cL_law 715 = .ok (.iconst 3, 1) := by decide +kernel
theorem dL_law_716 : decode cL_law 716 = .ok (.iadd, 1) := by decide +kernel
theorem dL_law_717 : decode cL_law 717 = .ok (.iaload, 1) := by decide +kernel
theorem dL_law_718 : decode cL_law 718 = .ok (.aload_n 0, 1) := by decide +kernel
theorem dL_law_719 : decode cL_law 719 = .ok (.iload_n 3, 1) := by decide +kernel
theorem dL_law_720 : decode cL_law 720 = .ok (.iconst 4, 1) := by decide +kernel
theorem dL_law_721 : decode cL_law 721 = .ok (.iadd, 1) := by decide +kernel
theorem dL_law_722 : decode cL_law 722 = .ok (.iaload, 1) := by decide +kernel
theorem dL_law_723 : decode cL_law 723 = .ok (.invokevirtual 82, 3) := by decide +kernel
theorem dL_law_726 : decode cL_law 726 = .ok (.aload_n 2, 1) := by decide +kernel
theorem dL_law_727 : decode cL_law 727 = .ok (.aload_n 0, 1) := by decide +kernel
theorem dL_law_728 : decode cL_law 728 = .ok (.iload_n 3, 1) := by decide +kernel
theorem dL_law_729 : decode cL_law 729 = .ok (.iconst 1, 1) := by decide +kernel
theorem dL_law_730 : decode cL_law 730 = .ok (.iadd, 1) := by decide +kernel
theorem dL_law_731 : decode cL_law 731 = .ok (.iaload, 1) := by decide +kernel
theorem dL_law_732 : decode cL_law 732 = .ok (.aload_n 0, 1) := by decide +kernel
theorem dL_law_733 : decode cL_law 733 = .ok (.iload_n 3, 1) := by decide +kernel
theorem dL_law_734 : decode cL_law 734 = .ok (.iconst 2, 1) := by decide +kernel
theorem dL_law_735 : decode cL_law 735 = .ok (.iadd, 1) := by decide +kernel
theorem dL_law_736 : decode cL_law 736 = .ok (.iaload, 1) := by decide +kernel
theorem dL_law_737 : decode cL_law 737 = .ok (.aload_n 0, 1) := by decide +kernel
theorem dL_law_738 : decode cL_law 738 = .ok (.iload_n 3, 1) := by decide +kernel
theorem dL_law_739 : decode cL_law 739 = .ok (.iconst 3, 1) := by decide +kernel
theorem dL_law_740 : decode cL_law 740 = .ok (.iadd, 1) := by decide +kernel
theorem dL_law_741 : decode cL_law 741 = .ok (.iaload, 1) := by decide +kernel
theorem dL_law_742 : decode cL_law 742 = .ok (.aload_n 0, 1) := by decide +kernel
theorem dL_law_743 : decode cL_law 743 = .ok (.iload_n 3, 1) := by decide +kernel
theorem dL_law_744 : decode cL_law 744 = .ok (.iconst 4, 1) := by decide +kernel
theorem dL_law_745 : decode cL_law 745 = .ok (.iadd, 1) := by decide +kernel
theorem dL_law_746 : decode cL_law 746 = .ok (.iaload, 1) := by decide +kernel
theorem dL_law_747 : decode cL_law 747 = .ok (.invokevirtual 85, 3) := by decide +kernel
theorem dL_law_750 : decode cL_law 750 = .ok (.if_icmp .eq 782, 3) := by decide +kernel
theorem dL_law_753 : decode cL_law 753 = .ok (.iconst 0, 1) := by decide +kernel
theorem dL_law_754 : decode cL_law 754 = .ok (.ireturn, 1) := by decide +kernel
theorem dL_law_755 : decode cL_law 755 = .ok (.aload_n 1, 1) := by decide +kernel
theorem dL_law_756 : decode cL_law 756 = .ok (.aload_n 0, 1) := by decide +kernel
theorem dL_law_757 : decode cL_law 757 = .ok (.iload_n 3, 1) := by decide +kernel
theorem dL_law_758 : decode cL_law 758 = .ok (.iconst 1, 1) := by decide +kernel
theorem dL_law_759 : decode cL_law 759 = .ok (.iadd, 1) := by decide +kernel
theorem dL_law_760 : decode cL_law 760 = .ok (.iaload, 1) := by decide +kernel
theorem dL_law_761 : decode cL_law 761 = .ok (.invokevirtual 86, 3) := by decide +kernel
theorem dL_law_764 : decode cL_law 764 = .ok (.aload_n 2, 1) := by decide +kernel
theorem dL_law_765 : decode cL_law 765 = .ok (.aload_n 0, 1) := by decide +kernel
theorem dL_law_766 : decode cL_law 766 = .ok (.iload_n 3, 1) := by decide +kernel
theorem dL_law_767 : decode cL_law 767 = .ok (.iconst 1, 1) := by decide +kernel
theorem dL_law_768 : decode cL_law 768 = .ok (.iadd, 1) := by decide +kernel
theorem dL_law_769 : decode cL_law 769 = .ok (.iaload, 1) := by decide +kernel
theorem dL_law_770 : decode cL_law 770 = .ok (.invokevirtual 89, 3) := by decide +kernel
theorem dL_law_773 : decode cL_law 773 = .ok (.if_icmp .eq 759, 3) := by decide +kernel
theorem dL_law_776 : decode cL_law 776 = .ok (.iconst 0, 1) := by decide +kernel
theorem dL_law_777 : decode cL_law 777 = .ok (.ireturn, 1) := by decide +kernel
theorem dL_law_778 : decode cL_law 778 = .ok (.aload_n 1, 1) := by decide +kernel
theorem dL_law_779 : decode cL_law 779 = .ok (.aload_n 0, 1) := by decide +kernel
theorem dL_law_780 : decode cL_law 780 = .ok (.iload_n 3, 1) := by decide +kernel
theorem dL_law_781 : decode cL_law 781 = .ok (.iconst 1, 1) := by decide +kernel
theorem dL_law_782 : decode cL_law 782 = .ok (.iadd, 1) := by decide +kernel
theorem dL_law_783 : decode cL_law 783 = .ok (.iaload, 1) := by decide +kernel
theorem dL_law_784 : decode cL_law 784 = .ok (.aload_n 0, 1) := by decide +kernel
theorem dL_law_785 : decode cL_law 785 = .ok (.iload_n 3, 1) := by decide +kernel
theorem dL_law_786 : decode cL_law 786 = .ok (.iconst 2, 1) := by decide +kernel
theorem dL_law_787 : decode cL_law 787 = .ok (.iadd, 1) := by decide +kernel
theorem dL_law_788 : decode cL_law 788 = .ok (.iaload, 1) := by decide +kernel
theorem dL_law_789 : decode cL_law 789 = .ok (.invokevirtual 90, 3) := by decide +kernel
theorem dL_law_792 : decode cL_law 792 = .ok (.aload_n 2, 1) := by decide +kernel
theorem dL_law_793 : decode cL_law 793 = .ok (.aload_n 0, 1) := by decide +kernel
theorem dL_law_794 : decode cL_law 794 = .ok (.iload_n 3, 1) := by decide +kernel
theorem dL_law_795 : decode cL_law 795 = .ok (.iconst 1, 1) := by decide +kernel
theorem dL_law_796 : decode cL_law 796 = .ok (.iadd, 1) := by decide +kernel
theorem dL_law_797 : decode cL_law 797 = .ok (.iaload, 1) := by decide +kernel
theorem dL_law_798 : decode cL_law 798 = .ok (.aload_n 0, 1) := by decide +kernel
theorem dL_law_799 : decode cL_law 799 = .ok (.iload_n 3, 1) := by decide +kernel
theorem dL_law_800 : decode cL_law 800 = .ok (.iconst 2, 1) := by decide +kernel
theorem dL_law_801 : decode cL_law 801 = .ok (.iadd, 1) := by decide +kernel
theorem dL_law_802 : decode cL_law 802 = .ok (.iaload, 1) := by decide +kernel
theorem dL_law_803 : decode cL_law 803 = .ok (.invokevirtual 93, 3) := by decide +kernel
theorem dL_law_806 : decode cL_law 806 = .ok (.if_icmp .eq 726, 3) := by decide +kernel
theorem dL_law_809 : decode cL_law 809 = .ok (.iconst 0, 1) := by decide +kernel
theorem dL_law_810 : decode cL_law 810 = .ok (.ireturn, 1) := by decide +kernel
theorem dL_law_811 : decode cL_law 811 = .ok (.aload_n 1, 1) := by decide +kernel
theorem dL_law_812 : decode cL_law 812 = .ok (.aload_n 0, 1) := by decide +kernel
theorem dL_law_813 : decode cL_law 813 = .ok (.iload_n 3, 1) := by decide +kernel
theorem dL_law_814 : decode cL_law 814 = .ok (.iconst 1, 1) := by decide +kernel
theorem dL_law_815 : decode cL_law 815 = .ok (.iadd, 1) := by decide +kernel
theorem dL_law_816 : decode cL_law 816 = .ok (.iaload, 1) := by decide +kernel
theorem dL_law_817 : decode cL_law 817 = .ok (.aload_n 0, 1) := by decide +kernel
theorem dL_law_818 : decode cL_law 818 = .ok (.iload_n 3, 1) := by decide +kernel
theorem dL_law_819 : decode cL_law 819 = .ok (.iconst 2, 1) := by decide +kernel
theorem dL_law_820 : decode cL_law 820 = .ok (.iadd, 1) := by decide +kernel
theorem dL_law_821 : decode cL_law 821 = .ok (.iaload, 1) := by decide +kernel
theorem dL_law_822 : decode cL_law 822 = .ok (.invokevirtual 94, 3) := by decide +kernel
theorem dL_law_825 : decode cL_law 825 = .ok (.aload_n 2, 1) := by decide +kernel
theorem dL_law_826 : decode cL_law 826 = .ok (.aload_n 0, 1) := by decide +kernel
theorem dL_law_827 : decode cL_law 827 = .ok (.iload_n 3, 1) := by decide +kernel
theorem dL_law_828 : decode cL_law 828 = .ok (.iconst 1, 1) := by decide +kernel
theorem dL_law_829 : decode cL_law 829 = .ok (.iadd, 1) := by decide +kernel
theorem dL_law_830 : decode cL_law 830 = .ok (.iaload, 1) := by decide +kernel
theorem dL_law_831 : decode cL_law 831 = .ok (.aload_n 0, 1) := by decide +kernel
theorem dL_law_832 : decode cL_law 832 = .ok (.iload_n 3, 1) := by decide +kernel
theorem dL_law_833 : decode cL_law 833 = .ok (.iconst 2, 1) := by decide +kernel
theorem dL_law_834 : decode cL_law 834 = .ok (.iadd, 1) := by decide +kernel
theorem dL_law_835 : decode cL_law 835 = .ok (.iaload, 1) := by decide +kernel
theorem dL_law_836 : decode cL_law 836 = .ok (.invokevirtual 97, 3) := by decide +kernel
theorem dL_law_839 : decode cL_law 839 = .ok (.if_icmp .eq 693, 3) := by decide +kernel
theorem dL_law_842 : decode cL_law 842 = .ok (.iconst 0, 1) := by decide +kernel
theorem dL_law_843 : decode cL_law 843 = .ok (.ireturn, 1) := by decide +kernel
theorem dL_law_844 : decode cL_law 844 = .ok (.aload_n 1, 1) := by decide +kernel
theorem dL_law_845 : decode cL_law 845 = .ok (.aload_n 0, 1) := by decide +kernel
theorem dL_law_846 : decode cL_law 846 = .ok (.iload_n 3, 1) := by decide +kernel
theorem dL_law_847 : decode cL_law 847 = .ok (.iconst 1, 1) := by decide +kernel
theorem dL_law_848 : decode cL_law 848 = .ok (.iadd, 1) := by decide +kernel
theorem dL_law_849 : decode cL_law 849 = .ok (.iaload, 1) := by decide +kernel
theorem dL_law_850 : decode cL_law 850 = .ok (.aload_n 0, 1) := by decide +kernel
theorem dL_law_851 : decode cL_law 851 = .ok (.iload_n 3, 1) := by decide +kernel
theorem dL_law_852 : decode cL_law 852 = .ok (.iconst 2, 1) := by decide +kernel
theorem dL_law_853 : decode cL_law 853 = .ok (.iadd, 1) := by decide +kernel
theorem dL_law_854 : decode cL_law 854 = .ok (.iaload, 1) := by decide +kernel
theorem dL_law_855 : decode cL_law 855 = .ok (.aload_n 0, 1) := by decide +kernel
theorem dL_law_856 : decode cL_law 856 = .ok (.iload_n 3, 1) := by decide +kernel
theorem dL_law_857 : decode cL_law 857 = .ok (.iconst 3, 1) := by decide +kernel
theorem dL_law_858 : decode cL_law 858 = .ok (.iadd, 1) := by decide +kernel
theorem dL_law_859 : decode cL_law 859 = .ok (.iaload, 1) := by decide +kernel
theorem dL_law_860 : decode cL_law 860 = .ok (.invokevirtual 98, 3) := by decide +kernel
theorem dL_law_863 : decode cL_law 863 = .ok (.aload_n 2, 1) := by decide +kernel
theorem dL_law_864 : decode cL_law 864 = .ok (.aload_n 0, 1) := by decide +kernel
theorem dL_law_865 : decode cL_law 865 = .ok (.iload_n 3, 1) := by decide +kernel
theorem dL_law_866 : decode cL_law 866 = .ok (.iconst 1, 1) := by decide +kernel
theorem dL_law_867 : decode cL_law 867 = .ok (.iadd, 1) := by decide +kernel
theorem dL_law_868 : decode cL_law 868 = .ok (.iaload, 1) := by decide +kernel
theorem dL_law_869 : decode cL_law 869 = .ok (.aload_n 0, 1) := by decide +kernel
theorem dL_law_870 : decode cL_law 870 = .ok (.iload_n 3, 1) := by decide +kernel
theorem dL_law_871 : decode cL_law 871 = .ok (.iconst 2, 1) := by decide +kernel
theorem dL_law_872 : decode cL_law 872 = .ok (.iadd, 1) := by decide +kernel
theorem dL_law_873 : decode cL_law 873 = .ok (.iaload, 1) := by decide +kernel
theorem dL_law_874 : decode cL_law 874 = .ok (.aload_n 0, 1) := by decide +kernel
theorem dL_law_875 : decode cL_law 875 = .ok (.iload_n 3, 1) := by decide +kernel
theorem dL_law_876 : decode cL_law 876 = .ok (.iconst 3, 1) := by decide +kernel
theorem dL_law_877 : decode cL_law 877 = .ok (.iadd, 1) := by decide +kernel
theorem dL_law_878 : decode cL_law 878 = .ok (.iaload, 1) := by decide +kernel
theorem dL_law_879 : decode cL_law 879 = .ok (.invokevirtual 101, 3) := by decide +kernel
theorem dL_law_882 : decode cL_law 882 = .ok (.if_icmp .eq 650, 3) := by decide +kernel
theorem dL_law_885 : decode cL_law 885 = .ok (.iconst 0, 1) := by decide +kernel
theorem dL_law_886 : decode cL_law 886 = .ok (.ireturn, 1) := by decide +kernel
theorem dL_law_887 : decode cL_law 887 = .ok (.aload_n 1, 1) := by decide +kernel
theorem dL_law_888 : decode cL_law 888 = .ok (.aload_n 0, 1) := by decide +kernel
theorem dL_law_889 : decode cL_law 889 = .ok (.iload_n 3, 1) := by decide +kernel
theorem dL_law_890 : decode cL_law 890 = .ok (.iconst 1, 1) := by decide +kernel
theorem dL_law_891 : decode cL_law 891 = .ok (.iadd, 1) := by decide +kernel
theorem dL_law_892 : decode cL_law 892 = .ok (.iaload, 1) := by decide +kernel
theorem dL_law_893 : decode cL_law 893 = .ok (.aload_n 0, 1) := by decide +kernel
theorem dL_law_894 : decode cL_law 894 = .ok (.iload_n 3, 1) := by decide +kernel
theorem dL_law_895 : decode cL_law 895 = .ok (.iconst 2, 1) := by decide +kernel
theorem dL_law_896 : decode cL_law 896 = .ok (.iadd, 1) := by decide +kernel
theorem dL_law_897 : decode cL_law 897 = .ok (.iaload, 1) := by decide +kernel
theorem dL_law_898 : decode cL_law 898 = .ok (.invokevirtual 102, 3) := by decide +kernel
theorem dL_law_901 : decode cL_law 901 = .ok (.aload_n 2, 1) := by decide +kernel
theorem dL_law_902 : decode cL_law 902 = .ok (.aload_n 0, 1) := by decide +kernel
theorem dL_law_903 : decode cL_law 903 = .ok (.iload_n 3, 1) := by decide +kernel
theorem dL_law_904 : decode cL_law 904 = .ok (.iconst 1, 1) := by decide +kernel
theorem dL_law_905 : decode cL_law 905 = .ok (.iadd, 1) := by decide +kernel
theorem dL_law_906 : decode cL_law 906 = .ok (.iaload, 1) := by decide +kernel
theorem dL_law_907 : decode cL_law 907 = .ok (.aload_n 0, 1) := by decide +kernel
theorem dL_law_908 : decode cL_law 908 = .ok (.iload_n 3, 1) := by decide +kernel
theorem dL_law_909 : decode cL_law 909 = .ok (.iconst 2, 1) := by decide +kernel
theorem dL_law_910 : decode cL_law 910 = .ok (.iadd, 1) := by decide +kernel
theorem dL_law_911 : decode cL_law 911 = .ok (.iaload, 1) := by decide +kernel
theorem dL_law_912 : decode cL_law 912 = .ok (.invokevirtual 105, 3) := by decide +kernel
theorem dL_law_915 : decode cL_law 915 = .ok (.if_icmp .eq 617, 3) := by decide +kernel
theorem dL_law_918 : decode cL_law 918 = .ok (.iconst 0, 1) := by decide +kernel
theorem dL_law_919 : decode cL_law 919 = .ok (.ireturn, 1) := by decide +kernel
theorem dL_law_920 : decode cL_law 920 = .ok (.aload_n 1, 1) := by decide +kernel
theorem dL_law_921 : decode cL_law 921 = .ok (.aload_n 0, 1) := by decide +kernel
theorem dL_law_922 : decode cL_law 922 = .ok (.iload_n 3, 1) := by decide +kernel
theorem dL_law_923 : decode cL_law 923 = .ok (.iconst 1, 1) := by decide +kernel
theorem dL_law_924 : decode cL_law 924 = .ok (.iadd, 1) := by decide +kernel
theorem dL_law_925 : decode cL_law 925 = .ok (.iaload, 1) := by decide +kernel
theorem dL_law_926 : decode cL_law 926 = .ok (.aload_n 0, 1) := by decide +kernel
theorem dL_law_927 : decode cL_law 927 = .ok (.iload_n 3, 1) := by decide +kernel
theorem dL_law_928 : decode cL_law 928 = .ok (.iconst 2, 1) := by decide +kernel
theorem dL_law_929 : decode cL_law 929 = .ok (.iadd, 1) := by decide +kernel
theorem dL_law_930 : decode cL_law 930 = .ok (.iaload, 1) := by decide +kernel
theorem dL_law_931 : decode cL_law 931 = .ok (.aload_n 0, 1) := by decide +kernel
theorem dL_law_932 : decode cL_law 932 = .ok (.iload_n 3, 1) := by decide +kernel
theorem dL_law_933 : decode cL_law 933 = .ok (.iconst 3, 1) := by decide +kernel
theorem dL_law_934 : decode cL_law 934 = .ok (.iadd, 1) := by decide +kernel
theorem dL_law_935 : decode cL_law 935 = .ok (.iaload, 1) := by decide +kernel
theorem dL_law_936 : decode cL_law 936 = .ok (.aload_n 0, 1) := by decide +kernel
theorem dL_law_937 : decode cL_law 937 = .ok (.iload_n 3, 1) := by decide +kernel
theorem dL_law_938 : decode cL_law 938 = .ok (.iconst 4, 1) := by decide +kernel
theorem dL_law_939 : decode cL_law 939 = .ok (.iadd, 1) := by decide +kernel
theorem dL_law_940 : decode cL_law 940 = .ok (.iaload, 1) := by decide +kernel
theorem dL_law_941 : decode cL_law 941 = .ok (.invokevirtual 106, 3) := by decide +kernel
theorem dL_law_944 : decode cL_law 944 = .ok (.aload_n 2, 1) := by decide +kernel
theorem dL_law_945 : decode cL_law 945 = .ok (.aload_n 0, 1) := by decide +kernel
theorem dL_law_946 : decode cL_law 946 = .ok (.iload_n 3, 1) := by decide +kernel
theorem dL_law_947 : decode cL_law 947 = .ok (.iconst 1, 1) := by decide +kernel
theorem dL_law_948 : decode cL_law 948 = .ok (.iadd, 1) := by decide +kernel
theorem dL_law_949 : decode cL_law 949 = .ok (.iaload, 1) := by decide +kernel
theorem dL_law_950 : decode cL_law 950 = .ok (.aload_n 0, 1) := by decide +kernel
theorem dL_law_951 : decode cL_law 951 = .ok (.iload_n 3, 1) := by decide +kernel
theorem dL_law_952 : decode cL_law 952 = .ok (.iconst 2, 1) := by decide +kernel
theorem dL_law_953 : decode cL_law 953 = .ok (.iadd, 1) := by decide +kernel
theorem dL_law_954 : decode cL_law 954 = .ok (.iaload, 1) := by decide +kernel
theorem dL_law_955 : decode cL_law 955 = .ok (.aload_n 0, 1) := by decide +kernel
theorem dL_law_956 : decode cL_law 956 = .ok (.iload_n 3, 1) := by decide +kernel
theorem dL_law_957 : decode cL_law 957 = .ok (.iconst 3, 1) := by decide +kernel
theorem dL_law_958 : decode cL_law 958 = .ok (.iadd, 1) := by decide +kernel
theorem dL_law_959 : decode cL_law 959 = .ok (.iaload, 1) := by decide +kernel
theorem dL_law_960 : decode cL_law 960 = .ok (.aload_n 0, 1) := by decide +kernel
theorem dL_law_961 : decode cL_law 961 = .ok (.iload_n 3, 1) := by decide +kernel
theorem dL_law_962 : decode cL_law 962 = .ok (.iconst 4, 1) := by decide +kernel
theorem dL_law_963 : decode cL_law 963 = .ok (.iadd, 1) := by decide +kernel
theorem dL_law_964 : decode cL_law 964 = .ok (.iaload, 1) := by decide +kernel
theorem dL_law_965 : decode cL_law 965 = .ok (.invokevirtual 109, 3) := by decide +kernel
theorem dL_law_968 : decode cL_law 968 = .ok (.if_icmp .eq 564, 3) := by decide +kernel
theorem dL_law_971 : decode cL_law 971 = .ok (.iconst 0, 1) := by decide +kernel
theorem dL_law_972 : decode cL_law 972 = .ok (.ireturn, 1) := by decide +kernel
theorem dL_law_973 : decode cL_law 973 = .ok (.aload_n 1, 1) := by decide +kernel
theorem dL_law_974 : decode cL_law 974 = .ok (.aload_n 0, 1) := by decide +kernel
theorem dL_law_975 : decode cL_law 975 = .ok (.iload_n 3, 1) := by decide +kernel
theorem dL_law_976 : decode cL_law 976 = .ok (.iconst 1, 1) := by decide +kernel
theorem dL_law_977 : decode cL_law 977 = .ok (.iadd, 1) := by decide +kernel
theorem dL_law_978 : decode cL_law 978 = .ok (.iaload, 1) := by decide +kernel
theorem dL_law_979 : decode cL_law 979 = .ok (.aload_n 0, 1) := by decide +kernel
theorem dL_law_980 : decode cL_law 980 = .ok (.iload_n 3, 1) := by decide +kernel
theorem dL_law_981 : decode cL_law 981 = .ok (.iconst 2, 1) := by decide +kernel
theorem dL_law_982 : decode cL_law 982 = .ok (.iadd, 1) := by decide +kernel
theorem dL_law_983 : decode cL_law 983 = .ok (.iaload, 1) := by decide +kernel
theorem dL_law_984 : decode cL_law 984 = .ok (.invokevirtual 110, 3) := by decide +kernel
theorem dL_law_987 : decode cL_law 987 = .ok (.aload_n 2, 1) := by decide +kernel
theorem dL_law_988 : decode cL_law 988 = .ok (.aload_n 0, 1) := by decide +kernel
theorem dL_law_989 : decode cL_law 989 = .ok (.iload_n 3, 1) := by decide +kernel
theorem dL_law_990 : decode cL_law 990 = .ok (.iconst 1, 1) := by decide +kernel
theorem dL_law_991 : decode cL_law 991 = .ok (.iadd, 1) := by decide +kernel
theorem dL_law_992 : decode cL_law 992 = .ok (.iaload, 1) := by decide +kernel
theorem dL_law_993 : decode cL_law 993 = .ok (.aload_n 0, 1) := by decide +kernel
theorem dL_law_994 : decode cL_law 994 = .ok (.iload_n 3, 1) := by decide +kernel
theorem dL_law_995 : decode cL_law 995 = .ok (.iconst 2, 1) := by decide +kernel
theorem dL_law_996 : decode cL_law 996 = .ok (.iadd, 1) := by decide +kernel
theorem dL_law_997 : decode cL_law 997 = .ok (.iaload, 1) := by decide +kernel
theorem dL_law_998 : decode cL_law 998 = .ok (.invokevirtual 113, 3) := by decide +kernel
theorem dL_law_1001 : decode cL_law 1001 = .ok (.if_icmp .eq 531, 3) := by decide +kernel
theorem dL_law_1004 : decode cL_law 1004 = .ok (.iconst 0, 1) := by decide +kernel
theorem dL_law_1005 : decode cL_law 1005 = .ok (.ireturn, 1) := by decide +kernel
theorem dL_law_1006 : decode cL_law 1006 = .ok (.aload_n 1, 1) := by decide +kernel
theorem dL_law_1007 : decode cL_law 1007 = .ok (.aload_n 0, 1) := by decide +kernel
theorem dL_law_1008 : decode cL_law 1008 = .ok (.iload_n 3, 1) := by decide +kernel
theorem dL_law_1009 : decode cL_law 1009 = .ok (.iconst 1, 1) := by decide +kernel
theorem dL_law_1010 : decode cL_law 1010 = .ok (.iadd, 1) := by decide +kernel
theorem dL_law_1011 : decode cL_law 1011 = .ok (.iaload, 1) := by decide +kernel
theorem dL_law_1012 : decode cL_law 1012 = .ok (.aload_n 0, 1) := by decide +kernel
theorem dL_law_1013 : decode cL_law 1013 = .ok (.iload_n 3, 1) := by decide +kernel
theorem dL_law_1014 : decode cL_law 1014 = .ok (.iconst 2, 1) := by decide +kernel
theorem dL_law_1015 : decode cL_law 1015 = .ok (.iadd, 1) := by decide +kernel
theorem dL_law_1016 : decode cL_law 1016 = .ok (.iaload, 1) := by decide +kernel
theorem dL_law_1017 : decode cL_law 1017 = .ok (.aload_n 0, 1) := by decide +kernel
theorem dL_law_1018 : decode cL_law 1018 = .ok (.iload_n 3, 1) := by decide +kernel
theorem dL_law_1019 : decode cL_law 1019 = .ok (.iconst 3, 1) := by decide +kernel
theorem dL_law_1020 : decode cL_law 1020 = .ok (.iadd, 1) := by decide +kernel
theorem dL_law_1021 : decode cL_law 1021 = .ok (.iaload, 1) := by decide +kernel
theorem dL_law_1022 : decode cL_law 1022 = .ok (.invokevirtual 114, 3) := by decide +kernel
theorem dL_law_1025 : decode cL_law 1025 = .ok (.aload_n 2, 1) := by decide +kernel
theorem dL_law_1026 : decode cL_law 1026 = .ok (.aload_n 0, 1) := by decide +kernel
theorem dL_law_1027 : decode cL_law 1027 = .ok (.iload_n 3, 1) := by decide +kernel
theorem dL_law_1028 : decode cL_law 1028 = .ok (.iconst 1, 1) := by decide +kernel
theorem dL_law_1029 : decode cL_law 1029 = .ok (.iadd, 1) := by decide +kernel
theorem dL_law_1030 : decode cL_law 1030 = .ok (.iaload, 1) := by decide +kernel
theorem dL_law_1031 : decode cL_law 1031 = .ok (.aload_n 0, 1) := by decide +kernel
theorem dL_law_1032 : decode cL_law 1032 = .ok (.iload_n 3, 1) := by decide +kernel
theorem dL_law_1033 : decode cL_law 1033 = .ok (.iconst 2, 1) := by decide +kernel
theorem dL_law_1034 : decode cL_law 1034 = .ok (.iadd, 1) := by decide +kernel
theorem dL_law_1035 : decode cL_law 1035 = .ok (.iaload, 1) := by decide +kernel
theorem dL_law_1036 : decode cL_law 1036 = .ok (.aload_n 0, 1) := by decide +kernel
theorem dL_law_1037 : decode cL_law 1037 = .ok (.iload_n 3, 1) := by decide +kernel
theorem dL_law_1038 : decode cL_law 1038 = .ok (.iconst 3, 1) := by decide +kernel
theorem dL_law_1039 : decode cL_law 1039 = .ok (.iadd, 1) := by decide +kernel
theorem dL_law_1040 : decode cL_law 1040 = .ok (.iaload, 1) := by decide +kernel
theorem dL_law_1041 : decode cL_law 1041 = .ok (.invokevirtual 117, 3) := by decide +kernel
theorem dL_law_1044 : decode cL_law 1044 = .ok (.if_icmp .eq 488, 3) := by decide +kernel
theorem dL_law_1047 : decode cL_law 1047 = .ok (.iconst 0, 1) := by decide +kernel
theorem dL_law_1048 : decode cL_law 1048 = .ok (.ireturn, 1) := by decide +kernel
theorem dL_law_1049 : decode cL_law 1049 = .ok (.aload_n 1, 1) := by decide +kernel
theorem dL_law_1050 : decode cL_law 1050 = .ok (.aload_n 0, 1) := by decide +kernel
theorem dL_law_1051 : decode cL_law 1051 = .ok (.iload_n 3, 1) := by decide +kernel
theorem dL_law_1052 : decode cL_law 1052 = .ok (.iconst 1, 1) := by decide +kernel
theorem dL_law_1053 : decode cL_law 1053 = .ok (.iadd, 1) := by decide +kernel
theorem dL_law_1054 : decode cL_law 1054 = .ok (.iaload, 1) := by decide +kernel
theorem dL_law_1055 : decode cL_law 1055 = .ok (.invokevirtual 118, 3) := by decide +kernel
theorem dL_law_1058 : decode cL_law 1058 = .ok (.aload_n 2, 1) := by decide +kernel
theorem dL_law_1059 : decode cL_law 1059 = .ok (.aload_n 0, 1) := by decide +kernel
theorem dL_law_1060 : decode cL_law 1060 = .ok (.iload_n 3, 1) := by decide +kernel
theorem dL_law_1061 : decode cL_law 1061 = .ok (.iconst 1, 1) := by decide +kernel
theorem dL_law_1062 : decode cL_law 1062 = .ok (.iadd, 1) := by decide +kernel
theorem dL_law_1063 : decode cL_law 1063 = .ok (.iaload, 1) := by decide +kernel
theorem dL_law_1064 : decode cL_law 1064 = .ok (.invokevirtual 121, 3) := by decide +kernel
theorem dL_law_1067 : decode cL_law 1067 = .ok (.if_icmp .eq 465, 3) := by decide +kernel
theorem dL_law_1070 : decode cL_law 1070 = .ok (.iconst 0, 1) := by decide +kernel
theorem dL_law_1071 : decode cL_law 1071 = .ok (.ireturn, 1) := by decide +kernel
theorem dL_law_1072 : decode cL_law 1072 = .ok (.aload_n 1, 1) := by decide +kernel
theorem dL_law_1073 : decode cL_law 1073 = .ok (.aload_n 0, 1) := by decide +kernel
theorem dL_law_1074 : decode cL_law 1074 = .ok (.iload_n 3, 1) := by decide +kernel
theorem dL_law_1075 : decode cL_law 1075 = .ok (.iconst 1, 1) := by decide +kernel
theorem dL_law_1076 : decode cL_law 1076 = .ok (.iadd, 1) := by decide +kernel
theorem dL_law_1077 : decode cL_law 1077 = .ok (.iaload, 1) := by decide +kernel
theorem dL_law_1078 : decode cL_law 1078 = .ok (.aload_n 0, 1) := by decide +kernel
theorem dL_law_1079 : decode cL_law 1079 = .ok (.iload_n 3, 1) := by decide +kernel
theorem dL_law_1080 : decode cL_law 1080 = .ok (.iconst 2, 1) := by decide +kernel
theorem dL_law_1081 : decode cL_law 1081 = .ok (.iadd, 1) := by decide +kernel
theorem dL_law_1082 : decode cL_law 1082 = .ok (.iaload, 1) := by decide +kernel
theorem dL_law_1083 : decode cL_law 1083 = .ok (.aload_n 0, 1) := by decide +kernel
theorem dL_law_1084 : decode cL_law 1084 = .ok (.iload_n 3, 1) := by decide +kernel
theorem dL_law_1085 : decode cL_law 1085 = .ok (.iconst 3, 1) := by decide +kernel
theorem dL_law_1086 : decode cL_law 1086 = .ok (.iadd, 1) := by decide +kernel
theorem dL_law_1087 : decode cL_law 1087 = .ok (.iaload, 1) := by decide +kernel
theorem dL_law_1088 : decode cL_law 1088 = .ok (.invokevirtual 122, 3) := by decide +kernel
theorem dL_law_1091 : decode cL_law 1091 = .ok (.aload_n 2, 1) := by decide +kernel
theorem dL_law_1092 : decode cL_law 1092 = .ok (.aload_n 0, 1) := by decide +kernel
theorem dL_law_1093 : decode cL_law 1093 = .ok (.iload_n 3, 1) := by decide +kernel
theorem dL_law_1094 : decode cL_law 1094 = .ok (.iconst 1, 1) := by decide +kernel
theorem dL_law_1095 : decode cL_law 1095 = .ok (.iadd, 1) := by decide +kernel
theorem dL_law_1096 : decode cL_law 1096 = .ok (.iaload, 1) := by decide +kernel
theorem dL_law_1097 : decode cL_law 1097 = .ok (.aload_n 0, 1) := by decide +kernel
theorem dL_law_1098 : decode cL_law 1098 = .ok (.iload_n 3, 1) := by decide +kernel
theorem dL_law_1099 : decode cL_law 1099 = .ok (.iconst 2, 1) := by decide +kernel
theorem dL_law_1100 : decode cL_law 1100 = .ok (.iadd, 1) := by decide +kernel
theorem dL_law_1101 : decode cL_law 1101 = .ok (.iaload, 1) := by decide +kernel
theorem dL_law_1102 : decode cL_law 1102 = .ok (.aload_n 0, 1) := by decide +kernel
theorem dL_law_1103 : decode cL_law 1103 = .ok (.iload_n 3, 1) := by decide +kernel
theorem dL_law_1104 : decode cL_law 1104 = .ok (.iconst 3, 1) := by decide +kernel
theorem dL_law_1105 : decode cL_law 1105 = .ok (.iadd, 1) := by decide +kernel
theorem dL_law_1106 : decode cL_law 1106 = .ok (.iaload, 1) := by decide +kernel
theorem dL_law_1107 : decode cL_law 1107 = .ok (.invokevirtual 125, 3) := by decide +kernel
theorem dL_law_1110 : decode cL_law 1110 = .ok (.if_icmp .eq 422, 3) := by decide +kernel
theorem dL_law_1113 : decode cL_law 1113 = .ok (.iconst 0, 1) := by decide +kernel
theorem dL_law_1114 : decode cL_law 1114 = .ok (.ireturn, 1) := by decide +kernel
theorem dL_law_1115 : decode cL_law 1115 = .ok (.aload_n 1, 1) := by decide +kernel
theorem dL_law_1116 : decode cL_law 1116 = .ok (.invokevirtual 126, 3) := by decide +kernel
theorem dL_law_1119 : decode cL_law 1119 = .ok (.aload_n 2, 1) := by decide +kernel
theorem dL_law_1120 : decode cL_law 1120 = .ok (.invokevirtual 129, 3) := by decide +kernel
theorem dL_law_1123 : decode cL_law 1123 = .ok (.if_icmp .eq 409, 3) := by decide +kernel
theorem dL_law_1126 : decode cL_law 1126 = .ok (.iconst 0, 1) := by decide +kernel
theorem dL_law_1127 : decode cL_law 1127 = .ok (.ireturn, 1) := by decide +kernel
theorem dL_law_1128 : decode cL_law 1128 = .ok (.aload_n 1, 1) := by decide +kernel
theorem dL_law_1129 : decode cL_law 1129 = .ok (.invokevirtual 130, 3) := by decide +kernel
theorem dL_law_1132 : decode cL_law 1132 = .ok (.aload_n 2, 1) := by decide +kernel
theorem dL_law_1133 : decode cL_law 1133 = .ok (.invokevirtual 133, 3) := by decide +kernel
theorem dL_law_1136 : decode cL_law 1136 = .ok (.if_icmp .eq 396, 3) := by decide +kernel
theorem dL_law_1139 : decode cL_law 1139 = .ok (.iconst 0, 1) := by decide +kernel
theorem dL_law_1140 : decode cL_law 1140 = .ok (.ireturn, 1) := by decide +kernel
theorem dL_law_1141 : decode cL_law 1141 = .ok (.aload_n 1, 1) := by decide +kernel
theorem dL_law_1142 : decode cL_law 1142 = .ok (.aload_n 0, 1) := by decide +kernel
theorem dL_law_1143 : decode cL_law 1143 = .ok (.iload_n 3, 1) := by decide +kernel
theorem dL_law_1144 : decode cL_law 1144 = .ok (.iconst 1, 1) := by decide +kernel
theorem dL_law_1145 : decode cL_law 1145 = .ok (.iadd, 1) := by decide +kernel
theorem dL_law_1146 : decode cL_law 1146 = .ok (.iaload, 1) := by decide +kernel
theorem dL_law_1147 : decode cL_law 1147 = .ok (.invokevirtual 134, 3) := by decide +kernel
theorem dL_law_1150 : decode cL_law 1150 = .ok (.aload_n 2, 1) := by decide +kernel
theorem dL_law_1151 : decode cL_law 1151 = .ok (.aload_n 0, 1) := by decide +kernel
theorem dL_law_1152 : decode cL_law 1152 = .ok (.iload_n 3, 1) := by decide +kernel
theorem dL_law_1153 : decode cL_law 1153 = .ok (.iconst 1, 1) := by decide +kernel
theorem dL_law_1154 : decode cL_law 1154 = .ok (.iadd, 1) := by decide +kernel
theorem dL_law_1155 : decode cL_law 1155 = .ok (.iaload, 1) := by decide +kernel
theorem dL_law_1156 : decode cL_law 1156 = .ok (.invokevirtual 137, 3) := by decide +kernel
theorem dL_law_1159 : decode cL_law 1159 = .ok (.if_icmp .eq 373, 3) := by decide +kernel
theorem dL_law_1162 : decode cL_law 1162 = .ok (.iconst 0, 1) := by decide +kernel
theorem dL_law_1163 : decode cL_law 1163 = .ok (.ireturn, 1) := by decide +kernel
theorem dL_law_1164 : decode cL_law 1164 = .ok (.aload_n 1, 1) := by decide +kernel
theorem dL_law_1165 : decode cL_law 1165 = .ok (.aload_n 0, 1) := by decide +kernel
theorem dL_law_1166 : decode cL_law 1166 = .ok (.iload_n 3, 1) := by decide +kernel
theorem dL_law_1167 : decode cL_law 1167 = .ok (.iconst 1, 1) := by decide +kernel
theorem dL_law_1168 : decode cL_law 1168 = .ok (.iadd, 1) := by decide +kernel
theorem dL_law_1169 : decode cL_law 1169 = .ok (.iaload, 1) := by decide +kernel
theorem dL_law_1170 : decode cL_law 1170 = .ok (.aload_n 0, 1) := by decide +kernel
theorem dL_law_1171 : decode cL_law 1171 = .ok (.iload_n 3, 1) := by decide +kernel
theorem dL_law_1172 : decode cL_law 1172 = .ok (.iconst 2, 1) := by decide +kernel
theorem dL_law_1173 : decode cL_law 1173 = .ok (.iadd, 1) := by decide +kernel
theorem dL_law_1174 : decode cL_law 1174 = .ok (.iaload, 1) := by decide +kernel
theorem dL_law_1175 : decode cL_law 1175 = .ok (.aload_n 0, 1) := by decide +kernel
theorem dL_law_1176 : decode cL_law 1176 = .ok (.iload_n 3, 1) := by decide +kernel
theorem dL_law_1177 : decode cL_law 1177 = .ok (.iconst 3, 1) := by decide +kernel
theorem dL_law_1178 : decode cL_law 1178 = .ok (.iadd, 1) := by decide +kernel
theorem dL_law_1179 : decode cL_law 1179 = .ok (.iaload, 1) := by decide +kernel
theorem dL_law_1180 : decode cL_law 1180 = .ok (.invokevirtual 138, 3) := by decide +kernel
theorem dL_law_1183 : decode cL_law 1183 = .ok (.aload_n 2, 1) := by decide +kernel
theorem dL_law_1184 : decode cL_law 1184 = .ok (.aload_n 0, 1) := by decide +kernel
theorem dL_law_1185 : decode cL_law 1185 = .ok (.iload_n 3, 1) := by decide +kernel
theorem dL_law_1186 : decode cL_law 1186 = .ok (.iconst 1, 1) := by decide +kernel
theorem dL_law_1187 : decode cL_law 1187 = .ok (.iadd, 1) := by decide +kernel
theorem dL_law_1188 : decode cL_law 1188 = .ok (.iaload, 1) := by decide +kernel
theorem dL_law_1189 : decode cL_law 1189 = .ok (.aload_n 0, 1) := by decide +kernel
theorem dL_law_1190 : decode cL_law 1190 = .ok (.iload_n 3, 1) := by decide +kernel
theorem dL_law_1191 : decode cL_law 1191 = .ok (.iconst 2, 1) := by decide +kernel
theorem dL_law_1192 : decode cL_law 1192 = .ok (.iadd, 1) := by decide +kernel
theorem dL_law_1193 : decode cL_law 1193 = .ok (.iaload, 1) := by decide +kernel
theorem dL_law_1194 : decode cL_law 1194 = .ok (.aload_n 0, 1) := by decide +kernel
theorem dL_law_1195 : decode cL_law 1195 = .ok (.iload_n 3, 1) := by decide +kernel
theorem dL_law_1196 : decode cL_law 1196 = .ok (.iconst 3, 1) := by decide +kernel
theorem dL_law_1197 : decode cL_law 1197 = .ok (.iadd, 1) := by decide +kernel
theorem dL_law_1198 : decode cL_law 1198 = .ok (.iaload, 1) := by decide +kernel
theorem dL_law_1199 : decode cL_law 1199 = .ok (.invokevirtual 141, 3) := by decide +kernel
theorem dL_law_1202 : decode cL_law 1202 = .ok (.if_icmp .eq 330, 3) := by decide +kernel
theorem dL_law_1205 : decode cL_law 1205 = .ok (.iconst 0, 1) := by decide +kernel
theorem dL_law_1206 : decode cL_law 1206 = .ok (.ireturn, 1) := by decide +kernel
theorem dL_law_1207 : decode cL_law 1207 = .ok (.aload_n 1, 1) := by decide +kernel
theorem dL_law_1208 : decode cL_law 1208 = .ok (.aload_n 0, 1) := by decide +kernel
theorem dL_law_1209 : decode cL_law 1209 = .ok (.iload_n 3, 1) := by decide +kernel
theorem dL_law_1210 : decode cL_law 1210 = .ok (.iconst 1, 1) := by decide +kernel
theorem dL_law_1211 : decode cL_law 1211 = .ok (.iadd, 1) := by decide +kernel
theorem dL_law_1212 : decode cL_law 1212 = .ok (.iaload, 1) := by decide +kernel
theorem dL_law_1213 : decode cL_law 1213 = .ok (.invokevirtual 142, 3) := by decide +kernel
theorem dL_law_1216 : decode cL_law 1216 = .ok (.aload_n 2, 1) := by decide +kernel
theorem dL_law_1217 : decode cL_law 1217 = .ok (.aload_n 0, 1) := by decide +kernel
theorem dL_law_1218 : decode cL_law 1218 = .ok (.iload_n 3, 1) := by decide +kernel
theorem dL_law_1219 : decode cL_law 1219 = .ok (.iconst 1, 1) := by decide +kernel
theorem dL_law_1220 : decode cL_law 1220 = .ok (.iadd, 1) := by decide +kernel
theorem dL_law_1221 : decode cL_law 1221 = .ok (.iaload, 1) := by decide +kernel
theorem dL_law_1222 : decode cL_law 1222 = .ok (.invokevirtual 145, 3) := by decide +kernel
theorem dL_law_1225 : decode cL_law 1225 = .ok (.if_icmp .eq 307, 3) := by decide +kernel
theorem dL_law_1228 : decode cL_law 1228 = .ok (.iconst 0, 1) := by decide +kernel
theorem dL_law_1229 : decode cL_law 1229 = .ok (.ireturn, 1) := by decide +kernel
theorem dL_law_1230 : decode cL_law 1230 = .ok (.aload_n 1, 1) := by decide +kernel
theorem dL_law_1231 : decode cL_law 1231 = .ok (.aload_n 0, 1) := by decide +kernel
theorem dL_law_1232 : decode cL_law 1232 = .ok (.iload_n 3, 1) := by decide +kernel
theorem dL_law_1233 : decode cL_law 1233 = .ok (.iconst 1, 1) := by decide +kernel
theorem dL_law_1234 : decode cL_law 1234 = .ok (.iadd, 1) := by decide +kernel
theorem dL_law_1235 : decode cL_law 1235 = .ok (.iaload, 1) := by decide +kernel
theorem dL_law_1236 : decode cL_law 1236 = .ok (.aload_n 0, 1) := by decide +kernel
theorem dL_law_1237 : decode cL_law 1237 = .ok (.iload_n 3, 1) := by decide +kernel
theorem dL_law_1238 : decode cL_law 1238 = .ok (.iconst 2, 1) := by decide +kernel
theorem dL_law_1239 : decode cL_law 1239 = .ok (.iadd, 1) := by decide +kernel
theorem dL_law_1240 : decode cL_law 1240 = .ok (.iaload, 1) := by decide +kernel
theorem dL_law_1241 : decode cL_law 1241 = .ok (.invokevirtual 146, 3) := by decide +kernel
theorem dL_law_1244 : decode cL_law 1244 = .ok (.aload_n 2, 1) := by decide +kernel
theorem dL_law_1245 : decode cL_law 1245 = .ok (.aload_n 0, 1) := by decide +kernel
theorem dL_law_1246 : decode cL_law 1246 = .ok (.iload_n 3, 1) := by decide +kernel
theorem dL_law_1247 : decode cL_law 1247 = .ok (.iconst 1, 1) := by decide +kernel
theorem dL_law_1248 : decode cL_law 1248 = .ok (.iadd, 1) := by decide +kernel
theorem dL_law_1249 : decode cL_law 1249 = .ok (.iaload, 1) := by decide +kernel
theorem dL_law_1250 : decode cL_law 1250 = .ok (.aload_n 0, 1) := by decide +kernel
theorem dL_law_1251 : decode cL_law 1251 = .ok (.iload_n 3, 1) := by decide +kernel
theorem dL_law_1252 : decode cL_law 1252 = .ok (.iconst 2, 1) := by decide +kernel
theorem dL_law_1253 : decode cL_law 1253 = .ok (.iadd, 1) := by decide +kernel
theorem dL_law_1254 : decode cL_law 1254 = .ok (.iaload, 1) := by decide +kernel
theorem dL_law_1255 : decode cL_law 1255 = .ok (.invokevirtual 149, 3) := by decide +kernel
theorem dL_law_1258 : decode cL_law 1258 = .ok (.if_icmp .eq 274, 3) := by decide +kernel
theorem dL_law_1261 : decode cL_law 1261 = .ok (.iconst 0, 1) := by decide +kernel
theorem dL_law_1262 : decode cL_law 1262 = .ok (.ireturn, 1) := by decide +kernel
theorem dL_law_1263 : decode cL_law 1263 = .ok (.aload_n 1, 1) := by decide +kernel
theorem dL_law_1264 : decode cL_law 1264 = .ok (.aload_n 0, 1) := by decide +kernel
theorem dL_law_1265 : decode cL_law 1265 = .ok (.iload_n 3, 1) := by decide +kernel
theorem dL_law_1266 : decode cL_law 1266 = .ok (.iconst 1, 1) := by decide +kernel
theorem dL_law_1267 : decode cL_law 1267 = .ok (.iadd, 1) := by decide +kernel
theorem dL_law_1268 : decode cL_law 1268 = .ok (.iaload, 1) := by decide +kernel
theorem dL_law_1269 : decode cL_law 1269 = .ok (.aload_n 0, 1) := by decide +kernel
theorem dL_law_1270 : decode cL_law 1270 = .ok (.iload_n 3, 1) := by decide +kernel
theorem dL_law_1271 : decode cL_law 1271 = .ok (.iconst 2, 1) := by decide +kernel
theorem dL_law_1272 : decode cL_law 1272 = .ok (.iadd, 1) := by decide +kernel
theorem dL_law_1273 : decode cL_law 1273 = .ok (.iaload, 1) := by decide +kernel
theorem dL_law_1274 : decode cL_law 1274 = .ok (.aload_n 0, 1) := by decide +kernel
theorem dL_law_1275 : decode cL_law 1275 = .ok (.iload_n 3, 1) := by decide +kernel
theorem dL_law_1276 : decode cL_law 1276 = .ok (.iconst 3, 1) := by decide +kernel
theorem dL_law_1277 : decode cL_law 1277 = .ok (.iadd, 1) := by decide +kernel
theorem dL_law_1278 : decode cL_law 1278 = .ok (.iaload, 1) := by decide +kernel
theorem dL_law_1279 : decode cL_law 1279 = .ok (.invokevirtual 150, 3) := by decide +kernel
theorem dL_law_1282 : decode cL_law 1282 = .ok (.aload_n 2, 1) := by decide +kernel
theorem dL_law_1283 : decode cL_law 1283 = .ok (.aload_n 0, 1) := by decide +kernel
theorem dL_law_1284 : decode cL_law 1284 = .ok (.iload_n 3, 1) := by decide +kernel
theorem dL_law_1285 : decode cL_law 1285 = .ok (.iconst 1, 1) := by decide +kernel
theorem dL_law_1286 : decode cL_law 1286 = .ok (.iadd, 1) := by decide +kernel
theorem dL_law_1287 : decode cL_law 1287 = .ok (.iaload, 1) := by decide +kernel
theorem dL_law_1288 : decode cL_law 1288 = .ok (.aload_n 0, 1) := by decide +kernel
theorem dL_law_1289 : decode cL_law 1289 = .ok (.iload_n 3, 1) := by decide +kernel
theorem dL_law_1290 : decode cL_law 1290 = .ok (.iconst 2, 1) := by decide +kernel
theorem dL_law_1291 : decode cL_law 1291 = .ok (.iadd, 1) := by decide +kernel
theorem dL_law_1292 : decode cL_law 1292 = .ok (.iaload, 1) := by decide +kernel
theorem dL_law_1293 : decode cL_law 1293 = .ok (.aload_n 0, 1) := by decide +kernel
theorem dL_law_1294 : decode cL_law 1294 = .ok (.iload_n 3, 1) := by decide +kernel
theorem dL_law_1295 : decode cL_law 1295 = .ok (.iconst 3, 1) := by decide +kernel
theorem dL_law_1296 : decode cL_law 1296 = .ok (.iadd, 1) := by decide +kernel
theorem dL_law_1297 : decode cL_law 1297 = .ok (.iaload, 1) := by decide +kernel
theorem dL_law_1298 : decode cL_law 1298 = .ok (.invokevirtual 153, 3) := by decide +kernel
theorem dL_law_1301 : decode cL_law 1301 = .ok (.if_icmp .eq 231, 3) := by decide +kernel
theorem dL_law_1304 : decode cL_law 1304 = .ok (.iconst 0, 1) := by decide +kernel
theorem dL_law_1305 : decode cL_law 1305 = .ok (.ireturn, 1) := by decide +kernel
theorem dL_law_1306 : decode cL_law 1306 = .ok (.aload_n 1, 1) := by decide +kernel
theorem dL_law_1307 : decode cL_law 1307 = .ok (.aload_n 0, 1) := by decide +kernel
theorem dL_law_1308 : decode cL_law 1308 = .ok (.iload_n 3, 1) := by decide +kernel
theorem dL_law_1309 : decode cL_law 1309 = .ok (.iconst 1, 1) := by decide +kernel
theorem dL_law_1310 : decode cL_law 1310 = .ok (.iadd, 1) := by decide +kernel
theorem dL_law_1311 : decode cL_law 1311 = .ok (.iaload, 1) := by decide +kernel
theorem dL_law_1312 : decode cL_law 1312 = .ok (.aload_n 0, 1) := by decide +kernel
theorem dL_law_1313 : decode cL_law 1313 = .ok (.iload_n 3, 1) := by decide +kernel
theorem dL_law_1314 : decode cL_law 1314 = .ok (.iconst 2, 1) := by decide +kernel
theorem dL_law_1315 : decode cL_law 1315 = .ok (.iadd, 1) := by decide +kernel
theorem dL_law_1316 : decode cL_law 1316 = .ok (.iaload, 1) := by decide +kernel
theorem dL_law_1317 : decode cL_law 1317 = .ok (.aload_n 0, 1) := by decide +kernel
theorem dL_law_1318 : decode cL_law 1318 = .ok (.iload_n 3, 1) := by decide +kernel
theorem dL_law_1319 : decode cL_law 1319 = .ok (.iconst 3, 1) := by decide +kernel
theorem dL_law_1320 : decode cL_law 1320 = .ok (.iadd, 1) := by decide +kernel
theorem dL_law_1321 : decode cL_law 1321 = .ok (.iaload, 1) := by decide +kernel
theorem dL_law_1322 : decode cL_law 1322 = .ok (.i2l, 1) := by decide +kernel
theorem dL_law_1323 : decode cL_law 1323 = .ok (.bipush 32, 2) := by decide +kernel
theorem dL_law_1325 : decode cL_law 1325 = .ok (.lshl, 1) := by decide +kernel
theorem dL_law_1326 : decode cL_law 1326 = .ok (.aload_n 0, 1) := by decide +kernel
theorem dL_law_1327 : decode cL_law 1327 = .ok (.iload_n 3, 1) := by decide +kernel
theorem dL_law_1328 : decode cL_law 1328 = .ok (.iconst 4, 1) := by decide +kernel
theorem dL_law_1329 : decode cL_law 1329 = .ok (.iadd, 1) := by decide +kernel
theorem dL_law_1330 : decode cL_law 1330 = .ok (.iaload, 1) := by decide +kernel
theorem dL_law_1331 : decode cL_law 1331 = .ok (.i2l, 1) := by decide +kernel
theorem dL_law_1332 : decode cL_law 1332 = .ok (.ldc2_w 154, 3) := by decide +kernel
theorem dL_law_1335 : decode cL_law 1335 = .ok (.land, 1) := by decide +kernel
theorem dL_law_1336 : decode cL_law 1336 = .ok (.lor, 1) := by decide +kernel
theorem dL_law_1337 : decode cL_law 1337 = .ok (.invokevirtual 156, 3) := by decide +kernel
theorem dL_law_1340 : decode cL_law 1340 = .ok (.aload_n 2, 1) := by decide +kernel
theorem dL_law_1341 : decode cL_law 1341 = .ok (.aload_n 0, 1) := by decide +kernel
theorem dL_law_1342 : decode cL_law 1342 = .ok (.iload_n 3, 1) := by decide +kernel
theorem dL_law_1343 : decode cL_law 1343 = .ok (.iconst 1, 1) := by decide +kernel
theorem dL_law_1344 : decode cL_law 1344 = .ok (.iadd, 1) := by decide +kernel
theorem dL_law_1345 : decode cL_law 1345 = .ok (.iaload, 1) := by decide +kernel
theorem dL_law_1346 : decode cL_law 1346 = .ok (.aload_n 0, 1) := by decide +kernel
theorem dL_law_1347 : decode cL_law 1347 = .ok (.iload_n 3, 1) := by decide +kernel
theorem dL_law_1348 : decode cL_law 1348 = .ok (.iconst 2, 1) := by decide +kernel
theorem dL_law_1349 : decode cL_law 1349 = .ok (.iadd, 1) := by decide +kernel
theorem dL_law_1350 : decode cL_law 1350 = .ok (.iaload, 1) := by decide +kernel
theorem dL_law_1351 : decode cL_law 1351 = .ok (.aload_n 0, 1) := by decide +kernel
theorem dL_law_1352 : decode cL_law 1352 = .ok (.iload_n 3, 1) := by decide +kernel
theorem dL_law_1353 : decode cL_law 1353 = .ok (.iconst 3, 1) := by decide +kernel
theorem dL_law_1354 : decode cL_law 1354 = .ok (.iadd, 1) := by decide +kernel
theorem dL_law_1355 : decode cL_law 1355 = .ok (.iaload, 1) := by decide +kernel
theorem dL_law_1356 : decode cL_law 1356 = .ok (.i2l, 1) := by decide +kernel
theorem dL_law_1357 : decode cL_law 1357 = .ok (.bipush 32, 2) := by decide +kernel
theorem dL_law_1359 : decode cL_law 1359 = .ok (.lshl, 1) := by decide +kernel
theorem dL_law_1360 : decode cL_law 1360 = .ok (.aload_n 0, 1) := by decide +kernel
theorem dL_law_1361 : decode cL_law 1361 = .ok (.iload_n 3, 1) := by decide +kernel
theorem dL_law_1362 : decode cL_law 1362 = .ok (.iconst 4, 1) := by decide +kernel
theorem dL_law_1363 : decode cL_law 1363 = .ok (.iadd, 1) := by decide +kernel
theorem dL_law_1364 : decode cL_law 1364 = .ok (.iaload, 1) := by decide +kernel
theorem dL_law_1365 : decode cL_law 1365 = .ok (.i2l, 1) := by decide +kernel
theorem dL_law_1366 : decode cL_law 1366 = .ok (.ldc2_w 154, 3) := by decide +kernel
theorem dL_law_1369 : decode cL_law 1369 = .ok (.land, 1) := by decide +kernel
theorem dL_law_1370 : decode cL_law 1370 = .ok (.lor, 1) := by decide +kernel
theorem dL_law_1371 : decode cL_law 1371 = .ok (.invokevirtual 160, 3) := by decide +kernel
theorem dL_law_1374 : decode cL_law 1374 = .ok (.if_icmp .eq 158, 3) := by decide +kernel
theorem dL_law_1377 : decode cL_law 1377 = .ok (.iconst 0, 1) := by decide +kernel
theorem dL_law_1378 : decode cL_law 1378 = .ok (.ireturn, 1) := by decide +kernel
theorem dL_law_1379 : decode cL_law 1379 = .ok (.aload_n 1, 1) := by decide +kernel
theorem dL_law_1380 : decode cL_law 1380 = .ok (.aload_n 0, 1) := by decide +kernel
theorem dL_law_1381 : decode cL_law 1381 = .ok (.iload_n 3, 1) := by decide +kernel
theorem dL_law_1382 : decode cL_law 1382 = .ok (.iconst 1, 1) := by decide +kernel
theorem dL_law_1383 : decode cL_law 1383 = .ok (.iadd, 1) := by decide +kernel
theorem dL_law_1384 : decode cL_law 1384 = .ok (.iaload, 1) := by decide +kernel
theorem dL_law_1385 : decode cL_law 1385 = .ok (.aload_n 0, 1) := by decide +kernel
theorem dL_law_1386 : decode cL_law 1386 = .ok (.iload_n 3, 1) := by decide +kernel
theorem dL_law_1387 : decode cL_law 1387 = .ok (.iconst 2, 1) := by decide +kernel
theorem dL_law_1388 : decode cL_law 1388 = .ok (.iadd, 1) := by decide +kernel
theorem dL_law_1389 : decode cL_law 1389 = .ok (.iaload, 1) := by decide +kernel
theorem dL_law_1390 : decode cL_law 1390 = .ok (.invokevirtual 161, 3) := by decide +kernel
theorem dL_law_1393 : decode cL_law 1393 = .ok (.aload_n 2, 1) := by decide +kernel
theorem dL_law_1394 : decode cL_law 1394 = .ok (.aload_n 0, 1) := by decide +kernel
theorem dL_law_1395 : decode cL_law 1395 = .ok (.iload_n 3, 1) := by decide +kernel
theorem dL_law_1396 : decode cL_law 1396 = .ok (.iconst 1, 1) := by decide +kernel
theorem dL_law_1397 : decode cL_law 1397 = .ok (.iadd, 1) := by decide +kernel
theorem dL_law_1398 : decode cL_law 1398 = .ok (.iaload, 1) := by decide +kernel
theorem dL_law_1399 : decode cL_law 1399 = .ok (.aload_n 0, 1) := by decide +kernel
end
section
theorem dL_law_1400 : decode cL_law 1400 = .ok (.iload_n 3, 1) := by decide +kernel
theorem dL_law_1401 : decode cL_law 1401 = .ok (.iconst 2, 1) := by decide +kernel
theorem dL_law_1402 : decode cL_law 1402 = .ok (.iadd, 1) := by decide +kernel
theorem dL_law_1403 : decode cL_law 1403 = .ok (.iaload, 1) := by decide +kernel
theorem dL_law_1404 : decode cL_law 1404 = .ok (.invokevirtual 165, 3) := by decide +kernel
theorem dL_law_1407 : decode cL_law 1407 = .ok (.lcmp, 1) := by decide +kernel
theorem dL_law_1408 : decode cL_law 1408 = .ok (.ifCond .eq 124, 3) := by decide +kernel
theorem dL_law_1411 : decode cL_law 1411 = .ok (.iconst 0, 1) := by decide +kernel
theorem dL_law_1412 : decode cL_law 1412 = .ok (.ireturn, 1) := by decide +kernel
theorem dL_law_1413 : decode cL_law 1413 = .ok (.aload_n 1, 1) := by decide +kernel
theorem dL_law_1414 : decode cL_law 1414 = .ok (.aload_n 0, 1) := by decide +kernel
theorem dL_law_1415 : decode cL_law 1415 = .ok (.iload_n 3, 1) := by decide +kernel
theorem dL_law_1416 : decode cL_law 1416 = .ok (.iconst 1, 1) := by decide +kernel
theorem dL_law_1417 : decode cL_law 1417 = .ok (.iadd, 1) := by decide +kernel
theorem dL_law_1418 : decode cL_law 1418 = .ok (.iaload, 1) := by decide +kernel
theorem dL_law_1419 : decode cL_law 1419 = .ok (.aload_n 0, 1) := by decide +kernel
theorem dL_law_1420 : decode cL_law 1420 = .ok (.iload_n 3, 1) := by decide +kernel
theorem dL_law_1421 : decode cL_law 1421 = .ok (.iconst 2, 1) := by decide +kernel
theorem dL_law_1422 : decode cL_law 1422 = .ok (.iadd, 1) := by decide +kernel
theorem dL_law_1423 : decode cL_law 1423 = .ok (.iaload, 1) := by decide +kernel
theorem dL_law_1424 : decode cL_law 1424 = .ok (.aload_n 0, 1) := by decide +kernel
theorem dL_law_1425 : decode cL_law 1425 = .ok (.iload_n 3, 1) := by decide +kernel
theorem dL_law_1426 : decode cL_law 1426 = .ok (.iconst 3, 1) := by decide +kernel
theorem dL_law_1427 : decode cL_law 1427 = .ok (.iadd, 1) := by decide +kernel
theorem dL_law_1428 : decode cL_law 1428 = .ok (.iaload, 1) := by decide +kernel
theorem dL_law_1429 : decode cL_law 1429 = .ok (.aload_n 0, 1) := by decide +kernel
theorem dL_law_1430 : decode cL_law 1430 = .ok (.iload_n 3, 1) := by decide +kernel
theorem dL_law_1431 : decode cL_law 1431 = .ok (.iconst 4, 1) := by decide +kernel
theorem dL_law_1432 : decode cL_law 1432 = .ok (.iadd, 1) := by decide +kernel
theorem dL_law_1433 : decode cL_law 1433 = .ok (.iaload, 1) := by decide +kernel
theorem dL_law_1434 : decode cL_law 1434 = .ok (.aload_n 0, 1) := by decide +kernel
theorem dL_law_1435 : decode cL_law 1435 = .ok (.iload_n 3, 1) := by decide +kernel
theorem dL_law_1436 : decode cL_law 1436 = .ok (.iconst 5, 1) := by decide +kernel
theorem dL_law_1437 : decode cL_law 1437 = .ok (.iadd, 1) := by decide +kernel
theorem dL_law_1438 : decode cL_law 1438 = .ok (.iaload, 1) := by decide +kernel
theorem dL_law_1439 : decode cL_law 1439 = .ok (.invokevirtual 166, 3) := by decide +kernel
theorem dL_law_1442 : decode cL_law 1442 = .ok (.aload_n 2, 1) := by decide +kernel
theorem dL_law_1443 : decode cL_law 1443 = .ok (.aload_n 0, 1) := by decide +kernel
theorem dL_law_1444 : decode cL_law 1444 = .ok (.iload_n 3, 1) := by decide +kernel
theorem dL_law_1445 : decode cL_law 1445 = .ok (.iconst 1, 1) := by decide +kernel
theorem dL_law_1446 : decode cL_law 1446 = .ok (.iadd, 1) := by decide +kernel
theorem dL_law_1447 : decode cL_law 1447 = .ok (.iaload, 1) := by decide +kernel
theorem dL_law_1448 : decode cL_law 1448 = .ok (.aload_n 0, 1) := by decide +kernel
theorem dL_law_1449 : decode cL_law 1449 = .ok (.iload_n 3, 1) := by decide +kernel
theorem dL_law_1450 : decode cL_law 1450 = .ok (.iconst 2, 1) := by decide +kernel
theorem dL_law_1451 : decode cL_law 1451 = .ok (.iadd, 1) := by decide +kernel
theorem dL_law_1452 : decode cL_law 1452 = .ok (.iaload, 1) := by decide +kernel
theorem dL_law_1453 : decode cL_law 1453 = .ok (.aload_n 0, 1) := by decide +kernel
theorem dL_law_1454 : decode cL_law 1454 = .ok (.iload_n 3, 1) := by decide +kernel
theorem dL_law_1455 : decode cL_law 1455 = .ok (.iconst 3, 1) := by decide +kernel
theorem dL_law_1456 : decode cL_law 1456 = .ok (.iadd, 1) := by decide +kernel
theorem dL_law_1457 : decode cL_law 1457 = .ok (.iaload, 1) := by decide +kernel
theorem dL_law_1458 : decode cL_law 1458 = .ok (.aload_n 0, 1) := by decide +kernel
theorem dL_law_1459 : decode cL_law 1459 = .ok (.iload_n 3, 1) := by decide +kernel
theorem dL_law_1460 : decode cL_law 1460 = .ok (.iconst 4, 1) := by decide +kernel
theorem dL_law_1461 : decode cL_law 1461 = .ok (.iadd, 1) := by decide +kernel
theorem dL_law_1462 : decode cL_law 1462 = .ok (.iaload, 1) := by decide +kernel
theorem dL_law_1463 : decode cL_law 1463 = .ok (.aload_n 0, 1) := by decide +kernel
theorem dL_law_1464 : decode cL_law 1464 = .ok (.iload_n 3, 1) := by decide +kernel
theorem dL_law_1465 : decode cL_law 1465 = .ok (.iconst 5, 1) := by decide +kernel
theorem dL_law_1466 : decode cL_law 1466 = .ok (.iadd, 1) := by decide +kernel
theorem dL_law_1467 : decode cL_law 1467 = .ok (.iaload, 1) := by decide +kernel
theorem dL_law_1468 : decode cL_law 1468 = .ok (.invokevirtual 170, 3) := by decide +kernel
theorem dL_law_1471 : decode cL_law 1471 = .ok (.if_icmp .eq 61, 3) := by decide +kernel
theorem dL_law_1474 : decode cL_law 1474 = .ok (.iconst 0, 1) := by decide +kernel
theorem dL_law_1475 : decode cL_law 1475 = .ok (.ireturn, 1) := by decide +kernel
theorem dL_law_1476 : decode cL_law 1476 = .ok (.aload_n 1, 1) := by decide +kernel
theorem dL_law_1477 : decode cL_law 1477 = .ok (.aload_n 0, 1) := by decide +kernel
theorem dL_law_1478 : decode cL_law 1478 = .ok (.iload_n 3, 1) := by decide +kernel
theorem dL_law_1479 : decode cL_law 1479 = .ok (.iconst 1, 1) := by decide +kernel
theorem dL_law_1480 : decode cL_law 1480 = .ok (.iadd, 1) := by decide +kernel
theorem dL_law_1481 : decode cL_law 1481 = .ok (.iaload, 1) := by decide +kernel
theorem dL_law_1482 : decode cL_law 1482 = .ok (.aload_n 0, 1) := by decide +kernel
theorem dL_law_1483 : decode cL_law 1483 = .ok (.iload_n 3, 1) := by decide +kernel
theorem dL_law_1484 : decode cL_law 1484 = .ok (.iconst 2, 1) := by decide +kernel
theorem dL_law_1485 : decode cL_law 1485 = .ok (.iadd, 1) := by decide +kernel
theorem dL_law_1486 : decode cL_law 1486 = .ok (.iaload, 1) := by decide +kernel
theorem dL_law_1487 : decode cL_law 1487 = .ok (.invokevirtual 171, 3) := by decide +kernel
theorem dL_law_1490 : decode cL_law 1490 = .ok (.aload_n 2, 1) := by decide +kernel
theorem dL_law_1491 : decode cL_law 1491 = .ok (.aload_n 0, 1) := by decide +kernel
theorem dL_law_1492 : decode cL_law 1492 = .ok (.iload_n 3, 1) := by decide +kernel
theorem dL_law_1493 : decode cL_law 1493 = .ok (.iconst 1, 1) := by decide +kernel
theorem dL_law_1494 : decode cL_law 1494 = .ok (.iadd, 1) := by decide +kernel
theorem dL_law_1495 : decode cL_law 1495 = .ok (.iaload, 1) := by decide +kernel
theorem dL_law_1496 : decode cL_law 1496 = .ok (.aload_n 0, 1) := by decide +kernel
theorem dL_law_1497 : decode cL_law 1497 = .ok (.iload_n 3, 1) := by decide +kernel
theorem dL_law_1498 : decode cL_law 1498 = .ok (.iconst 2, 1) := by decide +kernel
theorem dL_law_1499 : decode cL_law 1499 = .ok (.iadd, 1) := by decide +kernel
theorem dL_law_1500 : decode cL_law 1500 = .ok (.iaload, 1) := by decide +kernel
theorem dL_law_1501 : decode cL_law 1501 = .ok (.invokevirtual 174, 3) := by decide +kernel
theorem dL_law_1504 : decode cL_law 1504 = .ok (.if_icmp .eq 28, 3) := by decide +kernel
theorem dL_law_1507 : decode cL_law 1507 = .ok (.iconst 0, 1) := by decide +kernel
theorem dL_law_1508 : decode cL_law 1508 = .ok (.ireturn, 1) := by decide +kernel
theorem dL_law_1509 : decode cL_law 1509 = .ok (.aload_n 1, 1) := by decide +kernel
theorem dL_law_1510 : decode cL_law 1510 = .ok (.aload_n 0, 1) := by decide +kernel
theorem dL_law_1511 : decode cL_law 1511 = .ok (.iload_n 3, 1) := by decide +kernel
theorem dL_law_1512 : decode cL_law 1512 = .ok (.iconst 1, 1) := by decide +kernel
theorem dL_law_1513 : decode cL_law 1513 = .ok (.iadd, 1) := by decide +kernel
theorem dL_law_1514 : decode cL_law 1514 = .ok (.iaload, 1) := by decide +kernel
theorem dL_law_1515 : decode cL_law 1515 = .ok (.invokevirtual 175, 3) := by decide +kernel
theorem dL_law_1518 : decode cL_law 1518 = .ok (.aload_n 2, 1) := by decide +kernel
theorem dL_law_1519 : decode cL_law 1519 = .ok (.aload_n 0, 1) := by decide +kernel
theorem dL_law_1520 : decode cL_law 1520 = .ok (.iload_n 3, 1) := by decide +kernel
theorem dL_law_1521 : decode cL_law 1521 = .ok (.iconst 1, 1) := by decide +kernel
theorem dL_law_1522 : decode cL_law 1522 = .ok (.iadd, 1) := by decide +kernel
theorem dL_law_1523 : decode cL_law 1523 = .ok (.iaload, 1) := by decide +kernel
theorem dL_law_1524 : decode cL_law 1524 = .ok (.invokevirtual 178, 3) := by decide +kernel
theorem dL_law_1527 : decode cL_law 1527 = .ok (.if_icmp .eq 5, 3) := by decide +kernel
theorem dL_law_1530 : decode cL_law 1530 = .ok (.iconst 0, 1) := by decide +kernel
theorem dL_law_1531 : decode cL_law 1531 = .ok (.ireturn, 1) := by decide +kernel
theorem dL_law_1532 : decode cL_law 1532 = .ok (.iinc 3 6, 3) := by decide +kernel
theorem dL_law_1535 : decode cL_law 1535 = .ok (.goto (-1517), 3) := by decide +kernel
theorem dL_law_1538 : decode cL_law 1538 = .ok (.iconst 1, 1) := by decide +kernel
theorem dL_law_1539 : decode cL_law 1539 = .ok (.ireturn, 1) := by decide +kernel
end
section
theorem dX0_init_0 : decode cX0_init 0 = .ok (.aload_n 0, 1) := by decide +kernel
theorem dX0_init_1 : decode cX0_init 1 = .ok (.invokespecial 1, 3) := by decide +kernel
theorem dX0_init_4 : decode cX0_init 4 = .ok (.aload_n 0, 1) := by decide +kernel
theorem dX0_init_5 : decode cX0_init 5 = .ok (.bipush 50, 2) := by decide +kernel
theorem dX0_init_7 : decode cX0_init 7 = .ok (.newarray .int, 2) := by decide +kernel
theorem dX0_init_9 : decode cX0_init 9 = .ok (.putfield 9, 3) := by decide +kernel
theorem dX0_init_12 : decode cX0_init 12 = .ok (.aload_n 0, 1) := by decide +kernel
theorem dX0_init_13 : decode cX0_init 13 = .ok (.bipush 24, 2) := by decide +kernel
theorem dX0_init_15 : decode cX0_init 15 = .ok (.newarray .int, 2) := by decide +kernel
theorem dX0_init_17 : decode cX0_init 17 = .ok (.putfield 13, 3) := by decide +kernel
theorem dX0_init_20 : decode cX0_init 20 = .ok (.return_, 1) := by decide +kernel
theorem dX0_has_0 : decode cX0_has 0 = .ok (.iload_n 1, 1) := by decide +kernel
theorem dX0_has_1 : decode cX0_has 1 = .ok (.ifCond .lt 21, 3) := by decide +kernel
theorem dX0_has_4 : decode cX0_has 4 = .ok (.iload_n 1, 1) := by decide +kernel
theorem dX0_has_5 : decode cX0_has 5 = .ok (.aload_n 0, 1) := by decide +kernel
theorem dX0_has_6 : decode cX0_has 6 = .ok (.getfield 16, 3) := by decide +kernel
theorem dX0_has_9 : decode cX0_has 9 = .ok (.if_icmp .ge 13, 3) := by decide +kernel
theorem dX0_has_12 : decode cX0_has 12 = .ok (.iload_n 1, 1) := by decide +kernel
theorem dX0_has_13 : decode cX0_has 13 = .ok (.bipush 50, 2) := by decide +kernel
theorem dX0_has_15 : decode cX0_has 15 = .ok (.if_icmp .ge 7, 3) := by decide +kernel
theorem dX0_has_18 : decode cX0_has 18 = .ok (.iconst 1, 1) := by decide +kernel
theorem dX0_has_19 : decode cX0_has 19 = .ok (.goto 4, 3) := by decide +kernel
theorem dX0_has_22 : decode cX0_has 22 = .ok (.iconst 0, 1) := by decide +kernel
theorem dX0_has_23 : decode cX0_has 23 = .ok (.ireturn, 1) := by decide +kernel
theorem dX0_isUnder_0 : decode cX0_isUnder 0 = .ok (.iload_n 0, 1) := by decide +kernel
theorem dX0_isUnder_1 : decode cX0_isUnder 1 = .ok (.istore_n 2, 1) := by decide +kernel
theorem dX0_isUnder_2 : decode cX0_isUnder 2 = .ok (.iconst 0, 1) := by decide +kernel
theorem dX0_isUnder_3 : decode cX0_isUnder 3 = .ok (.istore_n 3, 1) := by decide +kernel
theorem dX0_isUnder_4 : decode cX0_isUnder 4 = .ok (.iload_n 3, 1) := by decide +kernel
theorem dX0_isUnder_5 : decode cX0_isUnder 5 = .ok (.bipush 8, 2) := by decide +kernel
theorem dX0_isUnder_7 : decode cX0_isUnder 7 = .ok (.if_icmp .ge 32, 3) := by decide +kernel
theorem dX0_isUnder_10 : decode cX0_isUnder 10 = .ok (.iload_n 2, 1) := by decide +kernel
theorem dX0_isUnder_11 : decode cX0_isUnder 11 = .ok (.ifCond .lt 28, 3) := by decide +kernel
theorem dX0_isUnder_14 : decode cX0_isUnder 14 = .ok (.iload_n 2, 1) := by decide +kernel
theorem dX0_isUnder_15 : decode cX0_isUnder 15 = .ok (.bipush 8, 2) := by decide +kernel
theorem dX0_isUnder_17 : decode cX0_isUnder 17 = .ok (.if_icmp .ge 22, 3) := by decide +kernel
theorem dX0_isUnder_20 : decode cX0_isUnder 20 = .ok (.iload_n 2, 1) := by decide +kernel
theorem dX0_isUnder_21 : decode cX0_isUnder 21 = .ok (.iload_n 1, 1) := by decide +kernel
theorem dX0_isUnder_22 : decode cX0_isUnder 22 = .ok (.if_icmp .ne 5, 3) := by decide +kernel
theorem dX0_isUnder_25 : decode cX0_isUnder 25 = .ok (.iconst 1, 1) := by decide +kernel
theorem dX0_isUnder_26 : decode cX0_isUnder 26 = .ok (.ireturn, 1) := by decide +kernel
theorem dX0_isUnder_27 : decode cX0_isUnder 27 = .ok (.getstatic 20, 3) := by decide +kernel
theorem dX0_isUnder_30 : decode cX0_isUnder 30 = .ok (.iload_n 2, 1) := by decide +kernel
theorem dX0_isUnder_31 : decode cX0_isUnder 31 = .ok (.iaload, 1) := by decide +kernel
theorem dX0_isUnder_32 : decode cX0_isUnder 32 = .ok (.istore_n 2, 1) := by decide +kernel
theorem dX0_isUnder_33 : decode cX0_isUnder 33 = .ok (.iinc 3 1, 3) := by decide +kernel
theorem dX0_isUnder_36 : decode cX0_isUnder 36 = .ok (.goto (-32), 3) := by decide +kernel
theorem dX0_isUnder_39 : decode cX0_isUnder 39 = .ok (.iconst 0, 1) := by decide +kernel
theorem dX0_isUnder_40 : decode cX0_isUnder 40 = .ok (.ireturn, 1) := by decide +kernel
theorem dX0_perform_0 : decode cX0_perform 0 = .ok (.aload_n 0, 1) := by decide +kernel
theorem dX0_perform_1 : decode cX0_perform 1 = .ok (.iconst 0, 1) := by decide +kernel
theorem dX0_perform_2 : decode cX0_perform 2 = .ok (.putfield 23, 3) := by decide +kernel
theorem dX0_perform_5 : decode cX0_perform 5 = .ok (.aload_n 0, 1) := by decide +kernel
theorem dX0_perform_6 : decode cX0_perform 6 = .ok (.iload_n 1, 1) := by decide +kernel
theorem dX0_perform_7 : decode cX0_perform 7 = .ok (.invokevirtual 26, 3) := by decide +kernel
theorem dX0_perform_10 : decode cX0_perform 10 = .ok (.ifCond .eq 12, 3) := by decide +kernel
theorem dX0_perform_13 : decode cX0_perform 13 = .ok (.iload_n 2, 1) := by decide +kernel
theorem dX0_perform_14 : decode cX0_perform 14 = .ok (.ifCond .lt 8, 3) := by decide +kernel
theorem dX0_perform_17 : decode cX0_perform 17 = .ok (.iload_n 2, 1) := by decide +kernel
theorem dX0_perform_18 : decode cX0_perform 18 = .ok (.iconst 4, 1) := by decide +kernel
theorem dX0_perform_19 : decode cX0_perform 19 = .ok (.if_icmp .lt 5, 3) := by decide +kernel
theorem dX0_perform_22 : decode cX0_perform 22 = .ok (.iconst 0, 1) := by decide +kernel
theorem dX0_perform_23 : decode cX0_perform 23 = .ok (.ireturn, 1) := by decide +kernel
theorem dX0_perform_24 : decode cX0_perform 24 = .ok (.aload_n 0, 1) := by decide +kernel
theorem dX0_perform_25 : decode cX0_perform 25 = .ok (.iload_n 1, 1) := by decide +kernel
theorem dX0_perform_26 : decode cX0_perform 26 = .ok (.putfield 30, 3) := by decide +kernel
theorem dX0_perform_29 : decode cX0_perform 29 = .ok (.aload_n 0, 1) := by decide +kernel
theorem dX0_perform_30 : decode cX0_perform 30 = .ok (.iload_n 2, 1) := by decide +kernel
theorem dX0_perform_31 : decode cX0_perform 31 = .ok (.iload_n 3, 1) := by decide +kernel
theorem dX0_perform_32 : decode cX0_perform 32 = .ok (.iconst 0, 1) := by decide +kernel
theorem dX0_perform_33 : decode cX0_perform 33 = .ok (.invokevirtual 33, 3) := by decide +kernel
theorem dX0_perform_36 : decode cX0_perform 36 = .ok (.ireturn, 1) := by decide +kernel
theorem dX0_own_0 : decode cX0_own 0 = .ok (.aload_n 0, 1) := by decide +kernel
theorem dX0_own_1 : decode cX0_own 1 = .ok (.aload_n 0, 1) := by decide +kernel
theorem dX0_own_2 : decode cX0_own 2 = .ok (.getfield 9, 3) := by decide +kernel
theorem dX0_own_5 : decode cX0_own 5 = .ok (.aload_n 0, 1) := by decide +kernel
theorem dX0_own_6 : decode cX0_own 6 = .ok (.getfield 30, 3) := by decide +kernel
theorem dX0_own_9 : decode cX0_own 9 = .ok (.iaload, 1) := by decide +kernel
theorem dX0_own_10 : decode cX0_own 10 = .ok (.iload_n 1, 1) := by decide +kernel
theorem dX0_own_11 : decode cX0_own 11 = .ok (.iload_n 2, 1) := by decide +kernel
theorem dX0_own_12 : decode cX0_own 12 = .ok (.iload_n 3, 1) := by decide +kernel
theorem dX0_own_13 : decode cX0_own 13 = .ok (.invokevirtual 37, 3) := by decide +kernel
theorem dX0_own_16 : decode cX0_own 16 = .ok (.ireturn, 1) := by decide +kernel
theorem dX0_above_0 : decode cX0_above 0 = .ok (.aload_n 0, 1) := by decide +kernel
theorem dX0_above_1 : decode cX0_above 1 = .ok (.getstatic 20, 3) := by decide +kernel
theorem dX0_above_4 : decode cX0_above 4 = .ok (.iload_n 1, 1) := by decide +kernel
theorem dX0_above_5 : decode cX0_above 5 = .ok (.iaload, 1) := by decide +kernel
theorem dX0_above_6 : decode cX0_above 6 = .ok (.iload_n 2, 1) := by decide +kernel
theorem dX0_above_7 : decode cX0_above 7 = .ok (.iload_n 3, 1) := by decide +kernel
theorem dX0_above_8 : decode cX0_above 8 = .ok (.iload 4, 2) := by decide +kernel
theorem dX0_above_10 : decode cX0_above 10 = .ok (.invokevirtual 37, 3) := by decide +kernel
theorem dX0_above_13 : decode cX0_above 13 = .ok (.ireturn, 1) := by decide +kernel
theorem dX0_ask_0 : decode cX0_ask 0 = .ok (.iload_n 1, 1) := by decide +kernel
theorem dX0_ask_1 : decode cX0_ask 1 = .ok (.istore 5, 2) := by decide +kernel
theorem dX0_ask_3 : decode cX0_ask 3 = .ok (.iconst 0, 1) := by decide +kernel
theorem dX0_ask_4 : decode cX0_ask 4 = .ok (.istore 6, 2) := by decide +kernel
theorem dX0_ask_6 : decode cX0_ask 6 = .ok (.iload 6, 2) := by decide +kernel
theorem dX0_ask_8 : decode cX0_ask 8 = .ok (.bipush 8, 2) := by decide +kernel
theorem dX0_ask_10 : decode cX0_ask 10 = .ok (.if_icmp .ge 35, 3) := by decide +kernel
theorem dX0_ask_13 : decode cX0_ask 13 = .ok (.iload 5, 2) := by decide +kernel
theorem dX0_ask_15 : decode cX0_ask 15 = .ok (.ifCond .le 30, 3) := by decide +kernel
theorem dX0_ask_18 : decode cX0_ask 18 = .ok (.getstatic 41, 3) := by decide +kernel
theorem dX0_ask_21 : decode cX0_ask 21 = .ok (.iload 5, 2) := by decide +kernel
theorem dX0_ask_23 : decode cX0_ask 23 = .ok (.iconst 4, 1) := by decide +kernel
theorem dX0_ask_24 : decode cX0_ask 24 = .ok (.imul, 1) := by decide +kernel
theorem dX0_ask_25 : decode cX0_ask 25 = .ok (.iload_n 2, 1) := by decide +kernel
theorem dX0_ask_26 : decode cX0_ask 26 = .ok (.iadd, 1) := by decide +kernel
theorem dX0_ask_27 : decode cX0_ask 27 = .ok (.iaload, 1) := by decide +kernel
theorem dX0_ask_28 : decode cX0_ask 28 = .ok (.ifCond .ne 17, 3) := by decide +kernel
theorem dX0_ask_31 : decode cX0_ask 31 = .ok (.getstatic 20, 3) := by decide +kernel
theorem dX0_ask_34 : decode cX0_ask 34 = .ok (.iload 5, 2) := by decide +kernel
theorem dX0_ask_36 : decode cX0_ask 36 = .ok (.iaload, 1) := by decide +kernel
theorem dX0_ask_37 : decode cX0_ask 37 = .ok (.istore 5, 2) := by decide +kernel
theorem dX0_ask_39 : decode cX0_ask 39 = .ok (.iinc 6 1, 3) := by decide +kernel
theorem dX0_ask_42 : decode cX0_ask 42 = .ok (.goto (-36), 3) := by decide +kernel
theorem dX0_ask_45 : decode cX0_ask 45 = .ok (.iload 5, 2) := by decide +kernel
theorem dX0_ask_47 : decode cX0_ask 47 = .ok (.ifCond .lt 10, 3) := by decide +kernel
theorem dX0_ask_50 : decode cX0_ask 50 = .ok (.iload 4, 2) := by decide +kernel
theorem dX0_ask_52 : decode cX0_ask 52 = .ok (.bipush 30, 2) := by decide +kernel
theorem dX0_ask_54 : decode cX0_ask 54 = .ok (.if_icmp .le 5, 3) := by decide +kernel
theorem dX0_ask_57 : decode cX0_ask 57 = .ok (.iconst 0, 1) := by decide +kernel
theorem dX0_ask_58 : decode cX0_ask 58 = .ok (.ireturn, 1) := by decide +kernel
theorem dX0_ask_59 : decode cX0_ask 59 = .ok (.aload_n 0, 1) := by decide +kernel
theorem dX0_ask_60 : decode cX0_ask 60 = .ok (.getstatic 41, 3) := by decide +kernel
theorem dX0_ask_63 : decode cX0_ask 63 = .ok (.iload 5, 2) := by decide +kernel
theorem dX0_ask_65 : decode cX0_ask 65 = .ok (.iconst 4, 1) := by decide +kernel
theorem dX0_ask_66 : decode cX0_ask 66 = .ok (.imul, 1) := by decide +kernel
theorem dX0_ask_67 : decode cX0_ask 67 = .ok (.iload_n 2, 1) := by decide +kernel
theorem dX0_ask_68 : decode cX0_ask 68 = .ok (.iadd, 1) := by decide +kernel
theorem dX0_ask_69 : decode cX0_ask 69 = .ok (.iaload, 1) := by decide +kernel
theorem dX0_ask_70 : decode cX0_ask 70 = .ok (.iload 5, 2) := by decide +kernel
theorem dX0_ask_72 : decode cX0_ask 72 = .ok (.iload_n 3, 1) := by decide +kernel
theorem dX0_ask_73 : decode cX0_ask 73 = .ok (.iload 4, 2) := by decide +kernel
theorem dX0_ask_75 : decode cX0_ask 75 = .ok (.iconst 1, 1) := by decide +kernel
theorem dX0_ask_76 : decode cX0_ask 76 = .ok (.iadd, 1) := by decide +kernel
theorem dX0_ask_77 : decode cX0_ask 77 = .ok (.invokevirtual 44, 3) := by decide +kernel
theorem dX0_ask_80 : decode cX0_ask 80 = .ok (.ireturn, 1) := by decide +kernel
theorem dX0_run_0 : decode cX0_run 0 = .ok (.aload_n 0, 1) := by decide +kernel
theorem dX0_run_1 : decode cX0_run 1 = .ok (.getfield 23, 3) := by decide +kernel
theorem dX0_run_4 : decode cX0_run 4 = .ok (.bipush 24, 2) := by decide +kernel
theorem dX0_run_6 : decode cX0_run 6 = .ok (.if_icmp .ge 13, 3) := by decide +kernel
theorem dX0_run_9 : decode cX0_run 9 = .ok (.aload_n 0, 1) := by decide +kernel
theorem dX0_run_10 : decode cX0_run 10 = .ok (.getfield 13, 3) := by decide +kernel
theorem dX0_run_13 : decode cX0_run 13 = .ok (.aload_n 0, 1) := by decide +kernel
theorem dX0_run_14 : decode cX0_run 14 = .ok (.getfield 23, 3) := by decide +kernel
theorem dX0_run_17 : decode cX0_run 17 = .ok (.iload_n 1, 1) := by decide +kernel
theorem dX0_run_18 : decode cX0_run 18 = .ok (.iastore, 1) := by decide +kernel
theorem dX0_run_19 : decode cX0_run 19 = .ok (.aload_n 0, 1) := by decide +kernel
theorem dX0_run_20 : decode cX0_run 20 = .ok (.dup, 1) := by decide +kernel
theorem dX0_run_21 : decode cX0_run 21 = .ok (.getfield 23, 3) := by decide +kernel
theorem dX0_run_24 : decode cX0_run 24 = .ok (.iconst 1, 1) := by decide +kernel
theorem dX0_run_25 : decode cX0_run 25 = .ok (.iadd, 1) := by decide +kernel
theorem dX0_run_26 : decode cX0_run 26 = .ok (.putfield 23, 3) := by decide +kernel
theorem dX0_run_29 : decode cX0_run 29 = .ok (.iload_n 1, 1) := by decide +kernel
theorem dX0_run_30 : decode cX0_run 30 = .ok (.lookupswitch 278 #[(1, 114), (2, 121), (10, 139), (11, 150), (20, 157), (30, 169), (40, 180), (41, 192), (50, 204), (60, 223), (70, 235), (80, 247), (81, 266)], 114) := by decide +kernel
theorem dX0_run_144 : decode cX0_run 144 = .ok (.iload_n 3, 1) := by decide +kernel
theorem dX0_run_145 : decode cX0_run 145 = .ok (.aload_n 0, 1) := by decide +kernel
theorem dX0_run_146 : decode cX0_run 146 = .ok (.getfield 30, 3) := by decide +kernel
theorem dX0_run_149 : decode cX0_run 149 = .ok (.iadd, 1) := by decide +kernel
theorem dX0_run_150 : decode cX0_run 150 = .ok (.ireturn, 1) := by decide +kernel
theorem dX0_run_151 : decode cX0_run 151 = .ok (.aload_n 0, 1) := by decide +kernel
theorem dX0_run_152 : decode cX0_run 152 = .ok (.iconst 1, 1) := by decide +kernel
theorem dX0_run_153 : decode cX0_run 153 = .ok (.iload_n 3, 1) := by decide +kernel
theorem dX0_run_154 : decode cX0_run 154 = .ok (.iload 4, 2) := by decide +kernel
theorem dX0_run_156 : decode cX0_run 156 = .ok (.invokevirtual 33, 3) := by decide +kernel
theorem dX0_run_159 : decode cX0_run 159 = .ok (.aload_n 0, 1) := by decide +kernel
theorem dX0_run_160 : decode cX0_run 160 = .ok (.iconst 2, 1) := by decide +kernel
theorem dX0_run_161 : decode cX0_run 161 = .ok (.iconst 1, 1) := by decide +kernel
theorem dX0_run_162 : decode cX0_run 162 = .ok (.iload 4, 2) := by decide +kernel
theorem dX0_run_164 : decode cX0_run 164 = .ok (.invokevirtual 33, 3) := by decide +kernel
theorem dX0_run_167 : decode cX0_run 167 = .ok (.isub, 1) := by decide +kernel
theorem dX0_run_168 : decode cX0_run 168 = .ok (.ireturn, 1) := by decide +kernel
theorem dX0_run_169 : decode cX0_run 169 = .ok (.aload_n 0, 1) := by decide +kernel
theorem dX0_run_170 : decode cX0_run 170 = .ok (.iconst 0, 1) := by decide +kernel
theorem dX0_run_171 : decode cX0_run 171 = .ok (.iload_n 3, 1) := by decide +kernel
theorem dX0_run_172 : decode cX0_run 172 = .ok (.iload 4, 2) := by decide +kernel
theorem dX0_run_174 : decode cX0_run 174 = .ok (.invokevirtual 33, 3) := by decide +kernel
theorem dX0_run_177 : decode cX0_run 177 = .ok (.iconst 2, 1) := by decide +kernel
theorem dX0_run_178 : decode cX0_run 178 = .ok (.imul, 1) := by decide +kernel
theorem dX0_run_179 : decode cX0_run 179 = .ok (.ireturn, 1) := by decide +kernel
theorem dX0_run_180 : decode cX0_run 180 = .ok (.iload_n 3, 1) := by decide +kernel
theorem dX0_run_181 : decode cX0_run 181 = .ok (.aload_n 0, 1) := by decide +kernel
theorem dX0_run_182 : decode cX0_run 182 = .ok (.getfield 30, 3) := by decide +kernel
theorem dX0_run_185 : decode cX0_run 185 = .ok (.ixor, 1) := by decide +kernel
theorem dX0_run_186 : decode cX0_run 186 = .ok (.ireturn, 1) := by decide +kernel
theorem dX0_run_187 : decode cX0_run 187 = .ok (.aload_n 0, 1) := by decide +kernel
theorem dX0_run_188 : decode cX0_run 188 = .ok (.iload_n 2, 1) := by decide +kernel
theorem dX0_run_189 : decode cX0_run 189 = .ok (.iconst 0, 1) := by decide +kernel
theorem dX0_run_190 : decode cX0_run 190 = .ok (.iload_n 3, 1) := by decide +kernel
theorem dX0_run_191 : decode cX0_run 191 = .ok (.iload 4, 2) := by decide +kernel
theorem dX0_run_193 : decode cX0_run 193 = .ok (.invokevirtual 47, 3) := by decide +kernel
theorem dX0_run_196 : decode cX0_run 196 = .ok (.iconst 3, 1) := by decide +kernel
theorem dX0_run_197 : decode cX0_run 197 = .ok (.iadd, 1) := by decide +kernel
theorem dX0_run_198 : decode cX0_run 198 = .ok (.ireturn, 1) := by decide +kernel
theorem dX0_run_199 : decode cX0_run 199 = .ok (.aload_n 0, 1) := by decide +kernel
theorem dX0_run_200 : decode cX0_run 200 = .ok (.iload_n 2, 1) := by decide +kernel
theorem dX0_run_201 : decode cX0_run 201 = .ok (.iconst 1, 1) := by decide +kernel
theorem dX0_run_202 : decode cX0_run 202 = .ok (.iload_n 3, 1) := by decide +kernel
theorem dX0_run_203 : decode cX0_run 203 = .ok (.iload 4, 2) := by decide +kernel
theorem dX0_run_205 : decode cX0_run 205 = .ok (.invokevirtual 47, 3) := by decide +kernel
theorem dX0_run_208 : decode cX0_run 208 = .ok (.ineg, 1) := by decide +kernel
theorem dX0_run_209 : decode cX0_run 209 = .ok (.ireturn, 1) := by decide +kernel
theorem dX0_run_210 : decode cX0_run 210 = .ok (.aload_n 0, 1) := by decide +kernel
theorem dX0_run_211 : decode cX0_run 211 = .ok (.iload_n 2, 1) := by decide +kernel
theorem dX0_run_212 : decode cX0_run 212 = .ok (.iconst 2, 1) := by decide +kernel
theorem dX0_run_213 : decode cX0_run 213 = .ok (.iload_n 3, 1) := by decide +kernel
theorem dX0_run_214 : decode cX0_run 214 = .ok (.iload 4, 2) := by decide +kernel
theorem dX0_run_216 : decode cX0_run 216 = .ok (.invokevirtual 47, 3) := by decide +kernel
theorem dX0_run_219 : decode cX0_run 219 = .ok (.iconst 3, 1) := by decide +kernel
theorem dX0_run_220 : decode cX0_run 220 = .ok (.imul, 1) := by decide +kernel
theorem dX0_run_221 : decode cX0_run 221 = .ok (.ireturn, 1) := by decide +kernel
theorem dX0_run_222 : decode cX0_run 222 = .ok (.aload_n 0, 1) := by decide +kernel
theorem dX0_run_223 : decode cX0_run 223 = .ok (.iload_n 2, 1) := by decide +kernel
theorem dX0_run_224 : decode cX0_run 224 = .ok (.iconst 1, 1) := by decide +kernel
theorem dX0_run_225 : decode cX0_run 225 = .ok (.iload_n 3, 1) := by decide +kernel
theorem dX0_run_226 : decode cX0_run 226 = .ok (.iconst 1, 1) := by decide +kernel
theorem dX0_run_227 : decode cX0_run 227 = .ok (.iadd, 1) := by decide +kernel
theorem dX0_run_228 : decode cX0_run 228 = .ok (.iload 4, 2) := by decide +kernel
theorem dX0_run_230 : decode cX0_run 230 = .ok (.invokevirtual 47, 3) := by decide +kernel
theorem dX0_run_233 : decode cX0_run 233 = .ok (.ireturn, 1) := by decide +kernel
theorem dX0_run_234 : decode cX0_run 234 = .ok (.aload_n 0, 1) := by decide +kernel
theorem dX0_run_235 : decode cX0_run 235 = .ok (.iload_n 2, 1) := by decide +kernel
theorem dX0_run_236 : decode cX0_run 236 = .ok (.iconst 2, 1) := by decide +kernel
theorem dX0_run_237 : decode cX0_run 237 = .ok (.iload_n 3, 1) := by decide +kernel
theorem dX0_run_238 : decode cX0_run 238 = .ok (.iload 4, 2) := by decide +kernel
theorem dX0_run_240 : decode cX0_run 240 = .ok (.invokevirtual 47, 3) := by decide +kernel
theorem dX0_run_243 : decode cX0_run 243 = .ok (.aload_n 0, 1) := by decide +kernel
theorem dX0_run_244 : decode cX0_run 244 = .ok (.iconst 0, 1) := by decide +kernel
theorem dX0_run_245 : decode cX0_run 245 = .ok (.iconst 2, 1) := by decide +kernel
theorem dX0_run_246 : decode cX0_run 246 = .ok (.iload 4, 2) := by decide +kernel
theorem dX0_run_248 : decode cX0_run 248 = .ok (.invokevirtual 33, 3) := by decide +kernel
theorem dX0_run_251 : decode cX0_run 251 = .ok (.isub, 1) := by decide +kernel
theorem dX0_run_252 : decode cX0_run 252 = .ok (.ireturn, 1) := by decide +kernel
theorem dX0_run_253 : decode cX0_run 253 = .ok (.aload_n 0, 1) := by decide +kernel
theorem dX0_run_254 : decode cX0_run 254 = .ok (.iload_n 2, 1) := by decide +kernel
theorem dX0_run_255 : decode cX0_run 255 = .ok (.iconst 3, 1) := by decide +kernel
theorem dX0_run_256 : decode cX0_run 256 = .ok (.iload_n 3, 1) := by decide +kernel
theorem dX0_run_257 : decode cX0_run 257 = .ok (.iload 4, 2) := by decide +kernel
theorem dX0_run_259 : decode cX0_run 259 = .ok (.invokevirtual 47, 3) := by decide +kernel
theorem dX0_run_262 : decode cX0_run 262 = .ok (.iconst 5, 1) := by decide +kernel
theorem dX0_run_263 : decode cX0_run 263 = .ok (.ixor, 1) := by decide +kernel
theorem dX0_run_264 : decode cX0_run 264 = .ok (.ireturn, 1) := by decide +kernel
theorem dX0_run_265 : decode cX0_run 265 = .ok (.aload_n 0, 1) := by decide +kernel
theorem dX0_run_266 : decode cX0_run 266 = .ok (.iload_n 2, 1) := by decide +kernel
theorem dX0_run_267 : decode cX0_run 267 = .ok (.iconst 0, 1) := by decide +kernel
theorem dX0_run_268 : decode cX0_run 268 = .ok (.iload_n 3, 1) := by decide +kernel
theorem dX0_run_269 : decode cX0_run 269 = .ok (.iload 4, 2) := by decide +kernel
theorem dX0_run_271 : decode cX0_run 271 = .ok (.invokevirtual 47, 3) := by decide +kernel
theorem dX0_run_274 : decode cX0_run 274 = .ok (.iconst 2, 1) := by decide +kernel
theorem dX0_run_275 : decode cX0_run 275 = .ok (.imul, 1) := by decide +kernel
theorem dX0_run_276 : decode cX0_run 276 = .ok (.ireturn, 1) := by decide +kernel
theorem dX0_run_277 : decode cX0_run 277 = .ok (.aload_n 0, 1) := by decide +kernel
theorem dX0_run_278 : decode cX0_run 278 = .ok (.iload_n 2, 1) := by decide +kernel
theorem dX0_run_279 : decode cX0_run 279 = .ok (.iconst 1, 1) := by decide +kernel
theorem dX0_run_280 : decode cX0_run 280 = .ok (.iload_n 3, 1) := by decide +kernel
theorem dX0_run_281 : decode cX0_run 281 = .ok (.iload 4, 2) := by decide +kernel
theorem dX0_run_283 : decode cX0_run 283 = .ok (.invokevirtual 47, 3) := by decide +kernel
theorem dX0_run_286 : decode cX0_run 286 = .ok (.aload_n 0, 1) := by decide +kernel
theorem dX0_run_287 : decode cX0_run 287 = .ok (.iconst 2, 1) := by decide +kernel
theorem dX0_run_288 : decode cX0_run 288 = .ok (.iconst 2, 1) := by decide +kernel
theorem dX0_run_289 : decode cX0_run 289 = .ok (.iload 4, 2) := by decide +kernel
theorem dX0_run_291 : decode cX0_run 291 = .ok (.invokevirtual 33, 3) := by decide +kernel
theorem dX0_run_294 : decode cX0_run 294 = .ok (.iadd, 1) := by decide +kernel
theorem dX0_run_295 : decode cX0_run 295 = .ok (.ireturn, 1) := by decide +kernel
theorem dX0_run_296 : decode cX0_run 296 = .ok (.aload_n 0, 1) := by decide +kernel
theorem dX0_run_297 : decode cX0_run 297 = .ok (.iload_n 2, 1) := by decide +kernel
theorem dX0_run_298 : decode cX0_run 298 = .ok (.iconst 3, 1) := by decide +kernel
theorem dX0_run_299 : decode cX0_run 299 = .ok (.iload_n 3, 1) := by decide +kernel
theorem dX0_run_300 : decode cX0_run 300 = .ok (.iload 4, 2) := by decide +kernel
theorem dX0_run_302 : decode cX0_run 302 = .ok (.invokevirtual 47, 3) := by decide +kernel
theorem dX0_run_305 : decode cX0_run 305 = .ok (.iconst 1, 1) := by decide +kernel
theorem dX0_run_306 : decode cX0_run 306 = .ok (.isub, 1) := by decide +kernel
theorem dX0_run_307 : decode cX0_run 307 = .ok (.ireturn, 1) := by decide +kernel
theorem dX0_run_308 : decode cX0_run 308 = .ok (.iconst 0, 1) := by decide +kernel
theorem dX0_run_309 : decode cX0_run 309 = .ok (.ireturn, 1) := by decide +kernel
end
section
theorem dX1_init_0 : decode cX1_init 0 = .ok (.aload_n 0, 1) := by decide +kernel
theorem dX1_init_1 : decode cX1_init 1 = .ok (.invokespecial 1, 3) := by decide +kernel
theorem dX1_init_4 : decode cX1_init 4 = .ok (.aload_n 0, 1) := by decide +kernel
theorem dX1_init_5 : decode cX1_init 5 = .ok (.bipush 40, 2) := by decide +kernel
theorem dX1_init_7 : decode cX1_init 7 = .ok (.newarray .int, 2) := by decide +kernel
theorem dX1_init_9 : decode cX1_init 9 = .ok (.putfield 9, 3) := by decide +kernel
theorem dX1_init_12 : decode cX1_init 12 = .ok (.aload_n 0, 1) := by decide +kernel
theorem dX1_init_13 : decode cX1_init 13 = .ok (.bipush 40, 2) := by decide +kernel
theorem dX1_init_15 : decode cX1_init 15 = .ok (.newarray .int, 2) := by decide +kernel
theorem dX1_init_17 : decode cX1_init 17 = .ok (.putfield 13, 3) := by decide +kernel
theorem dX1_init_20 : decode cX1_init 20 = .ok (.aload_n 0, 1) := by decide +kernel
theorem dX1_init_21 : decode cX1_init 21 = .ok (.bipush 40, 2) := by decide +kernel
theorem dX1_init_23 : decode cX1_init 23 = .ok (.newarray .int, 2) := by decide +kernel
theorem dX1_init_25 : decode cX1_init 25 = .ok (.putfield 16, 3) := by decide +kernel
theorem dX1_init_28 : decode cX1_init 28 = .ok (.aload_n 0, 1) := by decide +kernel
theorem dX1_init_29 : decode cX1_init 29 = .ok (.bipush 40, 2) := by decide +kernel
theorem dX1_init_31 : decode cX1_init 31 = .ok (.newarray .int, 2) := by decide +kernel
theorem dX1_init_33 : decode cX1_init 33 = .ok (.putfield 19, 3) := by decide +kernel
theorem dX1_init_36 : decode cX1_init 36 = .ok (.return_, 1) := by decide +kernel
theorem dX1_note_0 : decode cX1_note 0 = .ok (.iload_n 3, 1) := by decide +kernel
theorem dX1_note_1 : decode cX1_note 1 = .ok (.iload 4, 2) := by decide +kernel
theorem dX1_note_3 : decode cX1_note 3 = .ok (.if_icmp .ne 4, 3) := by decide +kernel
theorem dX1_note_6 : decode cX1_note 6 = .ok (.return_, 1) := by decide +kernel
theorem dX1_note_7 : decode cX1_note 7 = .ok (.aload_n 0, 1) := by decide +kernel
theorem dX1_note_8 : decode cX1_note 8 = .ok (.getfield 22, 3) := by decide +kernel
theorem dX1_note_11 : decode cX1_note 11 = .ok (.bipush 40, 2) := by decide +kernel
theorem dX1_note_13 : decode cX1_note 13 = .ok (.if_icmp .lt 7, 3) := by decide +kernel
theorem dX1_note_16 : decode cX1_note 16 = .ok (.aload_n 0, 1) := by decide +kernel
theorem dX1_note_17 : decode cX1_note 17 = .ok (.invokevirtual 26, 3) := by decide +kernel
theorem dX1_note_20 : decode cX1_note 20 = .ok (.aload_n 0, 1) := by decide +kernel
theorem dX1_note_21 : decode cX1_note 21 = .ok (.getfield 9, 3) := by decide +kernel
theorem dX1_note_24 : decode cX1_note 24 = .ok (.aload_n 0, 1) := by decide +kernel
theorem dX1_note_25 : decode cX1_note 25 = .ok (.getfield 22, 3) := by decide +kernel
theorem dX1_note_28 : decode cX1_note 28 = .ok (.iload_n 1, 1) := by decide +kernel
theorem dX1_note_29 : decode cX1_note 29 = .ok (.iastore, 1) := by decide +kernel
theorem dX1_note_30 : decode cX1_note 30 = .ok (.aload_n 0, 1) := by decide +kernel
theorem dX1_note_31 : decode cX1_note 31 = .ok (.getfield 13, 3) := by decide +kernel
theorem dX1_note_34 : decode cX1_note 34 = .ok (.aload_n 0, 1) := by decide +kernel
theorem dX1_note_35 : decode cX1_note 35 = .ok (.getfield 22, 3) := by decide +kernel
theorem dX1_note_38 : decode cX1_note 38 = .ok (.iload_n 2, 1) := by decide +kernel
theorem dX1_note_39 : decode cX1_note 39 = .ok (.iastore, 1) := by decide +kernel
theorem dX1_note_40 : decode cX1_note 40 = .ok (.aload_n 0, 1) := by decide +kernel
theorem dX1_note_41 : decode cX1_note 41 = .ok (.getfield 16, 3) := by decide +kernel
theorem dX1_note_44 : decode cX1_note 44 = .ok (.aload_n 0, 1) := by decide +kernel
theorem dX1_note_45 : decode cX1_note 45 = .ok (.getfield 22, 3) := by decide +kernel
theorem dX1_note_48 : decode cX1_note 48 = .ok (.iload_n 3, 1) := by decide +kernel
theorem dX1_note_49 : decode cX1_note 49 = .ok (.iastore, 1) := by decide +kernel
theorem dX1_note_50 : decode cX1_note 50 = .ok (.aload_n 0, 1) := by decide +kernel
theorem dX1_note_51 : decode cX1_note 51 = .ok (.getfield 19, 3) := by decide +kernel
theorem dX1_note_54 : decode cX1_note 54 = .ok (.aload_n 0, 1) := by decide +kernel
theorem dX1_note_55 : decode cX1_note 55 = .ok (.getfield 22, 3) := by decide +kernel
theorem dX1_note_58 : decode cX1_note 58 = .ok (.iload 4, 2) := by decide +kernel
theorem dX1_note_60 : decode cX1_note 60 = .ok (.iastore, 1) := by decide +kernel
theorem dX1_note_61 : decode cX1_note 61 = .ok (.aload_n 0, 1) := by decide +kernel
theorem dX1_note_62 : decode cX1_note 62 = .ok (.dup, 1) := by decide +kernel
theorem dX1_note_63 : decode cX1_note 63 = .ok (.getfield 22, 3) := by decide +kernel
theorem dX1_note_66 : decode cX1_note 66 = .ok (.iconst 1, 1) := by decide +kernel
theorem dX1_note_67 : decode cX1_note 67 = .ok (.iadd, 1) := by decide +kernel
theorem dX1_note_68 : decode cX1_note 68 = .ok (.putfield 22, 3) := by decide +kernel
theorem dX1_note_71 : decode cX1_note 71 = .ok (.aload_n 0, 1) := by decide +kernel
theorem dX1_note_72 : decode cX1_note 72 = .ok (.aload_n 0, 1) := by decide +kernel
theorem dX1_note_73 : decode cX1_note 73 = .ok (.getfield 22, 3) := by decide +kernel
theorem dX1_note_76 : decode cX1_note 76 = .ok (.putfield 29, 3) := by decide +kernel
theorem dX1_note_79 : decode cX1_note 79 = .ok (.return_, 1) := by decide +kernel
theorem dX1_forgetFirst_0 : decode cX1_forgetFirst 0 = .ok (.aload_n 0, 1) := by decide +kernel
theorem dX1_forgetFirst_1 : decode cX1_forgetFirst 1 = .ok (.getfield 9, 3) := by decide +kernel
theorem dX1_forgetFirst_4 : decode cX1_forgetFirst 4 = .ok (.iconst 1, 1) := by decide +kernel
theorem dX1_forgetFirst_5 : decode cX1_forgetFirst 5 = .ok (.aload_n 0, 1) := by decide +kernel
theorem dX1_forgetFirst_6 : decode cX1_forgetFirst 6 = .ok (.getfield 9, 3) := by decide +kernel
theorem dX1_forgetFirst_9 : decode cX1_forgetFirst 9 = .ok (.iconst 0, 1) := by decide +kernel
theorem dX1_forgetFirst_10 : decode cX1_forgetFirst 10 = .ok (.bipush 39, 2) := by decide +kernel
theorem dX1_forgetFirst_12 : decode cX1_forgetFirst 12 = .ok (.invokestatic 32, 3) := by decide +kernel
theorem dX1_forgetFirst_15 : decode cX1_forgetFirst 15 = .ok (.aload_n 0, 1) := by decide +kernel
theorem dX1_forgetFirst_16 : decode cX1_forgetFirst 16 = .ok (.getfield 13, 3) := by decide +kernel
theorem dX1_forgetFirst_19 : decode cX1_forgetFirst 19 = .ok (.iconst 1, 1) := by decide +kernel
theorem dX1_forgetFirst_20 : decode cX1_forgetFirst 20 = .ok (.aload_n 0, 1) := by decide +kernel
theorem dX1_forgetFirst_21 : decode cX1_forgetFirst 21 = .ok (.getfield 13, 3) := by decide +kernel
theorem dX1_forgetFirst_24 : decode cX1_forgetFirst 24 = .ok (.iconst 0, 1) := by decide +kernel
theorem dX1_forgetFirst_25 : decode cX1_forgetFirst 25 = .ok (.bipush 39, 2) := by decide +kernel
theorem dX1_forgetFirst_27 : decode cX1_forgetFirst 27 = .ok (.invokestatic 32, 3) := by decide +kernel
theorem dX1_forgetFirst_30 : decode cX1_forgetFirst 30 = .ok (.aload_n 0, 1) := by decide +kernel
theorem dX1_forgetFirst_31 : decode cX1_forgetFirst 31 = .ok (.getfield 16, 3) := by decide +kernel
theorem dX1_forgetFirst_34 : decode cX1_forgetFirst 34 = .ok (.iconst 1, 1) := by decide +kernel
theorem dX1_forgetFirst_35 : decode cX1_forgetFirst 35 = .ok (.aload_n 0, 1) := by decide +kernel
theorem dX1_forgetFirst_36 : decode cX1_forgetFirst 36 = .ok (.getfield 16, 3) := by decide +kernel
theorem dX1_forgetFirst_39 : decode cX1_forgetFirst 39 = .ok (.iconst 0, 1) := by decide +kernel
theorem dX1_forgetFirst_40 : decode cX1_forgetFirst 40 = .ok (.bipush 39, 2) := by decide +kernel
theorem dX1_forgetFirst_42 : decode cX1_forgetFirst 42 = .ok (.invokestatic 32, 3) := by decide +kernel
theorem dX1_forgetFirst_45 : decode cX1_forgetFirst 45 = .ok (.aload_n 0, 1) := by decide +kernel
theorem dX1_forgetFirst_46 : decode cX1_forgetFirst 46 = .ok (.getfield 19, 3) := by decide +kernel
theorem dX1_forgetFirst_49 : decode cX1_forgetFirst 49 = .ok (.iconst 1, 1) := by decide +kernel
theorem dX1_forgetFirst_50 : decode cX1_forgetFirst 50 = .ok (.aload_n 0, 1) := by decide +kernel
theorem dX1_forgetFirst_51 : decode cX1_forgetFirst 51 = .ok (.getfield 19, 3) := by decide +kernel
theorem dX1_forgetFirst_54 : decode cX1_forgetFirst 54 = .ok (.iconst 0, 1) := by decide +kernel
theorem dX1_forgetFirst_55 : decode cX1_forgetFirst 55 = .ok (.bipush 39, 2) := by decide +kernel
theorem dX1_forgetFirst_57 : decode cX1_forgetFirst 57 = .ok (.invokestatic 32, 3) := by decide +kernel
theorem dX1_forgetFirst_60 : decode cX1_forgetFirst 60 = .ok (.aload_n 0, 1) := by decide +kernel
theorem dX1_forgetFirst_61 : decode cX1_forgetFirst 61 = .ok (.bipush 39, 2) := by decide +kernel
theorem dX1_forgetFirst_63 : decode cX1_forgetFirst 63 = .ok (.putfield 22, 3) := by decide +kernel
theorem dX1_forgetFirst_66 : decode cX1_forgetFirst 66 = .ok (.return_, 1) := by decide +kernel
end
section
theorem dX2_init_0 : decode cX2_init 0 = .ok (.aload_n 0, 1) := by decide +kernel
theorem dX2_init_1 : decode cX2_init 1 = .ok (.invokespecial 3, 3) := by decide +kernel
theorem dX2_init_4 : decode cX2_init 4 = .ok (.aload_n 0, 1) := by decide +kernel
theorem dX2_init_5 : decode cX2_init 5 = .ok (.bipush 64, 2) := by decide +kernel
theorem dX2_init_7 : decode cX2_init 7 = .ok (.newarray .int, 2) := by decide +kernel
theorem dX2_init_9 : decode cX2_init 9 = .ok (.putfield 11, 3) := by decide +kernel
theorem dX2_init_12 : decode cX2_init 12 = .ok (.aload_n 0, 1) := by decide +kernel
theorem dX2_init_13 : decode cX2_init 13 = .ok (.aload_n 1, 1) := by decide +kernel
theorem dX2_init_14 : decode cX2_init 14 = .ok (.putfield 15, 3) := by decide +kernel
theorem dX2_init_17 : decode cX2_init 17 = .ok (.return_, 1) := by decide +kernel
theorem dX2_weigh_0 : decode cX2_weigh 0 = .ok (.iconst 2, 1) := by decide +kernel
theorem dX2_weigh_1 : decode cX2_weigh 1 = .ok (.istore_n 2, 1) := by decide +kernel
theorem dX2_weigh_2 : decode cX2_weigh 2 = .ok (.iconst 0, 1) := by decide +kernel
theorem dX2_weigh_3 : decode cX2_weigh 3 = .ok (.istore_n 3, 1) := by decide +kernel
theorem dX2_weigh_4 : decode cX2_weigh 4 = .ok (.iload_n 3, 1) := by decide +kernel
theorem dX2_weigh_5 : decode cX2_weigh 5 = .ok (.aload_n 0, 1) := by decide +kernel
theorem dX2_weigh_6 : decode cX2_weigh 6 = .ok (.getfield 15, 3) := by decide +kernel
theorem dX2_weigh_9 : decode cX2_weigh 9 = .ok (.arraylength, 1) := by decide +kernel
theorem dX2_weigh_10 : decode cX2_weigh 10 = .ok (.if_icmp .ge 254, 3) := by decide +kernel
theorem dX2_weigh_13 : decode cX2_weigh 13 = .ok (.iload_n 2, 1) := by decide +kernel
theorem dX2_weigh_14 : decode cX2_weigh 14 = .ok (.iconst 2, 1) := by decide +kernel
theorem dX2_weigh_15 : decode cX2_weigh 15 = .ok (.if_icmp .lt 9, 3) := by decide +kernel
theorem dX2_weigh_18 : decode cX2_weigh 18 = .ok (.iload_n 2, 1) := by decide +kernel
theorem dX2_weigh_19 : decode cX2_weigh 19 = .ok (.bipush 64, 2) := by decide +kernel
theorem dX2_weigh_21 : decode cX2_weigh 21 = .ok (.if_icmp .lt 5, 3) := by decide +kernel
theorem dX2_weigh_24 : decode cX2_weigh 24 = .ok (.iconst 0, 1) := by decide +kernel
theorem dX2_weigh_25 : decode cX2_weigh 25 = .ok (.ireturn, 1) := by decide +kernel
theorem dX2_weigh_26 : decode cX2_weigh 26 = .ok (.aload_n 0, 1) := by decide +kernel
theorem dX2_weigh_27 : decode cX2_weigh 27 = .ok (.getfield 15, 3) := by decide +kernel
theorem dX2_weigh_30 : decode cX2_weigh 30 = .ok (.iload_n 3, 1) := by decide +kernel
theorem dX2_weigh_31 : decode cX2_weigh 31 = .ok (.iaload, 1) := by decide +kernel
theorem dX2_weigh_32 : decode cX2_weigh 32 = .ok (.sipush 255, 3) := by decide +kernel
theorem dX2_weigh_35 : decode cX2_weigh 35 = .ok (.iand, 1) := by decide +kernel
theorem dX2_weigh_36 : decode cX2_weigh 36 = .ok (.istore 4, 2) := by decide +kernel
theorem dX2_weigh_38 : decode cX2_weigh 38 = .ok (.aload_n 0, 1) := by decide +kernel
theorem dX2_weigh_39 : decode cX2_weigh 39 = .ok (.getfield 15, 3) := by decide +kernel
theorem dX2_weigh_42 : decode cX2_weigh 42 = .ok (.iload_n 3, 1) := by decide +kernel
theorem dX2_weigh_43 : decode cX2_weigh 43 = .ok (.iaload, 1) := by decide +kernel
theorem dX2_weigh_44 : decode cX2_weigh 44 = .ok (.bipush 8, 2) := by decide +kernel
theorem dX2_weigh_46 : decode cX2_weigh 46 = .ok (.ishr, 1) := by decide +kernel
theorem dX2_weigh_47 : decode cX2_weigh 47 = .ok (.istore 5, 2) := by decide +kernel
theorem dX2_weigh_49 : decode cX2_weigh 49 = .ok (.iload 4, 2) := by decide +kernel
theorem dX2_weigh_51 : decode cX2_weigh 51 = .ok (.tableswitch 177 0 5 #[37, 51, 83, 110, 130, 158], 37) := by decide +kernel
theorem dX2_weigh_88 : decode cX2_weigh 88 = .ok (.aload_n 0, 1) := by decide +kernel
theorem dX2_weigh_89 : decode cX2_weigh 89 = .ok (.getfield 11, 3) := by decide +kernel
theorem dX2_weigh_92 : decode cX2_weigh 92 = .ok (.iload_n 2, 1) := by decide +kernel
theorem dX2_weigh_93 : decode cX2_weigh 93 = .ok (.iload 5, 2) := by decide +kernel
theorem dX2_weigh_95 : decode cX2_weigh 95 = .ok (.iastore, 1) := by decide +kernel
theorem dX2_weigh_96 : decode cX2_weigh 96 = .ok (.iinc 2 1, 3) := by decide +kernel
theorem dX2_weigh_99 : decode cX2_weigh 99 = .ok (.goto 159, 3) := by decide +kernel
theorem dX2_weigh_102 : decode cX2_weigh 102 = .ok (.aload_n 0, 1) := by decide +kernel
theorem dX2_weigh_103 : decode cX2_weigh 103 = .ok (.getfield 11, 3) := by decide +kernel
theorem dX2_weigh_106 : decode cX2_weigh 106 = .ok (.iload_n 2, 1) := by decide +kernel
theorem dX2_weigh_107 : decode cX2_weigh 107 = .ok (.iload 5, 2) := by decide +kernel
theorem dX2_weigh_109 : decode cX2_weigh 109 = .ok (.ifCond .lt 17, 3) := by decide +kernel
theorem dX2_weigh_112 : decode cX2_weigh 112 = .ok (.iload 5, 2) := by decide +kernel
theorem dX2_weigh_114 : decode cX2_weigh 114 = .ok (.aload_n 1, 1) := by decide +kernel
theorem dX2_weigh_115 : decode cX2_weigh 115 = .ok (.arraylength, 1) := by decide +kernel
theorem dX2_weigh_116 : decode cX2_weigh 116 = .ok (.if_icmp .ge 10, 3) := by decide +kernel
theorem dX2_weigh_119 : decode cX2_weigh 119 = .ok (.aload_n 1, 1) := by decide +kernel
theorem dX2_weigh_120 : decode cX2_weigh 120 = .ok (.iload 5, 2) := by decide +kernel
theorem dX2_weigh_122 : decode cX2_weigh 122 = .ok (.iaload, 1) := by decide +kernel
theorem dX2_weigh_123 : decode cX2_weigh 123 = .ok (.goto 4, 3) := by decide +kernel
theorem dX2_weigh_126 : decode cX2_weigh 126 = .ok (.iconst 0, 1) := by decide +kernel
theorem dX2_weigh_127 : decode cX2_weigh 127 = .ok (.iastore, 1) := by decide +kernel
theorem dX2_weigh_128 : decode cX2_weigh 128 = .ok (.iinc 2 1, 3) := by decide +kernel
theorem dX2_weigh_131 : decode cX2_weigh 131 = .ok (.goto 127, 3) := by decide +kernel
theorem dX2_weigh_134 : decode cX2_weigh 134 = .ok (.aload_n 0, 1) := by decide +kernel
theorem dX2_weigh_135 : decode cX2_weigh 135 = .ok (.getfield 11, 3) := by decide +kernel
theorem dX2_weigh_138 : decode cX2_weigh 138 = .ok (.iload_n 2, 1) := by decide +kernel
theorem dX2_weigh_139 : decode cX2_weigh 139 = .ok (.iconst 1, 1) := by decide +kernel
theorem dX2_weigh_140 : decode cX2_weigh 140 = .ok (.isub, 1) := by decide +kernel
theorem dX2_weigh_141 : decode cX2_weigh 141 = .ok (.aload_n 0, 1) := by decide +kernel
theorem dX2_weigh_142 : decode cX2_weigh 142 = .ok (.getfield 11, 3) := by decide +kernel
theorem dX2_weigh_145 : decode cX2_weigh 145 = .ok (.iload_n 2, 1) := by decide +kernel
theorem dX2_weigh_146 : decode cX2_weigh 146 = .ok (.iconst 1, 1) := by decide +kernel
theorem dX2_weigh_147 : decode cX2_weigh 147 = .ok (.isub, 1) := by decide +kernel
theorem dX2_weigh_148 : decode cX2_weigh 148 = .ok (.iaload, 1) := by decide +kernel
theorem dX2_weigh_149 : decode cX2_weigh 149 = .ok (.ifCond .ne 7, 3) := by decide +kernel
theorem dX2_weigh_152 : decode cX2_weigh 152 = .ok (.iconst 1, 1) := by decide +kernel
theorem dX2_weigh_153 : decode cX2_weigh 153 = .ok (.goto 4, 3) := by decide +kernel
theorem dX2_weigh_156 : decode cX2_weigh 156 = .ok (.iconst 0, 1) := by decide +kernel
theorem dX2_weigh_157 : decode cX2_weigh 157 = .ok (.iastore, 1) := by decide +kernel
theorem dX2_weigh_158 : decode cX2_weigh 158 = .ok (.goto 100, 3) := by decide +kernel
theorem dX2_weigh_161 : decode cX2_weigh 161 = .ok (.aload_n 0, 1) := by decide +kernel
theorem dX2_weigh_162 : decode cX2_weigh 162 = .ok (.getfield 11, 3) := by decide +kernel
theorem dX2_weigh_165 : decode cX2_weigh 165 = .ok (.iload_n 2, 1) := by decide +kernel
theorem dX2_weigh_166 : decode cX2_weigh 166 = .ok (.iconst 1, 1) := by decide +kernel
theorem dX2_weigh_167 : decode cX2_weigh 167 = .ok (.isub, 1) := by decide +kernel
theorem dX2_weigh_168 : decode cX2_weigh 168 = .ok (.aload_n 0, 1) := by decide +kernel
theorem dX2_weigh_169 : decode cX2_weigh 169 = .ok (.getfield 11, 3) := by decide +kernel
theorem dX2_weigh_172 : decode cX2_weigh 172 = .ok (.iload_n 2, 1) := by decide +kernel
theorem dX2_weigh_173 : decode cX2_weigh 173 = .ok (.iconst 1, 1) := by decide +kernel
theorem dX2_weigh_174 : decode cX2_weigh 174 = .ok (.isub, 1) := by decide +kernel
theorem dX2_weigh_175 : decode cX2_weigh 175 = .ok (.iaload, 1) := by decide +kernel
theorem dX2_weigh_176 : decode cX2_weigh 176 = .ok (.ineg, 1) := by decide +kernel
theorem dX2_weigh_177 : decode cX2_weigh 177 = .ok (.iastore, 1) := by decide +kernel
theorem dX2_weigh_178 : decode cX2_weigh 178 = .ok (.goto 80, 3) := by decide +kernel
theorem dX2_weigh_181 : decode cX2_weigh 181 = .ok (.iinc 2 (-1), 3) := by decide +kernel
theorem dX2_weigh_184 : decode cX2_weigh 184 = .ok (.aload_n 0, 1) := by decide +kernel
theorem dX2_weigh_185 : decode cX2_weigh 185 = .ok (.getfield 11, 3) := by decide +kernel
theorem dX2_weigh_188 : decode cX2_weigh 188 = .ok (.iload_n 2, 1) := by decide +kernel
theorem dX2_weigh_189 : decode cX2_weigh 189 = .ok (.iaload, 1) := by decide +kernel
theorem dX2_weigh_190 : decode cX2_weigh 190 = .ok (.ifCond .ne 14, 3) := by decide +kernel
theorem dX2_weigh_193 : decode cX2_weigh 193 = .ok (.iload_n 3, 1) := by decide +kernel
theorem dX2_weigh_194 : decode cX2_weigh 194 = .ok (.iload 5, 2) := by decide +kernel
theorem dX2_weigh_196 : decode cX2_weigh 196 = .ok (.iconst 1, 1) := by decide +kernel
theorem dX2_weigh_197 : decode cX2_weigh 197 = .ok (.isub, 1) := by decide +kernel
theorem dX2_weigh_198 : decode cX2_weigh 198 = .ok (.invokestatic 18, 3) := by decide +kernel
theorem dX2_weigh_201 : decode cX2_weigh 201 = .ok (.goto 4, 3) := by decide +kernel
theorem dX2_weigh_204 : decode cX2_weigh 204 = .ok (.iload_n 3, 1) := by decide +kernel
theorem dX2_weigh_205 : decode cX2_weigh 205 = .ok (.istore_n 3, 1) := by decide +kernel
theorem dX2_weigh_206 : decode cX2_weigh 206 = .ok (.goto 52, 3) := by decide +kernel
theorem dX2_weigh_209 : decode cX2_weigh 209 = .ok (.iconst 0, 1) := by decide +kernel
theorem dX2_weigh_210 : decode cX2_weigh 210 = .ok (.aload_n 0, 1) := by decide +kernel
theorem dX2_weigh_211 : decode cX2_weigh 211 = .ok (.getfield 11, 3) := by decide +kernel
theorem dX2_weigh_214 : decode cX2_weigh 214 = .ok (.iload_n 2, 1) := by decide +kernel
theorem dX2_weigh_215 : decode cX2_weigh 215 = .ok (.iconst 1, 1) := by decide +kernel
theorem dX2_weigh_216 : decode cX2_weigh 216 = .ok (.isub, 1) := by decide +kernel
theorem dX2_weigh_217 : decode cX2_weigh 217 = .ok (.iaload, 1) := by decide +kernel
theorem dX2_weigh_218 : decode cX2_weigh 218 = .ok (.sipush 9999, 3) := by decide +kernel
theorem dX2_weigh_221 : decode cX2_weigh 221 = .ok (.invokestatic 24, 3) := by decide +kernel
theorem dX2_weigh_224 : decode cX2_weigh 224 = .ok (.invokestatic 18, 3) := by decide +kernel
theorem dX2_weigh_227 : decode cX2_weigh 227 = .ok (.ireturn, 1) := by decide +kernel
theorem dX2_weigh_228 : decode cX2_weigh 228 = .ok (.iinc 2 (-1), 3) := by decide +kernel
theorem dX2_weigh_231 : decode cX2_weigh 231 = .ok (.aload_n 0, 1) := by decide +kernel
theorem dX2_weigh_232 : decode cX2_weigh 232 = .ok (.getfield 11, 3) := by decide +kernel
theorem dX2_weigh_235 : decode cX2_weigh 235 = .ok (.iload_n 2, 1) := by decide +kernel
theorem dX2_weigh_236 : decode cX2_weigh 236 = .ok (.iconst 1, 1) := by decide +kernel
theorem dX2_weigh_237 : decode cX2_weigh 237 = .ok (.isub, 1) := by decide +kernel
theorem dX2_weigh_238 : decode cX2_weigh 238 = .ok (.iload 4, 2) := by decide +kernel
theorem dX2_weigh_240 : decode cX2_weigh 240 = .ok (.aload_n 0, 1) := by decide +kernel
theorem dX2_weigh_241 : decode cX2_weigh 241 = .ok (.getfield 11, 3) := by decide +kernel
theorem dX2_weigh_244 : decode cX2_weigh 244 = .ok (.iload_n 2, 1) := by decide +kernel
theorem dX2_weigh_245 : decode cX2_weigh 245 = .ok (.iconst 1, 1) := by decide +kernel
theorem dX2_weigh_246 : decode cX2_weigh 246 = .ok (.isub, 1) := by decide +kernel
theorem dX2_weigh_247 : decode cX2_weigh 247 = .ok (.iaload, 1) := by decide +kernel
theorem dX2_weigh_248 : decode cX2_weigh 248 = .ok (.aload_n 0, 1) := by decide +kernel
theorem dX2_weigh_249 : decode cX2_weigh 249 = .ok (.getfield 11, 3) := by decide +kernel
theorem dX2_weigh_252 : decode cX2_weigh 252 = .ok (.iload_n 2, 1) := by decide +kernel
theorem dX2_weigh_253 : decode cX2_weigh 253 = .ok (.iaload, 1) := by decide +kernel
theorem dX2_weigh_254 : decode cX2_weigh 254 = .ok (.invokestatic 27, 3) := by decide +kernel
theorem dX2_weigh_257 : decode cX2_weigh 257 = .ok (.iastore, 1) := by decide +kernel
theorem dX2_weigh_258 : decode cX2_weigh 258 = .ok (.iinc 3 1, 3) := by decide +kernel
theorem dX2_weigh_261 : decode cX2_weigh 261 = .ok (.goto (-257), 3) := by decide +kernel
theorem dX2_weigh_264 : decode cX2_weigh 264 = .ok (.iconst 0, 1) := by decide +kernel
theorem dX2_weigh_265 : decode cX2_weigh 265 = .ok (.ireturn, 1) := by decide +kernel
theorem dX2_joined_0 : decode cX2_joined 0 = .ok (.iload_n 0, 1) := by decide +kernel
theorem dX2_joined_1 : decode cX2_joined 1 = .ok (.tableswitch 136 6 14 #[51, 65, 79, 90, 101, 112, 116, 120, 124], 51) := by decide +kernel
theorem dX2_joined_52 : decode cX2_joined 52 = .ok (.iload_n 1, 1) := by decide +kernel
theorem dX2_joined_53 : decode cX2_joined 53 = .ok (.ifCond .ne 7, 3) := by decide +kernel
theorem dX2_joined_56 : decode cX2_joined 56 = .ok (.iload_n 2, 1) := by decide +kernel
theorem dX2_joined_57 : decode cX2_joined 57 = .ok (.ifCond .eq 7, 3) := by decide +kernel
theorem dX2_joined_60 : decode cX2_joined 60 = .ok (.iconst 1, 1) := by decide +kernel
theorem dX2_joined_61 : decode cX2_joined 61 = .ok (.goto 4, 3) := by decide +kernel
theorem dX2_joined_64 : decode cX2_joined 64 = .ok (.iconst 0, 1) := by decide +kernel
theorem dX2_joined_65 : decode cX2_joined 65 = .ok (.ireturn, 1) := by decide +kernel
theorem dX2_joined_66 : decode cX2_joined 66 = .ok (.iload_n 1, 1) := by decide +kernel
theorem dX2_joined_67 : decode cX2_joined 67 = .ok (.ifCond .eq 11, 3) := by decide +kernel
theorem dX2_joined_70 : decode cX2_joined 70 = .ok (.iload_n 2, 1) := by decide +kernel
theorem dX2_joined_71 : decode cX2_joined 71 = .ok (.ifCond .eq 7, 3) := by decide +kernel
theorem dX2_joined_74 : decode cX2_joined 74 = .ok (.iconst 1, 1) := by decide +kernel
theorem dX2_joined_75 : decode cX2_joined 75 = .ok (.goto 4, 3) := by decide +kernel
theorem dX2_joined_78 : decode cX2_joined 78 = .ok (.iconst 0, 1) := by decide +kernel
theorem dX2_joined_79 : decode cX2_joined 79 = .ok (.ireturn, 1) := by decide +kernel
theorem dX2_joined_80 : decode cX2_joined 80 = .ok (.iload_n 1, 1) := by decide +kernel
theorem dX2_joined_81 : decode cX2_joined 81 = .ok (.iload_n 2, 1) := by decide +kernel
theorem dX2_joined_82 : decode cX2_joined 82 = .ok (.if_icmp .ge 7, 3) := by decide +kernel
theorem dX2_joined_85 : decode cX2_joined 85 = .ok (.iconst 1, 1) := by decide +kernel
theorem dX2_joined_86 : decode cX2_joined 86 = .ok (.goto 4, 3) := by decide +kernel
theorem dX2_joined_89 : decode cX2_joined 89 = .ok (.iconst 0, 1) := by decide +kernel
theorem dX2_joined_90 : decode cX2_joined 90 = .ok (.ireturn, 1) := by decide +kernel
theorem dX2_joined_91 : decode cX2_joined 91 = .ok (.iload_n 1, 1) := by decide +kernel
theorem dX2_joined_92 : decode cX2_joined 92 = .ok (.iload_n 2, 1) := by decide +kernel
theorem dX2_joined_93 : decode cX2_joined 93 = .ok (.if_icmp .ne 7, 3) := by decide +kernel
theorem dX2_joined_96 : decode cX2_joined 96 = .ok (.iconst 1, 1) := by decide +kernel
theorem dX2_joined_97 : decode cX2_joined 97 = .ok (.goto 4, 3) := by decide +kernel
theorem dX2_joined_100 : decode cX2_joined 100 = .ok (.iconst 0, 1) := by decide +kernel
theorem dX2_joined_101 : decode cX2_joined 101 = .ok (.ireturn, 1) := by decide +kernel
theorem dX2_joined_102 : decode cX2_joined 102 = .ok (.iload_n 1, 1) := by decide +kernel
theorem dX2_joined_103 : decode cX2_joined 103 = .ok (.iload_n 2, 1) := by decide +kernel
theorem dX2_joined_104 : decode cX2_joined 104 = .ok (.if_icmp .le 7, 3) := by decide +kernel
theorem dX2_joined_107 : decode cX2_joined 107 = .ok (.iconst 1, 1) := by decide +kernel
theorem dX2_joined_108 : decode cX2_joined 108 = .ok (.goto 4, 3) := by decide +kernel
theorem dX2_joined_111 : decode cX2_joined 111 = .ok (.iconst 0, 1) := by decide +kernel
theorem dX2_joined_112 : decode cX2_joined 112 = .ok (.ireturn, 1) := by decide +kernel
theorem dX2_joined_113 : decode cX2_joined 113 = .ok (.iload_n 1, 1) := by decide +kernel
theorem dX2_joined_114 : decode cX2_joined 114 = .ok (.iload_n 2, 1) := by decide +kernel
theorem dX2_joined_115 : decode cX2_joined 115 = .ok (.iadd, 1) := by decide +kernel
theorem dX2_joined_116 : decode cX2_joined 116 = .ok (.ireturn, 1) := by decide +kernel
theorem dX2_joined_117 : decode cX2_joined 117 = .ok (.iload_n 1, 1) := by decide +kernel
theorem dX2_joined_118 : decode cX2_joined 118 = .ok (.iload_n 2, 1) := by decide +kernel
theorem dX2_joined_119 : decode cX2_joined 119 = .ok (.isub, 1) := by decide +kernel
theorem dX2_joined_120 : decode cX2_joined 120 = .ok (.ireturn, 1) := by decide +kernel
theorem dX2_joined_121 : decode cX2_joined 121 = .ok (.iload_n 1, 1) := by decide +kernel
theorem dX2_joined_122 : decode cX2_joined 122 = .ok (.iload_n 2, 1) := by decide +kernel
theorem dX2_joined_123 : decode cX2_joined 123 = .ok (.imul, 1) := by decide +kernel
theorem dX2_joined_124 : decode cX2_joined 124 = .ok (.ireturn, 1) := by decide +kernel
theorem dX2_joined_125 : decode cX2_joined 125 = .ok (.iload_n 2, 1) := by decide +kernel
theorem dX2_joined_126 : decode cX2_joined 126 = .ok (.ifCond .ne 7, 3) := by decide +kernel
theorem dX2_joined_129 : decode cX2_joined 129 = .ok (.iconst 0, 1) := by decide +kernel
theorem dX2_joined_130 : decode cX2_joined 130 = .ok (.goto 6, 3) := by decide +kernel
theorem dX2_joined_133 : decode cX2_joined 133 = .ok (.iload_n 1, 1) := by decide +kernel
theorem dX2_joined_134 : decode cX2_joined 134 = .ok (.iload_n 2, 1) := by decide +kernel
theorem dX2_joined_135 : decode cX2_joined 135 = .ok (.idiv, 1) := by decide +kernel
theorem dX2_joined_136 : decode cX2_joined 136 = .ok (.ireturn, 1) := by decide +kernel
theorem dX2_joined_137 : decode cX2_joined 137 = .ok (.iload_n 2, 1) := by decide +kernel
theorem dX2_joined_138 : decode cX2_joined 138 = .ok (.ifCond .ne 7, 3) := by decide +kernel
theorem dX2_joined_141 : decode cX2_joined 141 = .ok (.iconst 0, 1) := by decide +kernel
theorem dX2_joined_142 : decode cX2_joined 142 = .ok (.goto 6, 3) := by decide +kernel
theorem dX2_joined_145 : decode cX2_joined 145 = .ok (.iload_n 1, 1) := by decide +kernel
theorem dX2_joined_146 : decode cX2_joined 146 = .ok (.iload_n 2, 1) := by decide +kernel
theorem dX2_joined_147 : decode cX2_joined 147 = .ok (.irem, 1) := by decide +kernel
theorem dX2_joined_148 : decode cX2_joined 148 = .ok (.ireturn, 1) := by decide +kernel
end
section
theorem dX3_init_0 : decode cX3_init 0 = .ok (.aload_n 0, 1) := by decide +kernel
theorem dX3_init_1 : decode cX3_init 1 = .ok (.invokespecial 3, 3) := by decide +kernel
theorem dX3_init_4 : decode cX3_init 4 = .ok (.aload_n 0, 1) := by decide +kernel
theorem dX3_init_5 : decode cX3_init 5 = .ok (.sipush 2401, 3) := by decide +kernel
theorem dX3_init_8 : decode cX3_init 8 = .ok (.newarray .long, 2) := by decide +kernel
theorem dX3_init_10 : decode cX3_init 10 = .ok (.putfield 11, 3) := by decide +kernel
theorem dX3_init_13 : decode cX3_init 13 = .ok (.aload_n 0, 1) := by decide +kernel
theorem dX3_init_14 : decode cX3_init 14 = .ok (.iconst 4, 1) := by decide +kernel
theorem dX3_init_15 : decode cX3_init 15 = .ok (.newarray .int, 2) := by decide +kernel
theorem dX3_init_17 : decode cX3_init 17 = .ok (.putfield 15, 3) := by decide +kernel
theorem dX3_init_20 : decode cX3_init 20 = .ok (.aload_n 0, 1) := by decide +kernel
theorem dX3_init_21 : decode cX3_init 21 = .ok (.aload_n 1, 1) := by decide +kernel
theorem dX3_init_22 : decode cX3_init 22 = .ok (.putfield 19, 3) := by decide +kernel
theorem dX3_init_25 : decode cX3_init 25 = .ok (.aload_n 0, 1) := by decide +kernel
theorem dX3_init_26 : decode cX3_init 26 = .ok (.aload_n 2, 1) := by decide +kernel
theorem dX3_init_27 : decode cX3_init 27 = .ok (.putfield 23, 3) := by decide +kernel
theorem dX3_init_30 : decode cX3_init 30 = .ok (.return_, 1) := by decide +kernel
theorem dX3_foretell_0 : decode cX3_foretell 0 = .ok (.aload_n 0, 1) := by decide +kernel
theorem dX3_foretell_1 : decode cX3_foretell 1 = .ok (.getfield 23, 3) := by decide +kernel
theorem dX3_foretell_4 : decode cX3_foretell 4 = .ok (.aload_n 1, 1) := by decide +kernel
theorem dX3_foretell_5 : decode cX3_foretell 5 = .ok (.invokevirtual 27, 3) := by decide +kernel
theorem dX3_foretell_8 : decode cX3_foretell 8 = .ok (.aload_n 0, 1) := by decide +kernel
theorem dX3_foretell_9 : decode cX3_foretell 9 = .ok (.invokevirtual 33, 3) := by decide +kernel
theorem dX3_foretell_12 : decode cX3_foretell 12 = .ok (.iconst 0, 1) := by decide +kernel
theorem dX3_foretell_13 : decode cX3_foretell 13 = .ok (.istore 5, 2) := by decide +kernel
theorem dX3_foretell_15 : decode cX3_foretell 15 = .ok (.iload 5, 2) := by decide +kernel
theorem dX3_foretell_17 : decode cX3_foretell 17 = .ok (.sipush 2401, 3) := by decide +kernel
theorem dX3_foretell_20 : decode cX3_foretell 20 = .ok (.if_icmp .ge 76, 3) := by decide +kernel
theorem dX3_foretell_23 : decode cX3_foretell 23 = .ok (.aload_n 0, 1) := by decide +kernel
theorem dX3_foretell_24 : decode cX3_foretell 24 = .ok (.aload_n 1, 1) := by decide +kernel
theorem dX3_foretell_25 : decode cX3_foretell 25 = .ok (.iload_n 3, 1) := by decide +kernel
theorem dX3_foretell_26 : decode cX3_foretell 26 = .ok (.invokevirtual 36, 3) := by decide +kernel
theorem dX3_foretell_29 : decode cX3_foretell 29 = .ok (.aload_n 0, 1) := by decide +kernel
theorem dX3_foretell_30 : decode cX3_foretell 30 = .ok (.getfield 11, 3) := by decide +kernel
theorem dX3_foretell_33 : decode cX3_foretell 33 = .ok (.aload_n 0, 1) := by decide +kernel
theorem dX3_foretell_34 : decode cX3_foretell 34 = .ok (.getfield 40, 3) := by decide +kernel
theorem dX3_foretell_37 : decode cX3_foretell 37 = .ok (.iload 4, 2) := by decide +kernel
theorem dX3_foretell_39 : decode cX3_foretell 39 = .ok (.iconst 1, 1) := by decide +kernel
theorem dX3_foretell_40 : decode cX3_foretell 40 = .ok (.if_icmp .ne 20, 3) := by decide +kernel
theorem dX3_foretell_43 : decode cX3_foretell 43 = .ok (.aload_n 0, 1) := by decide +kernel
theorem dX3_foretell_44 : decode cX3_foretell 44 = .ok (.getfield 23, 3) := by decide +kernel
theorem dX3_foretell_47 : decode cX3_foretell 47 = .ok (.getfield 44, 3) := by decide +kernel
theorem dX3_foretell_50 : decode cX3_foretell 50 = .ok (.iload_n 2, 1) := by decide +kernel
theorem dX3_foretell_51 : decode cX3_foretell 51 = .ok (.iaload, 1) := by decide +kernel
theorem dX3_foretell_52 : decode cX3_foretell 52 = .ok (.i2l, 1) := by decide +kernel
theorem dX3_foretell_53 : decode cX3_foretell 53 = .ok (.ldc2_w 47, 3) := by decide +kernel
theorem dX3_foretell_56 : decode cX3_foretell 56 = .ok (.lmul, 1) := by decide +kernel
theorem dX3_foretell_57 : decode cX3_foretell 57 = .ok (.goto 21, 3) := by decide +kernel
theorem dX3_foretell_60 : decode cX3_foretell 60 = .ok (.aload_n 0, 1) := by decide +kernel
theorem dX3_foretell_61 : decode cX3_foretell 61 = .ok (.getfield 23, 3) := by decide +kernel
theorem dX3_foretell_64 : decode cX3_foretell 64 = .ok (.invokevirtual 49, 3) := by decide +kernel
theorem dX3_foretell_67 : decode cX3_foretell 67 = .ok (.iload_n 2, 1) := by decide +kernel
theorem dX3_foretell_68 : decode cX3_foretell 68 = .ok (.if_icmp .ne 9, 3) := by decide +kernel
theorem dX3_foretell_71 : decode cX3_foretell 71 = .ok (.ldc2_w 53, 3) := by decide +kernel
theorem dX3_foretell_74 : decode cX3_foretell 74 = .ok (.goto 4, 3) := by decide +kernel
theorem dX3_foretell_77 : decode cX3_foretell 77 = .ok (.lconst 0, 1) := by decide +kernel
theorem dX3_foretell_78 : decode cX3_foretell 78 = .ok (.lastore, 1) := by decide +kernel
theorem dX3_foretell_79 : decode cX3_foretell 79 = .ok (.aload_n 0, 1) := by decide +kernel
theorem dX3_foretell_80 : decode cX3_foretell 80 = .ok (.iload_n 3, 1) := by decide +kernel
theorem dX3_foretell_81 : decode cX3_foretell 81 = .ok (.invokevirtual 55, 3) := by decide +kernel
theorem dX3_foretell_84 : decode cX3_foretell 84 = .ok (.ifCond .ne 6, 3) := by decide +kernel
theorem dX3_foretell_87 : decode cX3_foretell 87 = .ok (.goto 9, 3) := by decide +kernel
theorem dX3_foretell_90 : decode cX3_foretell 90 = .ok (.iinc 5 1, 3) := by decide +kernel
theorem dX3_foretell_93 : decode cX3_foretell 93 = .ok (.goto (-78), 3) := by decide +kernel
theorem dX3_foretell_96 : decode cX3_foretell 96 = .ok (.iload_n 3, 1) := by decide +kernel
theorem dX3_foretell_97 : decode cX3_foretell 97 = .ok (.iconst 1, 1) := by decide +kernel
theorem dX3_foretell_98 : decode cX3_foretell 98 = .ok (.isub, 1) := by decide +kernel
theorem dX3_foretell_99 : decode cX3_foretell 99 = .ok (.istore 5, 2) := by decide +kernel
theorem dX3_foretell_101 : decode cX3_foretell 101 = .ok (.iload 5, 2) := by decide +kernel
theorem dX3_foretell_103 : decode cX3_foretell 103 = .ok (.ifCond .lt 16, 3) := by decide +kernel
theorem dX3_foretell_106 : decode cX3_foretell 106 = .ok (.aload_n 0, 1) := by decide +kernel
theorem dX3_foretell_107 : decode cX3_foretell 107 = .ok (.aload_n 1, 1) := by decide +kernel
theorem dX3_foretell_108 : decode cX3_foretell 108 = .ok (.iload 5, 2) := by decide +kernel
theorem dX3_foretell_110 : decode cX3_foretell 110 = .ok (.invokevirtual 59, 3) := by decide +kernel
theorem dX3_foretell_113 : decode cX3_foretell 113 = .ok (.iinc 5 (-1), 3) := by decide +kernel
theorem dX3_foretell_116 : decode cX3_foretell 116 = .ok (.goto (-15), 3) := by decide +kernel
theorem dX3_foretell_119 : decode cX3_foretell 119 = .ok (.aload_n 0, 1) := by decide +kernel
theorem dX3_foretell_120 : decode cX3_foretell 120 = .ok (.getfield 11, 3) := by decide +kernel
theorem dX3_foretell_123 : decode cX3_foretell 123 = .ok (.iconst 0, 1) := by decide +kernel
theorem dX3_foretell_124 : decode cX3_foretell 124 = .ok (.laload, 1) := by decide +kernel
theorem dX3_foretell_125 : decode cX3_foretell 125 = .ok (.l2i, 1) := by decide +kernel
theorem dX3_foretell_126 : decode cX3_foretell 126 = .ok (.ireturn, 1) := by decide +kernel
theorem dX3_goBack_0 : decode cX3_goBack 0 = .ok (.aload_n 0, 1) := by decide +kernel
theorem dX3_goBack_1 : decode cX3_goBack 1 = .ok (.invokevirtual 33, 3) := by decide +kernel
theorem dX3_goBack_4 : decode cX3_goBack 4 = .ok (.iconst 0, 1) := by decide +kernel
theorem dX3_goBack_5 : decode cX3_goBack 5 = .ok (.istore_n 3, 1) := by decide +kernel
theorem dX3_goBack_6 : decode cX3_goBack 6 = .ok (.iload_n 3, 1) := by decide +kernel
theorem dX3_goBack_7 : decode cX3_goBack 7 = .ok (.sipush 2401, 3) := by decide +kernel
theorem dX3_goBack_10 : decode cX3_goBack 10 = .ok (.if_icmp .ge 57, 3) := by decide +kernel
theorem dX3_goBack_13 : decode cX3_goBack 13 = .ok (.aload_n 0, 1) := by decide +kernel
theorem dX3_goBack_14 : decode cX3_goBack 14 = .ok (.aload_n 1, 1) := by decide +kernel
theorem dX3_goBack_15 : decode cX3_goBack 15 = .ok (.iload_n 2, 1) := by decide +kernel
theorem dX3_goBack_16 : decode cX3_goBack 16 = .ok (.invokevirtual 36, 3) := by decide +kernel
theorem dX3_goBack_19 : decode cX3_goBack 19 = .ok (.aload_n 0, 1) := by decide +kernel
theorem dX3_goBack_20 : decode cX3_goBack 20 = .ok (.getfield 23, 3) := by decide +kernel
theorem dX3_goBack_23 : decode cX3_goBack 23 = .ok (.invokevirtual 62, 3) := by decide +kernel
theorem dX3_goBack_26 : decode cX3_goBack 26 = .ok (.istore 4, 2) := by decide +kernel
theorem dX3_goBack_28 : decode cX3_goBack 28 = .ok (.iload 4, 2) := by decide +kernel
theorem dX3_goBack_30 : decode cX3_goBack 30 = .ok (.ifCond .le 20, 3) := by decide +kernel
theorem dX3_goBack_33 : decode cX3_goBack 33 = .ok (.aload_n 0, 1) := by decide +kernel
theorem dX3_goBack_34 : decode cX3_goBack 34 = .ok (.getfield 11, 3) := by decide +kernel
theorem dX3_goBack_37 : decode cX3_goBack 37 = .ok (.aload_n 0, 1) := by decide +kernel
theorem dX3_goBack_38 : decode cX3_goBack 38 = .ok (.getfield 40, 3) := by decide +kernel
theorem dX3_goBack_41 : decode cX3_goBack 41 = .ok (.aload_n 0, 1) := by decide +kernel
theorem dX3_goBack_42 : decode cX3_goBack 42 = .ok (.invokevirtual 65, 3) := by decide +kernel
theorem dX3_goBack_45 : decode cX3_goBack 45 = .ok (.iload 4, 2) := by decide +kernel
theorem dX3_goBack_47 : decode cX3_goBack 47 = .ok (.i2l, 1) := by decide +kernel
theorem dX3_goBack_48 : decode cX3_goBack 48 = .ok (.ldiv, 1) := by decide +kernel
theorem dX3_goBack_49 : decode cX3_goBack 49 = .ok (.lastore, 1) := by decide +kernel
theorem dX3_goBack_50 : decode cX3_goBack 50 = .ok (.aload_n 0, 1) := by decide +kernel
theorem dX3_goBack_51 : decode cX3_goBack 51 = .ok (.iload_n 2, 1) := by decide +kernel
theorem dX3_goBack_52 : decode cX3_goBack 52 = .ok (.invokevirtual 55, 3) := by decide +kernel
theorem dX3_goBack_55 : decode cX3_goBack 55 = .ok (.ifCond .ne 6, 3) := by decide +kernel
theorem dX3_goBack_58 : decode cX3_goBack 58 = .ok (.goto 9, 3) := by decide +kernel
theorem dX3_goBack_61 : decode cX3_goBack 61 = .ok (.iinc 3 1, 3) := by decide +kernel
theorem dX3_goBack_64 : decode cX3_goBack 64 = .ok (.goto (-58), 3) := by decide +kernel
theorem dX3_goBack_67 : decode cX3_goBack 67 = .ok (.return_, 1) := by decide +kernel
theorem dX3_mixed_0 : decode cX3_mixed 0 = .ok (.aload_n 0, 1) := by decide +kernel
theorem dX3_mixed_1 : decode cX3_mixed 1 = .ok (.getfield 23, 3) := by decide +kernel
theorem dX3_mixed_4 : decode cX3_mixed 4 = .ok (.getfield 69, 3) := by decide +kernel
theorem dX3_mixed_7 : decode cX3_mixed 7 = .ok (.i2l, 1) := by decide +kernel
theorem dX3_mixed_8 : decode cX3_mixed 8 = .ok (.aload_n 0, 1) := by decide +kernel
theorem dX3_mixed_9 : decode cX3_mixed 9 = .ok (.getfield 11, 3) := by decide +kernel
theorem dX3_mixed_12 : decode cX3_mixed 12 = .ok (.aload_n 0, 1) := by decide +kernel
theorem dX3_mixed_13 : decode cX3_mixed 13 = .ok (.getfield 40, 3) := by decide +kernel
theorem dX3_mixed_16 : decode cX3_mixed 16 = .ok (.laload, 1) := by decide +kernel
theorem dX3_mixed_17 : decode cX3_mixed 17 = .ok (.lmul, 1) := by decide +kernel
theorem dX3_mixed_18 : decode cX3_mixed 18 = .ok (.lstore_n 1, 1) := by decide +kernel
theorem dX3_mixed_19 : decode cX3_mixed 19 = .ok (.iconst 0, 1) := by decide +kernel
theorem dX3_mixed_20 : decode cX3_mixed 20 = .ok (.istore_n 3, 1) := by decide +kernel
theorem dX3_mixed_21 : decode cX3_mixed 21 = .ok (.iload_n 3, 1) := by decide +kernel
theorem dX3_mixed_22 : decode cX3_mixed 22 = .ok (.aload_n 0, 1) := by decide +kernel
theorem dX3_mixed_23 : decode cX3_mixed 23 = .ok (.getfield 19, 3) := by decide +kernel
theorem dX3_mixed_26 : decode cX3_mixed 26 = .ok (.getfield 72, 3) := by decide +kernel
theorem dX3_mixed_29 : decode cX3_mixed 29 = .ok (.if_icmp .ge 67, 3) := by decide +kernel
theorem dX3_mixed_32 : decode cX3_mixed 32 = .ok (.iload_n 3, 1) := by decide +kernel
theorem dX3_mixed_33 : decode cX3_mixed 33 = .ok (.iconst 4, 1) := by decide +kernel
theorem dX3_mixed_34 : decode cX3_mixed 34 = .ok (.if_icmp .ge 62, 3) := by decide +kernel
theorem dX3_mixed_37 : decode cX3_mixed 37 = .ok (.aload_n 0, 1) := by decide +kernel
theorem dX3_mixed_38 : decode cX3_mixed 38 = .ok (.getfield 40, 3) := by decide +kernel
theorem dX3_mixed_41 : decode cX3_mixed 41 = .ok (.getstatic 77, 3) := by decide +kernel
theorem dX3_mixed_44 : decode cX3_mixed 44 = .ok (.iload_n 3, 1) := by decide +kernel
theorem dX3_mixed_45 : decode cX3_mixed 45 = .ok (.iaload, 1) := by decide +kernel
theorem dX3_mixed_46 : decode cX3_mixed 46 = .ok (.iadd, 1) := by decide +kernel
theorem dX3_mixed_47 : decode cX3_mixed 47 = .ok (.istore 4, 2) := by decide +kernel
theorem dX3_mixed_49 : decode cX3_mixed 49 = .ok (.aload_n 0, 1) := by decide +kernel
theorem dX3_mixed_50 : decode cX3_mixed 50 = .ok (.getfield 23, 3) := by decide +kernel
theorem dX3_mixed_53 : decode cX3_mixed 53 = .ok (.getfield 80, 3) := by decide +kernel
theorem dX3_mixed_56 : decode cX3_mixed 56 = .ok (.iload_n 3, 1) := by decide +kernel
theorem dX3_mixed_57 : decode cX3_mixed 57 = .ok (.iaload, 1) := by decide +kernel
theorem dX3_mixed_58 : decode cX3_mixed 58 = .ok (.ifCond .le 32, 3) := by decide +kernel
theorem dX3_mixed_61 : decode cX3_mixed 61 = .ok (.iload 4, 2) := by decide +kernel
theorem dX3_mixed_63 : decode cX3_mixed 63 = .ok (.sipush 2401, 3) := by decide +kernel
theorem dX3_mixed_66 : decode cX3_mixed 66 = .ok (.if_icmp .ge 24, 3) := by decide +kernel
theorem dX3_mixed_69 : decode cX3_mixed 69 = .ok (.lload_n 1, 1) := by decide +kernel
theorem dX3_mixed_70 : decode cX3_mixed 70 = .ok (.aload_n 0, 1) := by decide +kernel
theorem dX3_mixed_71 : decode cX3_mixed 71 = .ok (.getfield 23, 3) := by decide +kernel
theorem dX3_mixed_74 : decode cX3_mixed 74 = .ok (.getfield 80, 3) := by decide +kernel
theorem dX3_mixed_77 : decode cX3_mixed 77 = .ok (.iload_n 3, 1) := by decide +kernel
theorem dX3_mixed_78 : decode cX3_mixed 78 = .ok (.iaload, 1) := by decide +kernel
theorem dX3_mixed_79 : decode cX3_mixed 79 = .ok (.i2l, 1) := by decide +kernel
theorem dX3_mixed_80 : decode cX3_mixed 80 = .ok (.aload_n 0, 1) := by decide +kernel
theorem dX3_mixed_81 : decode cX3_mixed 81 = .ok (.getfield 11, 3) := by decide +kernel
theorem dX3_mixed_84 : decode cX3_mixed 84 = .ok (.iload 4, 2) := by decide +kernel
theorem dX3_mixed_86 : decode cX3_mixed 86 = .ok (.laload, 1) := by decide +kernel
theorem dX3_mixed_87 : decode cX3_mixed 87 = .ok (.lmul, 1) := by decide +kernel
theorem dX3_mixed_88 : decode cX3_mixed 88 = .ok (.ladd, 1) := by decide +kernel
theorem dX3_mixed_89 : decode cX3_mixed 89 = .ok (.lstore_n 1, 1) := by decide +kernel
theorem dX3_mixed_90 : decode cX3_mixed 90 = .ok (.iinc 3 1, 3) := by decide +kernel
theorem dX3_mixed_93 : decode cX3_mixed 93 = .ok (.goto (-72), 3) := by decide +kernel
theorem dX3_mixed_96 : decode cX3_mixed 96 = .ok (.lload_n 1, 1) := by decide +kernel
theorem dX3_mixed_97 : decode cX3_mixed 97 = .ok (.lreturn, 1) := by decide +kernel
theorem dX3_start_0 : decode cX3_start 0 = .ok (.aload_n 0, 1) := by decide +kernel
theorem dX3_start_1 : decode cX3_start 1 = .ok (.getfield 15, 3) := by decide +kernel
theorem dX3_start_4 : decode cX3_start 4 = .ok (.iconst 0, 1) := by decide +kernel
theorem dX3_start_5 : decode cX3_start 5 = .ok (.invokestatic 83, 3) := by decide +kernel
theorem dX3_start_8 : decode cX3_start 8 = .ok (.aload_n 0, 1) := by decide +kernel
theorem dX3_start_9 : decode cX3_start 9 = .ok (.iconst 0, 1) := by decide +kernel
theorem dX3_start_10 : decode cX3_start 10 = .ok (.putfield 89, 3) := by decide +kernel
theorem dX3_start_13 : decode cX3_start 13 = .ok (.aload_n 0, 1) := by decide +kernel
theorem dX3_start_14 : decode cX3_start 14 = .ok (.iconst 0, 1) := by decide +kernel
theorem dX3_start_15 : decode cX3_start 15 = .ok (.putfield 40, 3) := by decide +kernel
theorem dX3_start_18 : decode cX3_start 18 = .ok (.return_, 1) := by decide +kernel
theorem dX3_turn_0 : decode cX3_turn 0 = .ok (.iconst 0, 1) := by decide +kernel
theorem dX3_turn_1 : decode cX3_turn 1 = .ok (.istore_n 2, 1) := by decide +kernel
theorem dX3_turn_2 : decode cX3_turn 2 = .ok (.iload_n 2, 1) := by decide +kernel
theorem dX3_turn_3 : decode cX3_turn 3 = .ok (.aload_n 0, 1) := by decide +kernel
theorem dX3_turn_4 : decode cX3_turn 4 = .ok (.getfield 19, 3) := by decide +kernel
theorem dX3_turn_7 : decode cX3_turn 7 = .ok (.getfield 72, 3) := by decide +kernel
theorem dX3_turn_10 : decode cX3_turn 10 = .ok (.if_icmp .ge 101, 3) := by decide +kernel
theorem dX3_turn_13 : decode cX3_turn 13 = .ok (.iload_n 2, 1) := by decide +kernel
theorem dX3_turn_14 : decode cX3_turn 14 = .ok (.iconst 4, 1) := by decide +kernel
theorem dX3_turn_15 : decode cX3_turn 15 = .ok (.if_icmp .ge 96, 3) := by decide +kernel
theorem dX3_turn_18 : decode cX3_turn 18 = .ok (.aload_n 0, 1) := by decide +kernel
theorem dX3_turn_19 : decode cX3_turn 19 = .ok (.getfield 89, 3) := by decide +kernel
theorem dX3_turn_22 : decode cX3_turn 22 = .ok (.iload_n 1, 1) := by decide +kernel
theorem dX3_turn_23 : decode cX3_turn 23 = .ok (.if_icmp .ge 39, 3) := by decide +kernel
theorem dX3_turn_26 : decode cX3_turn 26 = .ok (.aload_n 0, 1) := by decide +kernel
theorem dX3_turn_27 : decode cX3_turn 27 = .ok (.getfield 15, 3) := by decide +kernel
theorem dX3_turn_30 : decode cX3_turn 30 = .ok (.iload_n 2, 1) := by decide +kernel
theorem dX3_turn_31 : decode cX3_turn 31 = .ok (.dup2, 1) := by decide +kernel
theorem dX3_turn_32 : decode cX3_turn 32 = .ok (.iaload, 1) := by decide +kernel
theorem dX3_turn_33 : decode cX3_turn 33 = .ok (.iconst 1, 1) := by decide +kernel
theorem dX3_turn_34 : decode cX3_turn 34 = .ok (.iadd, 1) := by decide +kernel
theorem dX3_turn_35 : decode cX3_turn 35 = .ok (.iastore, 1) := by decide +kernel
theorem dX3_turn_36 : decode cX3_turn 36 = .ok (.aload_n 0, 1) := by decide +kernel
theorem dX3_turn_37 : decode cX3_turn 37 = .ok (.dup, 1) := by decide +kernel
theorem dX3_turn_38 : decode cX3_turn 38 = .ok (.getfield 89, 3) := by decide +kernel
theorem dX3_turn_41 : decode cX3_turn 41 = .ok (.iconst 1, 1) := by decide +kernel
theorem dX3_turn_42 : decode cX3_turn 42 = .ok (.iadd, 1) := by decide +kernel
theorem dX3_turn_43 : decode cX3_turn 43 = .ok (.putfield 89, 3) := by decide +kernel
theorem dX3_turn_46 : decode cX3_turn 46 = .ok (.aload_n 0, 1) := by decide +kernel
theorem dX3_turn_47 : decode cX3_turn 47 = .ok (.dup, 1) := by decide +kernel
theorem dX3_turn_48 : decode cX3_turn 48 = .ok (.getfield 40, 3) := by decide +kernel
theorem dX3_turn_51 : decode cX3_turn 51 = .ok (.getstatic 77, 3) := by decide +kernel
theorem dX3_turn_54 : decode cX3_turn 54 = .ok (.iload_n 2, 1) := by decide +kernel
theorem dX3_turn_55 : decode cX3_turn 55 = .ok (.iaload, 1) := by decide +kernel
theorem dX3_turn_56 : decode cX3_turn 56 = .ok (.iadd, 1) := by decide +kernel
theorem dX3_turn_57 : decode cX3_turn 57 = .ok (.putfield 40, 3) := by decide +kernel
theorem dX3_turn_60 : decode cX3_turn 60 = .ok (.iconst 1, 1) := by decide +kernel
theorem dX3_turn_61 : decode cX3_turn 61 = .ok (.ireturn, 1) := by decide +kernel
theorem dX3_turn_62 : decode cX3_turn 62 = .ok (.aload_n 0, 1) := by decide +kernel
theorem dX3_turn_63 : decode cX3_turn 63 = .ok (.dup, 1) := by decide +kernel
theorem dX3_turn_64 : decode cX3_turn 64 = .ok (.getfield 89, 3) := by decide +kernel
theorem dX3_turn_67 : decode cX3_turn 67 = .ok (.aload_n 0, 1) := by decide +kernel
theorem dX3_turn_68 : decode cX3_turn 68 = .ok (.getfield 15, 3) := by decide +kernel
theorem dX3_turn_71 : decode cX3_turn 71 = .ok (.iload_n 2, 1) := by decide +kernel
theorem dX3_turn_72 : decode cX3_turn 72 = .ok (.iaload, 1) := by decide +kernel
theorem dX3_turn_73 : decode cX3_turn 73 = .ok (.isub, 1) := by decide +kernel
theorem dX3_turn_74 : decode cX3_turn 74 = .ok (.putfield 89, 3) := by decide +kernel
theorem dX3_turn_77 : decode cX3_turn 77 = .ok (.aload_n 0, 1) := by decide +kernel
theorem dX3_turn_78 : decode cX3_turn 78 = .ok (.dup, 1) := by decide +kernel
theorem dX3_turn_79 : decode cX3_turn 79 = .ok (.getfield 40, 3) := by decide +kernel
theorem dX3_turn_82 : decode cX3_turn 82 = .ok (.aload_n 0, 1) := by decide +kernel
theorem dX3_turn_83 : decode cX3_turn 83 = .ok (.getfield 15, 3) := by decide +kernel
theorem dX3_turn_86 : decode cX3_turn 86 = .ok (.iload_n 2, 1) := by decide +kernel
theorem dX3_turn_87 : decode cX3_turn 87 = .ok (.iaload, 1) := by decide +kernel
theorem dX3_turn_88 : decode cX3_turn 88 = .ok (.getstatic 77, 3) := by decide +kernel
theorem dX3_turn_91 : decode cX3_turn 91 = .ok (.iload_n 2, 1) := by decide +kernel
theorem dX3_turn_92 : decode cX3_turn 92 = .ok (.iaload, 1) := by decide +kernel
theorem dX3_turn_93 : decode cX3_turn 93 = .ok (.imul, 1) := by decide +kernel
theorem dX3_turn_94 : decode cX3_turn 94 = .ok (.isub, 1) := by decide +kernel
theorem dX3_turn_95 : decode cX3_turn 95 = .ok (.putfield 40, 3) := by decide +kernel
theorem dX3_turn_98 : decode cX3_turn 98 = .ok (.aload_n 0, 1) := by decide +kernel
theorem dX3_turn_99 : decode cX3_turn 99 = .ok (.getfield 15, 3) := by decide +kernel
theorem dX3_turn_102 : decode cX3_turn 102 = .ok (.iload_n 2, 1) := by decide +kernel
theorem dX3_turn_103 : decode cX3_turn 103 = .ok (.iconst 0, 1) := by decide +kernel
theorem dX3_turn_104 : decode cX3_turn 104 = .ok (.iastore, 1) := by decide +kernel
theorem dX3_turn_105 : decode cX3_turn 105 = .ok (.iinc 2 1, 3) := by decide +kernel
theorem dX3_turn_108 : decode cX3_turn 108 = .ok (.goto (-106), 3) := by decide +kernel
theorem dX3_turn_111 : decode cX3_turn 111 = .ok (.iconst 0, 1) := by decide +kernel
theorem dX3_turn_112 : decode cX3_turn 112 = .ok (.ireturn, 1) := by decide +kernel
theorem dX3_think_0 : decode cX3_think 0 = .ok (.aload_n 0, 1) := by decide +kernel
theorem dX3_think_1 : decode cX3_think 1 = .ok (.getfield 23, 3) := by decide +kernel
theorem dX3_think_4 : decode cX3_think 4 = .ok (.aload_n 1, 1) := by decide +kernel
theorem dX3_think_5 : decode cX3_think 5 = .ok (.getfield 92, 3) := by decide +kernel
theorem dX3_think_8 : decode cX3_think 8 = .ok (.iload_n 2, 1) := by decide +kernel
theorem dX3_think_9 : decode cX3_think 9 = .ok (.iadd, 1) := by decide +kernel
theorem dX3_think_10 : decode cX3_think 10 = .ok (.putfield 92, 3) := by decide +kernel
theorem dX3_think_13 : decode cX3_think 13 = .ok (.aload_n 0, 1) := by decide +kernel
theorem dX3_think_14 : decode cX3_think 14 = .ok (.getfield 23, 3) := by decide +kernel
theorem dX3_think_17 : decode cX3_think 17 = .ok (.aload_n 1, 1) := by decide +kernel
theorem dX3_think_18 : decode cX3_think 18 = .ok (.getfield 95, 3) := by decide +kernel
theorem dX3_think_21 : decode cX3_think 21 = .ok (.aload_n 0, 1) := by decide +kernel
theorem dX3_think_22 : decode cX3_think 22 = .ok (.getfield 89, 3) := by decide +kernel
theorem dX3_think_25 : decode cX3_think 25 = .ok (.iadd, 1) := by decide +kernel
theorem dX3_think_26 : decode cX3_think 26 = .ok (.putfield 95, 3) := by decide +kernel
theorem dX3_think_29 : decode cX3_think 29 = .ok (.iconst 0, 1) := by decide +kernel
theorem dX3_think_30 : decode cX3_think 30 = .ok (.istore_n 3, 1) := by decide +kernel
theorem dX3_think_31 : decode cX3_think 31 = .ok (.iload_n 3, 1) := by decide +kernel
theorem dX3_think_32 : decode cX3_think 32 = .ok (.aload_n 0, 1) := by decide +kernel
theorem dX3_think_33 : decode cX3_think 33 = .ok (.getfield 19, 3) := by decide +kernel
theorem dX3_think_36 : decode cX3_think 36 = .ok (.getfield 72, 3) := by decide +kernel
theorem dX3_think_39 : decode cX3_think 39 = .ok (.if_icmp .ge 41, 3) := by decide +kernel
theorem dX3_think_42 : decode cX3_think 42 = .ok (.iload_n 3, 1) := by decide +kernel
theorem dX3_think_43 : decode cX3_think 43 = .ok (.iconst 4, 1) := by decide +kernel
theorem dX3_think_44 : decode cX3_think 44 = .ok (.if_icmp .ge 36, 3) := by decide +kernel
theorem dX3_think_47 : decode cX3_think 47 = .ok (.aload_n 0, 1) := by decide +kernel
theorem dX3_think_48 : decode cX3_think 48 = .ok (.getfield 23, 3) := by decide +kernel
theorem dX3_think_51 : decode cX3_think 51 = .ok (.getfield 44, 3) := by decide +kernel
theorem dX3_think_54 : decode cX3_think 54 = .ok (.iload_n 3, 1) := by decide +kernel
theorem dX3_think_55 : decode cX3_think 55 = .ok (.aload_n 1, 1) := by decide +kernel
theorem dX3_think_56 : decode cX3_think 56 = .ok (.getfield 44, 3) := by decide +kernel
theorem dX3_think_59 : decode cX3_think 59 = .ok (.iload_n 3, 1) := by decide +kernel
theorem dX3_think_60 : decode cX3_think 60 = .ok (.iaload, 1) := by decide +kernel
theorem dX3_think_61 : decode cX3_think 61 = .ok (.aload_n 0, 1) := by decide +kernel
theorem dX3_think_62 : decode cX3_think 62 = .ok (.getfield 15, 3) := by decide +kernel
theorem dX3_think_65 : decode cX3_think 65 = .ok (.iload_n 3, 1) := by decide +kernel
theorem dX3_think_66 : decode cX3_think 66 = .ok (.iaload, 1) := by decide +kernel
theorem dX3_think_67 : decode cX3_think 67 = .ok (.iadd, 1) := by decide +kernel
theorem dX3_think_68 : decode cX3_think 68 = .ok (.ldc 98, 2) := by decide +kernel
theorem dX3_think_70 : decode cX3_think 70 = .ok (.invokestatic 99, 3) := by decide +kernel
theorem dX3_think_73 : decode cX3_think 73 = .ok (.iastore, 1) := by decide +kernel
theorem dX3_think_74 : decode cX3_think 74 = .ok (.iinc 3 1, 3) := by decide +kernel
theorem dX3_think_77 : decode cX3_think 77 = .ok (.goto (-46), 3) := by decide +kernel
theorem dX3_think_80 : decode cX3_think 80 = .ok (.return_, 1) := by decide +kernel
end
section
theorem dX4_init_0 : decode cX4_init 0 = .ok (.aload_n 0, 1) := by decide +kernel
theorem dX4_init_1 : decode cX4_init 1 = .ok (.invokespecial 3, 3) := by decide +kernel
theorem dX4_init_4 : decode cX4_init 4 = .ok (.aload_n 0, 1) := by decide +kernel
theorem dX4_init_5 : decode cX4_init 5 = .ok (.bipush 60, 2) := by decide +kernel
theorem dX4_init_7 : decode cX4_init 7 = .ok (.newarray .long, 2) := by decide +kernel
theorem dX4_init_9 : decode cX4_init 9 = .ok (.putfield 9, 3) := by decide +kernel
theorem dX4_init_12 : decode cX4_init 12 = .ok (.return_, 1) := by decide +kernel
theorem dX4_has_0 : decode cX4_has 0 = .ok (.iload_n 1, 1) := by decide +kernel
theorem dX4_has_1 : decode cX4_has 1 = .ok (.ifCond .lt 21, 3) := by decide +kernel
theorem dX4_has_4 : decode cX4_has 4 = .ok (.iload_n 1, 1) := by decide +kernel
theorem dX4_has_5 : decode cX4_has 5 = .ok (.aload_n 0, 1) := by decide +kernel
theorem dX4_has_6 : decode cX4_has 6 = .ok (.getfield 15, 3) := by decide +kernel
theorem dX4_has_9 : decode cX4_has 9 = .ok (.if_icmp .ge 13, 3) := by decide +kernel
theorem dX4_has_12 : decode cX4_has 12 = .ok (.iload_n 1, 1) := by decide +kernel
theorem dX4_has_13 : decode cX4_has 13 = .ok (.bipush 60, 2) := by decide +kernel
theorem dX4_has_15 : decode cX4_has 15 = .ok (.if_icmp .ge 7, 3) := by decide +kernel
theorem dX4_has_18 : decode cX4_has 18 = .ok (.iconst 1, 1) := by decide +kernel
theorem dX4_has_19 : decode cX4_has 19 = .ok (.goto 4, 3) := by decide +kernel
theorem dX4_has_22 : decode cX4_has 22 = .ok (.iconst 0, 1) := by decide +kernel
theorem dX4_has_23 : decode cX4_has 23 = .ok (.ireturn, 1) := by decide +kernel
theorem dX4_hasRun_0 : decode cX4_hasRun 0 = .ok (.iload_n 1, 1) := by decide +kernel
theorem dX4_hasRun_1 : decode cX4_hasRun 1 = .ok (.ifCond .lt 29, 3) := by decide +kernel
theorem dX4_hasRun_4 : decode cX4_hasRun 4 = .ok (.iload_n 2, 1) := by decide +kernel
theorem dX4_hasRun_5 : decode cX4_hasRun 5 = .ok (.ifCond .lt 25, 3) := by decide +kernel
theorem dX4_hasRun_8 : decode cX4_hasRun 8 = .ok (.iload_n 1, 1) := by decide +kernel
theorem dX4_hasRun_9 : decode cX4_hasRun 9 = .ok (.aload_n 0, 1) := by decide +kernel
theorem dX4_hasRun_10 : decode cX4_hasRun 10 = .ok (.getfield 15, 3) := by decide +kernel
theorem dX4_hasRun_13 : decode cX4_hasRun 13 = .ok (.if_icmp .gt 17, 3) := by decide +kernel
theorem dX4_hasRun_16 : decode cX4_hasRun 16 = .ok (.iload_n 2, 1) := by decide +kernel
theorem dX4_hasRun_17 : decode cX4_hasRun 17 = .ok (.aload_n 0, 1) := by decide +kernel
theorem dX4_hasRun_18 : decode cX4_hasRun 18 = .ok (.getfield 15, 3) := by decide +kernel
theorem dX4_hasRun_21 : decode cX4_hasRun 21 = .ok (.iload_n 1, 1) := by decide +kernel
theorem dX4_hasRun_22 : decode cX4_hasRun 22 = .ok (.isub, 1) := by decide +kernel
theorem dX4_hasRun_23 : decode cX4_hasRun 23 = .ok (.if_icmp .gt 7, 3) := by decide +kernel
theorem dX4_hasRun_26 : decode cX4_hasRun 26 = .ok (.iconst 1, 1) := by decide +kernel
theorem dX4_hasRun_27 : decode cX4_hasRun 27 = .ok (.goto 4, 3) := by decide +kernel
theorem dX4_hasRun_30 : decode cX4_hasRun 30 = .ok (.iconst 0, 1) := by decide +kernel
theorem dX4_hasRun_31 : decode cX4_hasRun 31 = .ok (.ireturn, 1) := by decide +kernel
theorem dX4_lowest_0 : decode cX4_lowest 0 = .ok (.aload_n 0, 1) := by decide +kernel
theorem dX4_lowest_1 : decode cX4_lowest 1 = .ok (.getfield 19, 3) := by decide +kernel
theorem dX4_lowest_4 : decode cX4_lowest 4 = .ok (.tableswitch 48 0 3 #[32, 37, 42, 46], 32) := by decide +kernel
theorem dX4_lowest_36 : decode cX4_lowest 36 = .ok (.lload_n 1, 1) := by decide +kernel
theorem dX4_lowest_37 : decode cX4_lowest 37 = .ok (.l2i, 1) := by decide +kernel
theorem dX4_lowest_38 : decode cX4_lowest 38 = .ok (.i2b, 1) := by decide +kernel
theorem dX4_lowest_39 : decode cX4_lowest 39 = .ok (.i2l, 1) := by decide +kernel
theorem dX4_lowest_40 : decode cX4_lowest 40 = .ok (.lreturn, 1) := by decide +kernel
theorem dX4_lowest_41 : decode cX4_lowest 41 = .ok (.lload_n 1, 1) := by decide +kernel
theorem dX4_lowest_42 : decode cX4_lowest 42 = .ok (.l2i, 1) := by decide +kernel
theorem dX4_lowest_43 : decode cX4_lowest 43 = .ok (.i2s, 1) := by decide +kernel
theorem dX4_lowest_44 : decode cX4_lowest 44 = .ok (.i2l, 1) := by decide +kernel
theorem dX4_lowest_45 : decode cX4_lowest 45 = .ok (.lreturn, 1) := by decide +kernel
theorem dX4_lowest_46 : decode cX4_lowest 46 = .ok (.lload_n 1, 1) := by decide +kernel
theorem dX4_lowest_47 : decode cX4_lowest 47 = .ok (.l2i, 1) := by decide +kernel
theorem dX4_lowest_48 : decode cX4_lowest 48 = .ok (.i2l, 1) := by decide +kernel
theorem dX4_lowest_49 : decode cX4_lowest 49 = .ok (.lreturn, 1) := by decide +kernel
theorem dX4_lowest_50 : decode cX4_lowest 50 = .ok (.lload_n 1, 1) := by decide +kernel
theorem dX4_lowest_51 : decode cX4_lowest 51 = .ok (.lreturn, 1) := by decide +kernel
theorem dX4_lowest_52 : decode cX4_lowest 52 = .ok (.lload_n 1, 1) := by decide +kernel
theorem dX4_lowest_53 : decode cX4_lowest 53 = .ok (.lconst 0, 1) := by decide +kernel
theorem dX4_lowest_54 : decode cX4_lowest 54 = .ok (.lcmp, 1) := by decide +kernel
theorem dX4_lowest_55 : decode cX4_lowest 55 = .ok (.ifCond .eq 7, 3) := by decide +kernel
theorem dX4_lowest_58 : decode cX4_lowest 58 = .ok (.lconst 1, 1) := by decide +kernel
theorem dX4_lowest_59 : decode cX4_lowest 59 = .ok (.goto 4, 3) := by decide +kernel
theorem dX4_lowest_62 : decode cX4_lowest 62 = .ok (.lconst 0, 1) := by decide +kernel
theorem dX4_lowest_63 : decode cX4_lowest 63 = .ok (.lreturn, 1) := by decide +kernel
end
section
theorem dX5_init_0 : decode cX5_init 0 = .ok (.aload_n 0, 1) := by decide +kernel
theorem dX5_init_1 : decode cX5_init 1 = .ok (.invokespecial 3, 3) := by decide +kernel
theorem dX5_init_4 : decode cX5_init 4 = .ok (.aload_n 0, 1) := by decide +kernel
theorem dX5_init_5 : decode cX5_init 5 = .ok (.bipush 12, 2) := by decide +kernel
theorem dX5_init_7 : decode cX5_init 7 = .ok (.newarray .int, 2) := by decide +kernel
theorem dX5_init_9 : decode cX5_init 9 = .ok (.putfield 9, 3) := by decide +kernel
theorem dX5_init_12 : decode cX5_init 12 = .ok (.return_, 1) := by decide +kernel
theorem dX5_has_0 : decode cX5_has 0 = .ok (.iload_n 1, 1) := by decide +kernel
theorem dX5_has_1 : decode cX5_has 1 = .ok (.ifCond .lt 21, 3) := by decide +kernel
theorem dX5_has_4 : decode cX5_has 4 = .ok (.iload_n 1, 1) := by decide +kernel
theorem dX5_has_5 : decode cX5_has 5 = .ok (.aload_n 0, 1) := by decide +kernel
theorem dX5_has_6 : decode cX5_has 6 = .ok (.getfield 15, 3) := by decide +kernel
theorem dX5_has_9 : decode cX5_has 9 = .ok (.if_icmp .ge 13, 3) := by decide +kernel
theorem dX5_has_12 : decode cX5_has 12 = .ok (.iload_n 1, 1) := by decide +kernel
theorem dX5_has_13 : decode cX5_has 13 = .ok (.bipush 12, 2) := by decide +kernel
theorem dX5_has_15 : decode cX5_has 15 = .ok (.if_icmp .ge 7, 3) := by decide +kernel
theorem dX5_has_18 : decode cX5_has 18 = .ok (.iconst 1, 1) := by decide +kernel
theorem dX5_has_19 : decode cX5_has 19 = .ok (.goto 4, 3) := by decide +kernel
theorem dX5_has_22 : decode cX5_has 22 = .ok (.iconst 0, 1) := by decide +kernel
theorem dX5_has_23 : decode cX5_has 23 = .ok (.ireturn, 1) := by decide +kernel
theorem dX5_allWorths_0 : decode cX5_allWorths 0 = .ok (.iconst 0, 1) := by decide +kernel
theorem dX5_allWorths_1 : decode cX5_allWorths 1 = .ok (.istore_n 1, 1) := by decide +kernel
theorem dX5_allWorths_2 : decode cX5_allWorths 2 = .ok (.iconst 0, 1) := by decide +kernel
theorem dX5_allWorths_3 : decode cX5_allWorths 3 = .ok (.istore_n 2, 1) := by decide +kernel
theorem dX5_allWorths_4 : decode cX5_allWorths 4 = .ok (.iload_n 2, 1) := by decide +kernel
theorem dX5_allWorths_5 : decode cX5_allWorths 5 = .ok (.aload_n 0, 1) := by decide +kernel
theorem dX5_allWorths_6 : decode cX5_allWorths 6 = .ok (.getfield 15, 3) := by decide +kernel
theorem dX5_allWorths_9 : decode cX5_allWorths 9 = .ok (.if_icmp .ge 18, 3) := by decide +kernel
theorem dX5_allWorths_12 : decode cX5_allWorths 12 = .ok (.iload_n 1, 1) := by decide +kernel
theorem dX5_allWorths_13 : decode cX5_allWorths 13 = .ok (.aload_n 0, 1) := by decide +kernel
theorem dX5_allWorths_14 : decode cX5_allWorths 14 = .ok (.getfield 9, 3) := by decide +kernel
theorem dX5_allWorths_17 : decode cX5_allWorths 17 = .ok (.iload_n 2, 1) := by decide +kernel
theorem dX5_allWorths_18 : decode cX5_allWorths 18 = .ok (.iaload, 1) := by decide +kernel
theorem dX5_allWorths_19 : decode cX5_allWorths 19 = .ok (.iadd, 1) := by decide +kernel
theorem dX5_allWorths_20 : decode cX5_allWorths 20 = .ok (.istore_n 1, 1) := by decide +kernel
theorem dX5_allWorths_21 : decode cX5_allWorths 21 = .ok (.iinc 2 1, 3) := by decide +kernel
theorem dX5_allWorths_24 : decode cX5_allWorths 24 = .ok (.goto (-20), 3) := by decide +kernel
theorem dX5_allWorths_27 : decode cX5_allWorths 27 = .ok (.iload_n 1, 1) := by decide +kernel
theorem dX5_allWorths_28 : decode cX5_allWorths 28 = .ok (.ireturn, 1) := by decide +kernel
end
section
theorem dX6_init_0 : decode cX6_init 0 = .ok (.aload_n 0, 1) := by decide +kernel
theorem dX6_init_1 : decode cX6_init 1 = .ok (.invokespecial 3, 3) := by decide +kernel
theorem dX6_init_4 : decode cX6_init 4 = .ok (.aload_n 0, 1) := by decide +kernel
theorem dX6_init_5 : decode cX6_init 5 = .ok (.bipush 120, 2) := by decide +kernel
theorem dX6_init_7 : decode cX6_init 7 = .ok (.newarray .int, 2) := by decide +kernel
theorem dX6_init_9 : decode cX6_init 9 = .ok (.putfield 9, 3) := by decide +kernel
theorem dX6_init_12 : decode cX6_init 12 = .ok (.aload_n 0, 1) := by decide +kernel
theorem dX6_init_13 : decode cX6_init 13 = .ok (.bipush 121, 2) := by decide +kernel
theorem dX6_init_15 : decode cX6_init 15 = .ok (.newarray .int, 2) := by decide +kernel
theorem dX6_init_17 : decode cX6_init 17 = .ok (.putfield 13, 3) := by decide +kernel
theorem dX6_init_20 : decode cX6_init 20 = .ok (.return_, 1) := by decide +kernel
theorem dX6_write_0 : decode cX6_write 0 = .ok (.aload_n 0, 1) := by decide +kernel
theorem dX6_write_1 : decode cX6_write 1 = .ok (.getfield 16, 3) := by decide +kernel
theorem dX6_write_4 : decode cX6_write 4 = .ok (.bipush 120, 2) := by decide +kernel
theorem dX6_write_6 : decode cX6_write 6 = .ok (.if_icmp .ge 23, 3) := by decide +kernel
theorem dX6_write_9 : decode cX6_write 9 = .ok (.aload_n 0, 1) := by decide +kernel
theorem dX6_write_10 : decode cX6_write 10 = .ok (.getfield 9, 3) := by decide +kernel
theorem dX6_write_13 : decode cX6_write 13 = .ok (.aload_n 0, 1) := by decide +kernel
theorem dX6_write_14 : decode cX6_write 14 = .ok (.getfield 16, 3) := by decide +kernel
theorem dX6_write_17 : decode cX6_write 17 = .ok (.iload_n 1, 1) := by decide +kernel
theorem dX6_write_18 : decode cX6_write 18 = .ok (.iastore, 1) := by decide +kernel
theorem dX6_write_19 : decode cX6_write 19 = .ok (.aload_n 0, 1) := by decide +kernel
theorem dX6_write_20 : decode cX6_write 20 = .ok (.dup, 1) := by decide +kernel
theorem dX6_write_21 : decode cX6_write 21 = .ok (.getfield 16, 3) := by decide +kernel
theorem dX6_write_24 : decode cX6_write 24 = .ok (.iconst 1, 1) := by decide +kernel
theorem dX6_write_25 : decode cX6_write 25 = .ok (.iadd, 1) := by decide +kernel
theorem dX6_write_26 : decode cX6_write 26 = .ok (.putfield 16, 3) := by decide +kernel
theorem dX6_write_29 : decode cX6_write 29 = .ok (.return_, 1) := by decide +kernel
theorem dX6_read_0 : decode cX6_read 0 = .ok (.aload_n 0, 1) := by decide +kernel
theorem dX6_read_1 : decode cX6_read 1 = .ok (.iconst 0, 1) := by decide +kernel
theorem dX6_read_2 : decode cX6_read 2 = .ok (.putfield 20, 3) := by decide +kernel
theorem dX6_read_5 : decode cX6_read 5 = .ok (.aload_n 0, 1) := by decide +kernel
theorem dX6_read_6 : decode cX6_read 6 = .ok (.iconst 0, 1) := by decide +kernel
theorem dX6_read_7 : decode cX6_read 7 = .ok (.putfield 23, 3) := by decide +kernel
theorem dX6_read_10 : decode cX6_read 10 = .ok (.aload_n 0, 1) := by decide +kernel
theorem dX6_read_11 : decode cX6_read 11 = .ok (.iconst (-1), 1) := by decide +kernel
theorem dX6_read_12 : decode cX6_read 12 = .ok (.putfield 26, 3) := by decide +kernel
theorem dX6_read_15 : decode cX6_read 15 = .ok (.aload_n 0, 1) := by decide +kernel
theorem dX6_read_16 : decode cX6_read 16 = .ok (.invokevirtual 29, 3) := by decide +kernel
theorem dX6_read_19 : decode cX6_read 19 = .ok (.aload_n 0, 1) := by decide +kernel
theorem dX6_read_20 : decode cX6_read 20 = .ok (.getfield 23, 3) := by decide +kernel
theorem dX6_read_23 : decode cX6_read 23 = .ok (.aload_n 0, 1) := by decide +kernel
theorem dX6_read_24 : decode cX6_read 24 = .ok (.getfield 16, 3) := by decide +kernel
theorem dX6_read_27 : decode cX6_read 27 = .ok (.if_icmp .ge 34, 3) := by decide +kernel
theorem dX6_read_30 : decode cX6_read 30 = .ok (.aload_n 0, 1) := by decide +kernel
theorem dX6_read_31 : decode cX6_read 31 = .ok (.getfield 9, 3) := by decide +kernel
theorem dX6_read_34 : decode cX6_read 34 = .ok (.aload_n 0, 1) := by decide +kernel
theorem dX6_read_35 : decode cX6_read 35 = .ok (.getfield 23, 3) := by decide +kernel
theorem dX6_read_38 : decode cX6_read 38 = .ok (.iaload, 1) := by decide +kernel
theorem dX6_read_39 : decode cX6_read 39 = .ok (.bipush 59, 2) := by decide +kernel
theorem dX6_read_41 : decode cX6_read 41 = .ok (.if_icmp .ne 20, 3) := by decide +kernel
theorem dX6_read_44 : decode cX6_read 44 = .ok (.aload_n 0, 1) := by decide +kernel
theorem dX6_read_45 : decode cX6_read 45 = .ok (.dup, 1) := by decide +kernel
theorem dX6_read_46 : decode cX6_read 46 = .ok (.getfield 23, 3) := by decide +kernel
theorem dX6_read_49 : decode cX6_read 49 = .ok (.iconst 1, 1) := by decide +kernel
theorem dX6_read_50 : decode cX6_read 50 = .ok (.iadd, 1) := by decide +kernel
theorem dX6_read_51 : decode cX6_read 51 = .ok (.putfield 23, 3) := by decide +kernel
theorem dX6_read_54 : decode cX6_read 54 = .ok (.aload_n 0, 1) := by decide +kernel
theorem dX6_read_55 : decode cX6_read 55 = .ok (.invokevirtual 29, 3) := by decide +kernel
theorem dX6_read_58 : decode cX6_read 58 = .ok (.goto (-39), 3) := by decide +kernel
theorem dX6_read_61 : decode cX6_read 61 = .ok (.aload_n 0, 1) := by decide +kernel
theorem dX6_read_62 : decode cX6_read 62 = .ok (.getfield 23, 3) := by decide +kernel
theorem dX6_read_65 : decode cX6_read 65 = .ok (.aload_n 0, 1) := by decide +kernel
theorem dX6_read_66 : decode cX6_read 66 = .ok (.getfield 16, 3) := by decide +kernel
theorem dX6_read_69 : decode cX6_read 69 = .ok (.if_icmp .ge 7, 3) := by decide +kernel
theorem dX6_read_72 : decode cX6_read 72 = .ok (.aload_n 0, 1) := by decide +kernel
theorem dX6_read_73 : decode cX6_read 73 = .ok (.invokevirtual 32, 3) := by decide +kernel
theorem dX6_read_76 : decode cX6_read 76 = .ok (.aload_n 0, 1) := by decide +kernel
theorem dX6_read_77 : decode cX6_read 77 = .ok (.iconst 0, 1) := by decide +kernel
theorem dX6_read_78 : decode cX6_read 78 = .ok (.putfield 16, 3) := by decide +kernel
theorem dX6_read_81 : decode cX6_read 81 = .ok (.aload_n 0, 1) := by decide +kernel
theorem dX6_read_82 : decode cX6_read 82 = .ok (.getfield 26, 3) := by decide +kernel
theorem dX6_read_85 : decode cX6_read 85 = .ok (.ireturn, 1) := by decide +kernel
theorem dX6_codeRead_0 : decode cX6_codeRead 0 = .ok (.aload_n 0, 1) := by decide +kernel
theorem dX6_codeRead_1 : decode cX6_codeRead 1 = .ok (.getfield 13, 3) := by decide +kernel
theorem dX6_codeRead_4 : decode cX6_codeRead 4 = .ok (.aload_n 0, 1) := by decide +kernel
theorem dX6_codeRead_5 : decode cX6_codeRead 5 = .ok (.getfield 20, 3) := by decide +kernel
theorem dX6_codeRead_8 : decode cX6_codeRead 8 = .ok (.invokestatic 35, 3) := by decide +kernel
theorem dX6_codeRead_11 : decode cX6_codeRead 11 = .ok (.areturn, 1) := by decide +kernel
theorem dX6_fail_0 : decode cX6_fail 0 = .ok (.aload_n 0, 1) := by decide +kernel
theorem dX6_fail_1 : decode cX6_fail 1 = .ok (.getfield 26, 3) := by decide +kernel
theorem dX6_fail_4 : decode cX6_fail 4 = .ok (.ifCond .ge 11, 3) := by decide +kernel
theorem dX6_fail_7 : decode cX6_fail 7 = .ok (.aload_n 0, 1) := by decide +kernel
theorem dX6_fail_8 : decode cX6_fail 8 = .ok (.aload_n 0, 1) := by decide +kernel
theorem dX6_fail_9 : decode cX6_fail 9 = .ok (.getfield 23, 3) := by decide +kernel
theorem dX6_fail_12 : decode cX6_fail 12 = .ok (.putfield 26, 3) := by decide +kernel
theorem dX6_fail_15 : decode cX6_fail 15 = .ok (.aload_n 0, 1) := by decide +kernel
theorem dX6_fail_16 : decode cX6_fail 16 = .ok (.aload_n 0, 1) := by decide +kernel
theorem dX6_fail_17 : decode cX6_fail 17 = .ok (.getfield 16, 3) := by decide +kernel
theorem dX6_fail_20 : decode cX6_fail 20 = .ok (.putfield 23, 3) := by decide +kernel
theorem dX6_fail_23 : decode cX6_fail 23 = .ok (.return_, 1) := by decide +kernel
theorem dX6_next_0 : decode cX6_next 0 = .ok (.aload_n 0, 1) := by decide +kernel
theorem dX6_next_1 : decode cX6_next 1 = .ok (.getfield 23, 3) := by decide +kernel
theorem dX6_next_4 : decode cX6_next 4 = .ok (.aload_n 0, 1) := by decide +kernel
theorem dX6_next_5 : decode cX6_next 5 = .ok (.getfield 16, 3) := by decide +kernel
theorem dX6_next_8 : decode cX6_next 8 = .ok (.if_icmp .ge 24, 3) := by decide +kernel
theorem dX6_next_11 : decode cX6_next 11 = .ok (.aload_n 0, 1) := by decide +kernel
theorem dX6_next_12 : decode cX6_next 12 = .ok (.getfield 23, 3) := by decide +kernel
theorem dX6_next_15 : decode cX6_next 15 = .ok (.bipush 120, 2) := by decide +kernel
theorem dX6_next_17 : decode cX6_next 17 = .ok (.if_icmp .ge 15, 3) := by decide +kernel
theorem dX6_next_20 : decode cX6_next 20 = .ok (.aload_n 0, 1) := by decide +kernel
theorem dX6_next_21 : decode cX6_next 21 = .ok (.getfield 9, 3) := by decide +kernel
theorem dX6_next_24 : decode cX6_next 24 = .ok (.aload_n 0, 1) := by decide +kernel
theorem dX6_next_25 : decode cX6_next 25 = .ok (.getfield 23, 3) := by decide +kernel
theorem dX6_next_28 : decode cX6_next 28 = .ok (.iaload, 1) := by decide +kernel
theorem dX6_next_29 : decode cX6_next 29 = .ok (.goto 4, 3) := by decide +kernel
theorem dX6_next_32 : decode cX6_next 32 = .ok (.iconst (-1), 1) := by decide +kernel
theorem dX6_next_33 : decode cX6_next 33 = .ok (.ireturn, 1) := by decide +kernel
theorem dX6_mark_0 : decode cX6_mark 0 = .ok (.aload_n 0, 1) := by decide +kernel
theorem dX6_mark_1 : decode cX6_mark 1 = .ok (.getfield 20, 3) := by decide +kernel
theorem dX6_mark_4 : decode cX6_mark 4 = .ok (.bipush 121, 2) := by decide +kernel
theorem dX6_mark_6 : decode cX6_mark 6 = .ok (.if_icmp .ge 28, 3) := by decide +kernel
theorem dX6_mark_9 : decode cX6_mark 9 = .ok (.aload_n 0, 1) := by decide +kernel
theorem dX6_mark_10 : decode cX6_mark 10 = .ok (.getfield 13, 3) := by decide +kernel
theorem dX6_mark_13 : decode cX6_mark 13 = .ok (.aload_n 0, 1) := by decide +kernel
theorem dX6_mark_14 : decode cX6_mark 14 = .ok (.getfield 20, 3) := by decide +kernel
theorem dX6_mark_17 : decode cX6_mark 17 = .ok (.iload_n 1, 1) := by decide +kernel
theorem dX6_mark_18 : decode cX6_mark 18 = .ok (.iload_n 2, 1) := by decide +kernel
theorem dX6_mark_19 : decode cX6_mark 19 = .ok (.bipush 8, 2) := by decide +kernel
theorem dX6_mark_21 : decode cX6_mark 21 = .ok (.ishl, 1) := by decide +kernel
theorem dX6_mark_22 : decode cX6_mark 22 = .ok (.ior, 1) := by decide +kernel
theorem dX6_mark_23 : decode cX6_mark 23 = .ok (.iastore, 1) := by decide +kernel
theorem dX6_mark_24 : decode cX6_mark 24 = .ok (.aload_n 0, 1) := by decide +kernel
theorem dX6_mark_25 : decode cX6_mark 25 = .ok (.dup, 1) := by decide +kernel
theorem dX6_mark_26 : decode cX6_mark 26 = .ok (.getfield 20, 3) := by decide +kernel
theorem dX6_mark_29 : decode cX6_mark 29 = .ok (.iconst 1, 1) := by decide +kernel
theorem dX6_mark_30 : decode cX6_mark 30 = .ok (.iadd, 1) := by decide +kernel
theorem dX6_mark_31 : decode cX6_mark 31 = .ok (.putfield 20, 3) := by decide +kernel
theorem dX6_mark_34 : decode cX6_mark 34 = .ok (.return_, 1) := by decide +kernel
theorem dX6_readLine_0 : decode cX6_readLine 0 = .ok (.aload_n 0, 1) := by decide +kernel
theorem dX6_readLine_1 : decode cX6_readLine 1 = .ok (.iconst 0, 1) := by decide +kernel
theorem dX6_readLine_2 : decode cX6_readLine 2 = .ok (.invokevirtual 41, 3) := by decide +kernel
theorem dX6_readLine_5 : decode cX6_readLine 5 = .ok (.aload_n 0, 1) := by decide +kernel
theorem dX6_readLine_6 : decode cX6_readLine 6 = .ok (.invokevirtual 45, 3) := by decide +kernel
theorem dX6_readLine_9 : decode cX6_readLine 9 = .ok (.bipush 63, 2) := by decide +kernel
theorem dX6_readLine_11 : decode cX6_readLine 11 = .ok (.if_icmp .eq 10, 3) := by decide +kernel
theorem dX6_readLine_14 : decode cX6_readLine 14 = .ok (.aload_n 0, 1) := by decide +kernel
theorem dX6_readLine_15 : decode cX6_readLine 15 = .ok (.iconst 5, 1) := by decide +kernel
theorem dX6_readLine_16 : decode cX6_readLine 16 = .ok (.iconst 0, 1) := by decide +kernel
theorem dX6_readLine_17 : decode cX6_readLine 17 = .ok (.invokevirtual 51, 3) := by decide +kernel
theorem dX6_readLine_20 : decode cX6_readLine 20 = .ok (.return_, 1) := by decide +kernel
theorem dX6_readLine_21 : decode cX6_readLine 21 = .ok (.aload_n 0, 1) := by decide +kernel
theorem dX6_readLine_22 : decode cX6_readLine 22 = .ok (.dup, 1) := by decide +kernel
theorem dX6_readLine_23 : decode cX6_readLine 23 = .ok (.getfield 23, 3) := by decide +kernel
theorem dX6_readLine_26 : decode cX6_readLine 26 = .ok (.iconst 1, 1) := by decide +kernel
theorem dX6_readLine_27 : decode cX6_readLine 27 = .ok (.iadd, 1) := by decide +kernel
theorem dX6_readLine_28 : decode cX6_readLine 28 = .ok (.putfield 23, 3) := by decide +kernel
theorem dX6_readLine_31 : decode cX6_readLine 31 = .ok (.aload_n 0, 1) := by decide +kernel
theorem dX6_readLine_32 : decode cX6_readLine 32 = .ok (.getfield 20, 3) := by decide +kernel
theorem dX6_readLine_35 : decode cX6_readLine 35 = .ok (.istore_n 1, 1) := by decide +kernel
theorem dX6_readLine_36 : decode cX6_readLine 36 = .ok (.aload_n 0, 1) := by decide +kernel
theorem dX6_readLine_37 : decode cX6_readLine 37 = .ok (.iconst 4, 1) := by decide +kernel
theorem dX6_readLine_38 : decode cX6_readLine 38 = .ok (.iconst 0, 1) := by decide +kernel
theorem dX6_readLine_39 : decode cX6_readLine 39 = .ok (.invokevirtual 51, 3) := by decide +kernel
theorem dX6_readLine_42 : decode cX6_readLine 42 = .ok (.aload_n 0, 1) := by decide +kernel
theorem dX6_readLine_43 : decode cX6_readLine 43 = .ok (.iconst 0, 1) := by decide +kernel
theorem dX6_readLine_44 : decode cX6_readLine 44 = .ok (.invokevirtual 41, 3) := by decide +kernel
theorem dX6_readLine_47 : decode cX6_readLine 47 = .ok (.aload_n 0, 1) := by decide +kernel
theorem dX6_readLine_48 : decode cX6_readLine 48 = .ok (.iconst 5, 1) := by decide +kernel
theorem dX6_readLine_49 : decode cX6_readLine 49 = .ok (.iconst 0, 1) := by decide +kernel
theorem dX6_readLine_50 : decode cX6_readLine 50 = .ok (.invokevirtual 51, 3) := by decide +kernel
theorem dX6_readLine_53 : decode cX6_readLine 53 = .ok (.iload_n 1, 1) := by decide +kernel
theorem dX6_readLine_54 : decode cX6_readLine 54 = .ok (.bipush 121, 2) := by decide +kernel
theorem dX6_readLine_56 : decode cX6_readLine 56 = .ok (.if_icmp .ge 18, 3) := by decide +kernel
theorem dX6_readLine_59 : decode cX6_readLine 59 = .ok (.aload_n 0, 1) := by decide +kernel
theorem dX6_readLine_60 : decode cX6_readLine 60 = .ok (.getfield 13, 3) := by decide +kernel
theorem dX6_readLine_63 : decode cX6_readLine 63 = .ok (.iload_n 1, 1) := by decide +kernel
theorem dX6_readLine_64 : decode cX6_readLine 64 = .ok (.iconst 4, 1) := by decide +kernel
theorem dX6_readLine_65 : decode cX6_readLine 65 = .ok (.aload_n 0, 1) := by decide +kernel
theorem dX6_readLine_66 : decode cX6_readLine 66 = .ok (.getfield 20, 3) := by decide +kernel
theorem dX6_readLine_69 : decode cX6_readLine 69 = .ok (.bipush 8, 2) := by decide +kernel
theorem dX6_readLine_71 : decode cX6_readLine 71 = .ok (.ishl, 1) := by decide +kernel
theorem dX6_readLine_72 : decode cX6_readLine 72 = .ok (.ior, 1) := by decide +kernel
theorem dX6_readLine_73 : decode cX6_readLine 73 = .ok (.iastore, 1) := by decide +kernel
theorem dX6_readLine_74 : decode cX6_readLine 74 = .ok (.return_, 1) := by decide +kernel
theorem dX6_readAny_0 : decode cX6_readAny 0 = .ok (.aload_n 0, 1) := by decide +kernel
theorem dX6_readAny_1 : decode cX6_readAny 1 = .ok (.iload_n 1, 1) := by decide +kernel
theorem dX6_readAny_2 : decode cX6_readAny 2 = .ok (.invokevirtual 55, 3) := by decide +kernel
theorem dX6_readAny_5 : decode cX6_readAny 5 = .ok (.aload_n 0, 1) := by decide +kernel
theorem dX6_readAny_6 : decode cX6_readAny 6 = .ok (.getfield 23, 3) := by decide +kernel
theorem dX6_readAny_9 : decode cX6_readAny 9 = .ok (.aload_n 0, 1) := by decide +kernel
theorem dX6_readAny_10 : decode cX6_readAny 10 = .ok (.getfield 16, 3) := by decide +kernel
theorem dX6_readAny_13 : decode cX6_readAny 13 = .ok (.if_icmp .ge 42, 3) := by decide +kernel
theorem dX6_readAny_16 : decode cX6_readAny 16 = .ok (.aload_n 0, 1) := by decide +kernel
theorem dX6_readAny_17 : decode cX6_readAny 17 = .ok (.getfield 9, 3) := by decide +kernel
theorem dX6_readAny_20 : decode cX6_readAny 20 = .ok (.aload_n 0, 1) := by decide +kernel
theorem dX6_readAny_21 : decode cX6_readAny 21 = .ok (.getfield 23, 3) := by decide +kernel
theorem dX6_readAny_24 : decode cX6_readAny 24 = .ok (.iaload, 1) := by decide +kernel
theorem dX6_readAny_25 : decode cX6_readAny 25 = .ok (.bipush 124, 2) := by decide +kernel
theorem dX6_readAny_27 : decode cX6_readAny 27 = .ok (.if_icmp .ne 28, 3) := by decide +kernel
theorem dX6_readAny_30 : decode cX6_readAny 30 = .ok (.aload_n 0, 1) := by decide +kernel
theorem dX6_readAny_31 : decode cX6_readAny 31 = .ok (.dup, 1) := by decide +kernel
theorem dX6_readAny_32 : decode cX6_readAny 32 = .ok (.getfield 23, 3) := by decide +kernel
theorem dX6_readAny_35 : decode cX6_readAny 35 = .ok (.iconst 1, 1) := by decide +kernel
theorem dX6_readAny_36 : decode cX6_readAny 36 = .ok (.iadd, 1) := by decide +kernel
theorem dX6_readAny_37 : decode cX6_readAny 37 = .ok (.putfield 23, 3) := by decide +kernel
theorem dX6_readAny_40 : decode cX6_readAny 40 = .ok (.aload_n 0, 1) := by decide +kernel
theorem dX6_readAny_41 : decode cX6_readAny 41 = .ok (.iload_n 1, 1) := by decide +kernel
theorem dX6_readAny_42 : decode cX6_readAny 42 = .ok (.invokevirtual 55, 3) := by decide +kernel
theorem dX6_readAny_45 : decode cX6_readAny 45 = .ok (.aload_n 0, 1) := by decide +kernel
theorem dX6_readAny_46 : decode cX6_readAny 46 = .ok (.bipush 6, 2) := by decide +kernel
theorem dX6_readAny_48 : decode cX6_readAny 48 = .ok (.iconst 0, 1) := by decide +kernel
theorem dX6_readAny_49 : decode cX6_readAny 49 = .ok (.invokevirtual 51, 3) := by decide +kernel
theorem dX6_readAny_52 : decode cX6_readAny 52 = .ok (.goto (-47), 3) := by decide +kernel
theorem dX6_readAny_55 : decode cX6_readAny 55 = .ok (.return_, 1) := by decide +kernel
theorem dX6_readAll_0 : decode cX6_readAll 0 = .ok (.aload_n 0, 1) := by decide +kernel
theorem dX6_readAll_1 : decode cX6_readAll 1 = .ok (.iload_n 1, 1) := by decide +kernel
theorem dX6_readAll_2 : decode cX6_readAll 2 = .ok (.invokevirtual 58, 3) := by decide +kernel
theorem dX6_readAll_5 : decode cX6_readAll 5 = .ok (.aload_n 0, 1) := by decide +kernel
theorem dX6_readAll_6 : decode cX6_readAll 6 = .ok (.getfield 23, 3) := by decide +kernel
theorem dX6_readAll_9 : decode cX6_readAll 9 = .ok (.aload_n 0, 1) := by decide +kernel
theorem dX6_readAll_10 : decode cX6_readAll 10 = .ok (.getfield 16, 3) := by decide +kernel
theorem dX6_readAll_13 : decode cX6_readAll 13 = .ok (.if_icmp .ge 42, 3) := by decide +kernel
theorem dX6_readAll_16 : decode cX6_readAll 16 = .ok (.aload_n 0, 1) := by decide +kernel
theorem dX6_readAll_17 : decode cX6_readAll 17 = .ok (.getfield 9, 3) := by decide +kernel
theorem dX6_readAll_20 : decode cX6_readAll 20 = .ok (.aload_n 0, 1) := by decide +kernel
theorem dX6_readAll_21 : decode cX6_readAll 21 = .ok (.getfield 23, 3) := by decide +kernel
theorem dX6_readAll_24 : decode cX6_readAll 24 = .ok (.iaload, 1) := by decide +kernel
theorem dX6_readAll_25 : decode cX6_readAll 25 = .ok (.bipush 38, 2) := by decide +kernel
theorem dX6_readAll_27 : decode cX6_readAll 27 = .ok (.if_icmp .ne 28, 3) := by decide +kernel
theorem dX6_readAll_30 : decode cX6_readAll 30 = .ok (.aload_n 0, 1) := by decide +kernel
theorem dX6_readAll_31 : decode cX6_readAll 31 = .ok (.dup, 1) := by decide +kernel
theorem dX6_readAll_32 : decode cX6_readAll 32 = .ok (.getfield 23, 3) := by decide +kernel
theorem dX6_readAll_35 : decode cX6_readAll 35 = .ok (.iconst 1, 1) := by decide +kernel
theorem dX6_readAll_36 : decode cX6_readAll 36 = .ok (.iadd, 1) := by decide +kernel
theorem dX6_readAll_37 : decode cX6_readAll 37 = .ok (.putfield 23, 3) := by decide +kernel
theorem dX6_readAll_40 : decode cX6_readAll 40 = .ok (.aload_n 0, 1) := by decide +kernel
theorem dX6_readAll_41 : decode cX6_readAll 41 = .ok (.iload_n 1, 1) := by decide +kernel
theorem dX6_readAll_42 : decode cX6_readAll 42 = .ok (.invokevirtual 58, 3) := by decide +kernel
theorem dX6_readAll_45 : decode cX6_readAll 45 = .ok (.aload_n 0, 1) := by decide +kernel
theorem dX6_readAll_46 : decode cX6_readAll 46 = .ok (.bipush 7, 2) := by decide +kernel
theorem dX6_readAll_48 : decode cX6_readAll 48 = .ok (.iconst 0, 1) := by decide +kernel
theorem dX6_readAll_49 : decode cX6_readAll 49 = .ok (.invokevirtual 51, 3) := by decide +kernel
theorem dX6_readAll_52 : decode cX6_readAll 52 = .ok (.goto (-47), 3) := by decide +kernel
theorem dX6_readAll_55 : decode cX6_readAll 55 = .ok (.return_, 1) := by decide +kernel
theorem dX6_readCompared_0 : decode cX6_readCompared 0 = .ok (.aload_n 0, 1) := by decide +kernel
theorem dX6_readCompared_1 : decode cX6_readCompared 1 = .ok (.iload_n 1, 1) := by decide +kernel
theorem dX6_readCompared_2 : decode cX6_readCompared 2 = .ok (.invokevirtual 61, 3) := by decide +kernel
theorem dX6_readCompared_5 : decode cX6_readCompared 5 = .ok (.aload_n 0, 1) := by decide +kernel
theorem dX6_readCompared_6 : decode cX6_readCompared 6 = .ok (.invokevirtual 45, 3) := by decide +kernel
theorem dX6_readCompared_9 : decode cX6_readCompared 9 = .ok (.istore_n 2, 1) := by decide +kernel
theorem dX6_readCompared_10 : decode cX6_readCompared 10 = .ok (.iload_n 2, 1) := by decide +kernel
theorem dX6_readCompared_11 : decode cX6_readCompared 11 = .ok (.bipush 60, 2) := by decide +kernel
theorem dX6_readCompared_13 : decode cX6_readCompared 13 = .ok (.if_icmp .eq 15, 3) := by decide +kernel
theorem dX6_readCompared_16 : decode cX6_readCompared 16 = .ok (.iload_n 2, 1) := by decide +kernel
theorem dX6_readCompared_17 : decode cX6_readCompared 17 = .ok (.bipush 61, 2) := by decide +kernel
theorem dX6_readCompared_19 : decode cX6_readCompared 19 = .ok (.if_icmp .eq 9, 3) := by decide +kernel
theorem dX6_readCompared_22 : decode cX6_readCompared 22 = .ok (.iload_n 2, 1) := by decide +kernel
theorem dX6_readCompared_23 : decode cX6_readCompared 23 = .ok (.bipush 62, 2) := by decide +kernel
theorem dX6_readCompared_25 : decode cX6_readCompared 25 = .ok (.if_icmp .ne 47, 3) := by decide +kernel
theorem dX6_readCompared_28 : decode cX6_readCompared 28 = .ok (.aload_n 0, 1) := by decide +kernel
theorem dX6_readCompared_29 : decode cX6_readCompared 29 = .ok (.dup, 1) := by decide +kernel
theorem dX6_readCompared_30 : decode cX6_readCompared 30 = .ok (.getfield 23, 3) := by decide +kernel
theorem dX6_readCompared_33 : decode cX6_readCompared 33 = .ok (.iconst 1, 1) := by decide +kernel
theorem dX6_readCompared_34 : decode cX6_readCompared 34 = .ok (.iadd, 1) := by decide +kernel
theorem dX6_readCompared_35 : decode cX6_readCompared 35 = .ok (.putfield 23, 3) := by decide +kernel
theorem dX6_readCompared_38 : decode cX6_readCompared 38 = .ok (.aload_n 0, 1) := by decide +kernel
theorem dX6_readCompared_39 : decode cX6_readCompared 39 = .ok (.iload_n 1, 1) := by decide +kernel
theorem dX6_readCompared_40 : decode cX6_readCompared 40 = .ok (.invokevirtual 61, 3) := by decide +kernel
theorem dX6_readCompared_43 : decode cX6_readCompared 43 = .ok (.aload_n 0, 1) := by decide +kernel
theorem dX6_readCompared_44 : decode cX6_readCompared 44 = .ok (.iload_n 2, 1) := by decide +kernel
theorem dX6_readCompared_45 : decode cX6_readCompared 45 = .ok (.bipush 60, 2) := by decide +kernel
theorem dX6_readCompared_47 : decode cX6_readCompared 47 = .ok (.if_icmp .ne 8, 3) := by decide +kernel
theorem dX6_readCompared_50 : decode cX6_readCompared 50 = .ok (.bipush 8, 2) := by decide +kernel
theorem dX6_readCompared_52 : decode cX6_readCompared 52 = .ok (.goto 16, 3) := by decide +kernel
theorem dX6_readCompared_55 : decode cX6_readCompared 55 = .ok (.iload_n 2, 1) := by decide +kernel
theorem dX6_readCompared_56 : decode cX6_readCompared 56 = .ok (.bipush 61, 2) := by decide +kernel
theorem dX6_readCompared_58 : decode cX6_readCompared 58 = .ok (.if_icmp .ne 8, 3) := by decide +kernel
theorem dX6_readCompared_61 : decode cX6_readCompared 61 = .ok (.bipush 9, 2) := by decide +kernel
theorem dX6_readCompared_63 : decode cX6_readCompared 63 = .ok (.goto 5, 3) := by decide +kernel
theorem dX6_readCompared_66 : decode cX6_readCompared 66 = .ok (.bipush 10, 2) := by decide +kernel
theorem dX6_readCompared_68 : decode cX6_readCompared 68 = .ok (.iconst 0, 1) := by decide +kernel
theorem dX6_readCompared_69 : decode cX6_readCompared 69 = .ok (.invokevirtual 51, 3) := by decide +kernel
theorem dX6_readCompared_72 : decode cX6_readCompared 72 = .ok (.return_, 1) := by decide +kernel
theorem dX6_readSum_0 : decode cX6_readSum 0 = .ok (.aload_n 0, 1) := by decide +kernel
theorem dX6_readSum_1 : decode cX6_readSum 1 = .ok (.iload_n 1, 1) := by decide +kernel
theorem dX6_readSum_2 : decode cX6_readSum 2 = .ok (.invokevirtual 64, 3) := by decide +kernel
theorem dX6_readSum_5 : decode cX6_readSum 5 = .ok (.aload_n 0, 1) := by decide +kernel
theorem dX6_readSum_6 : decode cX6_readSum 6 = .ok (.getfield 23, 3) := by decide +kernel
theorem dX6_readSum_9 : decode cX6_readSum 9 = .ok (.aload_n 0, 1) := by decide +kernel
theorem dX6_readSum_10 : decode cX6_readSum 10 = .ok (.getfield 16, 3) := by decide +kernel
theorem dX6_readSum_13 : decode cX6_readSum 13 = .ok (.if_icmp .ge 77, 3) := by decide +kernel
theorem dX6_readSum_16 : decode cX6_readSum 16 = .ok (.aload_n 0, 1) := by decide +kernel
theorem dX6_readSum_17 : decode cX6_readSum 17 = .ok (.getfield 9, 3) := by decide +kernel
theorem dX6_readSum_20 : decode cX6_readSum 20 = .ok (.aload_n 0, 1) := by decide +kernel
theorem dX6_readSum_21 : decode cX6_readSum 21 = .ok (.getfield 23, 3) := by decide +kernel
theorem dX6_readSum_24 : decode cX6_readSum 24 = .ok (.iaload, 1) := by decide +kernel
theorem dX6_readSum_25 : decode cX6_readSum 25 = .ok (.bipush 43, 2) := by decide +kernel
theorem dX6_readSum_27 : decode cX6_readSum 27 = .ok (.if_icmp .eq 17, 3) := by decide +kernel
theorem dX6_readSum_30 : decode cX6_readSum 30 = .ok (.aload_n 0, 1) := by decide +kernel
theorem dX6_readSum_31 : decode cX6_readSum 31 = .ok (.getfield 9, 3) := by decide +kernel
theorem dX6_readSum_34 : decode cX6_readSum 34 = .ok (.aload_n 0, 1) := by decide +kernel
theorem dX6_readSum_35 : decode cX6_readSum 35 = .ok (.getfield 23, 3) := by decide +kernel
theorem dX6_readSum_38 : decode cX6_readSum 38 = .ok (.iaload, 1) := by decide +kernel
theorem dX6_readSum_39 : decode cX6_readSum 39 = .ok (.bipush 45, 2) := by decide +kernel
theorem dX6_readSum_41 : decode cX6_readSum 41 = .ok (.if_icmp .ne 49, 3) := by decide +kernel
theorem dX6_readSum_44 : decode cX6_readSum 44 = .ok (.aload_n 0, 1) := by decide +kernel
theorem dX6_readSum_45 : decode cX6_readSum 45 = .ok (.getfield 9, 3) := by decide +kernel
theorem dX6_readSum_48 : decode cX6_readSum 48 = .ok (.aload_n 0, 1) := by decide +kernel
theorem dX6_readSum_49 : decode cX6_readSum 49 = .ok (.getfield 23, 3) := by decide +kernel
theorem dX6_readSum_52 : decode cX6_readSum 52 = .ok (.iaload, 1) := by decide +kernel
theorem dX6_readSum_53 : decode cX6_readSum 53 = .ok (.istore_n 2, 1) := by decide +kernel
theorem dX6_readSum_54 : decode cX6_readSum 54 = .ok (.aload_n 0, 1) := by decide +kernel
theorem dX6_readSum_55 : decode cX6_readSum 55 = .ok (.dup, 1) := by decide +kernel
theorem dX6_readSum_56 : decode cX6_readSum 56 = .ok (.getfield 23, 3) := by decide +kernel
theorem dX6_readSum_59 : decode cX6_readSum 59 = .ok (.iconst 1, 1) := by decide +kernel
theorem dX6_readSum_60 : decode cX6_readSum 60 = .ok (.iadd, 1) := by decide +kernel
theorem dX6_readSum_61 : decode cX6_readSum 61 = .ok (.putfield 23, 3) := by decide +kernel
theorem dX6_readSum_64 : decode cX6_readSum 64 = .ok (.aload_n 0, 1) := by decide +kernel
theorem dX6_readSum_65 : decode cX6_readSum 65 = .ok (.iload_n 1, 1) := by decide +kernel
theorem dX6_readSum_66 : decode cX6_readSum 66 = .ok (.invokevirtual 64, 3) := by decide +kernel
theorem dX6_readSum_69 : decode cX6_readSum 69 = .ok (.aload_n 0, 1) := by decide +kernel
theorem dX6_readSum_70 : decode cX6_readSum 70 = .ok (.iload_n 2, 1) := by decide +kernel
theorem dX6_readSum_71 : decode cX6_readSum 71 = .ok (.bipush 43, 2) := by decide +kernel
theorem dX6_readSum_73 : decode cX6_readSum 73 = .ok (.if_icmp .ne 8, 3) := by decide +kernel
theorem dX6_readSum_76 : decode cX6_readSum 76 = .ok (.bipush 11, 2) := by decide +kernel
theorem dX6_readSum_78 : decode cX6_readSum 78 = .ok (.goto 5, 3) := by decide +kernel
theorem dX6_readSum_81 : decode cX6_readSum 81 = .ok (.bipush 12, 2) := by decide +kernel
theorem dX6_readSum_83 : decode cX6_readSum 83 = .ok (.iconst 0, 1) := by decide +kernel
theorem dX6_readSum_84 : decode cX6_readSum 84 = .ok (.invokevirtual 51, 3) := by decide +kernel
theorem dX6_readSum_87 : decode cX6_readSum 87 = .ok (.goto (-82), 3) := by decide +kernel
theorem dX6_readSum_90 : decode cX6_readSum 90 = .ok (.return_, 1) := by decide +kernel
theorem dX6_readProduct_0 : decode cX6_readProduct 0 = .ok (.aload_n 0, 1) := by decide +kernel
theorem dX6_readProduct_1 : decode cX6_readProduct 1 = .ok (.iload_n 1, 1) := by decide +kernel
theorem dX6_readProduct_2 : decode cX6_readProduct 2 = .ok (.invokevirtual 67, 3) := by decide +kernel
theorem dX6_readProduct_5 : decode cX6_readProduct 5 = .ok (.aload_n 0, 1) := by decide +kernel
theorem dX6_readProduct_6 : decode cX6_readProduct 6 = .ok (.getfield 23, 3) := by decide +kernel
theorem dX6_readProduct_9 : decode cX6_readProduct 9 = .ok (.aload_n 0, 1) := by decide +kernel
theorem dX6_readProduct_10 : decode cX6_readProduct 10 = .ok (.getfield 16, 3) := by decide +kernel
theorem dX6_readProduct_13 : decode cX6_readProduct 13 = .ok (.if_icmp .ge 102, 3) := by decide +kernel
theorem dX6_readProduct_16 : decode cX6_readProduct 16 = .ok (.aload_n 0, 1) := by decide +kernel
theorem dX6_readProduct_17 : decode cX6_readProduct 17 = .ok (.getfield 9, 3) := by decide +kernel
theorem dX6_readProduct_20 : decode cX6_readProduct 20 = .ok (.aload_n 0, 1) := by decide +kernel
theorem dX6_readProduct_21 : decode cX6_readProduct 21 = .ok (.getfield 23, 3) := by decide +kernel
theorem dX6_readProduct_24 : decode cX6_readProduct 24 = .ok (.iaload, 1) := by decide +kernel
theorem dX6_readProduct_25 : decode cX6_readProduct 25 = .ok (.bipush 42, 2) := by decide +kernel
theorem dX6_readProduct_27 : decode cX6_readProduct 27 = .ok (.if_icmp .eq 31, 3) := by decide +kernel
theorem dX6_readProduct_30 : decode cX6_readProduct 30 = .ok (.aload_n 0, 1) := by decide +kernel
theorem dX6_readProduct_31 : decode cX6_readProduct 31 = .ok (.getfield 9, 3) := by decide +kernel
theorem dX6_readProduct_34 : decode cX6_readProduct 34 = .ok (.aload_n 0, 1) := by decide +kernel
theorem dX6_readProduct_35 : decode cX6_readProduct 35 = .ok (.getfield 23, 3) := by decide +kernel
theorem dX6_readProduct_38 : decode cX6_readProduct 38 = .ok (.iaload, 1) := by decide +kernel
theorem dX6_readProduct_39 : decode cX6_readProduct 39 = .ok (.bipush 47, 2) := by decide +kernel
theorem dX6_readProduct_41 : decode cX6_readProduct 41 = .ok (.if_icmp .eq 17, 3) := by decide +kernel
theorem dX6_readProduct_44 : decode cX6_readProduct 44 = .ok (.aload_n 0, 1) := by decide +kernel
theorem dX6_readProduct_45 : decode cX6_readProduct 45 = .ok (.getfield 9, 3) := by decide +kernel
theorem dX6_readProduct_48 : decode cX6_readProduct 48 = .ok (.aload_n 0, 1) := by decide +kernel
theorem dX6_readProduct_49 : decode cX6_readProduct 49 = .ok (.getfield 23, 3) := by decide +kernel
theorem dX6_readProduct_52 : decode cX6_readProduct 52 = .ok (.iaload, 1) := by decide +kernel
theorem dX6_readProduct_53 : decode cX6_readProduct 53 = .ok (.bipush 37, 2) := by decide +kernel
theorem dX6_readProduct_55 : decode cX6_readProduct 55 = .ok (.if_icmp .ne 60, 3) := by decide +kernel
theorem dX6_readProduct_58 : decode cX6_readProduct 58 = .ok (.aload_n 0, 1) := by decide +kernel
theorem dX6_readProduct_59 : decode cX6_readProduct 59 = .ok (.getfield 9, 3) := by decide +kernel
theorem dX6_readProduct_62 : decode cX6_readProduct 62 = .ok (.aload_n 0, 1) := by decide +kernel
theorem dX6_readProduct_63 : decode cX6_readProduct 63 = .ok (.getfield 23, 3) := by decide +kernel
theorem dX6_readProduct_66 : decode cX6_readProduct 66 = .ok (.iaload, 1) := by decide +kernel
theorem dX6_readProduct_67 : decode cX6_readProduct 67 = .ok (.istore_n 2, 1) := by decide +kernel
theorem dX6_readProduct_68 : decode cX6_readProduct 68 = .ok (.aload_n 0, 1) := by decide +kernel
theorem dX6_readProduct_69 : decode cX6_readProduct 69 = .ok (.dup, 1) := by decide +kernel
theorem dX6_readProduct_70 : decode cX6_readProduct 70 = .ok (.getfield 23, 3) := by decide +kernel
theorem dX6_readProduct_73 : decode cX6_readProduct 73 = .ok (.iconst 1, 1) := by decide +kernel
theorem dX6_readProduct_74 : decode cX6_readProduct 74 = .ok (.iadd, 1) := by decide +kernel
theorem dX6_readProduct_75 : decode cX6_readProduct 75 = .ok (.putfield 23, 3) := by decide +kernel
theorem dX6_readProduct_78 : decode cX6_readProduct 78 = .ok (.aload_n 0, 1) := by decide +kernel
theorem dX6_readProduct_79 : decode cX6_readProduct 79 = .ok (.iload_n 1, 1) := by decide +kernel
theorem dX6_readProduct_80 : decode cX6_readProduct 80 = .ok (.invokevirtual 67, 3) := by decide +kernel
theorem dX6_readProduct_83 : decode cX6_readProduct 83 = .ok (.aload_n 0, 1) := by decide +kernel
theorem dX6_readProduct_84 : decode cX6_readProduct 84 = .ok (.iload_n 2, 1) := by decide +kernel
theorem dX6_readProduct_85 : decode cX6_readProduct 85 = .ok (.bipush 42, 2) := by decide +kernel
theorem dX6_readProduct_87 : decode cX6_readProduct 87 = .ok (.if_icmp .ne 8, 3) := by decide +kernel
theorem dX6_readProduct_90 : decode cX6_readProduct 90 = .ok (.bipush 13, 2) := by decide +kernel
theorem dX6_readProduct_92 : decode cX6_readProduct 92 = .ok (.goto 16, 3) := by decide +kernel
theorem dX6_readProduct_95 : decode cX6_readProduct 95 = .ok (.iload_n 2, 1) := by decide +kernel
theorem dX6_readProduct_96 : decode cX6_readProduct 96 = .ok (.bipush 47, 2) := by decide +kernel
theorem dX6_readProduct_98 : decode cX6_readProduct 98 = .ok (.if_icmp .ne 8, 3) := by decide +kernel
theorem dX6_readProduct_101 : decode cX6_readProduct 101 = .ok (.bipush 14, 2) := by decide +kernel
theorem dX6_readProduct_103 : decode cX6_readProduct 103 = .ok (.goto 5, 3) := by decide +kernel
theorem dX6_readProduct_106 : decode cX6_readProduct 106 = .ok (.bipush 15, 2) := by decide +kernel
theorem dX6_readProduct_108 : decode cX6_readProduct 108 = .ok (.iconst 0, 1) := by decide +kernel
theorem dX6_readProduct_109 : decode cX6_readProduct 109 = .ok (.invokevirtual 51, 3) := by decide +kernel
theorem dX6_readProduct_112 : decode cX6_readProduct 112 = .ok (.goto (-107), 3) := by decide +kernel
theorem dX6_readProduct_115 : decode cX6_readProduct 115 = .ok (.return_, 1) := by decide +kernel
theorem dX6_readOne_0 : decode cX6_readOne 0 = .ok (.aload_n 0, 1) := by decide +kernel
theorem dX6_readOne_1 : decode cX6_readOne 1 = .ok (.invokevirtual 45, 3) := by decide +kernel
theorem dX6_readOne_4 : decode cX6_readOne 4 = .ok (.istore_n 2, 1) := by decide +kernel
theorem dX6_readOne_5 : decode cX6_readOne 5 = .ok (.iload_n 2, 1) := by decide +kernel
theorem dX6_readOne_6 : decode cX6_readOne 6 = .ok (.invokestatic 70, 3) := by decide +kernel
theorem dX6_readOne_9 : decode cX6_readOne 9 = .ok (.istore_n 3, 1) := by decide +kernel
theorem dX6_readOne_10 : decode cX6_readOne 10 = .ok (.iload_n 2, 1) := by decide +kernel
theorem dX6_readOne_11 : decode cX6_readOne 11 = .ok (.bipush 48, 2) := by decide +kernel
theorem dX6_readOne_13 : decode cX6_readOne 13 = .ok (.if_icmp .lt 16, 3) := by decide +kernel
theorem dX6_readOne_16 : decode cX6_readOne 16 = .ok (.iload_n 2, 1) := by decide +kernel
theorem dX6_readOne_17 : decode cX6_readOne 17 = .ok (.bipush 57, 2) := by decide +kernel
theorem dX6_readOne_19 : decode cX6_readOne 19 = .ok (.if_icmp .gt 10, 3) := by decide +kernel
theorem dX6_readOne_22 : decode cX6_readOne 22 = .ok (.aload_n 0, 1) := by decide +kernel
theorem dX6_readOne_23 : decode cX6_readOne 23 = .ok (.invokevirtual 74, 3) := by decide +kernel
theorem dX6_readOne_26 : decode cX6_readOne 26 = .ok (.goto 75, 3) := by decide +kernel
theorem dX6_readOne_29 : decode cX6_readOne 29 = .ok (.iload_n 3, 1) := by decide +kernel
theorem dX6_readOne_30 : decode cX6_readOne 30 = .ok (.ifCond .lt 22, 3) := by decide +kernel
theorem dX6_readOne_33 : decode cX6_readOne 33 = .ok (.aload_n 0, 1) := by decide +kernel
theorem dX6_readOne_34 : decode cX6_readOne 34 = .ok (.dup, 1) := by decide +kernel
theorem dX6_readOne_35 : decode cX6_readOne 35 = .ok (.getfield 23, 3) := by decide +kernel
theorem dX6_readOne_38 : decode cX6_readOne 38 = .ok (.iconst 1, 1) := by decide +kernel
theorem dX6_readOne_39 : decode cX6_readOne 39 = .ok (.iadd, 1) := by decide +kernel
theorem dX6_readOne_40 : decode cX6_readOne 40 = .ok (.putfield 23, 3) := by decide +kernel
theorem dX6_readOne_43 : decode cX6_readOne 43 = .ok (.aload_n 0, 1) := by decide +kernel
theorem dX6_readOne_44 : decode cX6_readOne 44 = .ok (.iconst 1, 1) := by decide +kernel
theorem dX6_readOne_45 : decode cX6_readOne 45 = .ok (.iload_n 3, 1) := by decide +kernel
theorem dX6_readOne_46 : decode cX6_readOne 46 = .ok (.invokevirtual 51, 3) := by decide +kernel
theorem dX6_readOne_49 : decode cX6_readOne 49 = .ok (.goto 52, 3) := by decide +kernel
theorem dX6_readOne_52 : decode cX6_readOne 52 = .ok (.iload_n 2, 1) := by decide +kernel
theorem dX6_readOne_53 : decode cX6_readOne 53 = .ok (.bipush 40, 2) := by decide +kernel
theorem dX6_readOne_55 : decode cX6_readOne 55 = .ok (.if_icmp .eq 15, 3) := by decide +kernel
theorem dX6_readOne_58 : decode cX6_readOne 58 = .ok (.iload_n 2, 1) := by decide +kernel
theorem dX6_readOne_59 : decode cX6_readOne 59 = .ok (.bipush 33, 2) := by decide +kernel
theorem dX6_readOne_61 : decode cX6_readOne 61 = .ok (.if_icmp .eq 9, 3) := by decide +kernel
theorem dX6_readOne_64 : decode cX6_readOne 64 = .ok (.iload_n 2, 1) := by decide +kernel
theorem dX6_readOne_65 : decode cX6_readOne 65 = .ok (.bipush 45, 2) := by decide +kernel
theorem dX6_readOne_67 : decode cX6_readOne 67 = .ok (.if_icmp .ne 30, 3) := by decide +kernel
theorem dX6_readOne_70 : decode cX6_readOne 70 = .ok (.iload_n 1, 1) := by decide +kernel
theorem dX6_readOne_71 : decode cX6_readOne 71 = .ok (.bipush 6, 2) := by decide +kernel
theorem dX6_readOne_73 : decode cX6_readOne 73 = .ok (.if_icmp .ge 24, 3) := by decide +kernel
theorem dX6_readOne_76 : decode cX6_readOne 76 = .ok (.aload_n 0, 1) := by decide +kernel
theorem dX6_readOne_77 : decode cX6_readOne 77 = .ok (.dup, 1) := by decide +kernel
theorem dX6_readOne_78 : decode cX6_readOne 78 = .ok (.getfield 23, 3) := by decide +kernel
theorem dX6_readOne_81 : decode cX6_readOne 81 = .ok (.iconst 1, 1) := by decide +kernel
theorem dX6_readOne_82 : decode cX6_readOne 82 = .ok (.iadd, 1) := by decide +kernel
theorem dX6_readOne_83 : decode cX6_readOne 83 = .ok (.putfield 23, 3) := by decide +kernel
theorem dX6_readOne_86 : decode cX6_readOne 86 = .ok (.aload_n 0, 1) := by decide +kernel
theorem dX6_readOne_87 : decode cX6_readOne 87 = .ok (.iload_n 2, 1) := by decide +kernel
theorem dX6_readOne_88 : decode cX6_readOne 88 = .ok (.iload_n 1, 1) := by decide +kernel
theorem dX6_readOne_89 : decode cX6_readOne 89 = .ok (.iconst 1, 1) := by decide +kernel
theorem dX6_readOne_90 : decode cX6_readOne 90 = .ok (.iadd, 1) := by decide +kernel
theorem dX6_readOne_91 : decode cX6_readOne 91 = .ok (.invokevirtual 77, 3) := by decide +kernel
theorem dX6_readOne_94 : decode cX6_readOne 94 = .ok (.goto 7, 3) := by decide +kernel
theorem dX6_readOne_97 : decode cX6_readOne 97 = .ok (.aload_n 0, 1) := by decide +kernel
theorem dX6_readOne_98 : decode cX6_readOne 98 = .ok (.invokevirtual 32, 3) := by decide +kernel
theorem dX6_readOne_101 : decode cX6_readOne 101 = .ok (.return_, 1) := by decide +kernel
theorem dX6_readNumber_0 : decode cX6_readNumber 0 = .ok (.iconst 0, 1) := by decide +kernel
theorem dX6_readNumber_1 : decode cX6_readNumber 1 = .ok (.istore_n 1, 1) := by decide +kernel
theorem dX6_readNumber_2 : decode cX6_readNumber 2 = .ok (.iconst 0, 1) := by decide +kernel
theorem dX6_readNumber_3 : decode cX6_readNumber 3 = .ok (.istore_n 2, 1) := by decide +kernel
theorem dX6_readNumber_4 : decode cX6_readNumber 4 = .ok (.iload_n 2, 1) := by decide +kernel
theorem dX6_readNumber_5 : decode cX6_readNumber 5 = .ok (.iconst 4, 1) := by decide +kernel
theorem dX6_readNumber_6 : decode cX6_readNumber 6 = .ok (.if_icmp .ge 50, 3) := by decide +kernel
theorem dX6_readNumber_9 : decode cX6_readNumber 9 = .ok (.aload_n 0, 1) := by decide +kernel
theorem dX6_readNumber_10 : decode cX6_readNumber 10 = .ok (.invokevirtual 45, 3) := by decide +kernel
theorem dX6_readNumber_13 : decode cX6_readNumber 13 = .ok (.bipush 48, 2) := by decide +kernel
theorem dX6_readNumber_15 : decode cX6_readNumber 15 = .ok (.if_icmp .lt 41, 3) := by decide +kernel
theorem dX6_readNumber_18 : decode cX6_readNumber 18 = .ok (.aload_n 0, 1) := by decide +kernel
theorem dX6_readNumber_19 : decode cX6_readNumber 19 = .ok (.invokevirtual 45, 3) := by decide +kernel
theorem dX6_readNumber_22 : decode cX6_readNumber 22 = .ok (.bipush 57, 2) := by decide +kernel
theorem dX6_readNumber_24 : decode cX6_readNumber 24 = .ok (.if_icmp .gt 32, 3) := by decide +kernel
theorem dX6_readNumber_27 : decode cX6_readNumber 27 = .ok (.iload_n 1, 1) := by decide +kernel
theorem dX6_readNumber_28 : decode cX6_readNumber 28 = .ok (.bipush 10, 2) := by decide +kernel
theorem dX6_readNumber_30 : decode cX6_readNumber 30 = .ok (.imul, 1) := by decide +kernel
theorem dX6_readNumber_31 : decode cX6_readNumber 31 = .ok (.aload_n 0, 1) := by decide +kernel
theorem dX6_readNumber_32 : decode cX6_readNumber 32 = .ok (.invokevirtual 45, 3) := by decide +kernel
theorem dX6_readNumber_35 : decode cX6_readNumber 35 = .ok (.iadd, 1) := by decide +kernel
theorem dX6_readNumber_36 : decode cX6_readNumber 36 = .ok (.bipush 48, 2) := by decide +kernel
theorem dX6_readNumber_38 : decode cX6_readNumber 38 = .ok (.isub, 1) := by decide +kernel
theorem dX6_readNumber_39 : decode cX6_readNumber 39 = .ok (.istore_n 1, 1) := by decide +kernel
theorem dX6_readNumber_40 : decode cX6_readNumber 40 = .ok (.aload_n 0, 1) := by decide +kernel
theorem dX6_readNumber_41 : decode cX6_readNumber 41 = .ok (.dup, 1) := by decide +kernel
theorem dX6_readNumber_42 : decode cX6_readNumber 42 = .ok (.getfield 23, 3) := by decide +kernel
theorem dX6_readNumber_45 : decode cX6_readNumber 45 = .ok (.iconst 1, 1) := by decide +kernel
theorem dX6_readNumber_46 : decode cX6_readNumber 46 = .ok (.iadd, 1) := by decide +kernel
theorem dX6_readNumber_47 : decode cX6_readNumber 47 = .ok (.putfield 23, 3) := by decide +kernel
theorem dX6_readNumber_50 : decode cX6_readNumber 50 = .ok (.iinc 2 1, 3) := by decide +kernel
theorem dX6_readNumber_53 : decode cX6_readNumber 53 = .ok (.goto (-49), 3) := by decide +kernel
theorem dX6_readNumber_56 : decode cX6_readNumber 56 = .ok (.aload_n 0, 1) := by decide +kernel
theorem dX6_readNumber_57 : decode cX6_readNumber 57 = .ok (.iconst 0, 1) := by decide +kernel
theorem dX6_readNumber_58 : decode cX6_readNumber 58 = .ok (.iload_n 1, 1) := by decide +kernel
theorem dX6_readNumber_59 : decode cX6_readNumber 59 = .ok (.invokevirtual 51, 3) := by decide +kernel
theorem dX6_readNumber_62 : decode cX6_readNumber 62 = .ok (.return_, 1) := by decide +kernel
theorem dX6_readOpen_0 : decode cX6_readOpen 0 = .ok (.iload_n 1, 1) := by decide +kernel
theorem dX6_readOpen_1 : decode cX6_readOpen 1 = .ok (.bipush 40, 2) := by decide +kernel
theorem dX6_readOpen_3 : decode cX6_readOpen 3 = .ok (.if_icmp .eq 25, 3) := by decide +kernel
theorem dX6_readOpen_6 : decode cX6_readOpen 6 = .ok (.aload_n 0, 1) := by decide +kernel
theorem dX6_readOpen_7 : decode cX6_readOpen 7 = .ok (.iload_n 2, 1) := by decide +kernel
theorem dX6_readOpen_8 : decode cX6_readOpen 8 = .ok (.invokevirtual 67, 3) := by decide +kernel
theorem dX6_readOpen_11 : decode cX6_readOpen 11 = .ok (.aload_n 0, 1) := by decide +kernel
theorem dX6_readOpen_12 : decode cX6_readOpen 12 = .ok (.iload_n 1, 1) := by decide +kernel
theorem dX6_readOpen_13 : decode cX6_readOpen 13 = .ok (.bipush 33, 2) := by decide +kernel
theorem dX6_readOpen_15 : decode cX6_readOpen 15 = .ok (.if_icmp .ne 7, 3) := by decide +kernel
theorem dX6_readOpen_18 : decode cX6_readOpen 18 = .ok (.iconst 2, 1) := by decide +kernel
theorem dX6_readOpen_19 : decode cX6_readOpen 19 = .ok (.goto 4, 3) := by decide +kernel
theorem dX6_readOpen_22 : decode cX6_readOpen 22 = .ok (.iconst 3, 1) := by decide +kernel
theorem dX6_readOpen_23 : decode cX6_readOpen 23 = .ok (.iconst 0, 1) := by decide +kernel
theorem dX6_readOpen_24 : decode cX6_readOpen 24 = .ok (.invokevirtual 51, 3) := by decide +kernel
theorem dX6_readOpen_27 : decode cX6_readOpen 27 = .ok (.return_, 1) := by decide +kernel
theorem dX6_readOpen_28 : decode cX6_readOpen 28 = .ok (.aload_n 0, 1) := by decide +kernel
theorem dX6_readOpen_29 : decode cX6_readOpen 29 = .ok (.iload_n 2, 1) := by decide +kernel
theorem dX6_readOpen_30 : decode cX6_readOpen 30 = .ok (.invokevirtual 41, 3) := by decide +kernel
theorem dX6_readOpen_33 : decode cX6_readOpen 33 = .ok (.aload_n 0, 1) := by decide +kernel
theorem dX6_readOpen_34 : decode cX6_readOpen 34 = .ok (.invokevirtual 45, 3) := by decide +kernel
theorem dX6_readOpen_37 : decode cX6_readOpen 37 = .ok (.bipush 41, 2) := by decide +kernel
theorem dX6_readOpen_39 : decode cX6_readOpen 39 = .ok (.if_icmp .ne 16, 3) := by decide +kernel
theorem dX6_readOpen_42 : decode cX6_readOpen 42 = .ok (.aload_n 0, 1) := by decide +kernel
theorem dX6_readOpen_43 : decode cX6_readOpen 43 = .ok (.dup, 1) := by decide +kernel
theorem dX6_readOpen_44 : decode cX6_readOpen 44 = .ok (.getfield 23, 3) := by decide +kernel
theorem dX6_readOpen_47 : decode cX6_readOpen 47 = .ok (.iconst 1, 1) := by decide +kernel
theorem dX6_readOpen_48 : decode cX6_readOpen 48 = .ok (.iadd, 1) := by decide +kernel
theorem dX6_readOpen_49 : decode cX6_readOpen 49 = .ok (.putfield 23, 3) := by decide +kernel
theorem dX6_readOpen_52 : decode cX6_readOpen 52 = .ok (.goto 7, 3) := by decide +kernel
theorem dX6_readOpen_55 : decode cX6_readOpen 55 = .ok (.aload_n 0, 1) := by decide +kernel
theorem dX6_readOpen_56 : decode cX6_readOpen 56 = .ok (.invokevirtual 32, 3) := by decide +kernel
theorem dX6_readOpen_59 : decode cX6_readOpen 59 = .ok (.return_, 1) := by decide +kernel
theorem dX6_nameOf_0 : decode cX6_nameOf 0 = .ok (.iload_n 0, 1) := by decide +kernel
theorem dX6_nameOf_1 : decode cX6_nameOf 1 = .ok (.tableswitch 114 99 119 #[101, 114, 114, 114, 114, 114, 111, 114, 109, 114, 114, 105, 114, 103, 114, 114, 114, 107, 114, 114, 99], 99) := by decide +kernel
theorem dX6_nameOf_100 : decode cX6_nameOf 100 = .ok (.iconst 0, 1) := by decide +kernel
theorem dX6_nameOf_101 : decode cX6_nameOf 101 = .ok (.ireturn, 1) := by decide +kernel
theorem dX6_nameOf_102 : decode cX6_nameOf 102 = .ok (.iconst 1, 1) := by decide +kernel
theorem dX6_nameOf_103 : decode cX6_nameOf 103 = .ok (.ireturn, 1) := by decide +kernel
theorem dX6_nameOf_104 : decode cX6_nameOf 104 = .ok (.iconst 2, 1) := by decide +kernel
theorem dX6_nameOf_105 : decode cX6_nameOf 105 = .ok (.ireturn, 1) := by decide +kernel
theorem dX6_nameOf_106 : decode cX6_nameOf 106 = .ok (.iconst 3, 1) := by decide +kernel
theorem dX6_nameOf_107 : decode cX6_nameOf 107 = .ok (.ireturn, 1) := by decide +kernel
theorem dX6_nameOf_108 : decode cX6_nameOf 108 = .ok (.iconst 4, 1) := by decide +kernel
theorem dX6_nameOf_109 : decode cX6_nameOf 109 = .ok (.ireturn, 1) := by decide +kernel
theorem dX6_nameOf_110 : decode cX6_nameOf 110 = .ok (.iconst 5, 1) := by decide +kernel
theorem dX6_nameOf_111 : decode cX6_nameOf 111 = .ok (.ireturn, 1) := by decide +kernel
theorem dX6_nameOf_112 : decode cX6_nameOf 112 = .ok (.bipush 6, 2) := by decide +kernel
theorem dX6_nameOf_114 : decode cX6_nameOf 114 = .ok (.ireturn, 1) := by decide +kernel
theorem dX6_nameOf_115 : decode cX6_nameOf 115 = .ok (.iconst (-1), 1) := by decide +kernel
theorem dX6_nameOf_116 : decode cX6_nameOf 116 = .ok (.ireturn, 1) := by decide +kernel
end
section
theorem dX7_init_0 : decode cX7_init 0 = .ok (.aload_n 0, 1) := by decide +kernel
theorem dX7_init_1 : decode cX7_init 1 = .ok (.invokespecial 3, 3) := by decide +kernel
theorem dX7_init_4 : decode cX7_init 4 = .ok (.aload_n 0, 1) := by decide +kernel
theorem dX7_init_5 : decode cX7_init 5 = .ok (.bipush 12, 2) := by decide +kernel
theorem dX7_init_7 : decode cX7_init 7 = .ok (.newarray .int, 2) := by decide +kernel
theorem dX7_init_9 : decode cX7_init 9 = .ok (.putfield 9, 3) := by decide +kernel
theorem dX7_init_12 : decode cX7_init 12 = .ok (.aload_n 0, 1) := by decide +kernel
theorem dX7_init_13 : decode cX7_init 13 = .ok (.bipush 12, 2) := by decide +kernel
theorem dX7_init_15 : decode cX7_init 15 = .ok (.newarray .int, 2) := by decide +kernel
theorem dX7_init_17 : decode cX7_init 17 = .ok (.putfield 15, 3) := by decide +kernel
theorem dX7_init_20 : decode cX7_init 20 = .ok (.aload_n 0, 1) := by decide +kernel
theorem dX7_init_21 : decode cX7_init 21 = .ok (.bipush 12, 2) := by decide +kernel
theorem dX7_init_23 : decode cX7_init 23 = .ok (.newarray .int, 2) := by decide +kernel
theorem dX7_init_25 : decode cX7_init 25 = .ok (.putfield 18, 3) := by decide +kernel
theorem dX7_init_28 : decode cX7_init 28 = .ok (.aload_n 0, 1) := by decide +kernel
theorem dX7_init_29 : decode cX7_init 29 = .ok (.bipush 12, 2) := by decide +kernel
theorem dX7_init_31 : decode cX7_init 31 = .ok (.newarray .int, 2) := by decide +kernel
theorem dX7_init_33 : decode cX7_init 33 = .ok (.putfield 21, 3) := by decide +kernel
theorem dX7_init_36 : decode cX7_init 36 = .ok (.aload_n 0, 1) := by decide +kernel
theorem dX7_init_37 : decode cX7_init 37 = .ok (.sipush 200, 3) := by decide +kernel
theorem dX7_init_40 : decode cX7_init 40 = .ok (.newarray .byte, 2) := by decide +kernel
theorem dX7_init_42 : decode cX7_init 42 = .ok (.putfield 24, 3) := by decide +kernel
theorem dX7_init_45 : decode cX7_init 45 = .ok (.aload_n 0, 1) := by decide +kernel
theorem dX7_init_46 : decode cX7_init 46 = .ok (.bipush 7, 2) := by decide +kernel
theorem dX7_init_48 : decode cX7_init 48 = .ok (.newarray .int, 2) := by decide +kernel
theorem dX7_init_50 : decode cX7_init 50 = .ok (.putfield 30, 3) := by decide +kernel
theorem dX7_init_53 : decode cX7_init 53 = .ok (.aload_n 0, 1) := by decide +kernel
theorem dX7_init_54 : decode cX7_init 54 = .ok (.aload_n 1, 1) := by decide +kernel
theorem dX7_init_55 : decode cX7_init 55 = .ok (.putfield 33, 3) := by decide +kernel
theorem dX7_init_58 : decode cX7_init 58 = .ok (.return_, 1) := by decide +kernel
theorem dX7_rank_0 : decode cX7_rank 0 = .ok (.iconst 0, 1) := by decide +kernel
theorem dX7_rank_1 : decode cX7_rank 1 = .ok (.istore_n 3, 1) := by decide +kernel
theorem dX7_rank_2 : decode cX7_rank 2 = .ok (.iload_n 3, 1) := by decide +kernel
theorem dX7_rank_3 : decode cX7_rank 3 = .ok (.iload_n 1, 1) := by decide +kernel
theorem dX7_rank_4 : decode cX7_rank 4 = .ok (.if_icmp .ge 52, 3) := by decide +kernel
theorem dX7_rank_7 : decode cX7_rank 7 = .ok (.iload_n 3, 1) := by decide +kernel
theorem dX7_rank_8 : decode cX7_rank 8 = .ok (.istore 4, 2) := by decide +kernel
theorem dX7_rank_10 : decode cX7_rank 10 = .ok (.iload 4, 2) := by decide +kernel
theorem dX7_rank_12 : decode cX7_rank 12 = .ok (.ifCond .le 33, 3) := by decide +kernel
theorem dX7_rank_15 : decode cX7_rank 15 = .ok (.aload_n 0, 1) := by decide +kernel
theorem dX7_rank_16 : decode cX7_rank 16 = .ok (.aload_n 2, 1) := by decide +kernel
theorem dX7_rank_17 : decode cX7_rank 17 = .ok (.iload 4, 2) := by decide +kernel
theorem dX7_rank_19 : decode cX7_rank 19 = .ok (.iconst 1, 1) := by decide +kernel
theorem dX7_rank_20 : decode cX7_rank 20 = .ok (.isub, 1) := by decide +kernel
theorem dX7_rank_21 : decode cX7_rank 21 = .ok (.iaload, 1) := by decide +kernel
theorem dX7_rank_22 : decode cX7_rank 22 = .ok (.iaload, 1) := by decide +kernel
theorem dX7_rank_23 : decode cX7_rank 23 = .ok (.aload_n 0, 1) := by decide +kernel
theorem dX7_rank_24 : decode cX7_rank 24 = .ok (.iload_n 3, 1) := by decide +kernel
theorem dX7_rank_25 : decode cX7_rank 25 = .ok (.iaload, 1) := by decide +kernel
theorem dX7_rank_26 : decode cX7_rank 26 = .ok (.if_icmp .ge 19, 3) := by decide +kernel
theorem dX7_rank_29 : decode cX7_rank 29 = .ok (.aload_n 2, 1) := by decide +kernel
theorem dX7_rank_30 : decode cX7_rank 30 = .ok (.iload 4, 2) := by decide +kernel
theorem dX7_rank_32 : decode cX7_rank 32 = .ok (.aload_n 2, 1) := by decide +kernel
theorem dX7_rank_33 : decode cX7_rank 33 = .ok (.iload 4, 2) := by decide +kernel
theorem dX7_rank_35 : decode cX7_rank 35 = .ok (.iconst 1, 1) := by decide +kernel
theorem dX7_rank_36 : decode cX7_rank 36 = .ok (.isub, 1) := by decide +kernel
theorem dX7_rank_37 : decode cX7_rank 37 = .ok (.iaload, 1) := by decide +kernel
theorem dX7_rank_38 : decode cX7_rank 38 = .ok (.iastore, 1) := by decide +kernel
theorem dX7_rank_39 : decode cX7_rank 39 = .ok (.iinc 4 (-1), 3) := by decide +kernel
theorem dX7_rank_42 : decode cX7_rank 42 = .ok (.goto (-32), 3) := by decide +kernel
theorem dX7_rank_45 : decode cX7_rank 45 = .ok (.aload_n 2, 1) := by decide +kernel
theorem dX7_rank_46 : decode cX7_rank 46 = .ok (.iload 4, 2) := by decide +kernel
theorem dX7_rank_48 : decode cX7_rank 48 = .ok (.iload_n 3, 1) := by decide +kernel
theorem dX7_rank_49 : decode cX7_rank 49 = .ok (.iastore, 1) := by decide +kernel
theorem dX7_rank_50 : decode cX7_rank 50 = .ok (.iinc 3 1, 3) := by decide +kernel
theorem dX7_rank_53 : decode cX7_rank 53 = .ok (.goto (-51), 3) := by decide +kernel
theorem dX7_rank_56 : decode cX7_rank 56 = .ok (.return_, 1) := by decide +kernel
theorem dX7_drawn_0 : decode cX7_drawn 0 = .ok (.iload_n 0, 1) := by decide +kernel
theorem dX7_drawn_1 : decode cX7_drawn 1 = .ok (.ldc 37, 2) := by decide +kernel
theorem dX7_drawn_3 : decode cX7_drawn 3 = .ok (.imul, 1) := by decide +kernel
theorem dX7_drawn_4 : decode cX7_drawn 4 = .ok (.sipush 12345, 3) := by decide +kernel
theorem dX7_drawn_7 : decode cX7_drawn 7 = .ok (.iadd, 1) := by decide +kernel
theorem dX7_drawn_8 : decode cX7_drawn 8 = .ok (.ireturn, 1) := by decide +kernel
theorem dX7_begin_0 : decode cX7_begin 0 = .ok (.aload_n 0, 1) := by decide +kernel
theorem dX7_begin_1 : decode cX7_begin 1 = .ok (.aload_n 1, 1) := by decide +kernel
theorem dX7_begin_2 : decode cX7_begin 2 = .ok (.putfield 38, 3) := by decide +kernel
theorem dX7_begin_5 : decode cX7_begin 5 = .ok (.aload_n 0, 1) := by decide +kernel
theorem dX7_begin_6 : decode cX7_begin 6 = .ok (.iload_n 2, 1) := by decide +kernel
theorem dX7_begin_7 : decode cX7_begin 7 = .ok (.putfield 42, 3) := by decide +kernel
theorem dX7_begin_10 : decode cX7_begin 10 = .ok (.aload_n 0, 1) := by decide +kernel
theorem dX7_begin_11 : decode cX7_begin 11 = .ok (.iconst 1, 1) := by decide +kernel
theorem dX7_begin_12 : decode cX7_begin 12 = .ok (.putfield 46, 3) := by decide +kernel
theorem dX7_begin_15 : decode cX7_begin 15 = .ok (.aload_n 0, 1) := by decide +kernel
theorem dX7_begin_16 : decode cX7_begin 16 = .ok (.iconst 0, 1) := by decide +kernel
theorem dX7_begin_17 : decode cX7_begin 17 = .ok (.putfield 49, 3) := by decide +kernel
theorem dX7_begin_20 : decode cX7_begin 20 = .ok (.aload_n 0, 1) := by decide +kernel
theorem dX7_begin_21 : decode cX7_begin 21 = .ok (.iconst 0, 1) := by decide +kernel
theorem dX7_begin_22 : decode cX7_begin 22 = .ok (.putfield 52, 3) := by decide +kernel
theorem dX7_begin_25 : decode cX7_begin 25 = .ok (.aload_n 0, 1) := by decide +kernel
theorem dX7_begin_26 : decode cX7_begin 26 = .ok (.iconst 0, 1) := by decide +kernel
theorem dX7_begin_27 : decode cX7_begin 27 = .ok (.putfield 55, 3) := by decide +kernel
theorem dX7_begin_30 : decode cX7_begin 30 = .ok (.aload_n 0, 1) := by decide +kernel
theorem dX7_begin_31 : decode cX7_begin 31 = .ok (.getfield 9, 3) := by decide +kernel
theorem dX7_begin_34 : decode cX7_begin 34 = .ok (.iconst 0, 1) := by decide +kernel
theorem dX7_begin_35 : decode cX7_begin 35 = .ok (.invokestatic 58, 3) := by decide +kernel
theorem dX7_begin_38 : decode cX7_begin 38 = .ok (.return_, 1) := by decide +kernel
theorem dX7_followLawOf_0 : decode cX7_followLawOf 0 = .ok (.aload_n 0, 1) := by decide +kernel
theorem dX7_followLawOf_1 : decode cX7_followLawOf 1 = .ok (.aload_n 1, 1) := by decide +kernel
theorem dX7_followLawOf_2 : decode cX7_followLawOf 2 = .ok (.getfield 38, 3) := by decide +kernel
theorem dX7_followLawOf_5 : decode cX7_followLawOf 5 = .ok (.putfield 38, 3) := by decide +kernel
theorem dX7_followLawOf_8 : decode cX7_followLawOf 8 = .ok (.aload_n 0, 1) := by decide +kernel
theorem dX7_followLawOf_9 : decode cX7_followLawOf 9 = .ok (.aload_n 1, 1) := by decide +kernel
theorem dX7_followLawOf_10 : decode cX7_followLawOf 10 = .ok (.getfield 46, 3) := by decide +kernel
theorem dX7_followLawOf_13 : decode cX7_followLawOf 13 = .ok (.putfield 46, 3) := by decide +kernel
theorem dX7_followLawOf_16 : decode cX7_followLawOf 16 = .ok (.aload_n 0, 1) := by decide +kernel
theorem dX7_followLawOf_17 : decode cX7_followLawOf 17 = .ok (.aload_n 1, 1) := by decide +kernel
theorem dX7_followLawOf_18 : decode cX7_followLawOf 18 = .ok (.getfield 64, 3) := by decide +kernel
theorem dX7_followLawOf_21 : decode cX7_followLawOf 21 = .ok (.putfield 64, 3) := by decide +kernel
theorem dX7_followLawOf_24 : decode cX7_followLawOf 24 = .ok (.aload_n 0, 1) := by decide +kernel
theorem dX7_followLawOf_25 : decode cX7_followLawOf 25 = .ok (.aload_n 1, 1) := by decide +kernel
theorem dX7_followLawOf_26 : decode cX7_followLawOf 26 = .ok (.getfield 49, 3) := by decide +kernel
theorem dX7_followLawOf_29 : decode cX7_followLawOf 29 = .ok (.putfield 49, 3) := by decide +kernel
theorem dX7_followLawOf_32 : decode cX7_followLawOf 32 = .ok (.return_, 1) := by decide +kernel
theorem dX7_arrange_0 : decode cX7_arrange 0 = .ok (.aload_n 0, 1) := by decide +kernel
theorem dX7_arrange_1 : decode cX7_arrange 1 = .ok (.getfield 9, 3) := by decide +kernel
theorem dX7_arrange_4 : decode cX7_arrange 4 = .ok (.aload_n 0, 1) := by decide +kernel
theorem dX7_arrange_5 : decode cX7_arrange 5 = .ok (.getfield 33, 3) := by decide +kernel
theorem dX7_arrange_8 : decode cX7_arrange 8 = .ok (.getfield 67, 3) := by decide +kernel
theorem dX7_arrange_11 : decode cX7_arrange 11 = .ok (.aload_n 0, 1) := by decide +kernel
theorem dX7_arrange_12 : decode cX7_arrange 12 = .ok (.getfield 15, 3) := by decide +kernel
theorem dX7_arrange_15 : decode cX7_arrange 15 = .ok (.invokestatic 72, 3) := by decide +kernel
theorem dX7_arrange_18 : decode cX7_arrange 18 = .ok (.iconst 0, 1) := by decide +kernel
theorem dX7_arrange_19 : decode cX7_arrange 19 = .ok (.istore_n 1, 1) := by decide +kernel
theorem dX7_arrange_20 : decode cX7_arrange 20 = .ok (.iload_n 1, 1) := by decide +kernel
theorem dX7_arrange_21 : decode cX7_arrange 21 = .ok (.aload_n 0, 1) := by decide +kernel
theorem dX7_arrange_22 : decode cX7_arrange 22 = .ok (.getfield 33, 3) := by decide +kernel
theorem dX7_arrange_25 : decode cX7_arrange 25 = .ok (.getfield 67, 3) := by decide +kernel
theorem dX7_arrange_28 : decode cX7_arrange 28 = .ok (.if_icmp .ge 21, 3) := by decide +kernel
theorem dX7_arrange_31 : decode cX7_arrange 31 = .ok (.aload_n 0, 1) := by decide +kernel
theorem dX7_arrange_32 : decode cX7_arrange 32 = .ok (.getfield 18, 3) := by decide +kernel
theorem dX7_arrange_35 : decode cX7_arrange 35 = .ok (.aload_n 0, 1) := by decide +kernel
theorem dX7_arrange_36 : decode cX7_arrange 36 = .ok (.getfield 15, 3) := by decide +kernel
theorem dX7_arrange_39 : decode cX7_arrange 39 = .ok (.iload_n 1, 1) := by decide +kernel
theorem dX7_arrange_40 : decode cX7_arrange 40 = .ok (.iaload, 1) := by decide +kernel
theorem dX7_arrange_41 : decode cX7_arrange 41 = .ok (.iload_n 1, 1) := by decide +kernel
theorem dX7_arrange_42 : decode cX7_arrange 42 = .ok (.iastore, 1) := by decide +kernel
theorem dX7_arrange_43 : decode cX7_arrange 43 = .ok (.iinc 1 1, 3) := by decide +kernel
theorem dX7_arrange_46 : decode cX7_arrange 46 = .ok (.goto (-26), 3) := by decide +kernel
theorem dX7_arrange_49 : decode cX7_arrange 49 = .ok (.return_, 1) := by decide +kernel
theorem dX7_first_0 : decode cX7_first 0 = .ok (.aload_n 0, 1) := by decide +kernel
theorem dX7_first_1 : decode cX7_first 1 = .ok (.getfield 33, 3) := by decide +kernel
theorem dX7_first_4 : decode cX7_first 4 = .ok (.getfield 67, 3) := by decide +kernel
theorem dX7_first_7 : decode cX7_first 7 = .ok (.ifCond .ne 8, 3) := by decide +kernel
theorem dX7_first_10 : decode cX7_first 10 = .ok (.bipush (-2), 2) := by decide +kernel
theorem dX7_first_12 : decode cX7_first 12 = .ok (.goto 11, 3) := by decide +kernel
theorem dX7_first_15 : decode cX7_first 15 = .ok (.aload_n 0, 1) := by decide +kernel
theorem dX7_first_16 : decode cX7_first 16 = .ok (.aload_n 0, 1) := by decide +kernel
theorem dX7_first_17 : decode cX7_first 17 = .ok (.getfield 9, 3) := by decide +kernel
theorem dX7_first_20 : decode cX7_first 20 = .ok (.invokevirtual 76, 3) := by decide +kernel
theorem dX7_first_23 : decode cX7_first 23 = .ok (.ireturn, 1) := by decide +kernel
theorem dX7_greatest_0 : decode cX7_greatest 0 = .ok (.iconst 0, 1) := by decide +kernel
theorem dX7_greatest_1 : decode cX7_greatest 1 = .ok (.istore_n 2, 1) := by decide +kernel
theorem dX7_greatest_2 : decode cX7_greatest 2 = .ok (.iconst 1, 1) := by decide +kernel
theorem dX7_greatest_3 : decode cX7_greatest 3 = .ok (.istore_n 3, 1) := by decide +kernel
theorem dX7_greatest_4 : decode cX7_greatest 4 = .ok (.iload_n 3, 1) := by decide +kernel
theorem dX7_greatest_5 : decode cX7_greatest 5 = .ok (.aload_n 0, 1) := by decide +kernel
theorem dX7_greatest_6 : decode cX7_greatest 6 = .ok (.getfield 33, 3) := by decide +kernel
theorem dX7_greatest_9 : decode cX7_greatest 9 = .ok (.getfield 67, 3) := by decide +kernel
theorem dX7_greatest_12 : decode cX7_greatest 12 = .ok (.if_icmp .ge 24, 3) := by decide +kernel
theorem dX7_greatest_15 : decode cX7_greatest 15 = .ok (.aload_n 1, 1) := by decide +kernel
theorem dX7_greatest_16 : decode cX7_greatest 16 = .ok (.iload_n 3, 1) := by decide +kernel
theorem dX7_greatest_17 : decode cX7_greatest 17 = .ok (.iaload, 1) := by decide +kernel
theorem dX7_greatest_18 : decode cX7_greatest 18 = .ok (.aload_n 1, 1) := by decide +kernel
theorem dX7_greatest_19 : decode cX7_greatest 19 = .ok (.iload_n 2, 1) := by decide +kernel
theorem dX7_greatest_20 : decode cX7_greatest 20 = .ok (.iaload, 1) := by decide +kernel
theorem dX7_greatest_21 : decode cX7_greatest 21 = .ok (.if_icmp .le 7, 3) := by decide +kernel
theorem dX7_greatest_24 : decode cX7_greatest 24 = .ok (.iload_n 3, 1) := by decide +kernel
theorem dX7_greatest_25 : decode cX7_greatest 25 = .ok (.goto 4, 3) := by decide +kernel
theorem dX7_greatest_28 : decode cX7_greatest 28 = .ok (.iload_n 2, 1) := by decide +kernel
theorem dX7_greatest_29 : decode cX7_greatest 29 = .ok (.istore_n 2, 1) := by decide +kernel
theorem dX7_greatest_30 : decode cX7_greatest 30 = .ok (.iinc 3 1, 3) := by decide +kernel
theorem dX7_greatest_33 : decode cX7_greatest 33 = .ok (.goto (-29), 3) := by decide +kernel
theorem dX7_greatest_36 : decode cX7_greatest 36 = .ok (.iload_n 2, 1) := by decide +kernel
theorem dX7_greatest_37 : decode cX7_greatest 37 = .ok (.ireturn, 1) := by decide +kernel
theorem dX7_firstOnes_0 : decode cX7_firstOnes 0 = .ok (.aload_n 0, 1) := by decide +kernel
theorem dX7_firstOnes_1 : decode cX7_firstOnes 1 = .ok (.invokevirtual 80, 3) := by decide +kernel
theorem dX7_firstOnes_4 : decode cX7_firstOnes 4 = .ok (.iconst 0, 1) := by decide +kernel
theorem dX7_firstOnes_5 : decode cX7_firstOnes 5 = .ok (.istore_n 2, 1) := by decide +kernel
theorem dX7_firstOnes_6 : decode cX7_firstOnes 6 = .ok (.iconst 0, 1) := by decide +kernel
theorem dX7_firstOnes_7 : decode cX7_firstOnes 7 = .ok (.istore_n 3, 1) := by decide +kernel
theorem dX7_firstOnes_8 : decode cX7_firstOnes 8 = .ok (.iload_n 3, 1) := by decide +kernel
theorem dX7_firstOnes_9 : decode cX7_firstOnes 9 = .ok (.iload_n 1, 1) := by decide +kernel
theorem dX7_firstOnes_10 : decode cX7_firstOnes 10 = .ok (.if_icmp .ge 31, 3) := by decide +kernel
theorem dX7_firstOnes_13 : decode cX7_firstOnes 13 = .ok (.iload_n 3, 1) := by decide +kernel
theorem dX7_firstOnes_14 : decode cX7_firstOnes 14 = .ok (.aload_n 0, 1) := by decide +kernel
theorem dX7_firstOnes_15 : decode cX7_firstOnes 15 = .ok (.getfield 33, 3) := by decide +kernel
theorem dX7_firstOnes_18 : decode cX7_firstOnes 18 = .ok (.getfield 67, 3) := by decide +kernel
theorem dX7_firstOnes_21 : decode cX7_firstOnes 21 = .ok (.if_icmp .ge 20, 3) := by decide +kernel
theorem dX7_firstOnes_24 : decode cX7_firstOnes 24 = .ok (.iload_n 2, 1) := by decide +kernel
theorem dX7_firstOnes_25 : decode cX7_firstOnes 25 = .ok (.iconst 1, 1) := by decide +kernel
theorem dX7_firstOnes_26 : decode cX7_firstOnes 26 = .ok (.aload_n 0, 1) := by decide +kernel
theorem dX7_firstOnes_27 : decode cX7_firstOnes 27 = .ok (.getfield 15, 3) := by decide +kernel
theorem dX7_firstOnes_30 : decode cX7_firstOnes 30 = .ok (.iload_n 3, 1) := by decide +kernel
theorem dX7_firstOnes_31 : decode cX7_firstOnes 31 = .ok (.iaload, 1) := by decide +kernel
theorem dX7_firstOnes_32 : decode cX7_firstOnes 32 = .ok (.ishl, 1) := by decide +kernel
theorem dX7_firstOnes_33 : decode cX7_firstOnes 33 = .ok (.ior, 1) := by decide +kernel
theorem dX7_firstOnes_34 : decode cX7_firstOnes 34 = .ok (.istore_n 2, 1) := by decide +kernel
theorem dX7_firstOnes_35 : decode cX7_firstOnes 35 = .ok (.iinc 3 1, 3) := by decide +kernel
theorem dX7_firstOnes_38 : decode cX7_firstOnes 38 = .ok (.goto (-30), 3) := by decide +kernel
theorem dX7_firstOnes_41 : decode cX7_firstOnes 41 = .ok (.iload_n 2, 1) := by decide +kernel
theorem dX7_firstOnes_42 : decode cX7_firstOnes 42 = .ok (.ireturn, 1) := by decide +kernel
theorem dX7_placeSeen_0 : decode cX7_placeSeen 0 = .ok (.aload_n 0, 1) := by decide +kernel
theorem dX7_placeSeen_1 : decode cX7_placeSeen 1 = .ok (.getfield 46, 3) := by decide +kernel
theorem dX7_placeSeen_4 : decode cX7_placeSeen 4 = .ok (.ifCond .ne 5, 3) := by decide +kernel
theorem dX7_placeSeen_7 : decode cX7_placeSeen 7 = .ok (.iconst 0, 1) := by decide +kernel
theorem dX7_placeSeen_8 : decode cX7_placeSeen 8 = .ok (.ireturn, 1) := by decide +kernel
theorem dX7_placeSeen_9 : decode cX7_placeSeen 9 = .ok (.aload_n 0, 1) := by decide +kernel
theorem dX7_placeSeen_10 : decode cX7_placeSeen 10 = .ok (.getfield 46, 3) := by decide +kernel
theorem dX7_placeSeen_13 : decode cX7_placeSeen 13 = .ok (.iconst 2, 1) := by decide +kernel
theorem dX7_placeSeen_14 : decode cX7_placeSeen 14 = .ok (.if_icmp .ne 33, 3) := by decide +kernel
theorem dX7_placeSeen_17 : decode cX7_placeSeen 17 = .ok (.aload_n 0, 1) := by decide +kernel
theorem dX7_placeSeen_18 : decode cX7_placeSeen 18 = .ok (.getfield 52, 3) := by decide +kernel
theorem dX7_placeSeen_21 : decode cX7_placeSeen 21 = .ok (.aload_n 0, 1) := by decide +kernel
theorem dX7_placeSeen_22 : decode cX7_placeSeen 22 = .ok (.getfield 64, 3) := by decide +kernel
theorem dX7_placeSeen_25 : decode cX7_placeSeen 25 = .ok (.if_icmp .ge 22, 3) := by decide +kernel
theorem dX7_placeSeen_28 : decode cX7_placeSeen 28 = .ok (.aload_n 0, 1) := by decide +kernel
theorem dX7_placeSeen_29 : decode cX7_placeSeen 29 = .ok (.getfield 33, 3) := by decide +kernel
theorem dX7_placeSeen_32 : decode cX7_placeSeen 32 = .ok (.getfield 67, 3) := by decide +kernel
theorem dX7_placeSeen_35 : decode cX7_placeSeen 35 = .ok (.iconst 1, 1) := by decide +kernel
theorem dX7_placeSeen_36 : decode cX7_placeSeen 36 = .ok (.isub, 1) := by decide +kernel
theorem dX7_placeSeen_37 : decode cX7_placeSeen 37 = .ok (.aload_n 0, 1) := by decide +kernel
theorem dX7_placeSeen_38 : decode cX7_placeSeen 38 = .ok (.getfield 18, 3) := by decide +kernel
theorem dX7_placeSeen_41 : decode cX7_placeSeen 41 = .ok (.iload_n 1, 1) := by decide +kernel
theorem dX7_placeSeen_42 : decode cX7_placeSeen 42 = .ok (.iaload, 1) := by decide +kernel
theorem dX7_placeSeen_43 : decode cX7_placeSeen 43 = .ok (.isub, 1) := by decide +kernel
theorem dX7_placeSeen_44 : decode cX7_placeSeen 44 = .ok (.goto 9, 3) := by decide +kernel
theorem dX7_placeSeen_47 : decode cX7_placeSeen 47 = .ok (.aload_n 0, 1) := by decide +kernel
theorem dX7_placeSeen_48 : decode cX7_placeSeen 48 = .ok (.getfield 18, 3) := by decide +kernel
theorem dX7_placeSeen_51 : decode cX7_placeSeen 51 = .ok (.iload_n 1, 1) := by decide +kernel
theorem dX7_placeSeen_52 : decode cX7_placeSeen 52 = .ok (.iaload, 1) := by decide +kernel
theorem dX7_placeSeen_53 : decode cX7_placeSeen 53 = .ok (.ireturn, 1) := by decide +kernel
theorem dX7_weigh_0 : decode cX7_weigh 0 = .ok (.aload_n 0, 1) := by decide +kernel
theorem dX7_weigh_1 : decode cX7_weigh 1 = .ok (.getfield 38, 3) := by decide +kernel
theorem dX7_weigh_4 : decode cX7_weigh 4 = .ok (.ifnonnull 5, 3) := by decide +kernel
theorem dX7_weigh_7 : decode cX7_weigh 7 = .ok (.iconst 0, 1) := by decide +kernel
theorem dX7_weigh_8 : decode cX7_weigh 8 = .ok (.ireturn, 1) := by decide +kernel
theorem dX7_weigh_9 : decode cX7_weigh 9 = .ok (.aload_n 0, 1) := by decide +kernel
theorem dX7_weigh_10 : decode cX7_weigh 10 = .ok (.getfield 30, 3) := by decide +kernel
theorem dX7_weigh_13 : decode cX7_weigh 13 = .ok (.iconst 0, 1) := by decide +kernel
theorem dX7_weigh_14 : decode cX7_weigh 14 = .ok (.aload_n 0, 1) := by decide +kernel
theorem dX7_weigh_15 : decode cX7_weigh 15 = .ok (.getfield 33, 3) := by decide +kernel
theorem dX7_weigh_18 : decode cX7_weigh 18 = .ok (.getfield 83, 3) := by decide +kernel
theorem dX7_weigh_21 : decode cX7_weigh 21 = .ok (.iload_n 1, 1) := by decide +kernel
theorem dX7_weigh_22 : decode cX7_weigh 22 = .ok (.iaload, 1) := by decide +kernel
theorem dX7_weigh_23 : decode cX7_weigh 23 = .ok (.iastore, 1) := by decide +kernel
theorem dX7_weigh_24 : decode cX7_weigh 24 = .ok (.aload_n 0, 1) := by decide +kernel
theorem dX7_weigh_25 : decode cX7_weigh 25 = .ok (.getfield 30, 3) := by decide +kernel
theorem dX7_weigh_28 : decode cX7_weigh 28 = .ok (.iconst 1, 1) := by decide +kernel
theorem dX7_weigh_29 : decode cX7_weigh 29 = .ok (.aload_n 0, 1) := by decide +kernel
theorem dX7_weigh_30 : decode cX7_weigh 30 = .ok (.getfield 46, 3) := by decide +kernel
theorem dX7_weigh_33 : decode cX7_weigh 33 = .ok (.ifCond .ne 7, 3) := by decide +kernel
theorem dX7_weigh_36 : decode cX7_weigh 36 = .ok (.iconst 0, 1) := by decide +kernel
theorem dX7_weigh_37 : decode cX7_weigh 37 = .ok (.goto 9, 3) := by decide +kernel
theorem dX7_weigh_40 : decode cX7_weigh 40 = .ok (.aload_n 0, 1) := by decide +kernel
theorem dX7_weigh_41 : decode cX7_weigh 41 = .ok (.getfield 9, 3) := by decide +kernel
theorem dX7_weigh_44 : decode cX7_weigh 44 = .ok (.iload_n 1, 1) := by decide +kernel
theorem dX7_weigh_45 : decode cX7_weigh 45 = .ok (.iaload, 1) := by decide +kernel
theorem dX7_weigh_46 : decode cX7_weigh 46 = .ok (.iastore, 1) := by decide +kernel
theorem dX7_weigh_47 : decode cX7_weigh 47 = .ok (.aload_n 0, 1) := by decide +kernel
theorem dX7_weigh_48 : decode cX7_weigh 48 = .ok (.getfield 30, 3) := by decide +kernel
theorem dX7_weigh_51 : decode cX7_weigh 51 = .ok (.iconst 2, 1) := by decide +kernel
theorem dX7_weigh_52 : decode cX7_weigh 52 = .ok (.aload_n 0, 1) := by decide +kernel
theorem dX7_weigh_53 : decode cX7_weigh 53 = .ok (.iload_n 1, 1) := by decide +kernel
theorem dX7_weigh_54 : decode cX7_weigh 54 = .ok (.invokevirtual 86, 3) := by decide +kernel
theorem dX7_weigh_57 : decode cX7_weigh 57 = .ok (.iastore, 1) := by decide +kernel
theorem dX7_weigh_58 : decode cX7_weigh 58 = .ok (.aload_n 0, 1) := by decide +kernel
theorem dX7_weigh_59 : decode cX7_weigh 59 = .ok (.getfield 30, 3) := by decide +kernel
theorem dX7_weigh_62 : decode cX7_weigh 62 = .ok (.iconst 3, 1) := by decide +kernel
theorem dX7_weigh_63 : decode cX7_weigh 63 = .ok (.aload_n 0, 1) := by decide +kernel
theorem dX7_weigh_64 : decode cX7_weigh 64 = .ok (.getfield 33, 3) := by decide +kernel
theorem dX7_weigh_67 : decode cX7_weigh 67 = .ok (.getfield 67, 3) := by decide +kernel
theorem dX7_weigh_70 : decode cX7_weigh 70 = .ok (.iastore, 1) := by decide +kernel
theorem dX7_weigh_71 : decode cX7_weigh 71 = .ok (.aload_n 0, 1) := by decide +kernel
theorem dX7_weigh_72 : decode cX7_weigh 72 = .ok (.getfield 30, 3) := by decide +kernel
theorem dX7_weigh_75 : decode cX7_weigh 75 = .ok (.iconst 4, 1) := by decide +kernel
theorem dX7_weigh_76 : decode cX7_weigh 76 = .ok (.aload_n 0, 1) := by decide +kernel
theorem dX7_weigh_77 : decode cX7_weigh 77 = .ok (.getfield 52, 3) := by decide +kernel
theorem dX7_weigh_80 : decode cX7_weigh 80 = .ok (.iastore, 1) := by decide +kernel
theorem dX7_weigh_81 : decode cX7_weigh 81 = .ok (.aload_n 0, 1) := by decide +kernel
theorem dX7_weigh_82 : decode cX7_weigh 82 = .ok (.getfield 30, 3) := by decide +kernel
theorem dX7_weigh_85 : decode cX7_weigh 85 = .ok (.iconst 5, 1) := by decide +kernel
theorem dX7_weigh_86 : decode cX7_weigh 86 = .ok (.aload_n 0, 1) := by decide +kernel
theorem dX7_weigh_87 : decode cX7_weigh 87 = .ok (.getfield 55, 3) := by decide +kernel
theorem dX7_weigh_90 : decode cX7_weigh 90 = .ok (.iastore, 1) := by decide +kernel
theorem dX7_weigh_91 : decode cX7_weigh 91 = .ok (.aload_n 0, 1) := by decide +kernel
theorem dX7_weigh_92 : decode cX7_weigh 92 = .ok (.getfield 30, 3) := by decide +kernel
theorem dX7_weigh_95 : decode cX7_weigh 95 = .ok (.bipush 6, 2) := by decide +kernel
theorem dX7_weigh_97 : decode cX7_weigh 97 = .ok (.iload_n 1, 1) := by decide +kernel
theorem dX7_weigh_98 : decode cX7_weigh 98 = .ok (.iastore, 1) := by decide +kernel
theorem dX7_weigh_99 : decode cX7_weigh 99 = .ok (.aload_n 0, 1) := by decide +kernel
theorem dX7_weigh_100 : decode cX7_weigh 100 = .ok (.getfield 38, 3) := by decide +kernel
theorem dX7_weigh_103 : decode cX7_weigh 103 = .ok (.aload_n 0, 1) := by decide +kernel
theorem dX7_weigh_104 : decode cX7_weigh 104 = .ok (.getfield 30, 3) := by decide +kernel
theorem dX7_weigh_107 : decode cX7_weigh 107 = .ok (.invokevirtual 90, 3) := by decide +kernel
theorem dX7_weigh_110 : decode cX7_weigh 110 = .ok (.ireturn, 1) := by decide +kernel
theorem dX7_weighAll_0 : decode cX7_weighAll 0 = .ok (.aload_n 0, 1) := by decide +kernel
theorem dX7_weighAll_1 : decode cX7_weighAll 1 = .ok (.invokevirtual 80, 3) := by decide +kernel
theorem dX7_weighAll_4 : decode cX7_weighAll 4 = .ok (.aload_n 0, 1) := by decide +kernel
theorem dX7_weighAll_5 : decode cX7_weighAll 5 = .ok (.getfield 49, 3) := by decide +kernel
theorem dX7_weighAll_8 : decode cX7_weighAll 8 = .ok (.istore_n 1, 1) := by decide +kernel
theorem dX7_weighAll_9 : decode cX7_weighAll 9 = .ok (.iconst 0, 1) := by decide +kernel
theorem dX7_weighAll_10 : decode cX7_weighAll 10 = .ok (.istore_n 2, 1) := by decide +kernel
theorem dX7_weighAll_11 : decode cX7_weighAll 11 = .ok (.iload_n 2, 1) := by decide +kernel
theorem dX7_weighAll_12 : decode cX7_weighAll 12 = .ok (.aload_n 0, 1) := by decide +kernel
theorem dX7_weighAll_13 : decode cX7_weighAll 13 = .ok (.getfield 33, 3) := by decide +kernel
theorem dX7_weighAll_16 : decode cX7_weighAll 16 = .ok (.getfield 67, 3) := by decide +kernel
theorem dX7_weighAll_19 : decode cX7_weighAll 19 = .ok (.if_icmp .ge 29, 3) := by decide +kernel
theorem dX7_weighAll_22 : decode cX7_weighAll 22 = .ok (.aload_n 0, 1) := by decide +kernel
theorem dX7_weighAll_23 : decode cX7_weighAll 23 = .ok (.getfield 21, 3) := by decide +kernel
theorem dX7_weighAll_26 : decode cX7_weighAll 26 = .ok (.iload_n 2, 1) := by decide +kernel
theorem dX7_weighAll_27 : decode cX7_weighAll 27 = .ok (.aload_n 0, 1) := by decide +kernel
theorem dX7_weighAll_28 : decode cX7_weighAll 28 = .ok (.iload_n 2, 1) := by decide +kernel
theorem dX7_weighAll_29 : decode cX7_weighAll 29 = .ok (.invokevirtual 93, 3) := by decide +kernel
theorem dX7_weighAll_32 : decode cX7_weighAll 32 = .ok (.iastore, 1) := by decide +kernel
theorem dX7_weighAll_33 : decode cX7_weighAll 33 = .ok (.iload_n 1, 1) := by decide +kernel
theorem dX7_weighAll_34 : decode cX7_weighAll 34 = .ok (.aload_n 0, 1) := by decide +kernel
theorem dX7_weighAll_35 : decode cX7_weighAll 35 = .ok (.getfield 21, 3) := by decide +kernel
theorem dX7_weighAll_38 : decode cX7_weighAll 38 = .ok (.iload_n 2, 1) := by decide +kernel
theorem dX7_weighAll_39 : decode cX7_weighAll 39 = .ok (.iaload, 1) := by decide +kernel
theorem dX7_weighAll_40 : decode cX7_weighAll 40 = .ok (.iadd, 1) := by decide +kernel
theorem dX7_weighAll_41 : decode cX7_weighAll 41 = .ok (.istore_n 1, 1) := by decide +kernel
theorem dX7_weighAll_42 : decode cX7_weighAll 42 = .ok (.iinc 2 1, 3) := by decide +kernel
theorem dX7_weighAll_45 : decode cX7_weighAll 45 = .ok (.goto (-34), 3) := by decide +kernel
theorem dX7_weighAll_48 : decode cX7_weighAll 48 = .ok (.iload_n 1, 1) := by decide +kernel
theorem dX7_weighAll_49 : decode cX7_weighAll 49 = .ok (.ireturn, 1) := by decide +kernel
theorem dX7_manyCome_0 : decode cX7_manyCome 0 = .ok (.aload_n 0, 1) := by decide +kernel
theorem dX7_manyCome_1 : decode cX7_manyCome 1 = .ok (.getfield 55, 3) := by decide +kernel
theorem dX7_manyCome_4 : decode cX7_manyCome 4 = .ok (.istore_n 2, 1) := by decide +kernel
theorem dX7_manyCome_5 : decode cX7_manyCome 5 = .ok (.iconst 0, 1) := by decide +kernel
theorem dX7_manyCome_6 : decode cX7_manyCome 6 = .ok (.istore_n 3, 1) := by decide +kernel
theorem dX7_manyCome_7 : decode cX7_manyCome 7 = .ok (.iload_n 3, 1) := by decide +kernel
theorem dX7_manyCome_8 : decode cX7_manyCome 8 = .ok (.iload_n 1, 1) := by decide +kernel
theorem dX7_manyCome_9 : decode cX7_manyCome 9 = .ok (.if_icmp .ge 13, 3) := by decide +kernel
theorem dX7_manyCome_12 : decode cX7_manyCome 12 = .ok (.aload_n 0, 1) := by decide +kernel
theorem dX7_manyCome_13 : decode cX7_manyCome 13 = .ok (.invokevirtual 95, 3) := by decide +kernel
theorem dX7_manyCome_16 : decode cX7_manyCome 16 = .ok (.iinc 3 1, 3) := by decide +kernel
theorem dX7_manyCome_19 : decode cX7_manyCome 19 = .ok (.goto (-12), 3) := by decide +kernel
theorem dX7_manyCome_22 : decode cX7_manyCome 22 = .ok (.aload_n 0, 1) := by decide +kernel
theorem dX7_manyCome_23 : decode cX7_manyCome 23 = .ok (.getfield 55, 3) := by decide +kernel
theorem dX7_manyCome_26 : decode cX7_manyCome 26 = .ok (.iload_n 2, 1) := by decide +kernel
theorem dX7_manyCome_27 : decode cX7_manyCome 27 = .ok (.isub, 1) := by decide +kernel
theorem dX7_manyCome_28 : decode cX7_manyCome 28 = .ok (.ireturn, 1) := by decide +kernel
theorem dX7_oneComes_0 : decode cX7_oneComes 0 = .ok (.aload_n 0, 1) := by decide +kernel
theorem dX7_oneComes_1 : decode cX7_oneComes 1 = .ok (.invokevirtual 98, 3) := by decide +kernel
theorem dX7_oneComes_4 : decode cX7_oneComes 4 = .ok (.istore_n 1, 1) := by decide +kernel
theorem dX7_oneComes_5 : decode cX7_oneComes 5 = .ok (.aload_n 0, 1) := by decide +kernel
theorem dX7_oneComes_6 : decode cX7_oneComes 6 = .ok (.aload_n 0, 1) := by decide +kernel
theorem dX7_oneComes_7 : decode cX7_oneComes 7 = .ok (.getfield 42, 3) := by decide +kernel
theorem dX7_oneComes_10 : decode cX7_oneComes 10 = .ok (.invokestatic 102, 3) := by decide +kernel
theorem dX7_oneComes_13 : decode cX7_oneComes 13 = .ok (.putfield 42, 3) := by decide +kernel
theorem dX7_oneComes_16 : decode cX7_oneComes 16 = .ok (.iload_n 1, 1) := by decide +kernel
theorem dX7_oneComes_17 : decode cX7_oneComes 17 = .ok (.ifCond .le 15, 3) := by decide +kernel
theorem dX7_oneComes_20 : decode cX7_oneComes 20 = .ok (.aload_n 0, 1) := by decide +kernel
theorem dX7_oneComes_21 : decode cX7_oneComes 21 = .ok (.getfield 42, 3) := by decide +kernel
theorem dX7_oneComes_24 : decode cX7_oneComes 24 = .ok (.bipush 8, 2) := by decide +kernel
theorem dX7_oneComes_26 : decode cX7_oneComes 26 = .ok (.iushr, 1) := by decide +kernel
theorem dX7_oneComes_27 : decode cX7_oneComes 27 = .ok (.iload_n 1, 1) := by decide +kernel
theorem dX7_oneComes_28 : decode cX7_oneComes 28 = .ok (.irem, 1) := by decide +kernel
theorem dX7_oneComes_29 : decode cX7_oneComes 29 = .ok (.goto 4, 3) := by decide +kernel
theorem dX7_oneComes_32 : decode cX7_oneComes 32 = .ok (.iconst 0, 1) := by decide +kernel
theorem dX7_oneComes_33 : decode cX7_oneComes 33 = .ok (.istore_n 2, 1) := by decide +kernel
theorem dX7_oneComes_34 : decode cX7_oneComes 34 = .ok (.iconst (-1), 1) := by decide +kernel
theorem dX7_oneComes_35 : decode cX7_oneComes 35 = .ok (.istore_n 3, 1) := by decide +kernel
theorem dX7_oneComes_36 : decode cX7_oneComes 36 = .ok (.iconst 0, 1) := by decide +kernel
theorem dX7_oneComes_37 : decode cX7_oneComes 37 = .ok (.istore 4, 2) := by decide +kernel
theorem dX7_oneComes_39 : decode cX7_oneComes 39 = .ok (.iload 4, 2) := by decide +kernel
theorem dX7_oneComes_41 : decode cX7_oneComes 41 = .ok (.aload_n 0, 1) := by decide +kernel
theorem dX7_oneComes_42 : decode cX7_oneComes 42 = .ok (.getfield 33, 3) := by decide +kernel
theorem dX7_oneComes_45 : decode cX7_oneComes 45 = .ok (.getfield 67, 3) := by decide +kernel
theorem dX7_oneComes_48 : decode cX7_oneComes 48 = .ok (.if_icmp .ge 37, 3) := by decide +kernel
theorem dX7_oneComes_51 : decode cX7_oneComes 51 = .ok (.iload_n 3, 1) := by decide +kernel
theorem dX7_oneComes_52 : decode cX7_oneComes 52 = .ok (.ifCond .ge 33, 3) := by decide +kernel
theorem dX7_oneComes_55 : decode cX7_oneComes 55 = .ok (.iload_n 2, 1) := by decide +kernel
theorem dX7_oneComes_56 : decode cX7_oneComes 56 = .ok (.aload_n 0, 1) := by decide +kernel
theorem dX7_oneComes_57 : decode cX7_oneComes 57 = .ok (.getfield 21, 3) := by decide +kernel
theorem dX7_oneComes_60 : decode cX7_oneComes 60 = .ok (.iload 4, 2) := by decide +kernel
theorem dX7_oneComes_62 : decode cX7_oneComes 62 = .ok (.iaload, 1) := by decide +kernel
theorem dX7_oneComes_63 : decode cX7_oneComes 63 = .ok (.if_icmp .ge 6, 3) := by decide +kernel
theorem dX7_oneComes_66 : decode cX7_oneComes 66 = .ok (.iload 4, 2) := by decide +kernel
theorem dX7_oneComes_68 : decode cX7_oneComes 68 = .ok (.istore_n 3, 1) := by decide +kernel
theorem dX7_oneComes_69 : decode cX7_oneComes 69 = .ok (.iload_n 2, 1) := by decide +kernel
theorem dX7_oneComes_70 : decode cX7_oneComes 70 = .ok (.aload_n 0, 1) := by decide +kernel
theorem dX7_oneComes_71 : decode cX7_oneComes 71 = .ok (.getfield 21, 3) := by decide +kernel
theorem dX7_oneComes_74 : decode cX7_oneComes 74 = .ok (.iload 4, 2) := by decide +kernel
theorem dX7_oneComes_76 : decode cX7_oneComes 76 = .ok (.iaload, 1) := by decide +kernel
theorem dX7_oneComes_77 : decode cX7_oneComes 77 = .ok (.isub, 1) := by decide +kernel
theorem dX7_oneComes_78 : decode cX7_oneComes 78 = .ok (.istore_n 2, 1) := by decide +kernel
theorem dX7_oneComes_79 : decode cX7_oneComes 79 = .ok (.iinc 4 1, 3) := by decide +kernel
theorem dX7_oneComes_82 : decode cX7_oneComes 82 = .ok (.goto (-43), 3) := by decide +kernel
theorem dX7_oneComes_85 : decode cX7_oneComes 85 = .ok (.aload_n 0, 1) := by decide +kernel
theorem dX7_oneComes_86 : decode cX7_oneComes 86 = .ok (.iload_n 3, 1) := by decide +kernel
theorem dX7_oneComes_87 : decode cX7_oneComes 87 = .ok (.invokevirtual 105, 3) := by decide +kernel
theorem dX7_oneComes_90 : decode cX7_oneComes 90 = .ok (.return_, 1) := by decide +kernel
theorem dX7_receive_0 : decode cX7_receive 0 = .ok (.aload_n 0, 1) := by decide +kernel
theorem dX7_receive_1 : decode cX7_receive 1 = .ok (.dup, 1) := by decide +kernel
theorem dX7_receive_2 : decode cX7_receive 2 = .ok (.getfield 52, 3) := by decide +kernel
theorem dX7_receive_5 : decode cX7_receive 5 = .ok (.iconst 1, 1) := by decide +kernel
theorem dX7_receive_6 : decode cX7_receive 6 = .ok (.iadd, 1) := by decide +kernel
theorem dX7_receive_7 : decode cX7_receive 7 = .ok (.putfield 52, 3) := by decide +kernel
theorem dX7_receive_10 : decode cX7_receive 10 = .ok (.aload_n 0, 1) := by decide +kernel
theorem dX7_receive_11 : decode cX7_receive 11 = .ok (.getfield 33, 3) := by decide +kernel
theorem dX7_receive_14 : decode cX7_receive 14 = .ok (.iload_n 1, 1) := by decide +kernel
theorem dX7_receive_15 : decode cX7_receive 15 = .ok (.invokevirtual 109, 3) := by decide +kernel
theorem dX7_receive_18 : decode cX7_receive 18 = .ok (.ifCond .ne 4, 3) := by decide +kernel
theorem dX7_receive_21 : decode cX7_receive 21 = .ok (.return_, 1) := by decide +kernel
theorem dX7_receive_22 : decode cX7_receive 22 = .ok (.aload_n 0, 1) := by decide +kernel
theorem dX7_receive_23 : decode cX7_receive 23 = .ok (.getfield 55, 3) := by decide +kernel
theorem dX7_receive_26 : decode cX7_receive 26 = .ok (.sipush 200, 3) := by decide +kernel
theorem dX7_receive_29 : decode cX7_receive 29 = .ok (.if_icmp .ge 14, 3) := by decide +kernel
theorem dX7_receive_32 : decode cX7_receive 32 = .ok (.aload_n 0, 1) := by decide +kernel
theorem dX7_receive_33 : decode cX7_receive 33 = .ok (.getfield 24, 3) := by decide +kernel
theorem dX7_receive_36 : decode cX7_receive 36 = .ok (.aload_n 0, 1) := by decide +kernel
theorem dX7_receive_37 : decode cX7_receive 37 = .ok (.getfield 55, 3) := by decide +kernel
theorem dX7_receive_40 : decode cX7_receive 40 = .ok (.iload_n 1, 1) := by decide +kernel
theorem dX7_receive_41 : decode cX7_receive 41 = .ok (.i2b, 1) := by decide +kernel
theorem dX7_receive_42 : decode cX7_receive 42 = .ok (.bastore, 1) := by decide +kernel
theorem dX7_receive_43 : decode cX7_receive 43 = .ok (.aload_n 0, 1) := by decide +kernel
theorem dX7_receive_44 : decode cX7_receive 44 = .ok (.dup, 1) := by decide +kernel
theorem dX7_receive_45 : decode cX7_receive 45 = .ok (.getfield 55, 3) := by decide +kernel
theorem dX7_receive_48 : decode cX7_receive 48 = .ok (.iconst 1, 1) := by decide +kernel
theorem dX7_receive_49 : decode cX7_receive 49 = .ok (.iadd, 1) := by decide +kernel
theorem dX7_receive_50 : decode cX7_receive 50 = .ok (.putfield 55, 3) := by decide +kernel
theorem dX7_receive_53 : decode cX7_receive 53 = .ok (.aload_n 0, 1) := by decide +kernel
theorem dX7_receive_54 : decode cX7_receive 54 = .ok (.getfield 9, 3) := by decide +kernel
theorem dX7_receive_57 : decode cX7_receive 57 = .ok (.iload_n 1, 1) := by decide +kernel
theorem dX7_receive_58 : decode cX7_receive 58 = .ok (.aload_n 0, 1) := by decide +kernel
theorem dX7_receive_59 : decode cX7_receive 59 = .ok (.getfield 9, 3) := by decide +kernel
theorem dX7_receive_62 : decode cX7_receive 62 = .ok (.iload_n 1, 1) := by decide +kernel
theorem dX7_receive_63 : decode cX7_receive 63 = .ok (.iaload, 1) := by decide +kernel
theorem dX7_receive_64 : decode cX7_receive 64 = .ok (.iconst 1, 1) := by decide +kernel
theorem dX7_receive_65 : decode cX7_receive 65 = .ok (.iadd, 1) := by decide +kernel
theorem dX7_receive_66 : decode cX7_receive 66 = .ok (.ldc 113, 2) := by decide +kernel
theorem dX7_receive_68 : decode cX7_receive 68 = .ok (.invokestatic 114, 3) := by decide +kernel
theorem dX7_receive_71 : decode cX7_receive 71 = .ok (.iastore, 1) := by decide +kernel
theorem dX7_receive_72 : decode cX7_receive 72 = .ok (.return_, 1) := by decide +kernel
theorem dX7_logged_0 : decode cX7_logged 0 = .ok (.aload_n 0, 1) := by decide +kernel
theorem dX7_logged_1 : decode cX7_logged 1 = .ok (.getfield 55, 3) := by decide +kernel
theorem dX7_logged_4 : decode cX7_logged 4 = .ok (.sipush 200, 3) := by decide +kernel
theorem dX7_logged_7 : decode cX7_logged 7 = .ok (.invokestatic 114, 3) := by decide +kernel
theorem dX7_logged_10 : decode cX7_logged 10 = .ok (.ireturn, 1) := by decide +kernel
theorem dX7_allCounts_0 : decode cX7_allCounts 0 = .ok (.iconst 0, 1) := by decide +kernel
theorem dX7_allCounts_1 : decode cX7_allCounts 1 = .ok (.istore_n 1, 1) := by decide +kernel
theorem dX7_allCounts_2 : decode cX7_allCounts 2 = .ok (.iconst 0, 1) := by decide +kernel
theorem dX7_allCounts_3 : decode cX7_allCounts 3 = .ok (.istore_n 2, 1) := by decide +kernel
theorem dX7_allCounts_4 : decode cX7_allCounts 4 = .ok (.iload_n 2, 1) := by decide +kernel
theorem dX7_allCounts_5 : decode cX7_allCounts 5 = .ok (.aload_n 0, 1) := by decide +kernel
theorem dX7_allCounts_6 : decode cX7_allCounts 6 = .ok (.getfield 33, 3) := by decide +kernel
theorem dX7_allCounts_9 : decode cX7_allCounts 9 = .ok (.getfield 67, 3) := by decide +kernel
theorem dX7_allCounts_12 : decode cX7_allCounts 12 = .ok (.if_icmp .ge 18, 3) := by decide +kernel
theorem dX7_allCounts_15 : decode cX7_allCounts 15 = .ok (.iload_n 1, 1) := by decide +kernel
theorem dX7_allCounts_16 : decode cX7_allCounts 16 = .ok (.aload_n 0, 1) := by decide +kernel
theorem dX7_allCounts_17 : decode cX7_allCounts 17 = .ok (.getfield 9, 3) := by decide +kernel
theorem dX7_allCounts_20 : decode cX7_allCounts 20 = .ok (.iload_n 2, 1) := by decide +kernel
theorem dX7_allCounts_21 : decode cX7_allCounts 21 = .ok (.iaload, 1) := by decide +kernel
theorem dX7_allCounts_22 : decode cX7_allCounts 22 = .ok (.iadd, 1) := by decide +kernel
theorem dX7_allCounts_23 : decode cX7_allCounts 23 = .ok (.istore_n 1, 1) := by decide +kernel
theorem dX7_allCounts_24 : decode cX7_allCounts 24 = .ok (.iinc 2 1, 3) := by decide +kernel
theorem dX7_allCounts_27 : decode cX7_allCounts 27 = .ok (.goto (-23), 3) := by decide +kernel
theorem dX7_allCounts_30 : decode cX7_allCounts 30 = .ok (.iload_n 1, 1) := by decide +kernel
theorem dX7_allCounts_31 : decode cX7_allCounts 31 = .ok (.ireturn, 1) := by decide +kernel
theorem dX7_share_0 : decode cX7_share 0 = .ok (.aload_n 0, 1) := by decide +kernel
theorem dX7_share_1 : decode cX7_share 1 = .ok (.invokevirtual 120, 3) := by decide +kernel
theorem dX7_share_4 : decode cX7_share 4 = .ok (.istore_n 2, 1) := by decide +kernel
theorem dX7_share_5 : decode cX7_share 5 = .ok (.iload_n 2, 1) := by decide +kernel
theorem dX7_share_6 : decode cX7_share 6 = .ok (.ifCond .ne 7, 3) := by decide +kernel
theorem dX7_share_9 : decode cX7_share 9 = .ok (.iconst 0, 1) := by decide +kernel
theorem dX7_share_10 : decode cX7_share 10 = .ok (.goto 15, 3) := by decide +kernel
theorem dX7_share_13 : decode cX7_share 13 = .ok (.aload_n 0, 1) := by decide +kernel
theorem dX7_share_14 : decode cX7_share 14 = .ok (.getfield 9, 3) := by decide +kernel
theorem dX7_share_17 : decode cX7_share 17 = .ok (.iload_n 1, 1) := by decide +kernel
theorem dX7_share_18 : decode cX7_share 18 = .ok (.iaload, 1) := by decide +kernel
theorem dX7_share_19 : decode cX7_share 19 = .ok (.sipush 1000, 3) := by decide +kernel
theorem dX7_share_22 : decode cX7_share 22 = .ok (.imul, 1) := by decide +kernel
theorem dX7_share_23 : decode cX7_share 23 = .ok (.iload_n 2, 1) := by decide +kernel
theorem dX7_share_24 : decode cX7_share 24 = .ok (.idiv, 1) := by decide +kernel
theorem dX7_share_25 : decode cX7_share 25 = .ok (.ireturn, 1) := by decide +kernel
theorem dX7_way_0 : decode cX7_way 0 = .ok (.aload_n 0, 1) := by decide +kernel
theorem dX7_way_1 : decode cX7_way 1 = .ok (.getfield 33, 3) := by decide +kernel
theorem dX7_way_4 : decode cX7_way 4 = .ok (.getfield 83, 3) := by decide +kernel
theorem dX7_way_7 : decode cX7_way 7 = .ok (.iload_n 1, 1) := by decide +kernel
theorem dX7_way_8 : decode cX7_way 8 = .ok (.iaload, 1) := by decide +kernel
theorem dX7_way_9 : decode cX7_way 9 = .ok (.aload_n 0, 1) := by decide +kernel
theorem dX7_way_10 : decode cX7_way 10 = .ok (.getfield 33, 3) := by decide +kernel
theorem dX7_way_13 : decode cX7_way 13 = .ok (.getfield 83, 3) := by decide +kernel
theorem dX7_way_16 : decode cX7_way 16 = .ok (.iload_n 2, 1) := by decide +kernel
theorem dX7_way_17 : decode cX7_way 17 = .ok (.iaload, 1) := by decide +kernel
theorem dX7_way_18 : decode cX7_way 18 = .ok (.invokestatic 123, 3) := by decide +kernel
theorem dX7_way_21 : decode cX7_way 21 = .ok (.aload_n 0, 1) := by decide +kernel
theorem dX7_way_22 : decode cX7_way 22 = .ok (.getfield 9, 3) := by decide +kernel
theorem dX7_way_25 : decode cX7_way 25 = .ok (.iload_n 1, 1) := by decide +kernel
theorem dX7_way_26 : decode cX7_way 26 = .ok (.iaload, 1) := by decide +kernel
theorem dX7_way_27 : decode cX7_way 27 = .ok (.aload_n 0, 1) := by decide +kernel
theorem dX7_way_28 : decode cX7_way 28 = .ok (.getfield 9, 3) := by decide +kernel
theorem dX7_way_31 : decode cX7_way 31 = .ok (.iload_n 2, 1) := by decide +kernel
theorem dX7_way_32 : decode cX7_way 32 = .ok (.iaload, 1) := by decide +kernel
theorem dX7_way_33 : decode cX7_way 33 = .ok (.invokestatic 123, 3) := by decide +kernel
theorem dX7_way_36 : decode cX7_way 36 = .ok (.imul, 1) := by decide +kernel
theorem dX7_way_37 : decode cX7_way 37 = .ok (.ireturn, 1) := by decide +kernel
theorem dX7_settled_0 : decode cX7_settled 0 = .ok (.aload_n 1, 1) := by decide +kernel
theorem dX7_settled_1 : decode cX7_settled 1 = .ok (.iconst 0, 1) := by decide +kernel
theorem dX7_settled_2 : decode cX7_settled 2 = .ok (.invokestatic 58, 3) := by decide +kernel
theorem dX7_settled_5 : decode cX7_settled 5 = .ok (.iconst 0, 1) := by decide +kernel
theorem dX7_settled_6 : decode cX7_settled 6 = .ok (.istore_n 2, 1) := by decide +kernel
theorem dX7_settled_7 : decode cX7_settled 7 = .ok (.iload_n 2, 1) := by decide +kernel
theorem dX7_settled_8 : decode cX7_settled 8 = .ok (.aload_n 0, 1) := by decide +kernel
theorem dX7_settled_9 : decode cX7_settled 9 = .ok (.invokevirtual 128, 3) := by decide +kernel
theorem dX7_settled_12 : decode cX7_settled 12 = .ok (.if_icmp .ge 21, 3) := by decide +kernel
theorem dX7_settled_15 : decode cX7_settled 15 = .ok (.aload_n 1, 1) := by decide +kernel
theorem dX7_settled_16 : decode cX7_settled 16 = .ok (.aload_n 0, 1) := by decide +kernel
theorem dX7_settled_17 : decode cX7_settled 17 = .ok (.getfield 24, 3) := by decide +kernel
theorem dX7_settled_20 : decode cX7_settled 20 = .ok (.iload_n 2, 1) := by decide +kernel
theorem dX7_settled_21 : decode cX7_settled 21 = .ok (.baload, 1) := by decide +kernel
theorem dX7_settled_22 : decode cX7_settled 22 = .ok (.dup2, 1) := by decide +kernel
theorem dX7_settled_23 : decode cX7_settled 23 = .ok (.iaload, 1) := by decide +kernel
theorem dX7_settled_24 : decode cX7_settled 24 = .ok (.iconst 1, 1) := by decide +kernel
theorem dX7_settled_25 : decode cX7_settled 25 = .ok (.iadd, 1) := by decide +kernel
theorem dX7_settled_26 : decode cX7_settled 26 = .ok (.iastore, 1) := by decide +kernel
theorem dX7_settled_27 : decode cX7_settled 27 = .ok (.iinc 2 1, 3) := by decide +kernel
theorem dX7_settled_30 : decode cX7_settled 30 = .ok (.goto (-23), 3) := by decide +kernel
theorem dX7_settled_33 : decode cX7_settled 33 = .ok (.aload_n 0, 1) := by decide +kernel
theorem dX7_settled_34 : decode cX7_settled 34 = .ok (.aload_n 1, 1) := by decide +kernel
theorem dX7_settled_35 : decode cX7_settled 35 = .ok (.invokevirtual 76, 3) := by decide +kernel
theorem dX7_settled_38 : decode cX7_settled 38 = .ok (.istore_n 2, 1) := by decide +kernel
theorem dX7_settled_39 : decode cX7_settled 39 = .ok (.aload_n 1, 1) := by decide +kernel
theorem dX7_settled_40 : decode cX7_settled 40 = .ok (.iconst 0, 1) := by decide +kernel
theorem dX7_settled_41 : decode cX7_settled 41 = .ok (.invokestatic 58, 3) := by decide +kernel
theorem dX7_settled_44 : decode cX7_settled 44 = .ok (.iconst 0, 1) := by decide +kernel
theorem dX7_settled_45 : decode cX7_settled 45 = .ok (.istore_n 3, 1) := by decide +kernel
theorem dX7_settled_46 : decode cX7_settled 46 = .ok (.iconst 0, 1) := by decide +kernel
theorem dX7_settled_47 : decode cX7_settled 47 = .ok (.istore 4, 2) := by decide +kernel
theorem dX7_settled_49 : decode cX7_settled 49 = .ok (.iload 4, 2) := by decide +kernel
theorem dX7_settled_51 : decode cX7_settled 51 = .ok (.aload_n 0, 1) := by decide +kernel
theorem dX7_settled_52 : decode cX7_settled 52 = .ok (.invokevirtual 128, 3) := by decide +kernel
theorem dX7_settled_55 : decode cX7_settled 55 = .ok (.if_icmp .ge 36, 3) := by decide +kernel
theorem dX7_settled_58 : decode cX7_settled 58 = .ok (.aload_n 0, 1) := by decide +kernel
theorem dX7_settled_59 : decode cX7_settled 59 = .ok (.aload_n 1, 1) := by decide +kernel
theorem dX7_settled_60 : decode cX7_settled 60 = .ok (.invokevirtual 76, 3) := by decide +kernel
theorem dX7_settled_63 : decode cX7_settled 63 = .ok (.iload_n 2, 1) := by decide +kernel
theorem dX7_settled_64 : decode cX7_settled 64 = .ok (.if_icmp .eq 8, 3) := by decide +kernel
theorem dX7_settled_67 : decode cX7_settled 67 = .ok (.iload 4, 2) := by decide +kernel
theorem dX7_settled_69 : decode cX7_settled 69 = .ok (.iconst 1, 1) := by decide +kernel
theorem dX7_settled_70 : decode cX7_settled 70 = .ok (.iadd, 1) := by decide +kernel
theorem dX7_settled_71 : decode cX7_settled 71 = .ok (.istore_n 3, 1) := by decide +kernel
theorem dX7_settled_72 : decode cX7_settled 72 = .ok (.aload_n 1, 1) := by decide +kernel
theorem dX7_settled_73 : decode cX7_settled 73 = .ok (.aload_n 0, 1) := by decide +kernel
theorem dX7_settled_74 : decode cX7_settled 74 = .ok (.getfield 24, 3) := by decide +kernel
theorem dX7_settled_77 : decode cX7_settled 77 = .ok (.iload 4, 2) := by decide +kernel
theorem dX7_settled_79 : decode cX7_settled 79 = .ok (.baload, 1) := by decide +kernel
theorem dX7_settled_80 : decode cX7_settled 80 = .ok (.dup2, 1) := by decide +kernel
theorem dX7_settled_81 : decode cX7_settled 81 = .ok (.iaload, 1) := by decide +kernel
theorem dX7_settled_82 : decode cX7_settled 82 = .ok (.iconst 1, 1) := by decide +kernel
theorem dX7_settled_83 : decode cX7_settled 83 = .ok (.iadd, 1) := by decide +kernel
theorem dX7_settled_84 : decode cX7_settled 84 = .ok (.iastore, 1) := by decide +kernel
theorem dX7_settled_85 : decode cX7_settled 85 = .ok (.iinc 4 1, 3) := by decide +kernel
theorem dX7_settled_88 : decode cX7_settled 88 = .ok (.goto (-39), 3) := by decide +kernel
theorem dX7_settled_91 : decode cX7_settled 91 = .ok (.iload_n 3, 1) := by decide +kernel
theorem dX7_settled_92 : decode cX7_settled 92 = .ok (.ireturn, 1) := by decide +kernel
end
section
theorem dX8_init_0 : decode cX8_init 0 = .ok (.aload_n 0, 1) := by decide +kernel
theorem dX8_init_1 : decode cX8_init 1 = .ok (.invokespecial 1, 3) := by decide +kernel
theorem dX8_init_4 : decode cX8_init 4 = .ok (.aload_n 0, 1) := by decide +kernel
theorem dX8_init_5 : decode cX8_init 5 = .ok (.new 7, 3) := by decide +kernel
theorem dX8_init_8 : decode cX8_init 8 = .ok (.dup, 1) := by decide +kernel
theorem dX8_init_9 : decode cX8_init 9 = .ok (.invokespecial 9, 3) := by decide +kernel
theorem dX8_init_12 : decode cX8_init 12 = .ok (.putfield 10, 3) := by decide +kernel
theorem dX8_init_15 : decode cX8_init 15 = .ok (.aload_n 0, 1) := by decide +kernel
theorem dX8_init_16 : decode cX8_init 16 = .ok (.new 16, 3) := by decide +kernel
theorem dX8_init_19 : decode cX8_init 19 = .ok (.dup, 1) := by decide +kernel
theorem dX8_init_20 : decode cX8_init 20 = .ok (.invokespecial 18, 3) := by decide +kernel
theorem dX8_init_23 : decode cX8_init 23 = .ok (.putfield 19, 3) := by decide +kernel
theorem dX8_init_26 : decode cX8_init 26 = .ok (.aload_n 0, 1) := by decide +kernel
theorem dX8_init_27 : decode cX8_init 27 = .ok (.bipush 6, 2) := by decide +kernel
theorem dX8_init_29 : decode cX8_init 29 = .ok (.anewarray 23, 3) := by decide +kernel
theorem dX8_init_32 : decode cX8_init 32 = .ok (.putfield 25, 3) := by decide +kernel
theorem dX8_init_35 : decode cX8_init 35 = .ok (.aload_n 0, 1) := by decide +kernel
theorem dX8_init_36 : decode cX8_init 36 = .ok (.bipush 9, 2) := by decide +kernel
theorem dX8_init_38 : decode cX8_init 38 = .ok (.anewarray 29, 3) := by decide +kernel
theorem dX8_init_41 : decode cX8_init 41 = .ok (.putfield 31, 3) := by decide +kernel
theorem dX8_init_44 : decode cX8_init 44 = .ok (.aload_n 0, 1) := by decide +kernel
theorem dX8_init_45 : decode cX8_init 45 = .ok (.new 35, 3) := by decide +kernel
theorem dX8_init_48 : decode cX8_init 48 = .ok (.dup, 1) := by decide +kernel
theorem dX8_init_49 : decode cX8_init 49 = .ok (.invokespecial 37, 3) := by decide +kernel
theorem dX8_init_52 : decode cX8_init 52 = .ok (.putfield 38, 3) := by decide +kernel
theorem dX8_init_55 : decode cX8_init 55 = .ok (.aload_n 0, 1) := by decide +kernel
theorem dX8_init_56 : decode cX8_init 56 = .ok (.new 42, 3) := by decide +kernel
theorem dX8_init_59 : decode cX8_init 59 = .ok (.dup, 1) := by decide +kernel
theorem dX8_init_60 : decode cX8_init 60 = .ok (.invokespecial 44, 3) := by decide +kernel
theorem dX8_init_63 : decode cX8_init 63 = .ok (.putfield 45, 3) := by decide +kernel
theorem dX8_init_66 : decode cX8_init 66 = .ok (.aload_n 0, 1) := by decide +kernel
theorem dX8_init_67 : decode cX8_init 67 = .ok (.bipush 6, 2) := by decide +kernel
theorem dX8_init_69 : decode cX8_init 69 = .ok (.anewarray 49, 3) := by decide +kernel
theorem dX8_init_72 : decode cX8_init 72 = .ok (.putfield 51, 3) := by decide +kernel
theorem dX8_init_75 : decode cX8_init 75 = .ok (.aload_n 0, 1) := by decide +kernel
theorem dX8_init_76 : decode cX8_init 76 = .ok (.new 29, 3) := by decide +kernel
theorem dX8_init_79 : decode cX8_init 79 = .ok (.dup, 1) := by decide +kernel
theorem dX8_init_80 : decode cX8_init 80 = .ok (.aload_n 0, 1) := by decide +kernel
theorem dX8_init_81 : decode cX8_init 81 = .ok (.getfield 10, 3) := by decide +kernel
theorem dX8_init_84 : decode cX8_init 84 = .ok (.invokespecial 55, 3) := by decide +kernel
theorem dX8_init_87 : decode cX8_init 87 = .ok (.putfield 58, 3) := by decide +kernel
theorem dX8_init_90 : decode cX8_init 90 = .ok (.aload_n 0, 1) := by decide +kernel
theorem dX8_init_91 : decode cX8_init 91 = .ok (.new 29, 3) := by decide +kernel
theorem dX8_init_94 : decode cX8_init 94 = .ok (.dup, 1) := by decide +kernel
theorem dX8_init_95 : decode cX8_init 95 = .ok (.aload_n 0, 1) := by decide +kernel
theorem dX8_init_96 : decode cX8_init 96 = .ok (.getfield 10, 3) := by decide +kernel
theorem dX8_init_99 : decode cX8_init 99 = .ok (.invokespecial 55, 3) := by decide +kernel
theorem dX8_init_102 : decode cX8_init 102 = .ok (.putfield 62, 3) := by decide +kernel
theorem dX8_init_105 : decode cX8_init 105 = .ok (.aload_n 0, 1) := by decide +kernel
theorem dX8_init_106 : decode cX8_init 106 = .ok (.new 65, 3) := by decide +kernel
theorem dX8_init_109 : decode cX8_init 109 = .ok (.dup, 1) := by decide +kernel
theorem dX8_init_110 : decode cX8_init 110 = .ok (.aload_n 0, 1) := by decide +kernel
theorem dX8_init_111 : decode cX8_init 111 = .ok (.getfield 10, 3) := by decide +kernel
theorem dX8_init_114 : decode cX8_init 114 = .ok (.aload_n 0, 1) := by decide +kernel
theorem dX8_init_115 : decode cX8_init 115 = .ok (.getfield 58, 3) := by decide +kernel
theorem dX8_init_118 : decode cX8_init 118 = .ok (.invokespecial 67, 3) := by decide +kernel
theorem dX8_init_121 : decode cX8_init 121 = .ok (.putfield 70, 3) := by decide +kernel
theorem dX8_init_124 : decode cX8_init 124 = .ok (.aload_n 0, 1) := by decide +kernel
theorem dX8_init_125 : decode cX8_init 125 = .ok (.bipush 7, 2) := by decide +kernel
theorem dX8_init_127 : decode cX8_init 127 = .ok (.newarray .int, 2) := by decide +kernel
theorem dX8_init_129 : decode cX8_init 129 = .ok (.putfield 74, 3) := by decide +kernel
theorem dX8_init_132 : decode cX8_init 132 = .ok (.aload_n 0, 1) := by decide +kernel
theorem dX8_init_133 : decode cX8_init 133 = .ok (.bipush 12, 2) := by decide +kernel
theorem dX8_init_135 : decode cX8_init 135 = .ok (.newarray .int, 2) := by decide +kernel
theorem dX8_init_137 : decode cX8_init 137 = .ok (.putfield 78, 3) := by decide +kernel
theorem dX8_init_140 : decode cX8_init 140 = .ok (.aload_n 0, 1) := by decide +kernel
theorem dX8_init_141 : decode cX8_init 141 = .ok (.bipush 12, 2) := by decide +kernel
theorem dX8_init_143 : decode cX8_init 143 = .ok (.newarray .int, 2) := by decide +kernel
theorem dX8_init_145 : decode cX8_init 145 = .ok (.putfield 81, 3) := by decide +kernel
theorem dX8_init_148 : decode cX8_init 148 = .ok (.aload_n 0, 1) := by decide +kernel
theorem dX8_init_149 : decode cX8_init 149 = .ok (.bipush 36, 2) := by decide +kernel
theorem dX8_init_151 : decode cX8_init 151 = .ok (.newarray .int, 2) := by decide +kernel
theorem dX8_init_153 : decode cX8_init 153 = .ok (.putfield 84, 3) := by decide +kernel
theorem dX8_init_156 : decode cX8_init 156 = .ok (.iconst 0, 1) := by decide +kernel
theorem dX8_init_157 : decode cX8_init 157 = .ok (.istore_n 1, 1) := by decide +kernel
theorem dX8_init_158 : decode cX8_init 158 = .ok (.iload_n 1, 1) := by decide +kernel
theorem dX8_init_159 : decode cX8_init 159 = .ok (.bipush 6, 2) := by decide +kernel
theorem dX8_init_161 : decode cX8_init 161 = .ok (.if_icmp .ge 22, 3) := by decide +kernel
theorem dX8_init_164 : decode cX8_init 164 = .ok (.aload_n 0, 1) := by decide +kernel
theorem dX8_init_165 : decode cX8_init 165 = .ok (.getfield 51, 3) := by decide +kernel
theorem dX8_init_168 : decode cX8_init 168 = .ok (.iload_n 1, 1) := by decide +kernel
theorem dX8_init_169 : decode cX8_init 169 = .ok (.new 49, 3) := by decide +kernel
theorem dX8_init_172 : decode cX8_init 172 = .ok (.dup, 1) := by decide +kernel
theorem dX8_init_173 : decode cX8_init 173 = .ok (.invokespecial 87, 3) := by decide +kernel
theorem dX8_init_176 : decode cX8_init 176 = .ok (.aastore, 1) := by decide +kernel
theorem dX8_init_177 : decode cX8_init 177 = .ok (.iinc 1 1, 3) := by decide +kernel
theorem dX8_init_180 : decode cX8_init 180 = .ok (.goto (-22), 3) := by decide +kernel
theorem dX8_init_183 : decode cX8_init 183 = .ok (.return_, 1) := by decide +kernel
theorem dX8_song_0 : decode cX8_song 0 = .ok (.iload_n 1, 1) := by decide +kernel
theorem dX8_song_1 : decode cX8_song 1 = .ok (.ifCond .lt 10, 3) := by decide +kernel
theorem dX8_song_4 : decode cX8_song 4 = .ok (.iload_n 1, 1) := by decide +kernel
theorem dX8_song_5 : decode cX8_song 5 = .ok (.sipush 999, 3) := by decide +kernel
theorem dX8_song_8 : decode cX8_song 8 = .ok (.if_icmp .le 5, 3) := by decide +kernel
theorem dX8_song_11 : decode cX8_song 11 = .ok (.iconst (-1), 1) := by decide +kernel
theorem dX8_song_12 : decode cX8_song 12 = .ok (.ireturn, 1) := by decide +kernel
theorem dX8_song_13 : decode cX8_song 13 = .ok (.aload_n 0, 1) := by decide +kernel
theorem dX8_song_14 : decode cX8_song 14 = .ok (.getfield 10, 3) := by decide +kernel
theorem dX8_song_17 : decode cX8_song 17 = .ok (.getfield 88, 3) := by decide +kernel
theorem dX8_song_20 : decode cX8_song 20 = .ok (.bipush 12, 2) := by decide +kernel
theorem dX8_song_22 : decode cX8_song 22 = .ok (.if_icmp .lt 6, 3) := by decide +kernel
theorem dX8_song_25 : decode cX8_song 25 = .ok (.bipush (-3), 2) := by decide +kernel
theorem dX8_song_27 : decode cX8_song 27 = .ok (.ireturn, 1) := by decide +kernel
theorem dX8_song_28 : decode cX8_song 28 = .ok (.aload_n 0, 1) := by decide +kernel
theorem dX8_song_29 : decode cX8_song 29 = .ok (.getfield 10, 3) := by decide +kernel
theorem dX8_song_32 : decode cX8_song 32 = .ok (.getfield 92, 3) := by decide +kernel
theorem dX8_song_35 : decode cX8_song 35 = .ok (.aload_n 0, 1) := by decide +kernel
theorem dX8_song_36 : decode cX8_song 36 = .ok (.getfield 10, 3) := by decide +kernel
theorem dX8_song_39 : decode cX8_song 39 = .ok (.getfield 88, 3) := by decide +kernel
theorem dX8_song_42 : decode cX8_song 42 = .ok (.iload_n 1, 1) := by decide +kernel
theorem dX8_song_43 : decode cX8_song 43 = .ok (.iastore, 1) := by decide +kernel
theorem dX8_song_44 : decode cX8_song 44 = .ok (.aload_n 0, 1) := by decide +kernel
theorem dX8_song_45 : decode cX8_song 45 = .ok (.getfield 10, 3) := by decide +kernel
theorem dX8_song_48 : decode cX8_song 48 = .ok (.dup, 1) := by decide +kernel
theorem dX8_song_49 : decode cX8_song 49 = .ok (.getfield 88, 3) := by decide +kernel
theorem dX8_song_52 : decode cX8_song 52 = .ok (.iconst 1, 1) := by decide +kernel
theorem dX8_song_53 : decode cX8_song 53 = .ok (.iadd, 1) := by decide +kernel
theorem dX8_song_54 : decode cX8_song 54 = .ok (.putfield 88, 3) := by decide +kernel
theorem dX8_song_57 : decode cX8_song 57 = .ok (.aload_n 0, 1) := by decide +kernel
theorem dX8_song_58 : decode cX8_song 58 = .ok (.getfield 10, 3) := by decide +kernel
theorem dX8_song_61 : decode cX8_song 61 = .ok (.getfield 88, 3) := by decide +kernel
theorem dX8_song_64 : decode cX8_song 64 = .ok (.iconst 1, 1) := by decide +kernel
theorem dX8_song_65 : decode cX8_song 65 = .ok (.isub, 1) := by decide +kernel
theorem dX8_song_66 : decode cX8_song 66 = .ok (.ireturn, 1) := by decide +kernel
theorem dX8_worth_0 : decode cX8_worth 0 = .ok (.aload_n 0, 1) := by decide +kernel
theorem dX8_worth_1 : decode cX8_worth 1 = .ok (.getfield 10, 3) := by decide +kernel
theorem dX8_worth_4 : decode cX8_worth 4 = .ok (.iload_n 1, 1) := by decide +kernel
theorem dX8_worth_5 : decode cX8_worth 5 = .ok (.invokevirtual 95, 3) := by decide +kernel
theorem dX8_worth_8 : decode cX8_worth 8 = .ok (.ifCond .eq 14, 3) := by decide +kernel
theorem dX8_worth_11 : decode cX8_worth 11 = .ok (.iload_n 2, 1) := by decide +kernel
theorem dX8_worth_12 : decode cX8_worth 12 = .ok (.ifCond .lt 10, 3) := by decide +kernel
theorem dX8_worth_15 : decode cX8_worth 15 = .ok (.iload_n 2, 1) := by decide +kernel
theorem dX8_worth_16 : decode cX8_worth 16 = .ok (.sipush 999, 3) := by decide +kernel
theorem dX8_worth_19 : decode cX8_worth 19 = .ok (.if_icmp .le 5, 3) := by decide +kernel
theorem dX8_worth_22 : decode cX8_worth 22 = .ok (.iconst (-1), 1) := by decide +kernel
theorem dX8_worth_23 : decode cX8_worth 23 = .ok (.ireturn, 1) := by decide +kernel
theorem dX8_worth_24 : decode cX8_worth 24 = .ok (.aload_n 0, 1) := by decide +kernel
theorem dX8_worth_25 : decode cX8_worth 25 = .ok (.getfield 10, 3) := by decide +kernel
theorem dX8_worth_28 : decode cX8_worth 28 = .ok (.getfield 92, 3) := by decide +kernel
theorem dX8_worth_31 : decode cX8_worth 31 = .ok (.iload_n 1, 1) := by decide +kernel
theorem dX8_worth_32 : decode cX8_worth 32 = .ok (.iaload, 1) := by decide +kernel
theorem dX8_worth_33 : decode cX8_worth 33 = .ok (.istore_n 3, 1) := by decide +kernel
theorem dX8_worth_34 : decode cX8_worth 34 = .ok (.aload_n 0, 1) := by decide +kernel
theorem dX8_worth_35 : decode cX8_worth 35 = .ok (.getfield 10, 3) := by decide +kernel
theorem dX8_worth_38 : decode cX8_worth 38 = .ok (.getfield 92, 3) := by decide +kernel
theorem dX8_worth_41 : decode cX8_worth 41 = .ok (.iload_n 1, 1) := by decide +kernel
theorem dX8_worth_42 : decode cX8_worth 42 = .ok (.iload_n 2, 1) := by decide +kernel
theorem dX8_worth_43 : decode cX8_worth 43 = .ok (.iastore, 1) := by decide +kernel
theorem dX8_worth_44 : decode cX8_worth 44 = .ok (.aload_n 0, 1) := by decide +kernel
theorem dX8_worth_45 : decode cX8_worth 45 = .ok (.getfield 38, 3) := by decide +kernel
theorem dX8_worth_48 : decode cX8_worth 48 = .ok (.iconst (-1), 1) := by decide +kernel
theorem dX8_worth_49 : decode cX8_worth 49 = .ok (.iload_n 1, 1) := by decide +kernel
theorem dX8_worth_50 : decode cX8_worth 50 = .ok (.iload_n 3, 1) := by decide +kernel
theorem dX8_worth_51 : decode cX8_worth 51 = .ok (.iload_n 2, 1) := by decide +kernel
theorem dX8_worth_52 : decode cX8_worth 52 = .ok (.invokevirtual 99, 3) := by decide +kernel
theorem dX8_worth_55 : decode cX8_worth 55 = .ok (.iload_n 3, 1) := by decide +kernel
theorem dX8_worth_56 : decode cX8_worth 56 = .ok (.ireturn, 1) := by decide +kernel
theorem dX8_feed_0 : decode cX8_feed 0 = .ok (.iload_n 1, 1) := by decide +kernel
theorem dX8_feed_1 : decode cX8_feed 1 = .ok (.iconst 1, 1) := by decide +kernel
theorem dX8_feed_2 : decode cX8_feed 2 = .ok (.if_icmp .lt 8, 3) := by decide +kernel
theorem dX8_feed_5 : decode cX8_feed 5 = .ok (.iload_n 1, 1) := by decide +kernel
theorem dX8_feed_6 : decode cX8_feed 6 = .ok (.iconst 4, 1) := by decide +kernel
theorem dX8_feed_7 : decode cX8_feed 7 = .ok (.if_icmp .le 5, 3) := by decide +kernel
theorem dX8_feed_10 : decode cX8_feed 10 = .ok (.iconst (-1), 1) := by decide +kernel
theorem dX8_feed_11 : decode cX8_feed 11 = .ok (.ireturn, 1) := by decide +kernel
theorem dX8_feed_12 : decode cX8_feed 12 = .ok (.aload_n 0, 1) := by decide +kernel
theorem dX8_feed_13 : decode cX8_feed 13 = .ok (.getfield 19, 3) := by decide +kernel
theorem dX8_feed_16 : decode cX8_feed 16 = .ok (.getfield 103, 3) := by decide +kernel
theorem dX8_feed_19 : decode cX8_feed 19 = .ok (.iload_n 1, 1) := by decide +kernel
theorem dX8_feed_20 : decode cX8_feed 20 = .ok (.iadd, 1) := by decide +kernel
theorem dX8_feed_21 : decode cX8_feed 21 = .ok (.bipush 120, 2) := by decide +kernel
theorem dX8_feed_23 : decode cX8_feed 23 = .ok (.if_icmp .le 6, 3) := by decide +kernel
theorem dX8_feed_26 : decode cX8_feed 26 = .ok (.bipush (-3), 2) := by decide +kernel
theorem dX8_feed_28 : decode cX8_feed 28 = .ok (.ireturn, 1) := by decide +kernel
theorem dX8_feed_29 : decode cX8_feed 29 = .ok (.iconst 0, 1) := by decide +kernel
theorem dX8_feed_30 : decode cX8_feed 30 = .ok (.istore_n 3, 1) := by decide +kernel
theorem dX8_feed_31 : decode cX8_feed 31 = .ok (.iload_n 3, 1) := by decide +kernel
theorem dX8_feed_32 : decode cX8_feed 32 = .ok (.iload_n 1, 1) := by decide +kernel
theorem dX8_feed_33 : decode cX8_feed 33 = .ok (.if_icmp .ge 26, 3) := by decide +kernel
theorem dX8_feed_36 : decode cX8_feed 36 = .ok (.aload_n 0, 1) := by decide +kernel
theorem dX8_feed_37 : decode cX8_feed 37 = .ok (.getfield 19, 3) := by decide +kernel
theorem dX8_feed_40 : decode cX8_feed 40 = .ok (.iload_n 2, 1) := by decide +kernel
theorem dX8_feed_41 : decode cX8_feed 41 = .ok (.bipush 8, 2) := by decide +kernel
theorem dX8_feed_43 : decode cX8_feed 43 = .ok (.iload_n 3, 1) := by decide +kernel
theorem dX8_feed_44 : decode cX8_feed 44 = .ok (.imul, 1) := by decide +kernel
theorem dX8_feed_45 : decode cX8_feed 45 = .ok (.iushr, 1) := by decide +kernel
theorem dX8_feed_46 : decode cX8_feed 46 = .ok (.sipush 255, 3) := by decide +kernel
theorem dX8_feed_49 : decode cX8_feed 49 = .ok (.iand, 1) := by decide +kernel
theorem dX8_feed_50 : decode cX8_feed 50 = .ok (.invokevirtual 106, 3) := by decide +kernel
theorem dX8_feed_53 : decode cX8_feed 53 = .ok (.iinc 3 1, 3) := by decide +kernel
theorem dX8_feed_56 : decode cX8_feed 56 = .ok (.goto (-25), 3) := by decide +kernel
theorem dX8_feed_59 : decode cX8_feed 59 = .ok (.aload_n 0, 1) := by decide +kernel
theorem dX8_feed_60 : decode cX8_feed 60 = .ok (.getfield 19, 3) := by decide +kernel
theorem dX8_feed_63 : decode cX8_feed 63 = .ok (.getfield 103, 3) := by decide +kernel
theorem dX8_feed_66 : decode cX8_feed 66 = .ok (.ireturn, 1) := by decide +kernel
theorem dX8_law_0 : decode cX8_law 0 = .ok (.aload_n 0, 1) := by decide +kernel
theorem dX8_law_1 : decode cX8_law 1 = .ok (.getfield 110, 3) := by decide +kernel
theorem dX8_law_4 : decode cX8_law 4 = .ok (.bipush 6, 2) := by decide +kernel
theorem dX8_law_6 : decode cX8_law 6 = .ok (.if_icmp .lt 6, 3) := by decide +kernel
theorem dX8_law_9 : decode cX8_law 9 = .ok (.bipush (-3), 2) := by decide +kernel
theorem dX8_law_11 : decode cX8_law 11 = .ok (.ireturn, 1) := by decide +kernel
theorem dX8_law_12 : decode cX8_law 12 = .ok (.aload_n 0, 1) := by decide +kernel
theorem dX8_law_13 : decode cX8_law 13 = .ok (.getfield 19, 3) := by decide +kernel
theorem dX8_law_16 : decode cX8_law 16 = .ok (.invokevirtual 113, 3) := by decide +kernel
theorem dX8_law_19 : decode cX8_law 19 = .ok (.istore_n 1, 1) := by decide +kernel
theorem dX8_law_20 : decode cX8_law 20 = .ok (.iload_n 1, 1) := by decide +kernel
theorem dX8_law_21 : decode cX8_law 21 = .ok (.ifCond .lt 8, 3) := by decide +kernel
theorem dX8_law_24 : decode cX8_law 24 = .ok (.bipush (-100), 2) := by decide +kernel
theorem dX8_law_26 : decode cX8_law 26 = .ok (.iload_n 1, 1) := by decide +kernel
theorem dX8_law_27 : decode cX8_law 27 = .ok (.isub, 1) := by decide +kernel
theorem dX8_law_28 : decode cX8_law 28 = .ok (.ireturn, 1) := by decide +kernel
theorem dX8_law_29 : decode cX8_law 29 = .ok (.aload_n 0, 1) := by decide +kernel
theorem dX8_law_30 : decode cX8_law 30 = .ok (.getfield 25, 3) := by decide +kernel
theorem dX8_law_33 : decode cX8_law 33 = .ok (.aload_n 0, 1) := by decide +kernel
theorem dX8_law_34 : decode cX8_law 34 = .ok (.getfield 110, 3) := by decide +kernel
theorem dX8_law_37 : decode cX8_law 37 = .ok (.new 23, 3) := by decide +kernel
theorem dX8_law_40 : decode cX8_law 40 = .ok (.dup, 1) := by decide +kernel
theorem dX8_law_41 : decode cX8_law 41 = .ok (.aload_n 0, 1) := by decide +kernel
theorem dX8_law_42 : decode cX8_law 42 = .ok (.getfield 19, 3) := by decide +kernel
theorem dX8_law_45 : decode cX8_law 45 = .ok (.invokevirtual 117, 3) := by decide +kernel
theorem dX8_law_48 : decode cX8_law 48 = .ok (.invokespecial 121, 3) := by decide +kernel
theorem dX8_law_51 : decode cX8_law 51 = .ok (.aastore, 1) := by decide +kernel
theorem dX8_law_52 : decode cX8_law 52 = .ok (.aload_n 0, 1) := by decide +kernel
theorem dX8_law_53 : decode cX8_law 53 = .ok (.dup, 1) := by decide +kernel
theorem dX8_law_54 : decode cX8_law 54 = .ok (.getfield 110, 3) := by decide +kernel
theorem dX8_law_57 : decode cX8_law 57 = .ok (.iconst 1, 1) := by decide +kernel
theorem dX8_law_58 : decode cX8_law 58 = .ok (.iadd, 1) := by decide +kernel
theorem dX8_law_59 : decode cX8_law 59 = .ok (.putfield 110, 3) := by decide +kernel
theorem dX8_law_62 : decode cX8_law 62 = .ok (.aload_n 0, 1) := by decide +kernel
theorem dX8_law_63 : decode cX8_law 63 = .ok (.getfield 110, 3) := by decide +kernel
theorem dX8_law_66 : decode cX8_law 66 = .ok (.iconst 1, 1) := by decide +kernel
theorem dX8_law_67 : decode cX8_law 67 = .ok (.isub, 1) := by decide +kernel
theorem dX8_law_68 : decode cX8_law 68 = .ok (.ireturn, 1) := by decide +kernel
theorem dX8_world_0 : decode cX8_world 0 = .ok (.iload_n 1, 1) := by decide +kernel
theorem dX8_world_1 : decode cX8_world 1 = .ok (.ifCond .lt 7, 3) := by decide +kernel
theorem dX8_world_4 : decode cX8_world 4 = .ok (.iload_n 2, 1) := by decide +kernel
theorem dX8_world_5 : decode cX8_world 5 = .ok (.ifCond .ge 5, 3) := by decide +kernel
theorem dX8_world_8 : decode cX8_world 8 = .ok (.iconst (-1), 1) := by decide +kernel
theorem dX8_world_9 : decode cX8_world 9 = .ok (.ireturn, 1) := by decide +kernel
theorem dX8_world_10 : decode cX8_world 10 = .ok (.iload_n 1, 1) := by decide +kernel
theorem dX8_world_11 : decode cX8_world 11 = .ok (.bipush 10, 2) := by decide +kernel
theorem dX8_world_13 : decode cX8_world 13 = .ok (.irem, 1) := by decide +kernel
theorem dX8_world_14 : decode cX8_world 14 = .ok (.istore 4, 2) := by decide +kernel
theorem dX8_world_16 : decode cX8_world 16 = .ok (.iload_n 2, 1) := by decide +kernel
theorem dX8_world_17 : decode cX8_world 17 = .ok (.sipush 10000, 3) := by decide +kernel
theorem dX8_world_20 : decode cX8_world 20 = .ok (.idiv, 1) := by decide +kernel
theorem dX8_world_21 : decode cX8_world 21 = .ok (.istore 5, 2) := by decide +kernel
theorem dX8_world_23 : decode cX8_world 23 = .ok (.iload_n 2, 1) := by decide +kernel
theorem dX8_world_24 : decode cX8_world 24 = .ok (.sipush 10000, 3) := by decide +kernel
theorem dX8_world_27 : decode cX8_world 27 = .ok (.irem, 1) := by decide +kernel
theorem dX8_world_28 : decode cX8_world 28 = .ok (.istore 6, 2) := by decide +kernel
theorem dX8_world_30 : decode cX8_world 30 = .ok (.aload_n 0, 1) := by decide +kernel
theorem dX8_world_31 : decode cX8_world 31 = .ok (.iload_n 1, 1) := by decide +kernel
theorem dX8_world_32 : decode cX8_world 32 = .ok (.bipush 10, 2) := by decide +kernel
theorem dX8_world_34 : decode cX8_world 34 = .ok (.idiv, 1) := by decide +kernel
theorem dX8_world_35 : decode cX8_world 35 = .ok (.invokevirtual 124, 3) := by decide +kernel
theorem dX8_world_38 : decode cX8_world 38 = .ok (.astore 7, 2) := by decide +kernel
theorem dX8_world_40 : decode cX8_world 40 = .ok (.aload 7, 2) := by decide +kernel
theorem dX8_world_42 : decode cX8_world 42 = .ok (.ifnull 17, 3) := by decide +kernel
theorem dX8_world_45 : decode cX8_world 45 = .ok (.iload 4, 2) := by decide +kernel
theorem dX8_world_47 : decode cX8_world 47 = .ok (.iconst 2, 1) := by decide +kernel
theorem dX8_world_48 : decode cX8_world 48 = .ok (.if_icmp .gt 11, 3) := by decide +kernel
theorem dX8_world_51 : decode cX8_world 51 = .ok (.iload 5, 2) := by decide +kernel
theorem dX8_world_53 : decode cX8_world 53 = .ok (.sipush 999, 3) := by decide +kernel
theorem dX8_world_56 : decode cX8_world 56 = .ok (.if_icmp .le 5, 3) := by decide +kernel
theorem dX8_world_59 : decode cX8_world 59 = .ok (.iconst (-1), 1) := by decide +kernel
theorem dX8_world_60 : decode cX8_world 60 = .ok (.ireturn, 1) := by decide +kernel
theorem dX8_world_61 : decode cX8_world 61 = .ok (.aload_n 0, 1) := by decide +kernel
theorem dX8_world_62 : decode cX8_world 62 = .ok (.getfield 128, 3) := by decide +kernel
theorem dX8_world_65 : decode cX8_world 65 = .ok (.bipush 9, 2) := by decide +kernel
theorem dX8_world_67 : decode cX8_world 67 = .ok (.if_icmp .lt 6, 3) := by decide +kernel
theorem dX8_world_70 : decode cX8_world 70 = .ok (.bipush (-3), 2) := by decide +kernel
theorem dX8_world_72 : decode cX8_world 72 = .ok (.ireturn, 1) := by decide +kernel
theorem dX8_world_73 : decode cX8_world 73 = .ok (.new 29, 3) := by decide +kernel
theorem dX8_world_76 : decode cX8_world 76 = .ok (.dup, 1) := by decide +kernel
theorem dX8_world_77 : decode cX8_world 77 = .ok (.aload_n 0, 1) := by decide +kernel
theorem dX8_world_78 : decode cX8_world 78 = .ok (.getfield 10, 3) := by decide +kernel
theorem dX8_world_81 : decode cX8_world 81 = .ok (.invokespecial 55, 3) := by decide +kernel
theorem dX8_world_84 : decode cX8_world 84 = .ok (.astore 8, 2) := by decide +kernel
theorem dX8_world_86 : decode cX8_world 86 = .ok (.aload 8, 2) := by decide +kernel
theorem dX8_world_88 : decode cX8_world 88 = .ok (.aload 7, 2) := by decide +kernel
theorem dX8_world_90 : decode cX8_world 90 = .ok (.iload_n 3, 1) := by decide +kernel
theorem dX8_world_91 : decode cX8_world 91 = .ok (.invokevirtual 131, 3) := by decide +kernel
theorem dX8_world_94 : decode cX8_world 94 = .ok (.aload 8, 2) := by decide +kernel
theorem dX8_world_96 : decode cX8_world 96 = .ok (.iload_n 1, 1) := by decide +kernel
theorem dX8_world_97 : decode cX8_world 97 = .ok (.bipush 10, 2) := by decide +kernel
theorem dX8_world_99 : decode cX8_world 99 = .ok (.idiv, 1) := by decide +kernel
theorem dX8_world_100 : decode cX8_world 100 = .ok (.putfield 135, 3) := by decide +kernel
theorem dX8_world_103 : decode cX8_world 103 = .ok (.aload 8, 2) := by decide +kernel
theorem dX8_world_105 : decode cX8_world 105 = .ok (.iload 4, 2) := by decide +kernel
theorem dX8_world_107 : decode cX8_world 107 = .ok (.putfield 138, 3) := by decide +kernel
theorem dX8_world_110 : decode cX8_world 110 = .ok (.aload 8, 2) := by decide +kernel
theorem dX8_world_112 : decode cX8_world 112 = .ok (.iload 5, 2) := by decide +kernel
theorem dX8_world_114 : decode cX8_world 114 = .ok (.putfield 141, 3) := by decide +kernel
theorem dX8_world_117 : decode cX8_world 117 = .ok (.aload 8, 2) := by decide +kernel
theorem dX8_world_119 : decode cX8_world 119 = .ok (.iload 6, 2) := by decide +kernel
theorem dX8_world_121 : decode cX8_world 121 = .ok (.putfield 144, 3) := by decide +kernel
theorem dX8_world_124 : decode cX8_world 124 = .ok (.aload_n 0, 1) := by decide +kernel
theorem dX8_world_125 : decode cX8_world 125 = .ok (.getfield 31, 3) := by decide +kernel
theorem dX8_world_128 : decode cX8_world 128 = .ok (.aload_n 0, 1) := by decide +kernel
theorem dX8_world_129 : decode cX8_world 129 = .ok (.getfield 128, 3) := by decide +kernel
theorem dX8_world_132 : decode cX8_world 132 = .ok (.aload 8, 2) := by decide +kernel
theorem dX8_world_134 : decode cX8_world 134 = .ok (.aastore, 1) := by decide +kernel
theorem dX8_world_135 : decode cX8_world 135 = .ok (.aload_n 0, 1) := by decide +kernel
theorem dX8_world_136 : decode cX8_world 136 = .ok (.dup, 1) := by decide +kernel
theorem dX8_world_137 : decode cX8_world 137 = .ok (.getfield 128, 3) := by decide +kernel
theorem dX8_world_140 : decode cX8_world 140 = .ok (.iconst 1, 1) := by decide +kernel
theorem dX8_world_141 : decode cX8_world 141 = .ok (.iadd, 1) := by decide +kernel
theorem dX8_world_142 : decode cX8_world 142 = .ok (.putfield 128, 3) := by decide +kernel
theorem dX8_world_145 : decode cX8_world 145 = .ok (.aload_n 0, 1) := by decide +kernel
theorem dX8_world_146 : decode cX8_world 146 = .ok (.getfield 128, 3) := by decide +kernel
theorem dX8_world_149 : decode cX8_world 149 = .ok (.iconst 1, 1) := by decide +kernel
theorem dX8_world_150 : decode cX8_world 150 = .ok (.isub, 1) := by decide +kernel
theorem dX8_world_151 : decode cX8_world 151 = .ok (.ireturn, 1) := by decide +kernel
theorem dX8_nothing_0 : decode cX8_nothing 0 = .ok (.aload_n 0, 1) := by decide +kernel
theorem dX8_nothing_1 : decode cX8_nothing 1 = .ok (.iload_n 1, 1) := by decide +kernel
theorem dX8_nothing_2 : decode cX8_nothing 2 = .ok (.invokevirtual 147, 3) := by decide +kernel
theorem dX8_nothing_5 : decode cX8_nothing 5 = .ok (.astore_n 3, 1) := by decide +kernel
theorem dX8_nothing_6 : decode cX8_nothing 6 = .ok (.aload_n 3, 1) := by decide +kernel
theorem dX8_nothing_7 : decode cX8_nothing 7 = .ok (.ifnull 14, 3) := by decide +kernel
theorem dX8_nothing_10 : decode cX8_nothing 10 = .ok (.iload_n 2, 1) := by decide +kernel
theorem dX8_nothing_11 : decode cX8_nothing 11 = .ok (.ifCond .lt 10, 3) := by decide +kernel
theorem dX8_nothing_14 : decode cX8_nothing 14 = .ok (.iload_n 2, 1) := by decide +kernel
theorem dX8_nothing_15 : decode cX8_nothing 15 = .ok (.sipush 9999, 3) := by decide +kernel
theorem dX8_nothing_18 : decode cX8_nothing 18 = .ok (.if_icmp .le 5, 3) := by decide +kernel
theorem dX8_nothing_21 : decode cX8_nothing 21 = .ok (.iconst (-1), 1) := by decide +kernel
theorem dX8_nothing_22 : decode cX8_nothing 22 = .ok (.ireturn, 1) := by decide +kernel
theorem dX8_nothing_23 : decode cX8_nothing 23 = .ok (.aload_n 3, 1) := by decide +kernel
theorem dX8_nothing_24 : decode cX8_nothing 24 = .ok (.getfield 144, 3) := by decide +kernel
theorem dX8_nothing_27 : decode cX8_nothing 27 = .ok (.istore 4, 2) := by decide +kernel
theorem dX8_nothing_29 : decode cX8_nothing 29 = .ok (.aload_n 3, 1) := by decide +kernel
theorem dX8_nothing_30 : decode cX8_nothing 30 = .ok (.iload_n 2, 1) := by decide +kernel
theorem dX8_nothing_31 : decode cX8_nothing 31 = .ok (.putfield 144, 3) := by decide +kernel
theorem dX8_nothing_34 : decode cX8_nothing 34 = .ok (.aload_n 0, 1) := by decide +kernel
theorem dX8_nothing_35 : decode cX8_nothing 35 = .ok (.getfield 38, 3) := by decide +kernel
theorem dX8_nothing_38 : decode cX8_nothing 38 = .ok (.iload_n 1, 1) := by decide +kernel
theorem dX8_nothing_39 : decode cX8_nothing 39 = .ok (.iconst (-1), 1) := by decide +kernel
theorem dX8_nothing_40 : decode cX8_nothing 40 = .ok (.iload 4, 2) := by decide +kernel
theorem dX8_nothing_42 : decode cX8_nothing 42 = .ok (.iload_n 2, 1) := by decide +kernel
theorem dX8_nothing_43 : decode cX8_nothing 43 = .ok (.invokevirtual 99, 3) := by decide +kernel
theorem dX8_nothing_46 : decode cX8_nothing 46 = .ok (.iload 4, 2) := by decide +kernel
theorem dX8_nothing_48 : decode cX8_nothing 48 = .ok (.ireturn, 1) := by decide +kernel
theorem dX8_of_0 : decode cX8_of 0 = .ok (.aload_n 0, 1) := by decide +kernel
theorem dX8_of_1 : decode cX8_of 1 = .ok (.iload_n 1, 1) := by decide +kernel
theorem dX8_of_2 : decode cX8_of 2 = .ok (.invokevirtual 147, 3) := by decide +kernel
theorem dX8_of_5 : decode cX8_of 5 = .ok (.astore_n 3, 1) := by decide +kernel
theorem dX8_of_6 : decode cX8_of 6 = .ok (.aload_n 3, 1) := by decide +kernel
theorem dX8_of_7 : decode cX8_of 7 = .ok (.ifnull 7, 3) := by decide +kernel
theorem dX8_of_10 : decode cX8_of 10 = .ok (.iload_n 2, 1) := by decide +kernel
theorem dX8_of_11 : decode cX8_of 11 = .ok (.ifCond .ge 5, 3) := by decide +kernel
theorem dX8_of_14 : decode cX8_of 14 = .ok (.iconst (-1), 1) := by decide +kernel
theorem dX8_of_15 : decode cX8_of 15 = .ok (.ireturn, 1) := by decide +kernel
theorem dX8_of_16 : decode cX8_of 16 = .ok (.iload_n 2, 1) := by decide +kernel
theorem dX8_of_17 : decode cX8_of 17 = .ok (.bipush 100, 2) := by decide +kernel
theorem dX8_of_19 : decode cX8_of 19 = .ok (.if_icmp .lt 34, 3) := by decide +kernel
theorem dX8_of_22 : decode cX8_of 22 = .ok (.aload_n 0, 1) := by decide +kernel
theorem dX8_of_23 : decode cX8_of 23 = .ok (.getfield 10, 3) := by decide +kernel
theorem dX8_of_26 : decode cX8_of 26 = .ok (.iload_n 2, 1) := by decide +kernel
theorem dX8_of_27 : decode cX8_of 27 = .ok (.bipush 100, 2) := by decide +kernel
theorem dX8_of_29 : decode cX8_of 29 = .ok (.irem, 1) := by decide +kernel
theorem dX8_of_30 : decode cX8_of 30 = .ok (.invokevirtual 95, 3) := by decide +kernel
theorem dX8_of_33 : decode cX8_of 33 = .ok (.ifCond .eq 18, 3) := by decide +kernel
theorem dX8_of_36 : decode cX8_of 36 = .ok (.aload_n 3, 1) := by decide +kernel
theorem dX8_of_37 : decode cX8_of 37 = .ok (.iload_n 2, 1) := by decide +kernel
theorem dX8_of_38 : decode cX8_of 38 = .ok (.bipush 100, 2) := by decide +kernel
theorem dX8_of_40 : decode cX8_of 40 = .ok (.idiv, 1) := by decide +kernel
theorem dX8_of_41 : decode cX8_of 41 = .ok (.iload_n 2, 1) := by decide +kernel
theorem dX8_of_42 : decode cX8_of 42 = .ok (.bipush 100, 2) := by decide +kernel
theorem dX8_of_44 : decode cX8_of 44 = .ok (.irem, 1) := by decide +kernel
theorem dX8_of_45 : decode cX8_of 45 = .ok (.invokestatic 151, 3) := by decide +kernel
theorem dX8_of_48 : decode cX8_of 48 = .ok (.goto 4, 3) := by decide +kernel
theorem dX8_of_51 : decode cX8_of 51 = .ok (.iconst (-1), 1) := by decide +kernel
theorem dX8_of_52 : decode cX8_of 52 = .ok (.ireturn, 1) := by decide +kernel
theorem dX8_of_53 : decode cX8_of 53 = .ok (.iload_n 2, 1) := by decide +kernel
theorem dX8_of_54 : decode cX8_of 54 = .ok (.tableswitch 59 0 4 #[34, 39, 44, 49, 54], 34) := by decide +kernel
theorem dX8_of_88 : decode cX8_of 88 = .ok (.aload_n 3, 1) := by decide +kernel
theorem dX8_of_89 : decode cX8_of 89 = .ok (.getfield 155, 3) := by decide +kernel
theorem dX8_of_92 : decode cX8_of 92 = .ok (.ireturn, 1) := by decide +kernel
theorem dX8_of_93 : decode cX8_of 93 = .ok (.aload_n 3, 1) := by decide +kernel
theorem dX8_of_94 : decode cX8_of 94 = .ok (.getfield 158, 3) := by decide +kernel
theorem dX8_of_97 : decode cX8_of 97 = .ok (.ireturn, 1) := by decide +kernel
theorem dX8_of_98 : decode cX8_of 98 = .ok (.aload_n 3, 1) := by decide +kernel
theorem dX8_of_99 : decode cX8_of 99 = .ok (.getfield 135, 3) := by decide +kernel
theorem dX8_of_102 : decode cX8_of 102 = .ok (.ireturn, 1) := by decide +kernel
theorem dX8_of_103 : decode cX8_of 103 = .ok (.aload_n 3, 1) := by decide +kernel
theorem dX8_of_104 : decode cX8_of 104 = .ok (.getfield 138, 3) := by decide +kernel
theorem dX8_of_107 : decode cX8_of 107 = .ok (.ireturn, 1) := by decide +kernel
theorem dX8_of_108 : decode cX8_of 108 = .ok (.aload_n 3, 1) := by decide +kernel
theorem dX8_of_109 : decode cX8_of 109 = .ok (.invokevirtual 161, 3) := by decide +kernel
theorem dX8_of_112 : decode cX8_of 112 = .ok (.ireturn, 1) := by decide +kernel
theorem dX8_of_113 : decode cX8_of 113 = .ok (.iconst (-1), 1) := by decide +kernel
theorem dX8_of_114 : decode cX8_of 114 = .ok (.ireturn, 1) := by decide +kernel
theorem dX8_ofSong_0 : decode cX8_ofSong 0 = .ok (.aload_n 0, 1) := by decide +kernel
theorem dX8_ofSong_1 : decode cX8_ofSong 1 = .ok (.invokevirtual 164, 3) := by decide +kernel
theorem dX8_ofSong_4 : decode cX8_ofSong 4 = .ok (.iload_n 1, 1) := by decide +kernel
theorem dX8_ofSong_5 : decode cX8_ofSong 5 = .ok (.tableswitch 57 1 4 #[31, 38, 45, 51], 31) := by decide +kernel
theorem dX8_ofSong_36 : decode cX8_ofSong 36 = .ok (.aload_n 0, 1) := by decide +kernel
theorem dX8_ofSong_37 : decode cX8_ofSong 37 = .ok (.getfield 167, 3) := by decide +kernel
theorem dX8_ofSong_40 : decode cX8_ofSong 40 = .ok (.iload_n 2, 1) := by decide +kernel
theorem dX8_ofSong_41 : decode cX8_ofSong 41 = .ok (.iaload, 1) := by decide +kernel
theorem dX8_ofSong_42 : decode cX8_ofSong 42 = .ok (.ireturn, 1) := by decide +kernel
theorem dX8_ofSong_43 : decode cX8_ofSong 43 = .ok (.aload_n 0, 1) := by decide +kernel
theorem dX8_ofSong_44 : decode cX8_ofSong 44 = .ok (.getfield 170, 3) := by decide +kernel
theorem dX8_ofSong_47 : decode cX8_ofSong 47 = .ok (.iload_n 2, 1) := by decide +kernel
theorem dX8_ofSong_48 : decode cX8_ofSong 48 = .ok (.iaload, 1) := by decide +kernel
theorem dX8_ofSong_49 : decode cX8_ofSong 49 = .ok (.ireturn, 1) := by decide +kernel
theorem dX8_ofSong_50 : decode cX8_ofSong 50 = .ok (.aload_n 0, 1) := by decide +kernel
theorem dX8_ofSong_51 : decode cX8_ofSong 51 = .ok (.iload_n 2, 1) := by decide +kernel
theorem dX8_ofSong_52 : decode cX8_ofSong 52 = .ok (.invokevirtual 173, 3) := by decide +kernel
theorem dX8_ofSong_55 : decode cX8_ofSong 55 = .ok (.ireturn, 1) := by decide +kernel
theorem dX8_ofSong_56 : decode cX8_ofSong 56 = .ok (.aload_n 0, 1) := by decide +kernel
theorem dX8_ofSong_57 : decode cX8_ofSong 57 = .ok (.iload_n 2, 1) := by decide +kernel
theorem dX8_ofSong_58 : decode cX8_ofSong 58 = .ok (.invokevirtual 177, 3) := by decide +kernel
theorem dX8_ofSong_61 : decode cX8_ofSong 61 = .ok (.ireturn, 1) := by decide +kernel
theorem dX8_ofSong_62 : decode cX8_ofSong 62 = .ok (.iconst (-1), 1) := by decide +kernel
theorem dX8_ofSong_63 : decode cX8_ofSong 63 = .ok (.ireturn, 1) := by decide +kernel
theorem dX8_weight_0 : decode cX8_weight 0 = .ok (.aload_n 0, 1) := by decide +kernel
theorem dX8_weight_1 : decode cX8_weight 1 = .ok (.iload_n 1, 1) := by decide +kernel
theorem dX8_weight_2 : decode cX8_weight 2 = .ok (.invokevirtual 147, 3) := by decide +kernel
theorem dX8_weight_5 : decode cX8_weight 5 = .ok (.astore_n 3, 1) := by decide +kernel
theorem dX8_weight_6 : decode cX8_weight 6 = .ok (.aload_n 3, 1) := by decide +kernel
theorem dX8_weight_7 : decode cX8_weight 7 = .ok (.ifnull 14, 3) := by decide +kernel
theorem dX8_weight_10 : decode cX8_weight 10 = .ok (.aload_n 0, 1) := by decide +kernel
theorem dX8_weight_11 : decode cX8_weight 11 = .ok (.getfield 10, 3) := by decide +kernel
theorem dX8_weight_14 : decode cX8_weight 14 = .ok (.iload_n 2, 1) := by decide +kernel
theorem dX8_weight_15 : decode cX8_weight 15 = .ok (.invokevirtual 95, 3) := by decide +kernel
theorem dX8_weight_18 : decode cX8_weight 18 = .ok (.ifCond .ne 5, 3) := by decide +kernel
theorem dX8_weight_21 : decode cX8_weight 21 = .ok (.iconst (-1), 1) := by decide +kernel
theorem dX8_weight_22 : decode cX8_weight 22 = .ok (.ireturn, 1) := by decide +kernel
theorem dX8_weight_23 : decode cX8_weight 23 = .ok (.aload_n 3, 1) := by decide +kernel
theorem dX8_weight_24 : decode cX8_weight 24 = .ok (.invokevirtual 164, 3) := by decide +kernel
theorem dX8_weight_27 : decode cX8_weight 27 = .ok (.aload_n 3, 1) := by decide +kernel
theorem dX8_weight_28 : decode cX8_weight 28 = .ok (.iload_n 2, 1) := by decide +kernel
theorem dX8_weight_29 : decode cX8_weight 29 = .ok (.invokevirtual 180, 3) := by decide +kernel
theorem dX8_weight_32 : decode cX8_weight 32 = .ok (.ireturn, 1) := by decide +kernel
theorem dX8_come_0 : decode cX8_come 0 = .ok (.aload_n 0, 1) := by decide +kernel
theorem dX8_come_1 : decode cX8_come 1 = .ok (.iload_n 1, 1) := by decide +kernel
theorem dX8_come_2 : decode cX8_come 2 = .ok (.invokevirtual 147, 3) := by decide +kernel
theorem dX8_come_5 : decode cX8_come 5 = .ok (.astore_n 3, 1) := by decide +kernel
theorem dX8_come_6 : decode cX8_come 6 = .ok (.aload_n 3, 1) := by decide +kernel
theorem dX8_come_7 : decode cX8_come 7 = .ok (.ifnull 15, 3) := by decide +kernel
theorem dX8_come_10 : decode cX8_come 10 = .ok (.iload_n 2, 1) := by decide +kernel
theorem dX8_come_11 : decode cX8_come 11 = .ok (.iconst 1, 1) := by decide +kernel
theorem dX8_come_12 : decode cX8_come 12 = .ok (.if_icmp .lt 10, 3) := by decide +kernel
theorem dX8_come_15 : decode cX8_come 15 = .ok (.iload_n 2, 1) := by decide +kernel
theorem dX8_come_16 : decode cX8_come 16 = .ok (.sipush 200, 3) := by decide +kernel
theorem dX8_come_19 : decode cX8_come 19 = .ok (.if_icmp .le 5, 3) := by decide +kernel
theorem dX8_come_22 : decode cX8_come 22 = .ok (.iconst (-1), 1) := by decide +kernel
theorem dX8_come_23 : decode cX8_come 23 = .ok (.ireturn, 1) := by decide +kernel
theorem dX8_come_24 : decode cX8_come 24 = .ok (.aload_n 3, 1) := by decide +kernel
theorem dX8_come_25 : decode cX8_come 25 = .ok (.iload_n 2, 1) := by decide +kernel
theorem dX8_come_26 : decode cX8_come 26 = .ok (.invokevirtual 183, 3) := by decide +kernel
theorem dX8_come_29 : decode cX8_come 29 = .ok (.ireturn, 1) := by decide +kernel
theorem dX8_keepings_0 : decode cX8_keepings 0 = .ok (.aload_n 0, 1) := by decide +kernel
theorem dX8_keepings_1 : decode cX8_keepings 1 = .ok (.iload_n 1, 1) := by decide +kernel
theorem dX8_keepings_2 : decode cX8_keepings 2 = .ok (.invokevirtual 147, 3) := by decide +kernel
theorem dX8_keepings_5 : decode cX8_keepings 5 = .ok (.astore 5, 2) := by decide +kernel
theorem dX8_keepings_7 : decode cX8_keepings 7 = .ok (.aload_n 0, 1) := by decide +kernel
theorem dX8_keepings_8 : decode cX8_keepings 8 = .ok (.iload_n 2, 1) := by decide +kernel
theorem dX8_keepings_9 : decode cX8_keepings 9 = .ok (.invokevirtual 186, 3) := by decide +kernel
theorem dX8_keepings_12 : decode cX8_keepings 12 = .ok (.astore 6, 2) := by decide +kernel
theorem dX8_keepings_14 : decode cX8_keepings 14 = .ok (.aload 5, 2) := by decide +kernel
theorem dX8_keepings_16 : decode cX8_keepings 16 = .ok (.ifnull 21, 3) := by decide +kernel
theorem dX8_keepings_19 : decode cX8_keepings 19 = .ok (.aload 6, 2) := by decide +kernel
theorem dX8_keepings_21 : decode cX8_keepings 21 = .ok (.ifnull 16, 3) := by decide +kernel
theorem dX8_keepings_24 : decode cX8_keepings 24 = .ok (.iload 4, 2) := by decide +kernel
theorem dX8_keepings_26 : decode cX8_keepings 26 = .ok (.iconst 1, 1) := by decide +kernel
theorem dX8_keepings_27 : decode cX8_keepings 27 = .ok (.if_icmp .lt 10, 3) := by decide +kernel
theorem dX8_keepings_30 : decode cX8_keepings 30 = .ok (.iload 4, 2) := by decide +kernel
theorem dX8_keepings_32 : decode cX8_keepings 32 = .ok (.bipush 60, 2) := by decide +kernel
theorem dX8_keepings_34 : decode cX8_keepings 34 = .ok (.if_icmp .le 5, 3) := by decide +kernel
theorem dX8_keepings_37 : decode cX8_keepings 37 = .ok (.iconst (-1), 1) := by decide +kernel
theorem dX8_keepings_38 : decode cX8_keepings 38 = .ok (.ireturn, 1) := by decide +kernel
theorem dX8_keepings_39 : decode cX8_keepings 39 = .ok (.aload 6, 2) := by decide +kernel
theorem dX8_keepings_41 : decode cX8_keepings 41 = .ok (.getfield 190, 3) := by decide +kernel
theorem dX8_keepings_44 : decode cX8_keepings 44 = .ok (.ifCond .ne 5, 3) := by decide +kernel
theorem dX8_keepings_47 : decode cX8_keepings 47 = .ok (.iconst 0, 1) := by decide +kernel
theorem dX8_keepings_48 : decode cX8_keepings 48 = .ok (.ireturn, 1) := by decide +kernel
theorem dX8_keepings_49 : decode cX8_keepings 49 = .ok (.aload 6, 2) := by decide +kernel
theorem dX8_keepings_51 : decode cX8_keepings 51 = .ok (.getfield 190, 3) := by decide +kernel
theorem dX8_keepings_54 : decode cX8_keepings 54 = .ok (.iconst 2, 1) := by decide +kernel
theorem dX8_keepings_55 : decode cX8_keepings 55 = .ok (.if_icmp .ne 11, 3) := by decide +kernel
theorem dX8_keepings_58 : decode cX8_keepings 58 = .ok (.aload 6, 2) := by decide +kernel
theorem dX8_keepings_60 : decode cX8_keepings 60 = .ok (.getfield 193, 3) := by decide +kernel
theorem dX8_keepings_63 : decode cX8_keepings 63 = .ok (.ifCond .eq 6, 3) := by decide +kernel
theorem dX8_keepings_66 : decode cX8_keepings 66 = .ok (.bipush (-12), 2) := by decide +kernel
theorem dX8_keepings_68 : decode cX8_keepings 68 = .ok (.ireturn, 1) := by decide +kernel
theorem dX8_keepings_69 : decode cX8_keepings 69 = .ok (.iconst 0, 1) := by decide +kernel
theorem dX8_keepings_70 : decode cX8_keepings 70 = .ok (.istore 7, 2) := by decide +kernel
theorem dX8_keepings_72 : decode cX8_keepings 72 = .ok (.iload_n 3, 1) := by decide +kernel
theorem dX8_keepings_73 : decode cX8_keepings 73 = .ok (.istore 8, 2) := by decide +kernel
theorem dX8_keepings_75 : decode cX8_keepings 75 = .ok (.iload 7, 2) := by decide +kernel
theorem dX8_keepings_77 : decode cX8_keepings 77 = .ok (.iload 4, 2) := by decide +kernel
theorem dX8_keepings_79 : decode cX8_keepings 79 = .ok (.if_icmp .ge 61, 3) := by decide +kernel
theorem dX8_keepings_82 : decode cX8_keepings 82 = .ok (.aload 6, 2) := by decide +kernel
theorem dX8_keepings_84 : decode cX8_keepings 84 = .ok (.iload 8, 2) := by decide +kernel
theorem dX8_keepings_86 : decode cX8_keepings 86 = .ok (.invokevirtual 196, 3) := by decide +kernel
theorem dX8_keepings_89 : decode cX8_keepings 89 = .ok (.ifCond .eq 51, 3) := by decide +kernel
theorem dX8_keepings_92 : decode cX8_keepings 92 = .ok (.aload 6, 2) := by decide +kernel
theorem dX8_keepings_94 : decode cX8_keepings 94 = .ok (.getfield 197, 3) := by decide +kernel
theorem dX8_keepings_97 : decode cX8_keepings 97 = .ok (.iload 8, 2) := by decide +kernel
theorem dX8_keepings_99 : decode cX8_keepings 99 = .ok (.laload, 1) := by decide +kernel
theorem dX8_keepings_100 : decode cX8_keepings 100 = .ok (.l2i, 1) := by decide +kernel
theorem dX8_keepings_101 : decode cX8_keepings 101 = .ok (.istore 9, 2) := by decide +kernel
theorem dX8_keepings_103 : decode cX8_keepings 103 = .ok (.iload 9, 2) := by decide +kernel
theorem dX8_keepings_105 : decode cX8_keepings 105 = .ok (.iconst (-1), 1) := by decide +kernel
theorem dX8_keepings_106 : decode cX8_keepings 106 = .ok (.if_icmp .eq 18, 3) := by decide +kernel
theorem dX8_keepings_109 : decode cX8_keepings 109 = .ok (.aload_n 0, 1) := by decide +kernel
theorem dX8_keepings_110 : decode cX8_keepings 110 = .ok (.getfield 10, 3) := by decide +kernel
theorem dX8_keepings_113 : decode cX8_keepings 113 = .ok (.iload 9, 2) := by decide +kernel
theorem dX8_keepings_115 : decode cX8_keepings 115 = .ok (.invokevirtual 95, 3) := by decide +kernel
theorem dX8_keepings_118 : decode cX8_keepings 118 = .ok (.ifCond .ne 6, 3) := by decide +kernel
theorem dX8_keepings_121 : decode cX8_keepings 121 = .ok (.iload 7, 2) := by decide +kernel
theorem dX8_keepings_123 : decode cX8_keepings 123 = .ok (.ireturn, 1) := by decide +kernel
theorem dX8_keepings_124 : decode cX8_keepings 124 = .ok (.aload 5, 2) := by decide +kernel
theorem dX8_keepings_126 : decode cX8_keepings 126 = .ok (.iload 9, 2) := by decide +kernel
theorem dX8_keepings_128 : decode cX8_keepings 128 = .ok (.invokevirtual 201, 3) := by decide +kernel
theorem dX8_keepings_131 : decode cX8_keepings 131 = .ok (.iinc 7 1, 3) := by decide +kernel
theorem dX8_keepings_134 : decode cX8_keepings 134 = .ok (.iinc 8 1, 3) := by decide +kernel
theorem dX8_keepings_137 : decode cX8_keepings 137 = .ok (.goto (-62), 3) := by decide +kernel
theorem dX8_keepings_140 : decode cX8_keepings 140 = .ok (.iload 7, 2) := by decide +kernel
theorem dX8_keepings_142 : decode cX8_keepings 142 = .ok (.ireturn, 1) := by decide +kernel
theorem dX8_led_0 : decode cX8_led 0 = .ok (.aload_n 0, 1) := by decide +kernel
theorem dX8_led_1 : decode cX8_led 1 = .ok (.iload_n 1, 1) := by decide +kernel
theorem dX8_led_2 : decode cX8_led 2 = .ok (.invokevirtual 147, 3) := by decide +kernel
theorem dX8_led_5 : decode cX8_led 5 = .ok (.astore_n 3, 1) := by decide +kernel
theorem dX8_led_6 : decode cX8_led 6 = .ok (.aload_n 3, 1) := by decide +kernel
theorem dX8_led_7 : decode cX8_led 7 = .ok (.ifnull 15, 3) := by decide +kernel
theorem dX8_led_10 : decode cX8_led 10 = .ok (.iload_n 2, 1) := by decide +kernel
theorem dX8_led_11 : decode cX8_led 11 = .ok (.ifCond .lt 11, 3) := by decide +kernel
theorem dX8_led_14 : decode cX8_led 14 = .ok (.iload_n 2, 1) := by decide +kernel
theorem dX8_led_15 : decode cX8_led 15 = .ok (.aload_n 3, 1) := by decide +kernel
theorem dX8_led_16 : decode cX8_led 16 = .ok (.invokevirtual 204, 3) := by decide +kernel
theorem dX8_led_19 : decode cX8_led 19 = .ok (.if_icmp .lt 5, 3) := by decide +kernel
theorem dX8_led_22 : decode cX8_led 22 = .ok (.iconst (-1), 1) := by decide +kernel
theorem dX8_led_23 : decode cX8_led 23 = .ok (.ireturn, 1) := by decide +kernel
theorem dX8_led_24 : decode cX8_led 24 = .ok (.aload_n 3, 1) := by decide +kernel
theorem dX8_led_25 : decode cX8_led 25 = .ok (.getfield 207, 3) := by decide +kernel
theorem dX8_led_28 : decode cX8_led 28 = .ok (.iload_n 2, 1) := by decide +kernel
theorem dX8_led_29 : decode cX8_led 29 = .ok (.baload, 1) := by decide +kernel
theorem dX8_led_30 : decode cX8_led 30 = .ok (.ireturn, 1) := by decide +kernel
theorem dX8_lawOf_0 : decode cX8_lawOf 0 = .ok (.iload_n 1, 1) := by decide +kernel
theorem dX8_lawOf_1 : decode cX8_lawOf 1 = .ok (.ifCond .lt 26, 3) := by decide +kernel
theorem dX8_lawOf_4 : decode cX8_lawOf 4 = .ok (.iload_n 1, 1) := by decide +kernel
theorem dX8_lawOf_5 : decode cX8_lawOf 5 = .ok (.aload_n 0, 1) := by decide +kernel
theorem dX8_lawOf_6 : decode cX8_lawOf 6 = .ok (.getfield 110, 3) := by decide +kernel
theorem dX8_lawOf_9 : decode cX8_lawOf 9 = .ok (.if_icmp .ge 18, 3) := by decide +kernel
theorem dX8_lawOf_12 : decode cX8_lawOf 12 = .ok (.iload_n 1, 1) := by decide +kernel
theorem dX8_lawOf_13 : decode cX8_lawOf 13 = .ok (.bipush 6, 2) := by decide +kernel
theorem dX8_lawOf_15 : decode cX8_lawOf 15 = .ok (.if_icmp .ge 12, 3) := by decide +kernel
theorem dX8_lawOf_18 : decode cX8_lawOf 18 = .ok (.aload_n 0, 1) := by decide +kernel
theorem dX8_lawOf_19 : decode cX8_lawOf 19 = .ok (.getfield 25, 3) := by decide +kernel
theorem dX8_lawOf_22 : decode cX8_lawOf 22 = .ok (.iload_n 1, 1) := by decide +kernel
theorem dX8_lawOf_23 : decode cX8_lawOf 23 = .ok (.aaload, 1) := by decide +kernel
theorem dX8_lawOf_24 : decode cX8_lawOf 24 = .ok (.goto 4, 3) := by decide +kernel
theorem dX8_lawOf_27 : decode cX8_lawOf 27 = .ok (.aconst_null, 1) := by decide +kernel
theorem dX8_lawOf_28 : decode cX8_lawOf 28 = .ok (.areturn, 1) := by decide +kernel
theorem dX8_worldOf_0 : decode cX8_worldOf 0 = .ok (.iload_n 1, 1) := by decide +kernel
theorem dX8_worldOf_1 : decode cX8_worldOf 1 = .ok (.ifCond .lt 26, 3) := by decide +kernel
theorem dX8_worldOf_4 : decode cX8_worldOf 4 = .ok (.iload_n 1, 1) := by decide +kernel
theorem dX8_worldOf_5 : decode cX8_worldOf 5 = .ok (.aload_n 0, 1) := by decide +kernel
theorem dX8_worldOf_6 : decode cX8_worldOf 6 = .ok (.getfield 128, 3) := by decide +kernel
theorem dX8_worldOf_9 : decode cX8_worldOf 9 = .ok (.if_icmp .ge 18, 3) := by decide +kernel
theorem dX8_worldOf_12 : decode cX8_worldOf 12 = .ok (.iload_n 1, 1) := by decide +kernel
theorem dX8_worldOf_13 : decode cX8_worldOf 13 = .ok (.bipush 9, 2) := by decide +kernel
theorem dX8_worldOf_15 : decode cX8_worldOf 15 = .ok (.if_icmp .ge 12, 3) := by decide +kernel
theorem dX8_worldOf_18 : decode cX8_worldOf 18 = .ok (.aload_n 0, 1) := by decide +kernel
theorem dX8_worldOf_19 : decode cX8_worldOf 19 = .ok (.getfield 31, 3) := by decide +kernel
theorem dX8_worldOf_22 : decode cX8_worldOf 22 = .ok (.iload_n 1, 1) := by decide +kernel
theorem dX8_worldOf_23 : decode cX8_worldOf 23 = .ok (.aaload, 1) := by decide +kernel
theorem dX8_worldOf_24 : decode cX8_worldOf 24 = .ok (.goto 4, 3) := by decide +kernel
theorem dX8_worldOf_27 : decode cX8_worldOf 27 = .ok (.aconst_null, 1) := by decide +kernel
theorem dX8_worldOf_28 : decode cX8_worldOf 28 = .ok (.areturn, 1) := by decide +kernel
theorem dX8_shelfOf_0 : decode cX8_shelfOf 0 = .ok (.iload_n 1, 1) := by decide +kernel
theorem dX8_shelfOf_1 : decode cX8_shelfOf 1 = .ok (.ifCond .lt 18, 3) := by decide +kernel
theorem dX8_shelfOf_4 : decode cX8_shelfOf 4 = .ok (.iload_n 1, 1) := by decide +kernel
theorem dX8_shelfOf_5 : decode cX8_shelfOf 5 = .ok (.bipush 6, 2) := by decide +kernel
theorem dX8_shelfOf_7 : decode cX8_shelfOf 7 = .ok (.if_icmp .ge 12, 3) := by decide +kernel
theorem dX8_shelfOf_10 : decode cX8_shelfOf 10 = .ok (.aload_n 0, 1) := by decide +kernel
theorem dX8_shelfOf_11 : decode cX8_shelfOf 11 = .ok (.getfield 51, 3) := by decide +kernel
theorem dX8_shelfOf_14 : decode cX8_shelfOf 14 = .ok (.iload_n 1, 1) := by decide +kernel
theorem dX8_shelfOf_15 : decode cX8_shelfOf 15 = .ok (.aaload, 1) := by decide +kernel
theorem dX8_shelfOf_16 : decode cX8_shelfOf 16 = .ok (.goto 4, 3) := by decide +kernel
theorem dX8_shelfOf_19 : decode cX8_shelfOf 19 = .ok (.aconst_null, 1) := by decide +kernel
theorem dX8_shelfOf_20 : decode cX8_shelfOf 20 = .ok (.areturn, 1) := by decide +kernel
theorem dX8_unequal_0 : decode cX8_unequal 0 = .ok (.aload_n 0, 1) := by decide +kernel
theorem dX8_unequal_1 : decode cX8_unequal 1 = .ok (.iload_n 1, 1) := by decide +kernel
theorem dX8_unequal_2 : decode cX8_unequal 2 = .ok (.invokevirtual 147, 3) := by decide +kernel
theorem dX8_unequal_5 : decode cX8_unequal 5 = .ok (.astore_n 2, 1) := by decide +kernel
theorem dX8_unequal_6 : decode cX8_unequal 6 = .ok (.aload_n 2, 1) := by decide +kernel
theorem dX8_unequal_7 : decode cX8_unequal 7 = .ok (.ifnonnull 5, 3) := by decide +kernel
theorem dX8_unequal_10 : decode cX8_unequal 10 = .ok (.iconst (-1), 1) := by decide +kernel
theorem dX8_unequal_11 : decode cX8_unequal 11 = .ok (.ireturn, 1) := by decide +kernel
theorem dX8_unequal_12 : decode cX8_unequal 12 = .ok (.aload_n 0, 1) := by decide +kernel
theorem dX8_unequal_13 : decode cX8_unequal 13 = .ok (.getfield 10, 3) := by decide +kernel
theorem dX8_unequal_16 : decode cX8_unequal 16 = .ok (.getfield 88, 3) := by decide +kernel
theorem dX8_unequal_19 : decode cX8_unequal 19 = .ok (.ifCond .ne 5, 3) := by decide +kernel
theorem dX8_unequal_22 : decode cX8_unequal 22 = .ok (.iconst 0, 1) := by decide +kernel
theorem dX8_unequal_23 : decode cX8_unequal 23 = .ok (.ireturn, 1) := by decide +kernel
theorem dX8_unequal_24 : decode cX8_unequal 24 = .ok (.iconst 0, 1) := by decide +kernel
theorem dX8_unequal_25 : decode cX8_unequal 25 = .ok (.istore_n 3, 1) := by decide +kernel
theorem dX8_unequal_26 : decode cX8_unequal 26 = .ok (.iconst 0, 1) := by decide +kernel
theorem dX8_unequal_27 : decode cX8_unequal 27 = .ok (.istore 4, 2) := by decide +kernel
theorem dX8_unequal_29 : decode cX8_unequal 29 = .ok (.iload 4, 2) := by decide +kernel
theorem dX8_unequal_31 : decode cX8_unequal 31 = .ok (.aload_n 0, 1) := by decide +kernel
theorem dX8_unequal_32 : decode cX8_unequal 32 = .ok (.getfield 10, 3) := by decide +kernel
theorem dX8_unequal_35 : decode cX8_unequal 35 = .ok (.getfield 88, 3) := by decide +kernel
theorem dX8_unequal_38 : decode cX8_unequal 38 = .ok (.if_icmp .ge 52, 3) := by decide +kernel
theorem dX8_unequal_41 : decode cX8_unequal 41 = .ok (.iload 4, 2) := by decide +kernel
theorem dX8_unequal_43 : decode cX8_unequal 43 = .ok (.iconst 1, 1) := by decide +kernel
theorem dX8_unequal_44 : decode cX8_unequal 44 = .ok (.iadd, 1) := by decide +kernel
theorem dX8_unequal_45 : decode cX8_unequal 45 = .ok (.istore 5, 2) := by decide +kernel
theorem dX8_unequal_47 : decode cX8_unequal 47 = .ok (.iload 5, 2) := by decide +kernel
theorem dX8_unequal_49 : decode cX8_unequal 49 = .ok (.aload_n 0, 1) := by decide +kernel
theorem dX8_unequal_50 : decode cX8_unequal 50 = .ok (.getfield 10, 3) := by decide +kernel
theorem dX8_unequal_53 : decode cX8_unequal 53 = .ok (.getfield 88, 3) := by decide +kernel
theorem dX8_unequal_56 : decode cX8_unequal 56 = .ok (.if_icmp .ge 28, 3) := by decide +kernel
theorem dX8_unequal_59 : decode cX8_unequal 59 = .ok (.iload_n 3, 1) := by decide +kernel
theorem dX8_unequal_60 : decode cX8_unequal 60 = .ok (.aload_n 2, 1) := by decide +kernel
theorem dX8_unequal_61 : decode cX8_unequal 61 = .ok (.iload 4, 2) := by decide +kernel
theorem dX8_unequal_63 : decode cX8_unequal 63 = .ok (.invokevirtual 177, 3) := by decide +kernel
theorem dX8_unequal_66 : decode cX8_unequal 66 = .ok (.aload_n 2, 1) := by decide +kernel
theorem dX8_unequal_67 : decode cX8_unequal 67 = .ok (.iload 5, 2) := by decide +kernel
theorem dX8_unequal_69 : decode cX8_unequal 69 = .ok (.invokevirtual 177, 3) := by decide +kernel
theorem dX8_unequal_72 : decode cX8_unequal 72 = .ok (.isub, 1) := by decide +kernel
theorem dX8_unequal_73 : decode cX8_unequal 73 = .ok (.invokestatic 211, 3) := by decide +kernel
theorem dX8_unequal_76 : decode cX8_unequal 76 = .ok (.iadd, 1) := by decide +kernel
theorem dX8_unequal_77 : decode cX8_unequal 77 = .ok (.istore_n 3, 1) := by decide +kernel
theorem dX8_unequal_78 : decode cX8_unequal 78 = .ok (.iinc 5 1, 3) := by decide +kernel
theorem dX8_unequal_81 : decode cX8_unequal 81 = .ok (.goto (-34), 3) := by decide +kernel
theorem dX8_unequal_84 : decode cX8_unequal 84 = .ok (.iinc 4 1, 3) := by decide +kernel
theorem dX8_unequal_87 : decode cX8_unequal 87 = .ok (.goto (-58), 3) := by decide +kernel
theorem dX8_unequal_90 : decode cX8_unequal 90 = .ok (.iload_n 3, 1) := by decide +kernel
theorem dX8_unequal_91 : decode cX8_unequal 91 = .ok (.aload_n 0, 1) := by decide +kernel
theorem dX8_unequal_92 : decode cX8_unequal 92 = .ok (.getfield 10, 3) := by decide +kernel
theorem dX8_unequal_95 : decode cX8_unequal 95 = .ok (.getfield 88, 3) := by decide +kernel
theorem dX8_unequal_98 : decode cX8_unequal 98 = .ok (.idiv, 1) := by decide +kernel
theorem dX8_unequal_99 : decode cX8_unequal 99 = .ok (.ireturn, 1) := by decide +kernel
theorem dX8_unlike_0 : decode cX8_unlike 0 = .ok (.aload_n 0, 1) := by decide +kernel
theorem dX8_unlike_1 : decode cX8_unlike 1 = .ok (.iload_n 1, 1) := by decide +kernel
theorem dX8_unlike_2 : decode cX8_unlike 2 = .ok (.bipush 10, 2) := by decide +kernel
theorem dX8_unlike_4 : decode cX8_unlike 4 = .ok (.idiv, 1) := by decide +kernel
theorem dX8_unlike_5 : decode cX8_unlike 5 = .ok (.invokevirtual 147, 3) := by decide +kernel
theorem dX8_unlike_8 : decode cX8_unlike 8 = .ok (.astore_n 2, 1) := by decide +kernel
theorem dX8_unlike_9 : decode cX8_unlike 9 = .ok (.aload_n 0, 1) := by decide +kernel
theorem dX8_unlike_10 : decode cX8_unlike 10 = .ok (.iload_n 1, 1) := by decide +kernel
theorem dX8_unlike_11 : decode cX8_unlike 11 = .ok (.bipush 10, 2) := by decide +kernel
theorem dX8_unlike_13 : decode cX8_unlike 13 = .ok (.irem, 1) := by decide +kernel
theorem dX8_unlike_14 : decode cX8_unlike 14 = .ok (.invokevirtual 147, 3) := by decide +kernel
theorem dX8_unlike_17 : decode cX8_unlike 17 = .ok (.astore_n 3, 1) := by decide +kernel
theorem dX8_unlike_18 : decode cX8_unlike 18 = .ok (.aload_n 2, 1) := by decide +kernel
theorem dX8_unlike_19 : decode cX8_unlike 19 = .ok (.ifnull 12, 3) := by decide +kernel
theorem dX8_unlike_22 : decode cX8_unlike 22 = .ok (.aload_n 3, 1) := by decide +kernel
theorem dX8_unlike_23 : decode cX8_unlike 23 = .ok (.ifnull 8, 3) := by decide +kernel
theorem dX8_unlike_26 : decode cX8_unlike 26 = .ok (.aload_n 2, 1) := by decide +kernel
theorem dX8_unlike_27 : decode cX8_unlike 27 = .ok (.aload_n 3, 1) := by decide +kernel
theorem dX8_unlike_28 : decode cX8_unlike 28 = .ok (.if_acmp .ne 5, 3) := by decide +kernel
theorem dX8_unlike_31 : decode cX8_unlike 31 = .ok (.iconst (-1), 1) := by decide +kernel
theorem dX8_unlike_32 : decode cX8_unlike 32 = .ok (.ireturn, 1) := by decide +kernel
theorem dX8_unlike_33 : decode cX8_unlike 33 = .ok (.aload_n 0, 1) := by decide +kernel
theorem dX8_unlike_34 : decode cX8_unlike 34 = .ok (.aload_n 2, 1) := by decide +kernel
theorem dX8_unlike_35 : decode cX8_unlike 35 = .ok (.aload_n 3, 1) := by decide +kernel
theorem dX8_unlike_36 : decode cX8_unlike 36 = .ok (.invokevirtual 216, 3) := by decide +kernel
theorem dX8_unlike_39 : decode cX8_unlike 39 = .ok (.ireturn, 1) := by decide +kernel
theorem dX8_apart_0 : decode cX8_apart 0 = .ok (.iconst 0, 1) := by decide +kernel
theorem dX8_apart_1 : decode cX8_apart 1 = .ok (.istore_n 3, 1) := by decide +kernel
theorem dX8_apart_2 : decode cX8_apart 2 = .ok (.iconst 0, 1) := by decide +kernel
theorem dX8_apart_3 : decode cX8_apart 3 = .ok (.istore 4, 2) := by decide +kernel
theorem dX8_apart_5 : decode cX8_apart 5 = .ok (.iload 4, 2) := by decide +kernel
theorem dX8_apart_7 : decode cX8_apart 7 = .ok (.aload_n 0, 1) := by decide +kernel
theorem dX8_apart_8 : decode cX8_apart 8 = .ok (.getfield 10, 3) := by decide +kernel
theorem dX8_apart_11 : decode cX8_apart 11 = .ok (.getfield 88, 3) := by decide +kernel
theorem dX8_apart_14 : decode cX8_apart 14 = .ok (.if_icmp .ge 28, 3) := by decide +kernel
theorem dX8_apart_17 : decode cX8_apart 17 = .ok (.iload_n 3, 1) := by decide +kernel
theorem dX8_apart_18 : decode cX8_apart 18 = .ok (.aload_n 1, 1) := by decide +kernel
theorem dX8_apart_19 : decode cX8_apart 19 = .ok (.iload 4, 2) := by decide +kernel
theorem dX8_apart_21 : decode cX8_apart 21 = .ok (.invokevirtual 177, 3) := by decide +kernel
theorem dX8_apart_24 : decode cX8_apart 24 = .ok (.aload_n 2, 1) := by decide +kernel
theorem dX8_apart_25 : decode cX8_apart 25 = .ok (.iload 4, 2) := by decide +kernel
theorem dX8_apart_27 : decode cX8_apart 27 = .ok (.invokevirtual 177, 3) := by decide +kernel
theorem dX8_apart_30 : decode cX8_apart 30 = .ok (.isub, 1) := by decide +kernel
theorem dX8_apart_31 : decode cX8_apart 31 = .ok (.invokestatic 211, 3) := by decide +kernel
theorem dX8_apart_34 : decode cX8_apart 34 = .ok (.iadd, 1) := by decide +kernel
theorem dX8_apart_35 : decode cX8_apart 35 = .ok (.istore_n 3, 1) := by decide +kernel
theorem dX8_apart_36 : decode cX8_apart 36 = .ok (.iinc 4 1, 3) := by decide +kernel
theorem dX8_apart_39 : decode cX8_apart 39 = .ok (.goto (-34), 3) := by decide +kernel
theorem dX8_apart_42 : decode cX8_apart 42 = .ok (.iload_n 3, 1) := by decide +kernel
theorem dX8_apart_43 : decode cX8_apart 43 = .ok (.iconst 2, 1) := by decide +kernel
theorem dX8_apart_44 : decode cX8_apart 44 = .ok (.idiv, 1) := by decide +kernel
theorem dX8_apart_45 : decode cX8_apart 45 = .ok (.ireturn, 1) := by decide +kernel
theorem dX8_luck_0 : decode cX8_luck 0 = .ok (.aload_n 0, 1) := by decide +kernel
theorem dX8_luck_1 : decode cX8_luck 1 = .ok (.iload_n 1, 1) := by decide +kernel
theorem dX8_luck_2 : decode cX8_luck 2 = .ok (.invokevirtual 124, 3) := by decide +kernel
theorem dX8_luck_5 : decode cX8_luck 5 = .ok (.ifnull 19, 3) := by decide +kernel
theorem dX8_luck_8 : decode cX8_luck 8 = .ok (.iload_n 2, 1) := by decide +kernel
theorem dX8_luck_9 : decode cX8_luck 9 = .ok (.iconst (-1), 1) := by decide +kernel
theorem dX8_luck_10 : decode cX8_luck 10 = .ok (.if_icmp .lt 14, 3) := by decide +kernel
theorem dX8_luck_13 : decode cX8_luck 13 = .ok (.iload_n 2, 1) := by decide +kernel
theorem dX8_luck_14 : decode cX8_luck 14 = .ok (.aload_n 0, 1) := by decide +kernel
theorem dX8_luck_15 : decode cX8_luck 15 = .ok (.getfield 10, 3) := by decide +kernel
theorem dX8_luck_18 : decode cX8_luck 18 = .ok (.getfield 88, 3) := by decide +kernel
theorem dX8_luck_21 : decode cX8_luck 21 = .ok (.if_icmp .lt 5, 3) := by decide +kernel
theorem dX8_luck_24 : decode cX8_luck 24 = .ok (.iconst (-1), 1) := by decide +kernel
theorem dX8_luck_25 : decode cX8_luck 25 = .ok (.ireturn, 1) := by decide +kernel
theorem dX8_luck_26 : decode cX8_luck 26 = .ok (.aload_n 0, 1) := by decide +kernel
theorem dX8_luck_27 : decode cX8_luck 27 = .ok (.getfield 10, 3) := by decide +kernel
theorem dX8_luck_30 : decode cX8_luck 30 = .ok (.getfield 88, 3) := by decide +kernel
theorem dX8_luck_33 : decode cX8_luck 33 = .ok (.ifCond .ne 6, 3) := by decide +kernel
theorem dX8_luck_36 : decode cX8_luck 36 = .ok (.bipush (-2), 2) := by decide +kernel
theorem dX8_luck_38 : decode cX8_luck 38 = .ok (.ireturn, 1) := by decide +kernel
theorem dX8_luck_39 : decode cX8_luck 39 = .ok (.iload_n 2, 1) := by decide +kernel
theorem dX8_luck_40 : decode cX8_luck 40 = .ok (.ifCond .lt 10, 3) := by decide +kernel
theorem dX8_luck_43 : decode cX8_luck 43 = .ok (.aload_n 0, 1) := by decide +kernel
theorem dX8_luck_44 : decode cX8_luck 44 = .ok (.iload_n 1, 1) := by decide +kernel
theorem dX8_luck_45 : decode cX8_luck 45 = .ok (.iload_n 2, 1) := by decide +kernel
theorem dX8_luck_46 : decode cX8_luck 46 = .ok (.invokevirtual 220, 3) := by decide +kernel
theorem dX8_luck_49 : decode cX8_luck 49 = .ok (.ireturn, 1) := by decide +kernel
theorem dX8_luck_50 : decode cX8_luck 50 = .ok (.iconst 0, 1) := by decide +kernel
theorem dX8_luck_51 : decode cX8_luck 51 = .ok (.istore_n 3, 1) := by decide +kernel
theorem dX8_luck_52 : decode cX8_luck 52 = .ok (.iconst 0, 1) := by decide +kernel
theorem dX8_luck_53 : decode cX8_luck 53 = .ok (.istore 4, 2) := by decide +kernel
theorem dX8_luck_55 : decode cX8_luck 55 = .ok (.iload 4, 2) := by decide +kernel
theorem dX8_luck_57 : decode cX8_luck 57 = .ok (.aload_n 0, 1) := by decide +kernel
theorem dX8_luck_58 : decode cX8_luck 58 = .ok (.getfield 10, 3) := by decide +kernel
theorem dX8_luck_61 : decode cX8_luck 61 = .ok (.getfield 88, 3) := by decide +kernel
theorem dX8_luck_64 : decode cX8_luck 64 = .ok (.if_icmp .ge 33, 3) := by decide +kernel
theorem dX8_luck_67 : decode cX8_luck 67 = .ok (.aload_n 0, 1) := by decide +kernel
theorem dX8_luck_68 : decode cX8_luck 68 = .ok (.iload_n 1, 1) := by decide +kernel
theorem dX8_luck_69 : decode cX8_luck 69 = .ok (.iload 4, 2) := by decide +kernel
theorem dX8_luck_71 : decode cX8_luck 71 = .ok (.invokevirtual 220, 3) := by decide +kernel
theorem dX8_luck_74 : decode cX8_luck 74 = .ok (.istore 5, 2) := by decide +kernel
theorem dX8_luck_76 : decode cX8_luck 76 = .ok (.iload 5, 2) := by decide +kernel
theorem dX8_luck_78 : decode cX8_luck 78 = .ok (.bipush (-2), 2) := by decide +kernel
theorem dX8_luck_80 : decode cX8_luck 80 = .ok (.if_icmp .ne 6, 3) := by decide +kernel
theorem dX8_luck_83 : decode cX8_luck 83 = .ok (.bipush (-2), 2) := by decide +kernel
theorem dX8_luck_85 : decode cX8_luck 85 = .ok (.ireturn, 1) := by decide +kernel
theorem dX8_luck_86 : decode cX8_luck 86 = .ok (.iload_n 3, 1) := by decide +kernel
theorem dX8_luck_87 : decode cX8_luck 87 = .ok (.iload 5, 2) := by decide +kernel
theorem dX8_luck_89 : decode cX8_luck 89 = .ok (.iadd, 1) := by decide +kernel
theorem dX8_luck_90 : decode cX8_luck 90 = .ok (.istore_n 3, 1) := by decide +kernel
theorem dX8_luck_91 : decode cX8_luck 91 = .ok (.iinc 4 1, 3) := by decide +kernel
theorem dX8_luck_94 : decode cX8_luck 94 = .ok (.goto (-39), 3) := by decide +kernel
theorem dX8_luck_97 : decode cX8_luck 97 = .ok (.iload_n 3, 1) := by decide +kernel
theorem dX8_luck_98 : decode cX8_luck 98 = .ok (.aload_n 0, 1) := by decide +kernel
theorem dX8_luck_99 : decode cX8_luck 99 = .ok (.getfield 10, 3) := by decide +kernel
theorem dX8_luck_102 : decode cX8_luck 102 = .ok (.getfield 88, 3) := by decide +kernel
theorem dX8_luck_105 : decode cX8_luck 105 = .ok (.idiv, 1) := by decide +kernel
theorem dX8_luck_106 : decode cX8_luck 106 = .ok (.ireturn, 1) := by decide +kernel
theorem dX8_luckOf_0 : decode cX8_luckOf 0 = .ok (.iconst 0, 1) := by decide +kernel
theorem dX8_luckOf_1 : decode cX8_luckOf 1 = .ok (.istore_n 3, 1) := by decide +kernel
theorem dX8_luckOf_2 : decode cX8_luckOf 2 = .ok (.iconst 0, 1) := by decide +kernel
theorem dX8_luckOf_3 : decode cX8_luckOf 3 = .ok (.istore 4, 2) := by decide +kernel
theorem dX8_luckOf_5 : decode cX8_luckOf 5 = .ok (.iconst 0, 1) := by decide +kernel
theorem dX8_luckOf_6 : decode cX8_luckOf 6 = .ok (.istore 5, 2) := by decide +kernel
theorem dX8_luckOf_8 : decode cX8_luckOf 8 = .ok (.iload 5, 2) := by decide +kernel
theorem dX8_luckOf_10 : decode cX8_luckOf 10 = .ok (.aload_n 0, 1) := by decide +kernel
theorem dX8_luckOf_11 : decode cX8_luckOf 11 = .ok (.getfield 128, 3) := by decide +kernel
theorem dX8_luckOf_14 : decode cX8_luckOf 14 = .ok (.if_icmp .ge 96, 3) := by decide +kernel
theorem dX8_luckOf_17 : decode cX8_luckOf 17 = .ok (.aload_n 0, 1) := by decide +kernel
theorem dX8_luckOf_18 : decode cX8_luckOf 18 = .ok (.iload 5, 2) := by decide +kernel
theorem dX8_luckOf_20 : decode cX8_luckOf 20 = .ok (.invokevirtual 147, 3) := by decide +kernel
theorem dX8_luckOf_23 : decode cX8_luckOf 23 = .ok (.astore 6, 2) := by decide +kernel
theorem dX8_luckOf_25 : decode cX8_luckOf 25 = .ok (.iload 5, 2) := by decide +kernel
theorem dX8_luckOf_27 : decode cX8_luckOf 27 = .ok (.iconst 1, 1) := by decide +kernel
theorem dX8_luckOf_28 : decode cX8_luckOf 28 = .ok (.iadd, 1) := by decide +kernel
theorem dX8_luckOf_29 : decode cX8_luckOf 29 = .ok (.istore 7, 2) := by decide +kernel
theorem dX8_luckOf_31 : decode cX8_luckOf 31 = .ok (.iload 7, 2) := by decide +kernel
theorem dX8_luckOf_33 : decode cX8_luckOf 33 = .ok (.aload_n 0, 1) := by decide +kernel
theorem dX8_luckOf_34 : decode cX8_luckOf 34 = .ok (.getfield 128, 3) := by decide +kernel
theorem dX8_luckOf_37 : decode cX8_luckOf 37 = .ok (.if_icmp .ge 67, 3) := by decide +kernel
theorem dX8_luckOf_40 : decode cX8_luckOf 40 = .ok (.aload_n 0, 1) := by decide +kernel
theorem dX8_luckOf_41 : decode cX8_luckOf 41 = .ok (.iload 7, 2) := by decide +kernel
theorem dX8_luckOf_43 : decode cX8_luckOf 43 = .ok (.invokevirtual 147, 3) := by decide +kernel
theorem dX8_luckOf_46 : decode cX8_luckOf 46 = .ok (.astore 8, 2) := by decide +kernel
theorem dX8_luckOf_48 : decode cX8_luckOf 48 = .ok (.aload 6, 2) := by decide +kernel
theorem dX8_luckOf_50 : decode cX8_luckOf 50 = .ok (.ifnull 48, 3) := by decide +kernel
theorem dX8_luckOf_53 : decode cX8_luckOf 53 = .ok (.aload 8, 2) := by decide +kernel
theorem dX8_luckOf_55 : decode cX8_luckOf 55 = .ok (.ifnull 43, 3) := by decide +kernel
theorem dX8_luckOf_58 : decode cX8_luckOf 58 = .ok (.aload 6, 2) := by decide +kernel
theorem dX8_luckOf_60 : decode cX8_luckOf 60 = .ok (.getfield 135, 3) := by decide +kernel
theorem dX8_luckOf_63 : decode cX8_luckOf 63 = .ok (.iload_n 1, 1) := by decide +kernel
theorem dX8_luckOf_64 : decode cX8_luckOf 64 = .ok (.if_icmp .ne 34, 3) := by decide +kernel
theorem dX8_luckOf_67 : decode cX8_luckOf 67 = .ok (.aload 8, 2) := by decide +kernel
theorem dX8_luckOf_69 : decode cX8_luckOf 69 = .ok (.getfield 135, 3) := by decide +kernel
theorem dX8_luckOf_72 : decode cX8_luckOf 72 = .ok (.iload_n 1, 1) := by decide +kernel
theorem dX8_luckOf_73 : decode cX8_luckOf 73 = .ok (.if_icmp .ne 25, 3) := by decide +kernel
theorem dX8_luckOf_76 : decode cX8_luckOf 76 = .ok (.iload_n 3, 1) := by decide +kernel
theorem dX8_luckOf_77 : decode cX8_luckOf 77 = .ok (.aload 6, 2) := by decide +kernel
theorem dX8_luckOf_79 : decode cX8_luckOf 79 = .ok (.iload_n 2, 1) := by decide +kernel
theorem dX8_luckOf_80 : decode cX8_luckOf 80 = .ok (.invokevirtual 177, 3) := by decide +kernel
theorem dX8_luckOf_83 : decode cX8_luckOf 83 = .ok (.aload 8, 2) := by decide +kernel
theorem dX8_luckOf_85 : decode cX8_luckOf 85 = .ok (.iload_n 2, 1) := by decide +kernel
theorem dX8_luckOf_86 : decode cX8_luckOf 86 = .ok (.invokevirtual 177, 3) := by decide +kernel
theorem dX8_luckOf_89 : decode cX8_luckOf 89 = .ok (.isub, 1) := by decide +kernel
theorem dX8_luckOf_90 : decode cX8_luckOf 90 = .ok (.invokestatic 211, 3) := by decide +kernel
theorem dX8_luckOf_93 : decode cX8_luckOf 93 = .ok (.iadd, 1) := by decide +kernel
theorem dX8_luckOf_94 : decode cX8_luckOf 94 = .ok (.istore_n 3, 1) := by decide +kernel
theorem dX8_luckOf_95 : decode cX8_luckOf 95 = .ok (.iinc 4 1, 3) := by decide +kernel
theorem dX8_luckOf_98 : decode cX8_luckOf 98 = .ok (.iinc 7 1, 3) := by decide +kernel
theorem dX8_luckOf_101 : decode cX8_luckOf 101 = .ok (.goto (-70), 3) := by decide +kernel
theorem dX8_luckOf_104 : decode cX8_luckOf 104 = .ok (.iinc 5 1, 3) := by decide +kernel
theorem dX8_luckOf_107 : decode cX8_luckOf 107 = .ok (.goto (-99), 3) := by decide +kernel
theorem dX8_luckOf_110 : decode cX8_luckOf 110 = .ok (.iload 4, 2) := by decide +kernel
theorem dX8_luckOf_112 : decode cX8_luckOf 112 = .ok (.ifCond .ne 8, 3) := by decide +kernel
theorem dX8_luckOf_115 : decode cX8_luckOf 115 = .ok (.bipush (-2), 2) := by decide +kernel
theorem dX8_luckOf_117 : decode cX8_luckOf 117 = .ok (.goto 7, 3) := by decide +kernel
theorem dX8_luckOf_120 : decode cX8_luckOf 120 = .ok (.iload_n 3, 1) := by decide +kernel
theorem dX8_luckOf_121 : decode cX8_luckOf 121 = .ok (.iload 4, 2) := by decide +kernel
theorem dX8_luckOf_123 : decode cX8_luckOf 123 = .ok (.idiv, 1) := by decide +kernel
theorem dX8_luckOf_124 : decode cX8_luckOf 124 = .ok (.ireturn, 1) := by decide +kernel
theorem dX8_right_0 : decode cX8_right 0 = .ok (.aload_n 0, 1) := by decide +kernel
theorem dX8_right_1 : decode cX8_right 1 = .ok (.iload_n 1, 1) := by decide +kernel
theorem dX8_right_2 : decode cX8_right 2 = .ok (.invokevirtual 147, 3) := by decide +kernel
theorem dX8_right_5 : decode cX8_right 5 = .ok (.astore_n 2, 1) := by decide +kernel
theorem dX8_right_6 : decode cX8_right 6 = .ok (.aload_n 2, 1) := by decide +kernel
theorem dX8_right_7 : decode cX8_right 7 = .ok (.ifnonnull 5, 3) := by decide +kernel
theorem dX8_right_10 : decode cX8_right 10 = .ok (.iconst (-1), 1) := by decide +kernel
theorem dX8_right_11 : decode cX8_right 11 = .ok (.ireturn, 1) := by decide +kernel
theorem dX8_right_12 : decode cX8_right 12 = .ok (.iconst 0, 1) := by decide +kernel
theorem dX8_right_13 : decode cX8_right 13 = .ok (.istore_n 3, 1) := by decide +kernel
theorem dX8_right_14 : decode cX8_right 14 = .ok (.iconst 0, 1) := by decide +kernel
theorem dX8_right_15 : decode cX8_right 15 = .ok (.istore 4, 2) := by decide +kernel
theorem dX8_right_17 : decode cX8_right 17 = .ok (.iconst 0, 1) := by decide +kernel
theorem dX8_right_18 : decode cX8_right 18 = .ok (.istore 5, 2) := by decide +kernel
theorem dX8_right_20 : decode cX8_right 20 = .ok (.iload 5, 2) := by decide +kernel
theorem dX8_right_22 : decode cX8_right 22 = .ok (.aload_n 0, 1) := by decide +kernel
theorem dX8_right_23 : decode cX8_right 23 = .ok (.getfield 10, 3) := by decide +kernel
theorem dX8_right_26 : decode cX8_right 26 = .ok (.getfield 88, 3) := by decide +kernel
theorem dX8_right_29 : decode cX8_right 29 = .ok (.if_icmp .ge 71, 3) := by decide +kernel
theorem dX8_right_32 : decode cX8_right 32 = .ok (.iload 5, 2) := by decide +kernel
theorem dX8_right_34 : decode cX8_right 34 = .ok (.iconst 1, 1) := by decide +kernel
theorem dX8_right_35 : decode cX8_right 35 = .ok (.iadd, 1) := by decide +kernel
theorem dX8_right_36 : decode cX8_right 36 = .ok (.istore 6, 2) := by decide +kernel
theorem dX8_right_38 : decode cX8_right 38 = .ok (.iload 6, 2) := by decide +kernel
theorem dX8_right_40 : decode cX8_right 40 = .ok (.aload_n 0, 1) := by decide +kernel
theorem dX8_right_41 : decode cX8_right 41 = .ok (.getfield 10, 3) := by decide +kernel
theorem dX8_right_44 : decode cX8_right 44 = .ok (.getfield 88, 3) := by decide +kernel
theorem dX8_right_47 : decode cX8_right 47 = .ok (.if_icmp .ge 47, 3) := by decide +kernel
theorem dX8_right_50 : decode cX8_right 50 = .ok (.aload_n 2, 1) := by decide +kernel
theorem dX8_right_51 : decode cX8_right 51 = .ok (.iload 5, 2) := by decide +kernel
theorem dX8_right_53 : decode cX8_right 53 = .ok (.iload 6, 2) := by decide +kernel
theorem dX8_right_55 : decode cX8_right 55 = .ok (.invokevirtual 224, 3) := by decide +kernel
theorem dX8_right_58 : decode cX8_right 58 = .ok (.istore 7, 2) := by decide +kernel
theorem dX8_right_60 : decode cX8_right 60 = .ok (.iload_n 3, 1) := by decide +kernel
theorem dX8_right_61 : decode cX8_right 61 = .ok (.iload 7, 2) := by decide +kernel
theorem dX8_right_63 : decode cX8_right 63 = .ok (.ifCond .le 7, 3) := by decide +kernel
theorem dX8_right_66 : decode cX8_right 66 = .ok (.iconst 1, 1) := by decide +kernel
theorem dX8_right_67 : decode cX8_right 67 = .ok (.goto 4, 3) := by decide +kernel
theorem dX8_right_70 : decode cX8_right 70 = .ok (.iconst 0, 1) := by decide +kernel
theorem dX8_right_71 : decode cX8_right 71 = .ok (.iadd, 1) := by decide +kernel
theorem dX8_right_72 : decode cX8_right 72 = .ok (.istore_n 3, 1) := by decide +kernel
theorem dX8_right_73 : decode cX8_right 73 = .ok (.iload 4, 2) := by decide +kernel
theorem dX8_right_75 : decode cX8_right 75 = .ok (.iload 7, 2) := by decide +kernel
theorem dX8_right_77 : decode cX8_right 77 = .ok (.ifCond .eq 7, 3) := by decide +kernel
theorem dX8_right_80 : decode cX8_right 80 = .ok (.iconst 1, 1) := by decide +kernel
theorem dX8_right_81 : decode cX8_right 81 = .ok (.goto 4, 3) := by decide +kernel
theorem dX8_right_84 : decode cX8_right 84 = .ok (.iconst 0, 1) := by decide +kernel
theorem dX8_right_85 : decode cX8_right 85 = .ok (.iadd, 1) := by decide +kernel
theorem dX8_right_86 : decode cX8_right 86 = .ok (.istore 4, 2) := by decide +kernel
theorem dX8_right_88 : decode cX8_right 88 = .ok (.iinc 6 1, 3) := by decide +kernel
theorem dX8_right_91 : decode cX8_right 91 = .ok (.goto (-53), 3) := by decide +kernel
theorem dX8_right_94 : decode cX8_right 94 = .ok (.iinc 5 1, 3) := by decide +kernel
theorem dX8_right_97 : decode cX8_right 97 = .ok (.goto (-77), 3) := by decide +kernel
theorem dX8_right_100 : decode cX8_right 100 = .ok (.iload 4, 2) := by decide +kernel
theorem dX8_right_102 : decode cX8_right 102 = .ok (.ifCond .ne 8, 3) := by decide +kernel
theorem dX8_right_105 : decode cX8_right 105 = .ok (.bipush (-2), 2) := by decide +kernel
theorem dX8_right_107 : decode cX8_right 107 = .ok (.goto 11, 3) := by decide +kernel
theorem dX8_right_110 : decode cX8_right 110 = .ok (.iload_n 3, 1) := by decide +kernel
theorem dX8_right_111 : decode cX8_right 111 = .ok (.sipush 1000, 3) := by decide +kernel
theorem dX8_right_114 : decode cX8_right 114 = .ok (.imul, 1) := by decide +kernel
theorem dX8_right_115 : decode cX8_right 115 = .ok (.iload 4, 2) := by decide +kernel
theorem dX8_right_117 : decode cX8_right 117 = .ok (.idiv, 1) := by decide +kernel
theorem dX8_right_118 : decode cX8_right 118 = .ok (.ireturn, 1) := by decide +kernel
theorem dX8_guess_0 : decode cX8_guess 0 = .ok (.iload_n 1, 1) := by decide +kernel
theorem dX8_guess_1 : decode cX8_guess 1 = .ok (.ifCond .lt 22, 3) := by decide +kernel
theorem dX8_guess_4 : decode cX8_guess 4 = .ok (.iload_n 1, 1) := by decide +kernel
theorem dX8_guess_5 : decode cX8_guess 5 = .ok (.iconst 1, 1) := by decide +kernel
theorem dX8_guess_6 : decode cX8_guess 6 = .ok (.aload_n 0, 1) := by decide +kernel
theorem dX8_guess_7 : decode cX8_guess 7 = .ok (.getfield 128, 3) := by decide +kernel
theorem dX8_guess_10 : decode cX8_guess 10 = .ok (.ishl, 1) := by decide +kernel
theorem dX8_guess_11 : decode cX8_guess 11 = .ok (.if_icmp .ge 12, 3) := by decide +kernel
theorem dX8_guess_14 : decode cX8_guess 14 = .ok (.iload_n 2, 1) := by decide +kernel
theorem dX8_guess_15 : decode cX8_guess 15 = .ok (.ifCond .lt 8, 3) := by decide +kernel
theorem dX8_guess_18 : decode cX8_guess 18 = .ok (.iload_n 2, 1) := by decide +kernel
theorem dX8_guess_19 : decode cX8_guess 19 = .ok (.iconst 1, 1) := by decide +kernel
theorem dX8_guess_20 : decode cX8_guess 20 = .ok (.if_icmp .le 5, 3) := by decide +kernel
theorem dX8_guess_23 : decode cX8_guess 23 = .ok (.iconst (-1), 1) := by decide +kernel
theorem dX8_guess_24 : decode cX8_guess 24 = .ok (.ireturn, 1) := by decide +kernel
theorem dX8_guess_25 : decode cX8_guess 25 = .ok (.iconst 0, 1) := by decide +kernel
theorem dX8_guess_26 : decode cX8_guess 26 = .ok (.istore_n 3, 1) := by decide +kernel
theorem dX8_guess_27 : decode cX8_guess 27 = .ok (.iconst 0, 1) := by decide +kernel
theorem dX8_guess_28 : decode cX8_guess 28 = .ok (.istore 4, 2) := by decide +kernel
theorem dX8_guess_30 : decode cX8_guess 30 = .ok (.iconst 0, 1) := by decide +kernel
theorem dX8_guess_31 : decode cX8_guess 31 = .ok (.istore 5, 2) := by decide +kernel
theorem dX8_guess_33 : decode cX8_guess 33 = .ok (.iload 5, 2) := by decide +kernel
theorem dX8_guess_35 : decode cX8_guess 35 = .ok (.aload_n 0, 1) := by decide +kernel
theorem dX8_guess_36 : decode cX8_guess 36 = .ok (.getfield 10, 3) := by decide +kernel
theorem dX8_guess_39 : decode cX8_guess 39 = .ok (.getfield 88, 3) := by decide +kernel
theorem dX8_guess_42 : decode cX8_guess 42 = .ok (.if_icmp .ge 86, 3) := by decide +kernel
theorem dX8_guess_45 : decode cX8_guess 45 = .ok (.iload 5, 2) := by decide +kernel
theorem dX8_guess_47 : decode cX8_guess 47 = .ok (.iconst 1, 1) := by decide +kernel
theorem dX8_guess_48 : decode cX8_guess 48 = .ok (.iadd, 1) := by decide +kernel
theorem dX8_guess_49 : decode cX8_guess 49 = .ok (.istore 6, 2) := by decide +kernel
theorem dX8_guess_51 : decode cX8_guess 51 = .ok (.iload 6, 2) := by decide +kernel
theorem dX8_guess_53 : decode cX8_guess 53 = .ok (.aload_n 0, 1) := by decide +kernel
theorem dX8_guess_54 : decode cX8_guess 54 = .ok (.getfield 10, 3) := by decide +kernel
theorem dX8_guess_57 : decode cX8_guess 57 = .ok (.getfield 88, 3) := by decide +kernel
theorem dX8_guess_60 : decode cX8_guess 60 = .ok (.if_icmp .ge 62, 3) := by decide +kernel
theorem dX8_guess_63 : decode cX8_guess 63 = .ok (.aload_n 0, 1) := by decide +kernel
theorem dX8_guess_64 : decode cX8_guess 64 = .ok (.iload_n 1, 1) := by decide +kernel
theorem dX8_guess_65 : decode cX8_guess 65 = .ok (.iload 5, 2) := by decide +kernel
theorem dX8_guess_67 : decode cX8_guess 67 = .ok (.iload 6, 2) := by decide +kernel
theorem dX8_guess_69 : decode cX8_guess 69 = .ok (.iconst 1, 1) := by decide +kernel
theorem dX8_guess_70 : decode cX8_guess 70 = .ok (.invokevirtual 227, 3) := by decide +kernel
theorem dX8_guess_73 : decode cX8_guess 73 = .ok (.istore 7, 2) := by decide +kernel
theorem dX8_guess_75 : decode cX8_guess 75 = .ok (.aload_n 0, 1) := by decide +kernel
theorem dX8_guess_76 : decode cX8_guess 76 = .ok (.iload_n 1, 1) := by decide +kernel
theorem dX8_guess_77 : decode cX8_guess 77 = .ok (.iload 5, 2) := by decide +kernel
theorem dX8_guess_79 : decode cX8_guess 79 = .ok (.iload 6, 2) := by decide +kernel
theorem dX8_guess_81 : decode cX8_guess 81 = .ok (.iconst (-1), 1) := by decide +kernel
theorem dX8_guess_82 : decode cX8_guess 82 = .ok (.invokevirtual 227, 3) := by decide +kernel
theorem dX8_guess_85 : decode cX8_guess 85 = .ok (.istore 8, 2) := by decide +kernel
theorem dX8_guess_87 : decode cX8_guess 87 = .ok (.iload_n 3, 1) := by decide +kernel
theorem dX8_guess_88 : decode cX8_guess 88 = .ok (.iload_n 2, 1) := by decide +kernel
theorem dX8_guess_89 : decode cX8_guess 89 = .ok (.ifCond .ne 8, 3) := by decide +kernel
theorem dX8_guess_92 : decode cX8_guess 92 = .ok (.iload 7, 2) := by decide +kernel
theorem dX8_guess_94 : decode cX8_guess 94 = .ok (.goto 10, 3) := by decide +kernel
theorem dX8_guess_97 : decode cX8_guess 97 = .ok (.iload 7, 2) := by decide +kernel
theorem dX8_guess_99 : decode cX8_guess 99 = .ok (.iload 8, 2) := by decide +kernel
theorem dX8_guess_101 : decode cX8_guess 101 = .ok (.invokestatic 231, 3) := by decide +kernel
theorem dX8_guess_104 : decode cX8_guess 104 = .ok (.iadd, 1) := by decide +kernel
theorem dX8_guess_105 : decode cX8_guess 105 = .ok (.istore_n 3, 1) := by decide +kernel
theorem dX8_guess_106 : decode cX8_guess 106 = .ok (.iload 4, 2) := by decide +kernel
theorem dX8_guess_108 : decode cX8_guess 108 = .ok (.iload 7, 2) := by decide +kernel
theorem dX8_guess_110 : decode cX8_guess 110 = .ok (.iload 8, 2) := by decide +kernel
theorem dX8_guess_112 : decode cX8_guess 112 = .ok (.iadd, 1) := by decide +kernel
theorem dX8_guess_113 : decode cX8_guess 113 = .ok (.iadd, 1) := by decide +kernel
theorem dX8_guess_114 : decode cX8_guess 114 = .ok (.istore 4, 2) := by decide +kernel
theorem dX8_guess_116 : decode cX8_guess 116 = .ok (.iinc 6 1, 3) := by decide +kernel
theorem dX8_guess_119 : decode cX8_guess 119 = .ok (.goto (-68), 3) := by decide +kernel
theorem dX8_guess_122 : decode cX8_guess 122 = .ok (.iinc 5 1, 3) := by decide +kernel
theorem dX8_guess_125 : decode cX8_guess 125 = .ok (.goto (-92), 3) := by decide +kernel
theorem dX8_guess_128 : decode cX8_guess 128 = .ok (.iload 4, 2) := by decide +kernel
theorem dX8_guess_130 : decode cX8_guess 130 = .ok (.ifCond .ne 8, 3) := by decide +kernel
theorem dX8_guess_133 : decode cX8_guess 133 = .ok (.bipush (-2), 2) := by decide +kernel
theorem dX8_guess_135 : decode cX8_guess 135 = .ok (.goto 11, 3) := by decide +kernel
theorem dX8_guess_138 : decode cX8_guess 138 = .ok (.iload_n 3, 1) := by decide +kernel
theorem dX8_guess_139 : decode cX8_guess 139 = .ok (.sipush 1000, 3) := by decide +kernel
theorem dX8_guess_142 : decode cX8_guess 142 = .ok (.imul, 1) := by decide +kernel
theorem dX8_guess_143 : decode cX8_guess 143 = .ok (.iload 4, 2) := by decide +kernel
theorem dX8_guess_145 : decode cX8_guess 145 = .ok (.idiv, 1) := by decide +kernel
theorem dX8_guess_146 : decode cX8_guess 146 = .ok (.ireturn, 1) := by decide +kernel
theorem dX8_waysOf_0 : decode cX8_waysOf 0 = .ok (.iconst 0, 1) := by decide +kernel
theorem dX8_waysOf_1 : decode cX8_waysOf 1 = .ok (.istore 5, 2) := by decide +kernel
theorem dX8_waysOf_3 : decode cX8_waysOf 3 = .ok (.iconst 0, 1) := by decide +kernel
theorem dX8_waysOf_4 : decode cX8_waysOf 4 = .ok (.istore 6, 2) := by decide +kernel
theorem dX8_waysOf_6 : decode cX8_waysOf 6 = .ok (.iload 6, 2) := by decide +kernel
theorem dX8_waysOf_8 : decode cX8_waysOf 8 = .ok (.aload_n 0, 1) := by decide +kernel
theorem dX8_waysOf_9 : decode cX8_waysOf 9 = .ok (.getfield 128, 3) := by decide +kernel
theorem dX8_waysOf_12 : decode cX8_waysOf 12 = .ok (.if_icmp .ge 47, 3) := by decide +kernel
theorem dX8_waysOf_15 : decode cX8_waysOf 15 = .ok (.aload_n 0, 1) := by decide +kernel
theorem dX8_waysOf_16 : decode cX8_waysOf 16 = .ok (.iload 6, 2) := by decide +kernel
theorem dX8_waysOf_18 : decode cX8_waysOf 18 = .ok (.invokevirtual 147, 3) := by decide +kernel
theorem dX8_waysOf_21 : decode cX8_waysOf 21 = .ok (.astore 7, 2) := by decide +kernel
theorem dX8_waysOf_23 : decode cX8_waysOf 23 = .ok (.aload 7, 2) := by decide +kernel
theorem dX8_waysOf_25 : decode cX8_waysOf 25 = .ok (.ifnull 28, 3) := by decide +kernel
theorem dX8_waysOf_28 : decode cX8_waysOf 28 = .ok (.iload_n 1, 1) := by decide +kernel
theorem dX8_waysOf_29 : decode cX8_waysOf 29 = .ok (.iload 6, 2) := by decide +kernel
theorem dX8_waysOf_31 : decode cX8_waysOf 31 = .ok (.ishr, 1) := by decide +kernel
theorem dX8_waysOf_32 : decode cX8_waysOf 32 = .ok (.iconst 1, 1) := by decide +kernel
theorem dX8_waysOf_33 : decode cX8_waysOf 33 = .ok (.iand, 1) := by decide +kernel
theorem dX8_waysOf_34 : decode cX8_waysOf 34 = .ok (.iconst 1, 1) := by decide +kernel
theorem dX8_waysOf_35 : decode cX8_waysOf 35 = .ok (.if_icmp .ne 18, 3) := by decide +kernel
theorem dX8_waysOf_38 : decode cX8_waysOf 38 = .ok (.aload 7, 2) := by decide +kernel
theorem dX8_waysOf_40 : decode cX8_waysOf 40 = .ok (.iload_n 2, 1) := by decide +kernel
theorem dX8_waysOf_41 : decode cX8_waysOf 41 = .ok (.iload_n 3, 1) := by decide +kernel
theorem dX8_waysOf_42 : decode cX8_waysOf 42 = .ok (.invokevirtual 224, 3) := by decide +kernel
theorem dX8_waysOf_45 : decode cX8_waysOf 45 = .ok (.iload 4, 2) := by decide +kernel
theorem dX8_waysOf_47 : decode cX8_waysOf 47 = .ok (.if_icmp .ne 6, 3) := by decide +kernel
theorem dX8_waysOf_50 : decode cX8_waysOf 50 = .ok (.iinc 5 1, 3) := by decide +kernel
theorem dX8_waysOf_53 : decode cX8_waysOf 53 = .ok (.iinc 6 1, 3) := by decide +kernel
theorem dX8_waysOf_56 : decode cX8_waysOf 56 = .ok (.goto (-50), 3) := by decide +kernel
theorem dX8_waysOf_59 : decode cX8_waysOf 59 = .ok (.iload 5, 2) := by decide +kernel
theorem dX8_waysOf_61 : decode cX8_waysOf 61 = .ok (.ireturn, 1) := by decide +kernel
theorem dX8_odds_0 : decode cX8_odds 0 = .ok (.aload_n 0, 1) := by decide +kernel
theorem dX8_odds_1 : decode cX8_odds 1 = .ok (.iload_n 1, 1) := by decide +kernel
theorem dX8_odds_2 : decode cX8_odds 2 = .ok (.invokevirtual 147, 3) := by decide +kernel
theorem dX8_odds_5 : decode cX8_odds 5 = .ok (.astore 5, 2) := by decide +kernel
theorem dX8_odds_7 : decode cX8_odds 7 = .ok (.aload 5, 2) := by decide +kernel
theorem dX8_odds_9 : decode cX8_odds 9 = .ok (.ifnull 35, 3) := by decide +kernel
theorem dX8_odds_12 : decode cX8_odds 12 = .ok (.aload_n 0, 1) := by decide +kernel
theorem dX8_odds_13 : decode cX8_odds 13 = .ok (.getfield 10, 3) := by decide +kernel
theorem dX8_odds_16 : decode cX8_odds 16 = .ok (.iload_n 2, 1) := by decide +kernel
theorem dX8_odds_17 : decode cX8_odds 17 = .ok (.invokevirtual 95, 3) := by decide +kernel
theorem dX8_odds_20 : decode cX8_odds 20 = .ok (.ifCond .eq 24, 3) := by decide +kernel
theorem dX8_odds_23 : decode cX8_odds 23 = .ok (.iload_n 3, 1) := by decide +kernel
theorem dX8_odds_24 : decode cX8_odds 24 = .ok (.ifCond .lt 20, 3) := by decide +kernel
theorem dX8_odds_27 : decode cX8_odds 27 = .ok (.iload_n 3, 1) := by decide +kernel
theorem dX8_odds_28 : decode cX8_odds 28 = .ok (.bipush 6, 2) := by decide +kernel
theorem dX8_odds_30 : decode cX8_odds 30 = .ok (.if_icmp .gt 14, 3) := by decide +kernel
theorem dX8_odds_33 : decode cX8_odds 33 = .ok (.iload 4, 2) := by decide +kernel
end
section
theorem dX8_odds_35 : decode cX8_odds 35 = .ok (.ifCond .lt 9, 3) := by decide +kernel
theorem dX8_odds_38 : decode cX8_odds 38 = .ok (.iload 4, 2) := by decide +kernel
theorem dX8_odds_40 : decode cX8_odds 40 = .ok (.iconst 1, 1) := by decide +kernel
theorem dX8_odds_41 : decode cX8_odds 41 = .ok (.if_icmp .le 5, 3) := by decide +kernel
theorem dX8_odds_44 : decode cX8_odds 44 = .ok (.iconst (-1), 1) := by decide +kernel
theorem dX8_odds_45 : decode cX8_odds 45 = .ok (.ireturn, 1) := by decide +kernel
theorem dX8_odds_46 : decode cX8_odds 46 = .ok (.aload_n 0, 1) := by decide +kernel
theorem dX8_odds_47 : decode cX8_odds 47 = .ok (.getfield 10, 3) := by decide +kernel
theorem dX8_odds_50 : decode cX8_odds 50 = .ok (.getfield 88, 3) := by decide +kernel
theorem dX8_odds_53 : decode cX8_odds 53 = .ok (.iconst 4, 1) := by decide +kernel
theorem dX8_odds_54 : decode cX8_odds 54 = .ok (.if_icmp .le 6, 3) := by decide +kernel
theorem dX8_odds_57 : decode cX8_odds 57 = .ok (.bipush (-4), 2) := by decide +kernel
theorem dX8_odds_59 : decode cX8_odds 59 = .ok (.ireturn, 1) := by decide +kernel
theorem dX8_odds_60 : decode cX8_odds 60 = .ok (.aload_n 0, 1) := by decide +kernel
theorem dX8_odds_61 : decode cX8_odds 61 = .ok (.getfield 70, 3) := by decide +kernel
theorem dX8_odds_64 : decode cX8_odds 64 = .ok (.aload 5, 2) := by decide +kernel
theorem dX8_odds_66 : decode cX8_odds 66 = .ok (.iload_n 2, 1) := by decide +kernel
theorem dX8_odds_67 : decode cX8_odds 67 = .ok (.iload_n 3, 1) := by decide +kernel
theorem dX8_odds_68 : decode cX8_odds 68 = .ok (.iload 4, 2) := by decide +kernel
theorem dX8_odds_70 : decode cX8_odds 70 = .ok (.invokevirtual 234, 3) := by decide +kernel
theorem dX8_odds_73 : decode cX8_odds 73 = .ok (.ireturn, 1) := by decide +kernel
theorem dX8_after_0 : decode cX8_after 0 = .ok (.aload_n 0, 1) := by decide +kernel
theorem dX8_after_1 : decode cX8_after 1 = .ok (.iload_n 1, 1) := by decide +kernel
theorem dX8_after_2 : decode cX8_after 2 = .ok (.invokevirtual 147, 3) := by decide +kernel
theorem dX8_after_5 : decode cX8_after 5 = .ok (.astore_n 2, 1) := by decide +kernel
theorem dX8_after_6 : decode cX8_after 6 = .ok (.aload_n 2, 1) := by decide +kernel
theorem dX8_after_7 : decode cX8_after 7 = .ok (.ifnonnull 5, 3) := by decide +kernel
theorem dX8_after_10 : decode cX8_after 10 = .ok (.iconst (-1), 1) := by decide +kernel
theorem dX8_after_11 : decode cX8_after 11 = .ok (.ireturn, 1) := by decide +kernel
theorem dX8_after_12 : decode cX8_after 12 = .ok (.aload_n 2, 1) := by decide +kernel
theorem dX8_after_13 : decode cX8_after 13 = .ok (.getfield 158, 3) := by decide +kernel
theorem dX8_after_16 : decode cX8_after 16 = .ok (.ifCond .ne 6, 3) := by decide +kernel
theorem dX8_after_19 : decode cX8_after 19 = .ok (.bipush (-2), 2) := by decide +kernel
theorem dX8_after_21 : decode cX8_after 21 = .ok (.ireturn, 1) := by decide +kernel
theorem dX8_after_22 : decode cX8_after 22 = .ok (.aload_n 2, 1) := by decide +kernel
theorem dX8_after_23 : decode cX8_after 23 = .ok (.getfield 158, 3) := by decide +kernel
theorem dX8_after_26 : decode cX8_after 26 = .ok (.sipush 200, 3) := by decide +kernel
theorem dX8_after_29 : decode cX8_after 29 = .ok (.if_icmp .le 6, 3) := by decide +kernel
theorem dX8_after_32 : decode cX8_after 32 = .ok (.bipush (-5), 2) := by decide +kernel
theorem dX8_after_34 : decode cX8_after 34 = .ok (.ireturn, 1) := by decide +kernel
theorem dX8_after_35 : decode cX8_after 35 = .ok (.aload_n 2, 1) := by decide +kernel
theorem dX8_after_36 : decode cX8_after 36 = .ok (.aload_n 0, 1) := by decide +kernel
theorem dX8_after_37 : decode cX8_after 37 = .ok (.getfield 78, 3) := by decide +kernel
theorem dX8_after_40 : decode cX8_after 40 = .ok (.invokevirtual 238, 3) := by decide +kernel
theorem dX8_after_43 : decode cX8_after 43 = .ok (.ireturn, 1) := by decide +kernel
theorem dX8_shop_0 : decode cX8_shop 0 = .ok (.aload_n 0, 1) := by decide +kernel
theorem dX8_shop_1 : decode cX8_shop 1 = .ok (.iload_n 1, 1) := by decide +kernel
theorem dX8_shop_2 : decode cX8_shop 2 = .ok (.invokevirtual 147, 3) := by decide +kernel
theorem dX8_shop_5 : decode cX8_shop 5 = .ok (.astore_n 3, 1) := by decide +kernel
theorem dX8_shop_6 : decode cX8_shop 6 = .ok (.aload_n 3, 1) := by decide +kernel
theorem dX8_shop_7 : decode cX8_shop 7 = .ok (.ifnull 13, 3) := by decide +kernel
theorem dX8_shop_10 : decode cX8_shop 10 = .ok (.iload_n 2, 1) := by decide +kernel
theorem dX8_shop_11 : decode cX8_shop 11 = .ok (.ifCond .lt 9, 3) := by decide +kernel
theorem dX8_shop_14 : decode cX8_shop 14 = .ok (.iload_n 2, 1) := by decide +kernel
theorem dX8_shop_15 : decode cX8_shop 15 = .ok (.bipush 9, 2) := by decide +kernel
theorem dX8_shop_17 : decode cX8_shop 17 = .ok (.if_icmp .le 5, 3) := by decide +kernel
theorem dX8_shop_20 : decode cX8_shop 20 = .ok (.iconst (-1), 1) := by decide +kernel
theorem dX8_shop_21 : decode cX8_shop 21 = .ok (.ireturn, 1) := by decide +kernel
theorem dX8_shop_22 : decode cX8_shop 22 = .ok (.aload_n 3, 1) := by decide +kernel
theorem dX8_shop_23 : decode cX8_shop 23 = .ok (.getfield 242, 3) := by decide +kernel
theorem dX8_shop_26 : decode cX8_shop 26 = .ok (.istore 4, 2) := by decide +kernel
theorem dX8_shop_28 : decode cX8_shop 28 = .ok (.aload_n 3, 1) := by decide +kernel
theorem dX8_shop_29 : decode cX8_shop 29 = .ok (.iload_n 2, 1) := by decide +kernel
theorem dX8_shop_30 : decode cX8_shop 30 = .ok (.putfield 242, 3) := by decide +kernel
theorem dX8_shop_33 : decode cX8_shop 33 = .ok (.iload 4, 2) := by decide +kernel
theorem dX8_shop_35 : decode cX8_shop 35 = .ok (.ireturn, 1) := by decide +kernel
theorem dX8_chart_0 : decode cX8_chart 0 = .ok (.aload_n 0, 1) := by decide +kernel
theorem dX8_chart_1 : decode cX8_chart 1 = .ok (.getfield 10, 3) := by decide +kernel
theorem dX8_chart_4 : decode cX8_chart 4 = .ok (.iload_n 1, 1) := by decide +kernel
theorem dX8_chart_5 : decode cX8_chart 5 = .ok (.invokevirtual 95, 3) := by decide +kernel
theorem dX8_chart_8 : decode cX8_chart 8 = .ok (.ifCond .eq 12, 3) := by decide +kernel
theorem dX8_chart_11 : decode cX8_chart 11 = .ok (.iload_n 2, 1) := by decide +kernel
theorem dX8_chart_12 : decode cX8_chart 12 = .ok (.ifCond .lt 8, 3) := by decide +kernel
theorem dX8_chart_15 : decode cX8_chart 15 = .ok (.iload_n 2, 1) := by decide +kernel
theorem dX8_chart_16 : decode cX8_chart 16 = .ok (.iconst 1, 1) := by decide +kernel
theorem dX8_chart_17 : decode cX8_chart 17 = .ok (.if_icmp .le 5, 3) := by decide +kernel
theorem dX8_chart_20 : decode cX8_chart 20 = .ok (.iconst (-1), 1) := by decide +kernel
theorem dX8_chart_21 : decode cX8_chart 21 = .ok (.ireturn, 1) := by decide +kernel
theorem dX8_chart_22 : decode cX8_chart 22 = .ok (.iconst 0, 1) := by decide +kernel
theorem dX8_chart_23 : decode cX8_chart 23 = .ok (.istore_n 3, 1) := by decide +kernel
theorem dX8_chart_24 : decode cX8_chart 24 = .ok (.iload_n 3, 1) := by decide +kernel
theorem dX8_chart_25 : decode cX8_chart 25 = .ok (.aload_n 0, 1) := by decide +kernel
theorem dX8_chart_26 : decode cX8_chart 26 = .ok (.getfield 10, 3) := by decide +kernel
theorem dX8_chart_29 : decode cX8_chart 29 = .ok (.getfield 88, 3) := by decide +kernel
theorem dX8_chart_32 : decode cX8_chart 32 = .ok (.if_icmp .ge 20, 3) := by decide +kernel
theorem dX8_chart_35 : decode cX8_chart 35 = .ok (.aload_n 0, 1) := by decide +kernel
theorem dX8_chart_36 : decode cX8_chart 36 = .ok (.getfield 78, 3) := by decide +kernel
theorem dX8_chart_39 : decode cX8_chart 39 = .ok (.iload_n 3, 1) := by decide +kernel
theorem dX8_chart_40 : decode cX8_chart 40 = .ok (.aload_n 0, 1) := by decide +kernel
theorem dX8_chart_41 : decode cX8_chart 41 = .ok (.iload_n 3, 1) := by decide +kernel
theorem dX8_chart_42 : decode cX8_chart 42 = .ok (.invokevirtual 245, 3) := by decide +kernel
theorem dX8_chart_45 : decode cX8_chart 45 = .ok (.iastore, 1) := by decide +kernel
theorem dX8_chart_46 : decode cX8_chart 46 = .ok (.iinc 3 1, 3) := by decide +kernel
theorem dX8_chart_49 : decode cX8_chart 49 = .ok (.goto (-25), 3) := by decide +kernel
theorem dX8_chart_52 : decode cX8_chart 52 = .ok (.aload_n 0, 1) := by decide +kernel
theorem dX8_chart_53 : decode cX8_chart 53 = .ok (.getfield 78, 3) := by decide +kernel
theorem dX8_chart_56 : decode cX8_chart 56 = .ok (.aload_n 0, 1) := by decide +kernel
theorem dX8_chart_57 : decode cX8_chart 57 = .ok (.getfield 10, 3) := by decide +kernel
theorem dX8_chart_60 : decode cX8_chart 60 = .ok (.getfield 88, 3) := by decide +kernel
theorem dX8_chart_63 : decode cX8_chart 63 = .ok (.aload_n 0, 1) := by decide +kernel
theorem dX8_chart_64 : decode cX8_chart 64 = .ok (.getfield 81, 3) := by decide +kernel
theorem dX8_chart_67 : decode cX8_chart 67 = .ok (.invokestatic 248, 3) := by decide +kernel
theorem dX8_chart_70 : decode cX8_chart 70 = .ok (.iload_n 2, 1) := by decide +kernel
theorem dX8_chart_71 : decode cX8_chart 71 = .ok (.ifCond .ne 12, 3) := by decide +kernel
theorem dX8_chart_74 : decode cX8_chart 74 = .ok (.aload_n 0, 1) := by decide +kernel
theorem dX8_chart_75 : decode cX8_chart 75 = .ok (.getfield 81, 3) := by decide +kernel
theorem dX8_chart_78 : decode cX8_chart 78 = .ok (.iload_n 1, 1) := by decide +kernel
theorem dX8_chart_79 : decode cX8_chart 79 = .ok (.iaload, 1) := by decide +kernel
theorem dX8_chart_80 : decode cX8_chart 80 = .ok (.goto 14, 3) := by decide +kernel
theorem dX8_chart_83 : decode cX8_chart 83 = .ok (.aload_n 0, 1) := by decide +kernel
theorem dX8_chart_84 : decode cX8_chart 84 = .ok (.getfield 78, 3) := by decide +kernel
theorem dX8_chart_87 : decode cX8_chart 87 = .ok (.aload_n 0, 1) := by decide +kernel
theorem dX8_chart_88 : decode cX8_chart 88 = .ok (.getfield 81, 3) := by decide +kernel
theorem dX8_chart_91 : decode cX8_chart 91 = .ok (.iload_n 1, 1) := by decide +kernel
theorem dX8_chart_92 : decode cX8_chart 92 = .ok (.iaload, 1) := by decide +kernel
theorem dX8_chart_93 : decode cX8_chart 93 = .ok (.iaload, 1) := by decide +kernel
theorem dX8_chart_94 : decode cX8_chart 94 = .ok (.ireturn, 1) := by decide +kernel
theorem dX8_toldOf_0 : decode cX8_toldOf 0 = .ok (.iconst 0, 1) := by decide +kernel
theorem dX8_toldOf_1 : decode cX8_toldOf 1 = .ok (.istore_n 2, 1) := by decide +kernel
theorem dX8_toldOf_2 : decode cX8_toldOf 2 = .ok (.iconst 0, 1) := by decide +kernel
theorem dX8_toldOf_3 : decode cX8_toldOf 3 = .ok (.istore_n 3, 1) := by decide +kernel
theorem dX8_toldOf_4 : decode cX8_toldOf 4 = .ok (.iload_n 3, 1) := by decide +kernel
theorem dX8_toldOf_5 : decode cX8_toldOf 5 = .ok (.aload_n 0, 1) := by decide +kernel
theorem dX8_toldOf_6 : decode cX8_toldOf 6 = .ok (.getfield 128, 3) := by decide +kernel
theorem dX8_toldOf_9 : decode cX8_toldOf 9 = .ok (.if_icmp .ge 37, 3) := by decide +kernel
theorem dX8_toldOf_12 : decode cX8_toldOf 12 = .ok (.aload_n 0, 1) := by decide +kernel
theorem dX8_toldOf_13 : decode cX8_toldOf 13 = .ok (.iload_n 3, 1) := by decide +kernel
theorem dX8_toldOf_14 : decode cX8_toldOf 14 = .ok (.invokevirtual 147, 3) := by decide +kernel
theorem dX8_toldOf_17 : decode cX8_toldOf 17 = .ok (.astore 4, 2) := by decide +kernel
theorem dX8_toldOf_19 : decode cX8_toldOf 19 = .ok (.aload 4, 2) := by decide +kernel
theorem dX8_toldOf_21 : decode cX8_toldOf 21 = .ok (.ifnull 19, 3) := by decide +kernel
theorem dX8_toldOf_24 : decode cX8_toldOf 24 = .ok (.iload_n 2, 1) := by decide +kernel
theorem dX8_toldOf_25 : decode cX8_toldOf 25 = .ok (.aload 4, 2) := by decide +kernel
theorem dX8_toldOf_27 : decode cX8_toldOf 27 = .ok (.getfield 242, 3) := by decide +kernel
theorem dX8_toldOf_30 : decode cX8_toldOf 30 = .ok (.aload 4, 2) := by decide +kernel
theorem dX8_toldOf_32 : decode cX8_toldOf 32 = .ok (.getfield 167, 3) := by decide +kernel
theorem dX8_toldOf_35 : decode cX8_toldOf 35 = .ok (.iload_n 1, 1) := by decide +kernel
theorem dX8_toldOf_36 : decode cX8_toldOf 36 = .ok (.iaload, 1) := by decide +kernel
theorem dX8_toldOf_37 : decode cX8_toldOf 37 = .ok (.imul, 1) := by decide +kernel
theorem dX8_toldOf_38 : decode cX8_toldOf 38 = .ok (.iadd, 1) := by decide +kernel
theorem dX8_toldOf_39 : decode cX8_toldOf 39 = .ok (.istore_n 2, 1) := by decide +kernel
theorem dX8_toldOf_40 : decode cX8_toldOf 40 = .ok (.iinc 3 1, 3) := by decide +kernel
theorem dX8_toldOf_43 : decode cX8_toldOf 43 = .ok (.goto (-39), 3) := by decide +kernel
theorem dX8_toldOf_46 : decode cX8_toldOf 46 = .ok (.iload_n 2, 1) := by decide +kernel
theorem dX8_toldOf_47 : decode cX8_toldOf 47 = .ok (.ireturn, 1) := by decide +kernel
theorem dX8_crate_0 : decode cX8_crate 0 = .ok (.aload_n 0, 1) := by decide +kernel
theorem dX8_crate_1 : decode cX8_crate 1 = .ok (.iload_n 1, 1) := by decide +kernel
theorem dX8_crate_2 : decode cX8_crate 2 = .ok (.invokevirtual 147, 3) := by decide +kernel
theorem dX8_crate_5 : decode cX8_crate 5 = .ok (.astore 4, 2) := by decide +kernel
theorem dX8_crate_7 : decode cX8_crate 7 = .ok (.aload 4, 2) := by decide +kernel
theorem dX8_crate_9 : decode cX8_crate 9 = .ok (.ifnull 26, 3) := by decide +kernel
theorem dX8_crate_12 : decode cX8_crate 12 = .ok (.aload_n 0, 1) := by decide +kernel
theorem dX8_crate_13 : decode cX8_crate 13 = .ok (.getfield 10, 3) := by decide +kernel
theorem dX8_crate_16 : decode cX8_crate 16 = .ok (.iload_n 2, 1) := by decide +kernel
theorem dX8_crate_17 : decode cX8_crate 17 = .ok (.invokevirtual 95, 3) := by decide +kernel
theorem dX8_crate_20 : decode cX8_crate 20 = .ok (.ifCond .eq 15, 3) := by decide +kernel
theorem dX8_crate_23 : decode cX8_crate 23 = .ok (.iload_n 3, 1) := by decide +kernel
theorem dX8_crate_24 : decode cX8_crate 24 = .ok (.iconst 1, 1) := by decide +kernel
theorem dX8_crate_25 : decode cX8_crate 25 = .ok (.if_icmp .lt 10, 3) := by decide +kernel
theorem dX8_crate_28 : decode cX8_crate 28 = .ok (.iload_n 3, 1) := by decide +kernel
theorem dX8_crate_29 : decode cX8_crate 29 = .ok (.sipush 9999, 3) := by decide +kernel
theorem dX8_crate_32 : decode cX8_crate 32 = .ok (.if_icmp .le 5, 3) := by decide +kernel
theorem dX8_crate_35 : decode cX8_crate 35 = .ok (.iconst (-1), 1) := by decide +kernel
theorem dX8_crate_36 : decode cX8_crate 36 = .ok (.ireturn, 1) := by decide +kernel
theorem dX8_crate_37 : decode cX8_crate 37 = .ok (.aload 4, 2) := by decide +kernel
theorem dX8_crate_39 : decode cX8_crate 39 = .ok (.getfield 167, 3) := by decide +kernel
theorem dX8_crate_42 : decode cX8_crate 42 = .ok (.iload_n 2, 1) := by decide +kernel
theorem dX8_crate_43 : decode cX8_crate 43 = .ok (.iaload, 1) := by decide +kernel
theorem dX8_crate_44 : decode cX8_crate 44 = .ok (.istore 5, 2) := by decide +kernel
theorem dX8_crate_46 : decode cX8_crate 46 = .ok (.aload 4, 2) := by decide +kernel
theorem dX8_crate_48 : decode cX8_crate 48 = .ok (.getfield 167, 3) := by decide +kernel
theorem dX8_crate_51 : decode cX8_crate 51 = .ok (.iload_n 2, 1) := by decide +kernel
theorem dX8_crate_52 : decode cX8_crate 52 = .ok (.iload 5, 2) := by decide +kernel
theorem dX8_crate_54 : decode cX8_crate 54 = .ok (.iload_n 3, 1) := by decide +kernel
theorem dX8_crate_55 : decode cX8_crate 55 = .ok (.iadd, 1) := by decide +kernel
theorem dX8_crate_56 : decode cX8_crate 56 = .ok (.ldc 252, 2) := by decide +kernel
theorem dX8_crate_58 : decode cX8_crate 58 = .ok (.invokestatic 253, 3) := by decide +kernel
theorem dX8_crate_61 : decode cX8_crate 61 = .ok (.iastore, 1) := by decide +kernel
theorem dX8_crate_62 : decode cX8_crate 62 = .ok (.aload_n 0, 1) := by decide +kernel
theorem dX8_crate_63 : decode cX8_crate 63 = .ok (.getfield 38, 3) := by decide +kernel
theorem dX8_crate_66 : decode cX8_crate 66 = .ok (.iload_n 1, 1) := by decide +kernel
theorem dX8_crate_67 : decode cX8_crate 67 = .ok (.iload_n 2, 1) := by decide +kernel
theorem dX8_crate_68 : decode cX8_crate 68 = .ok (.iload 5, 2) := by decide +kernel
theorem dX8_crate_70 : decode cX8_crate 70 = .ok (.aload 4, 2) := by decide +kernel
theorem dX8_crate_72 : decode cX8_crate 72 = .ok (.getfield 167, 3) := by decide +kernel
theorem dX8_crate_75 : decode cX8_crate 75 = .ok (.iload_n 2, 1) := by decide +kernel
theorem dX8_crate_76 : decode cX8_crate 76 = .ok (.iaload, 1) := by decide +kernel
theorem dX8_crate_77 : decode cX8_crate 77 = .ok (.invokevirtual 99, 3) := by decide +kernel
theorem dX8_crate_80 : decode cX8_crate 80 = .ok (.aload 4, 2) := by decide +kernel
theorem dX8_crate_82 : decode cX8_crate 82 = .ok (.getfield 167, 3) := by decide +kernel
theorem dX8_crate_85 : decode cX8_crate 85 = .ok (.iload_n 2, 1) := by decide +kernel
theorem dX8_crate_86 : decode cX8_crate 86 = .ok (.iaload, 1) := by decide +kernel
theorem dX8_crate_87 : decode cX8_crate 87 = .ok (.ireturn, 1) := by decide +kernel
theorem dX8_found_0 : decode cX8_found 0 = .ok (.aload_n 0, 1) := by decide +kernel
theorem dX8_found_1 : decode cX8_found 1 = .ok (.iload_n 1, 1) := by decide +kernel
theorem dX8_found_2 : decode cX8_found 2 = .ok (.invokevirtual 147, 3) := by decide +kernel
theorem dX8_found_5 : decode cX8_found 5 = .ok (.astore_n 3, 1) := by decide +kernel
theorem dX8_found_6 : decode cX8_found 6 = .ok (.aload_n 3, 1) := by decide +kernel
theorem dX8_found_7 : decode cX8_found 7 = .ok (.ifnull 12, 3) := by decide +kernel
theorem dX8_found_10 : decode cX8_found 10 = .ok (.iload_n 2, 1) := by decide +kernel
theorem dX8_found_11 : decode cX8_found 11 = .ok (.ifCond .lt 8, 3) := by decide +kernel
theorem dX8_found_14 : decode cX8_found 14 = .ok (.iload_n 2, 1) := by decide +kernel
theorem dX8_found_15 : decode cX8_found 15 = .ok (.iconst 1, 1) := by decide +kernel
theorem dX8_found_16 : decode cX8_found 16 = .ok (.if_icmp .le 5, 3) := by decide +kernel
theorem dX8_found_19 : decode cX8_found 19 = .ok (.iconst (-1), 1) := by decide +kernel
theorem dX8_found_20 : decode cX8_found 20 = .ok (.ireturn, 1) := by decide +kernel
theorem dX8_found_21 : decode cX8_found 21 = .ok (.aload_n 3, 1) := by decide +kernel
theorem dX8_found_22 : decode cX8_found 22 = .ok (.invokevirtual 256, 3) := by decide +kernel
theorem dX8_found_25 : decode cX8_found 25 = .ok (.istore 4, 2) := by decide +kernel
theorem dX8_found_27 : decode cX8_found 27 = .ok (.aload_n 0, 1) := by decide +kernel
theorem dX8_found_28 : decode cX8_found 28 = .ok (.getfield 10, 3) := by decide +kernel
theorem dX8_found_31 : decode cX8_found 31 = .ok (.invokevirtual 259, 3) := by decide +kernel
theorem dX8_found_34 : decode cX8_found 34 = .ok (.istore 5, 2) := by decide +kernel
theorem dX8_found_36 : decode cX8_found 36 = .ok (.iload 4, 2) := by decide +kernel
theorem dX8_found_38 : decode cX8_found 38 = .ok (.ifCond .eq 8, 3) := by decide +kernel
theorem dX8_found_41 : decode cX8_found 41 = .ok (.iload 5, 2) := by decide +kernel
theorem dX8_found_43 : decode cX8_found 43 = .ok (.ifCond .ne 6, 3) := by decide +kernel
theorem dX8_found_46 : decode cX8_found 46 = .ok (.bipush (-2), 2) := by decide +kernel
theorem dX8_found_48 : decode cX8_found 48 = .ok (.ireturn, 1) := by decide +kernel
theorem dX8_found_49 : decode cX8_found 49 = .ok (.iconst 0, 1) := by decide +kernel
theorem dX8_found_50 : decode cX8_found 50 = .ok (.istore 6, 2) := by decide +kernel
theorem dX8_found_52 : decode cX8_found 52 = .ok (.iconst 0, 1) := by decide +kernel
theorem dX8_found_53 : decode cX8_found 53 = .ok (.istore 7, 2) := by decide +kernel
theorem dX8_found_55 : decode cX8_found 55 = .ok (.iconst 0, 1) := by decide +kernel
theorem dX8_found_56 : decode cX8_found 56 = .ok (.istore 8, 2) := by decide +kernel
theorem dX8_found_58 : decode cX8_found 58 = .ok (.iload 8, 2) := by decide +kernel
theorem dX8_found_60 : decode cX8_found 60 = .ok (.aload_n 0, 1) := by decide +kernel
theorem dX8_found_61 : decode cX8_found 61 = .ok (.getfield 10, 3) := by decide +kernel
theorem dX8_found_64 : decode cX8_found 64 = .ok (.getfield 88, 3) := by decide +kernel
theorem dX8_found_67 : decode cX8_found 67 = .ok (.if_icmp .ge 59, 3) := by decide +kernel
theorem dX8_found_70 : decode cX8_found 70 = .ok (.aload_n 3, 1) := by decide +kernel
theorem dX8_found_71 : decode cX8_found 71 = .ok (.getfield 167, 3) := by decide +kernel
theorem dX8_found_74 : decode cX8_found 74 = .ok (.iload 8, 2) := by decide +kernel
theorem dX8_found_76 : decode cX8_found 76 = .ok (.iaload, 1) := by decide +kernel
theorem dX8_found_77 : decode cX8_found 77 = .ok (.iload 4, 2) := by decide +kernel
theorem dX8_found_79 : decode cX8_found 79 = .ok (.i2l, 1) := by decide +kernel
theorem dX8_found_80 : decode cX8_found 80 = .ok (.aload_n 0, 1) := by decide +kernel
theorem dX8_found_81 : decode cX8_found 81 = .ok (.getfield 10, 3) := by decide +kernel
theorem dX8_found_84 : decode cX8_found 84 = .ok (.getfield 92, 3) := by decide +kernel
theorem dX8_found_87 : decode cX8_found 87 = .ok (.iload 8, 2) := by decide +kernel
theorem dX8_found_89 : decode cX8_found 89 = .ok (.iaload, 1) := by decide +kernel
theorem dX8_found_90 : decode cX8_found 90 = .ok (.i2l, 1) := by decide +kernel
theorem dX8_found_91 : decode cX8_found 91 = .ok (.lmul, 1) := by decide +kernel
theorem dX8_found_92 : decode cX8_found 92 = .ok (.iload 5, 2) := by decide +kernel
theorem dX8_found_94 : decode cX8_found 94 = .ok (.i2l, 1) := by decide +kernel
theorem dX8_found_95 : decode cX8_found 95 = .ok (.ldiv, 1) := by decide +kernel
theorem dX8_found_96 : decode cX8_found 96 = .ok (.l2i, 1) := by decide +kernel
theorem dX8_found_97 : decode cX8_found 97 = .ok (.isub, 1) := by decide +kernel
theorem dX8_found_98 : decode cX8_found 98 = .ok (.istore 9, 2) := by decide +kernel
theorem dX8_found_100 : decode cX8_found 100 = .ok (.iload 8, 2) := by decide +kernel
theorem dX8_found_102 : decode cX8_found 102 = .ok (.ifCond .eq 10, 3) := by decide +kernel
theorem dX8_found_105 : decode cX8_found 105 = .ok (.iload 9, 2) := by decide +kernel
theorem dX8_found_107 : decode cX8_found 107 = .ok (.iload 7, 2) := by decide +kernel
theorem dX8_found_109 : decode cX8_found 109 = .ok (.if_icmp .le 11, 3) := by decide +kernel
theorem dX8_found_112 : decode cX8_found 112 = .ok (.iload 8, 2) := by decide +kernel
theorem dX8_found_114 : decode cX8_found 114 = .ok (.istore 6, 2) := by decide +kernel
theorem dX8_found_116 : decode cX8_found 116 = .ok (.iload 9, 2) := by decide +kernel
theorem dX8_found_118 : decode cX8_found 118 = .ok (.istore 7, 2) := by decide +kernel
theorem dX8_found_120 : decode cX8_found 120 = .ok (.iinc 8 1, 3) := by decide +kernel
theorem dX8_found_123 : decode cX8_found 123 = .ok (.goto (-65), 3) := by decide +kernel
theorem dX8_found_126 : decode cX8_found 126 = .ok (.iload_n 2, 1) := by decide +kernel
theorem dX8_found_127 : decode cX8_found 127 = .ok (.ifCond .ne 8, 3) := by decide +kernel
theorem dX8_found_130 : decode cX8_found 130 = .ok (.iload 6, 2) := by decide +kernel
theorem dX8_found_132 : decode cX8_found 132 = .ok (.goto 5, 3) := by decide +kernel
theorem dX8_found_135 : decode cX8_found 135 = .ok (.iload 7, 2) := by decide +kernel
theorem dX8_found_137 : decode cX8_found 137 = .ok (.ireturn, 1) := by decide +kernel
theorem dX8_house_0 : decode cX8_house 0 = .ok (.aload_n 0, 1) := by decide +kernel
theorem dX8_house_1 : decode cX8_house 1 = .ok (.iload_n 1, 1) := by decide +kernel
theorem dX8_house_2 : decode cX8_house 2 = .ok (.invokevirtual 147, 3) := by decide +kernel
theorem dX8_house_5 : decode cX8_house 5 = .ok (.astore 5, 2) := by decide +kernel
theorem dX8_house_7 : decode cX8_house 7 = .ok (.aload_n 0, 1) := by decide +kernel
theorem dX8_house_8 : decode cX8_house 8 = .ok (.getfield 10, 3) := by decide +kernel
theorem dX8_house_11 : decode cX8_house 11 = .ok (.getfield 88, 3) := by decide +kernel
theorem dX8_house_14 : decode cX8_house 14 = .ok (.istore 6, 2) := by decide +kernel
theorem dX8_house_16 : decode cX8_house 16 = .ok (.aload 5, 2) := by decide +kernel
theorem dX8_house_18 : decode cX8_house 18 = .ok (.ifnull 37, 3) := by decide +kernel
theorem dX8_house_21 : decode cX8_house 21 = .ok (.iload_n 2, 1) := by decide +kernel
theorem dX8_house_22 : decode cX8_house 22 = .ok (.ifCond .lt 33, 3) := by decide +kernel
theorem dX8_house_25 : decode cX8_house 25 = .ok (.iload_n 2, 1) := by decide +kernel
theorem dX8_house_26 : decode cX8_house 26 = .ok (.iconst 1, 1) := by decide +kernel
theorem dX8_house_27 : decode cX8_house 27 = .ok (.iload 6, 2) := by decide +kernel
theorem dX8_house_29 : decode cX8_house 29 = .ok (.ishl, 1) := by decide +kernel
theorem dX8_house_30 : decode cX8_house 30 = .ok (.if_icmp .ge 25, 3) := by decide +kernel
theorem dX8_house_33 : decode cX8_house 33 = .ok (.iload_n 3, 1) := by decide +kernel
theorem dX8_house_34 : decode cX8_house 34 = .ok (.iconst 1, 1) := by decide +kernel
theorem dX8_house_35 : decode cX8_house 35 = .ok (.if_icmp .lt 20, 3) := by decide +kernel
theorem dX8_house_38 : decode cX8_house 38 = .ok (.iload_n 3, 1) := by decide +kernel
theorem dX8_house_39 : decode cX8_house 39 = .ok (.iload 6, 2) := by decide +kernel
theorem dX8_house_41 : decode cX8_house 41 = .ok (.if_icmp .gt 14, 3) := by decide +kernel
theorem dX8_house_44 : decode cX8_house 44 = .ok (.iload 4, 2) := by decide +kernel
theorem dX8_house_46 : decode cX8_house 46 = .ok (.ifCond .lt 9, 3) := by decide +kernel
theorem dX8_house_49 : decode cX8_house 49 = .ok (.iload 4, 2) := by decide +kernel
theorem dX8_house_51 : decode cX8_house 51 = .ok (.iconst 3, 1) := by decide +kernel
theorem dX8_house_52 : decode cX8_house 52 = .ok (.if_icmp .le 7, 3) := by decide +kernel
theorem dX8_house_55 : decode cX8_house 55 = .ok (.ldc_w 262, 3) := by decide +kernel
theorem dX8_house_58 : decode cX8_house 58 = .ok (.ireturn, 1) := by decide +kernel
theorem dX8_house_59 : decode cX8_house 59 = .ok (.aload 5, 2) := by decide +kernel
theorem dX8_house_61 : decode cX8_house 61 = .ok (.iload_n 3, 1) := by decide +kernel
theorem dX8_house_62 : decode cX8_house 62 = .ok (.invokevirtual 263, 3) := by decide +kernel
theorem dX8_house_65 : decode cX8_house 65 = .ok (.istore 7, 2) := by decide +kernel
theorem dX8_house_67 : decode cX8_house 67 = .ok (.iload_n 2, 1) := by decide +kernel
theorem dX8_house_68 : decode cX8_house 68 = .ok (.iload 7, 2) := by decide +kernel
theorem dX8_house_70 : decode cX8_house 70 = .ok (.iand, 1) := by decide +kernel
theorem dX8_house_71 : decode cX8_house 71 = .ok (.invokestatic 266, 3) := by decide +kernel
theorem dX8_house_74 : decode cX8_house 74 = .ok (.istore 8, 2) := by decide +kernel
theorem dX8_house_76 : decode cX8_house 76 = .ok (.iload_n 2, 1) := by decide +kernel
theorem dX8_house_77 : decode cX8_house 77 = .ok (.invokestatic 266, 3) := by decide +kernel
theorem dX8_house_80 : decode cX8_house 80 = .ok (.iload_n 3, 1) := by decide +kernel
theorem dX8_house_81 : decode cX8_house 81 = .ok (.imul, 1) := by decide +kernel
theorem dX8_house_82 : decode cX8_house 82 = .ok (.sipush 1000, 3) := by decide +kernel
theorem dX8_house_85 : decode cX8_house 85 = .ok (.imul, 1) := by decide +kernel
theorem dX8_house_86 : decode cX8_house 86 = .ok (.iload 6, 2) := by decide +kernel
theorem dX8_house_88 : decode cX8_house 88 = .ok (.idiv, 1) := by decide +kernel
theorem dX8_house_89 : decode cX8_house 89 = .ok (.istore 9, 2) := by decide +kernel
theorem dX8_house_91 : decode cX8_house 91 = .ok (.iload 4, 2) := by decide +kernel
theorem dX8_house_93 : decode cX8_house 93 = .ok (.tableswitch 43 0 2 #[27, 30, 33], 27) := by decide +kernel
theorem dX8_house_120 : decode cX8_house 120 = .ok (.iload 8, 2) := by decide +kernel
theorem dX8_house_122 : decode cX8_house 122 = .ok (.ireturn, 1) := by decide +kernel
theorem dX8_house_123 : decode cX8_house 123 = .ok (.iload 9, 2) := by decide +kernel
theorem dX8_house_125 : decode cX8_house 125 = .ok (.ireturn, 1) := by decide +kernel
theorem dX8_house_126 : decode cX8_house 126 = .ok (.iload 8, 2) := by decide +kernel
theorem dX8_house_128 : decode cX8_house 128 = .ok (.sipush 1000, 3) := by decide +kernel
theorem dX8_house_131 : decode cX8_house 131 = .ok (.imul, 1) := by decide +kernel
theorem dX8_house_132 : decode cX8_house 132 = .ok (.iload 9, 2) := by decide +kernel
theorem dX8_house_134 : decode cX8_house 134 = .ok (.isub, 1) := by decide +kernel
theorem dX8_house_135 : decode cX8_house 135 = .ok (.ireturn, 1) := by decide +kernel
theorem dX8_house_136 : decode cX8_house 136 = .ok (.iload_n 2, 1) := by decide +kernel
theorem dX8_house_137 : decode cX8_house 137 = .ok (.iload 7, 2) := by decide +kernel
theorem dX8_house_139 : decode cX8_house 139 = .ok (.iconst (-1), 1) := by decide +kernel
theorem dX8_house_140 : decode cX8_house 140 = .ok (.ixor, 1) := by decide +kernel
theorem dX8_house_141 : decode cX8_house 141 = .ok (.iand, 1) := by decide +kernel
theorem dX8_house_142 : decode cX8_house 142 = .ok (.ireturn, 1) := by decide +kernel
theorem dX8_said_0 : decode cX8_said 0 = .ok (.aload_n 0, 1) := by decide +kernel
theorem dX8_said_1 : decode cX8_said 1 = .ok (.iload_n 1, 1) := by decide +kernel
theorem dX8_said_2 : decode cX8_said 2 = .ok (.invokevirtual 124, 3) := by decide +kernel
theorem dX8_said_5 : decode cX8_said 5 = .ok (.astore_n 3, 1) := by decide +kernel
theorem dX8_said_6 : decode cX8_said 6 = .ok (.aload_n 0, 1) := by decide +kernel
theorem dX8_said_7 : decode cX8_said 7 = .ok (.iload_n 2, 1) := by decide +kernel
theorem dX8_said_8 : decode cX8_said 8 = .ok (.invokevirtual 147, 3) := by decide +kernel
theorem dX8_said_11 : decode cX8_said 11 = .ok (.astore 4, 2) := by decide +kernel
theorem dX8_said_13 : decode cX8_said 13 = .ok (.aload_n 3, 1) := by decide +kernel
theorem dX8_said_14 : decode cX8_said 14 = .ok (.ifnull 13, 3) := by decide +kernel
theorem dX8_said_17 : decode cX8_said 17 = .ok (.aload 4, 2) := by decide +kernel
theorem dX8_said_19 : decode cX8_said 19 = .ok (.ifnonnull 10, 3) := by decide +kernel
theorem dX8_said_22 : decode cX8_said 22 = .ok (.iload_n 2, 1) := by decide +kernel
theorem dX8_said_23 : decode cX8_said 23 = .ok (.iconst (-1), 1) := by decide +kernel
theorem dX8_said_24 : decode cX8_said 24 = .ok (.if_icmp .eq 5, 3) := by decide +kernel
theorem dX8_said_27 : decode cX8_said 27 = .ok (.iconst (-1), 1) := by decide +kernel
theorem dX8_said_28 : decode cX8_said 28 = .ok (.ireturn, 1) := by decide +kernel
theorem dX8_said_29 : decode cX8_said 29 = .ok (.aload 4, 2) := by decide +kernel
theorem dX8_said_31 : decode cX8_said 31 = .ok (.ifnull 19, 3) := by decide +kernel
theorem dX8_said_34 : decode cX8_said 34 = .ok (.aload_n 0, 1) := by decide +kernel
theorem dX8_said_35 : decode cX8_said 35 = .ok (.aload_n 3, 1) := by decide +kernel
theorem dX8_said_36 : decode cX8_said 36 = .ok (.aload 4, 2) := by decide +kernel
theorem dX8_said_38 : decode cX8_said 38 = .ok (.invokevirtual 271, 3) := by decide +kernel
theorem dX8_said_41 : decode cX8_said 41 = .ok (.ifCond .eq 7, 3) := by decide +kernel
theorem dX8_said_44 : decode cX8_said 44 = .ok (.iconst 1, 1) := by decide +kernel
theorem dX8_said_45 : decode cX8_said 45 = .ok (.goto 4, 3) := by decide +kernel
theorem dX8_said_48 : decode cX8_said 48 = .ok (.iconst 0, 1) := by decide +kernel
theorem dX8_said_49 : decode cX8_said 49 = .ok (.ireturn, 1) := by decide +kernel
theorem dX8_said_50 : decode cX8_said 50 = .ok (.aload_n 0, 1) := by decide +kernel
theorem dX8_said_51 : decode cX8_said 51 = .ok (.getfield 10, 3) := by decide +kernel
theorem dX8_said_54 : decode cX8_said 54 = .ok (.getfield 88, 3) := by decide +kernel
theorem dX8_said_57 : decode cX8_said 57 = .ok (.istore 5, 2) := by decide +kernel
theorem dX8_said_59 : decode cX8_said 59 = .ok (.iload 5, 2) := by decide +kernel
theorem dX8_said_61 : decode cX8_said 61 = .ok (.bipush 6, 2) := by decide +kernel
theorem dX8_said_63 : decode cX8_said 63 = .ok (.if_icmp .le 6, 3) := by decide +kernel
theorem dX8_said_66 : decode cX8_said 66 = .ok (.bipush (-4), 2) := by decide +kernel
theorem dX8_said_68 : decode cX8_said 68 = .ok (.ireturn, 1) := by decide +kernel
theorem dX8_said_69 : decode cX8_said 69 = .ok (.iconst 0, 1) := by decide +kernel
theorem dX8_said_70 : decode cX8_said 70 = .ok (.istore 6, 2) := by decide +kernel
theorem dX8_said_72 : decode cX8_said 72 = .ok (.iload 6, 2) := by decide +kernel
theorem dX8_said_74 : decode cX8_said 74 = .ok (.iload 5, 2) := by decide +kernel
theorem dX8_said_76 : decode cX8_said 76 = .ok (.if_icmp .ge 47, 3) := by decide +kernel
theorem dX8_said_79 : decode cX8_said 79 = .ok (.iconst 0, 1) := by decide +kernel
theorem dX8_said_80 : decode cX8_said 80 = .ok (.istore 7, 2) := by decide +kernel
theorem dX8_said_82 : decode cX8_said 82 = .ok (.iload 7, 2) := by decide +kernel
theorem dX8_said_84 : decode cX8_said 84 = .ok (.iload 5, 2) := by decide +kernel
theorem dX8_said_86 : decode cX8_said 86 = .ok (.if_icmp .ge 31, 3) := by decide +kernel
theorem dX8_said_89 : decode cX8_said 89 = .ok (.aload_n 0, 1) := by decide +kernel
theorem dX8_said_90 : decode cX8_said 90 = .ok (.getfield 84, 3) := by decide +kernel
theorem dX8_said_93 : decode cX8_said 93 = .ok (.iload 6, 2) := by decide +kernel
theorem dX8_said_95 : decode cX8_said 95 = .ok (.bipush 6, 2) := by decide +kernel
theorem dX8_said_97 : decode cX8_said 97 = .ok (.imul, 1) := by decide +kernel
theorem dX8_said_98 : decode cX8_said 98 = .ok (.iload 7, 2) := by decide +kernel
theorem dX8_said_100 : decode cX8_said 100 = .ok (.iadd, 1) := by decide +kernel
theorem dX8_said_101 : decode cX8_said 101 = .ok (.aload_n 0, 1) := by decide +kernel
theorem dX8_said_102 : decode cX8_said 102 = .ok (.aload_n 3, 1) := by decide +kernel
theorem dX8_said_103 : decode cX8_said 103 = .ok (.iload 6, 2) := by decide +kernel
theorem dX8_said_105 : decode cX8_said 105 = .ok (.iload 7, 2) := by decide +kernel
theorem dX8_said_107 : decode cX8_said 107 = .ok (.invokevirtual 275, 3) := by decide +kernel
theorem dX8_said_110 : decode cX8_said 110 = .ok (.iastore, 1) := by decide +kernel
theorem dX8_said_111 : decode cX8_said 111 = .ok (.iinc 7 1, 3) := by decide +kernel
theorem dX8_said_114 : decode cX8_said 114 = .ok (.goto (-32), 3) := by decide +kernel
theorem dX8_said_117 : decode cX8_said 117 = .ok (.iinc 6 1, 3) := by decide +kernel
theorem dX8_said_120 : decode cX8_said 120 = .ok (.goto (-48), 3) := by decide +kernel
theorem dX8_said_123 : decode cX8_said 123 = .ok (.aload_n 0, 1) := by decide +kernel
theorem dX8_said_124 : decode cX8_said 124 = .ok (.getfield 84, 3) := by decide +kernel
theorem dX8_said_127 : decode cX8_said 127 = .ok (.iload 5, 2) := by decide +kernel
theorem dX8_said_129 : decode cX8_said 129 = .ok (.iconst 0, 1) := by decide +kernel
theorem dX8_said_130 : decode cX8_said 130 = .ok (.iconst 0, 1) := by decide +kernel
theorem dX8_said_131 : decode cX8_said 131 = .ok (.sipush 9999, 3) := by decide +kernel
theorem dX8_said_134 : decode cX8_said 134 = .ok (.invokestatic 279, 3) := by decide +kernel
theorem dX8_said_137 : decode cX8_said 137 = .ok (.ireturn, 1) := by decide +kernel
theorem dX8_isTrueOf_0 : decode cX8_isTrueOf 0 = .ok (.aload_n 2, 1) := by decide +kernel
theorem dX8_isTrueOf_1 : decode cX8_isTrueOf 1 = .ok (.invokevirtual 164, 3) := by decide +kernel
theorem dX8_isTrueOf_4 : decode cX8_isTrueOf 4 = .ok (.sipush 9999, 3) := by decide +kernel
theorem dX8_isTrueOf_7 : decode cX8_isTrueOf 7 = .ok (.istore_n 3, 1) := by decide +kernel
theorem dX8_isTrueOf_8 : decode cX8_isTrueOf 8 = .ok (.iconst 0, 1) := by decide +kernel
theorem dX8_isTrueOf_9 : decode cX8_isTrueOf 9 = .ok (.istore 4, 2) := by decide +kernel
theorem dX8_isTrueOf_11 : decode cX8_isTrueOf 11 = .ok (.iload 4, 2) := by decide +kernel
theorem dX8_isTrueOf_13 : decode cX8_isTrueOf 13 = .ok (.aload_n 0, 1) := by decide +kernel
theorem dX8_isTrueOf_14 : decode cX8_isTrueOf 14 = .ok (.getfield 10, 3) := by decide +kernel
theorem dX8_isTrueOf_17 : decode cX8_isTrueOf 17 = .ok (.getfield 88, 3) := by decide +kernel
theorem dX8_isTrueOf_20 : decode cX8_isTrueOf 20 = .ok (.if_icmp .ge 36, 3) := by decide +kernel
theorem dX8_isTrueOf_23 : decode cX8_isTrueOf 23 = .ok (.aload_n 0, 1) := by decide +kernel
theorem dX8_isTrueOf_24 : decode cX8_isTrueOf 24 = .ok (.aload_n 1, 1) := by decide +kernel
theorem dX8_isTrueOf_25 : decode cX8_isTrueOf 25 = .ok (.aload_n 2, 1) := by decide +kernel
theorem dX8_isTrueOf_26 : decode cX8_isTrueOf 26 = .ok (.getfield 283, 3) := by decide +kernel
theorem dX8_isTrueOf_29 : decode cX8_isTrueOf 29 = .ok (.iload 4, 2) := by decide +kernel
theorem dX8_isTrueOf_31 : decode cX8_isTrueOf 31 = .ok (.iaload, 1) := by decide +kernel
theorem dX8_isTrueOf_32 : decode cX8_isTrueOf 32 = .ok (.iload 4, 2) := by decide +kernel
theorem dX8_isTrueOf_34 : decode cX8_isTrueOf 34 = .ok (.invokevirtual 275, 3) := by decide +kernel
theorem dX8_isTrueOf_37 : decode cX8_isTrueOf 37 = .ok (.istore 5, 2) := by decide +kernel
theorem dX8_isTrueOf_39 : decode cX8_isTrueOf 39 = .ok (.iload 5, 2) := by decide +kernel
theorem dX8_isTrueOf_41 : decode cX8_isTrueOf 41 = .ok (.iload_n 3, 1) := by decide +kernel
theorem dX8_isTrueOf_42 : decode cX8_isTrueOf 42 = .ok (.if_icmp .le 5, 3) := by decide +kernel
theorem dX8_isTrueOf_45 : decode cX8_isTrueOf 45 = .ok (.iconst 0, 1) := by decide +kernel
theorem dX8_isTrueOf_46 : decode cX8_isTrueOf 46 = .ok (.ireturn, 1) := by decide +kernel
theorem dX8_isTrueOf_47 : decode cX8_isTrueOf 47 = .ok (.iload 5, 2) := by decide +kernel
theorem dX8_isTrueOf_49 : decode cX8_isTrueOf 49 = .ok (.istore_n 3, 1) := by decide +kernel
theorem dX8_isTrueOf_50 : decode cX8_isTrueOf 50 = .ok (.iinc 4 1, 3) := by decide +kernel
theorem dX8_isTrueOf_53 : decode cX8_isTrueOf 53 = .ok (.goto (-42), 3) := by decide +kernel
theorem dX8_isTrueOf_56 : decode cX8_isTrueOf 56 = .ok (.iconst 1, 1) := by decide +kernel
theorem dX8_isTrueOf_57 : decode cX8_isTrueOf 57 = .ok (.ireturn, 1) := by decide +kernel
theorem dX8_weightSaid_0 : decode cX8_weightSaid 0 = .ok (.aload_n 0, 1) := by decide +kernel
theorem dX8_weightSaid_1 : decode cX8_weightSaid 1 = .ok (.getfield 74, 3) := by decide +kernel
theorem dX8_weightSaid_4 : decode cX8_weightSaid 4 = .ok (.iconst 0, 1) := by decide +kernel
theorem dX8_weightSaid_5 : decode cX8_weightSaid 5 = .ok (.invokestatic 286, 3) := by decide +kernel
theorem dX8_weightSaid_8 : decode cX8_weightSaid 8 = .ok (.aload_n 0, 1) := by decide +kernel
theorem dX8_weightSaid_9 : decode cX8_weightSaid 9 = .ok (.getfield 74, 3) := by decide +kernel
theorem dX8_weightSaid_12 : decode cX8_weightSaid 12 = .ok (.iconst 0, 1) := by decide +kernel
theorem dX8_weightSaid_13 : decode cX8_weightSaid 13 = .ok (.aload_n 0, 1) := by decide +kernel
theorem dX8_weightSaid_14 : decode cX8_weightSaid 14 = .ok (.getfield 10, 3) := by decide +kernel
theorem dX8_weightSaid_17 : decode cX8_weightSaid 17 = .ok (.getfield 92, 3) := by decide +kernel
theorem dX8_weightSaid_20 : decode cX8_weightSaid 20 = .ok (.iload_n 2, 1) := by decide +kernel
theorem dX8_weightSaid_21 : decode cX8_weightSaid 21 = .ok (.iaload, 1) := by decide +kernel
theorem dX8_weightSaid_22 : decode cX8_weightSaid 22 = .ok (.iastore, 1) := by decide +kernel
theorem dX8_weightSaid_23 : decode cX8_weightSaid 23 = .ok (.aload_n 0, 1) := by decide +kernel
theorem dX8_weightSaid_24 : decode cX8_weightSaid 24 = .ok (.getfield 74, 3) := by decide +kernel
theorem dX8_weightSaid_27 : decode cX8_weightSaid 27 = .ok (.iconst 2, 1) := by decide +kernel
theorem dX8_weightSaid_28 : decode cX8_weightSaid 28 = .ok (.iload_n 3, 1) := by decide +kernel
theorem dX8_weightSaid_29 : decode cX8_weightSaid 29 = .ok (.iastore, 1) := by decide +kernel
theorem dX8_weightSaid_30 : decode cX8_weightSaid 30 = .ok (.aload_n 0, 1) := by decide +kernel
theorem dX8_weightSaid_31 : decode cX8_weightSaid 31 = .ok (.getfield 74, 3) := by decide +kernel
theorem dX8_weightSaid_34 : decode cX8_weightSaid 34 = .ok (.iconst 3, 1) := by decide +kernel
theorem dX8_weightSaid_35 : decode cX8_weightSaid 35 = .ok (.aload_n 0, 1) := by decide +kernel
theorem dX8_weightSaid_36 : decode cX8_weightSaid 36 = .ok (.getfield 10, 3) := by decide +kernel
theorem dX8_weightSaid_39 : decode cX8_weightSaid 39 = .ok (.getfield 88, 3) := by decide +kernel
theorem dX8_weightSaid_42 : decode cX8_weightSaid 42 = .ok (.iastore, 1) := by decide +kernel
theorem dX8_weightSaid_43 : decode cX8_weightSaid 43 = .ok (.aload_n 0, 1) := by decide +kernel
theorem dX8_weightSaid_44 : decode cX8_weightSaid 44 = .ok (.getfield 74, 3) := by decide +kernel
theorem dX8_weightSaid_47 : decode cX8_weightSaid 47 = .ok (.bipush 6, 2) := by decide +kernel
theorem dX8_weightSaid_49 : decode cX8_weightSaid 49 = .ok (.iload_n 2, 1) := by decide +kernel
theorem dX8_weightSaid_50 : decode cX8_weightSaid 50 = .ok (.iastore, 1) := by decide +kernel
theorem dX8_weightSaid_51 : decode cX8_weightSaid 51 = .ok (.aload_n 1, 1) := by decide +kernel
theorem dX8_weightSaid_52 : decode cX8_weightSaid 52 = .ok (.aload_n 0, 1) := by decide +kernel
theorem dX8_weightSaid_53 : decode cX8_weightSaid 53 = .ok (.getfield 74, 3) := by decide +kernel
theorem dX8_weightSaid_56 : decode cX8_weightSaid 56 = .ok (.invokevirtual 292, 3) := by decide +kernel
theorem dX8_weightSaid_59 : decode cX8_weightSaid 59 = .ok (.ireturn, 1) := by decide +kernel
theorem dX8_ordersFrom_0 : decode cX8_ordersFrom 0 = .ok (.iload_n 2, 1) := by decide +kernel
theorem dX8_ordersFrom_1 : decode cX8_ordersFrom 1 = .ok (.iload_n 1, 1) := by decide +kernel
theorem dX8_ordersFrom_2 : decode cX8_ordersFrom 2 = .ok (.if_icmp .ge 9, 3) := by decide +kernel
theorem dX8_ordersFrom_5 : decode cX8_ordersFrom 5 = .ok (.iload_n 2, 1) := by decide +kernel
theorem dX8_ordersFrom_6 : decode cX8_ordersFrom 6 = .ok (.bipush 6, 2) := by decide +kernel
theorem dX8_ordersFrom_8 : decode cX8_ordersFrom 8 = .ok (.if_icmp .lt 5, 3) := by decide +kernel
theorem dX8_ordersFrom_11 : decode cX8_ordersFrom 11 = .ok (.iconst 1, 1) := by decide +kernel
theorem dX8_ordersFrom_12 : decode cX8_ordersFrom 12 = .ok (.ireturn, 1) := by decide +kernel
theorem dX8_ordersFrom_13 : decode cX8_ordersFrom 13 = .ok (.iconst 0, 1) := by decide +kernel
theorem dX8_ordersFrom_14 : decode cX8_ordersFrom 14 = .ok (.istore 5, 2) := by decide +kernel
theorem dX8_ordersFrom_16 : decode cX8_ordersFrom 16 = .ok (.iconst 0, 1) := by decide +kernel
theorem dX8_ordersFrom_17 : decode cX8_ordersFrom 17 = .ok (.istore 6, 2) := by decide +kernel
theorem dX8_ordersFrom_19 : decode cX8_ordersFrom 19 = .ok (.iload 6, 2) := by decide +kernel
theorem dX8_ordersFrom_21 : decode cX8_ordersFrom 21 = .ok (.iload_n 1, 1) := by decide +kernel
theorem dX8_ordersFrom_22 : decode cX8_ordersFrom 22 = .ok (.if_icmp .ge 57, 3) := by decide +kernel
theorem dX8_ordersFrom_25 : decode cX8_ordersFrom 25 = .ok (.aload_n 0, 1) := by decide +kernel
theorem dX8_ordersFrom_26 : decode cX8_ordersFrom 26 = .ok (.iload 6, 2) := by decide +kernel
theorem dX8_ordersFrom_28 : decode cX8_ordersFrom 28 = .ok (.bipush 6, 2) := by decide +kernel
theorem dX8_ordersFrom_30 : decode cX8_ordersFrom 30 = .ok (.imul, 1) := by decide +kernel
theorem dX8_ordersFrom_31 : decode cX8_ordersFrom 31 = .ok (.iload_n 2, 1) := by decide +kernel
theorem dX8_ordersFrom_32 : decode cX8_ordersFrom 32 = .ok (.iadd, 1) := by decide +kernel
theorem dX8_ordersFrom_33 : decode cX8_ordersFrom 33 = .ok (.iaload, 1) := by decide +kernel
theorem dX8_ordersFrom_34 : decode cX8_ordersFrom 34 = .ok (.istore 7, 2) := by decide +kernel
theorem dX8_ordersFrom_36 : decode cX8_ordersFrom 36 = .ok (.iload_n 3, 1) := by decide +kernel
theorem dX8_ordersFrom_37 : decode cX8_ordersFrom 37 = .ok (.iload 6, 2) := by decide +kernel
theorem dX8_ordersFrom_39 : decode cX8_ordersFrom 39 = .ok (.ishr, 1) := by decide +kernel
theorem dX8_ordersFrom_40 : decode cX8_ordersFrom 40 = .ok (.iconst 1, 1) := by decide +kernel
theorem dX8_ordersFrom_41 : decode cX8_ordersFrom 41 = .ok (.iand, 1) := by decide +kernel
theorem dX8_ordersFrom_42 : decode cX8_ordersFrom 42 = .ok (.ifCond .ne 31, 3) := by decide +kernel
theorem dX8_ordersFrom_45 : decode cX8_ordersFrom 45 = .ok (.iload 7, 2) := by decide +kernel
theorem dX8_ordersFrom_47 : decode cX8_ordersFrom 47 = .ok (.iload 4, 2) := by decide +kernel
theorem dX8_ordersFrom_49 : decode cX8_ordersFrom 49 = .ok (.if_icmp .gt 24, 3) := by decide +kernel
theorem dX8_ordersFrom_52 : decode cX8_ordersFrom 52 = .ok (.iload 5, 2) := by decide +kernel
theorem dX8_ordersFrom_54 : decode cX8_ordersFrom 54 = .ok (.aload_n 0, 1) := by decide +kernel
theorem dX8_ordersFrom_55 : decode cX8_ordersFrom 55 = .ok (.iload_n 1, 1) := by decide +kernel
theorem dX8_ordersFrom_56 : decode cX8_ordersFrom 56 = .ok (.iload_n 2, 1) := by decide +kernel
theorem dX8_ordersFrom_57 : decode cX8_ordersFrom 57 = .ok (.iconst 1, 1) := by decide +kernel
theorem dX8_ordersFrom_58 : decode cX8_ordersFrom 58 = .ok (.iadd, 1) := by decide +kernel
theorem dX8_ordersFrom_59 : decode cX8_ordersFrom 59 = .ok (.iload_n 3, 1) := by decide +kernel
theorem dX8_ordersFrom_60 : decode cX8_ordersFrom 60 = .ok (.iconst 1, 1) := by decide +kernel
theorem dX8_ordersFrom_61 : decode cX8_ordersFrom 61 = .ok (.iload 6, 2) := by decide +kernel
theorem dX8_ordersFrom_63 : decode cX8_ordersFrom 63 = .ok (.ishl, 1) := by decide +kernel
theorem dX8_ordersFrom_64 : decode cX8_ordersFrom 64 = .ok (.ior, 1) := by decide +kernel
theorem dX8_ordersFrom_65 : decode cX8_ordersFrom 65 = .ok (.iload 7, 2) := by decide +kernel
theorem dX8_ordersFrom_67 : decode cX8_ordersFrom 67 = .ok (.invokestatic 279, 3) := by decide +kernel
theorem dX8_ordersFrom_70 : decode cX8_ordersFrom 70 = .ok (.iadd, 1) := by decide +kernel
theorem dX8_ordersFrom_71 : decode cX8_ordersFrom 71 = .ok (.istore 5, 2) := by decide +kernel
theorem dX8_ordersFrom_73 : decode cX8_ordersFrom 73 = .ok (.iinc 6 1, 3) := by decide +kernel
theorem dX8_ordersFrom_76 : decode cX8_ordersFrom 76 = .ok (.goto (-57), 3) := by decide +kernel
theorem dX8_ordersFrom_79 : decode cX8_ordersFrom 79 = .ok (.iload 5, 2) := by decide +kernel
theorem dX8_ordersFrom_81 : decode cX8_ordersFrom 81 = .ok (.ireturn, 1) := by decide +kernel
theorem dX8_strong_0 : decode cX8_strong 0 = .ok (.aload_n 0, 1) := by decide +kernel
theorem dX8_strong_1 : decode cX8_strong 1 = .ok (.iload_n 1, 1) := by decide +kernel
theorem dX8_strong_2 : decode cX8_strong 2 = .ok (.bipush 10, 2) := by decide +kernel
theorem dX8_strong_4 : decode cX8_strong 4 = .ok (.idiv, 1) := by decide +kernel
theorem dX8_strong_5 : decode cX8_strong 5 = .ok (.invokevirtual 124, 3) := by decide +kernel
theorem dX8_strong_8 : decode cX8_strong 8 = .ok (.astore 4, 2) := by decide +kernel
theorem dX8_strong_10 : decode cX8_strong 10 = .ok (.aload_n 0, 1) := by decide +kernel
theorem dX8_strong_11 : decode cX8_strong 11 = .ok (.iload_n 1, 1) := by decide +kernel
theorem dX8_strong_12 : decode cX8_strong 12 = .ok (.bipush 10, 2) := by decide +kernel
theorem dX8_strong_14 : decode cX8_strong 14 = .ok (.irem, 1) := by decide +kernel
theorem dX8_strong_15 : decode cX8_strong 15 = .ok (.invokevirtual 124, 3) := by decide +kernel
theorem dX8_strong_18 : decode cX8_strong 18 = .ok (.astore 5, 2) := by decide +kernel
theorem dX8_strong_20 : decode cX8_strong 20 = .ok (.aload 4, 2) := by decide +kernel
theorem dX8_strong_22 : decode cX8_strong 22 = .ok (.ifnull 27, 3) := by decide +kernel
theorem dX8_strong_25 : decode cX8_strong 25 = .ok (.aload 5, 2) := by decide +kernel
theorem dX8_strong_27 : decode cX8_strong 27 = .ok (.ifnull 22, 3) := by decide +kernel
theorem dX8_strong_30 : decode cX8_strong 30 = .ok (.aload 4, 2) := by decide +kernel
theorem dX8_strong_32 : decode cX8_strong 32 = .ok (.aload 5, 2) := by decide +kernel
theorem dX8_strong_34 : decode cX8_strong 34 = .ok (.if_acmp .eq 15, 3) := by decide +kernel
theorem dX8_strong_37 : decode cX8_strong 37 = .ok (.iload_n 2, 1) := by decide +kernel
theorem dX8_strong_38 : decode cX8_strong 38 = .ok (.iconst 1, 1) := by decide +kernel
theorem dX8_strong_39 : decode cX8_strong 39 = .ok (.if_icmp .lt 10, 3) := by decide +kernel
theorem dX8_strong_42 : decode cX8_strong 42 = .ok (.iload_n 2, 1) := by decide +kernel
theorem dX8_strong_43 : decode cX8_strong 43 = .ok (.sipush 400, 3) := by decide +kernel
theorem dX8_strong_46 : decode cX8_strong 46 = .ok (.if_icmp .le 7, 3) := by decide +kernel
theorem dX8_strong_49 : decode cX8_strong 49 = .ok (.ldc_w 262, 3) := by decide +kernel
theorem dX8_strong_52 : decode cX8_strong 52 = .ok (.ireturn, 1) := by decide +kernel
theorem dX8_strong_53 : decode cX8_strong 53 = .ok (.aload_n 0, 1) := by decide +kernel
theorem dX8_strong_54 : decode cX8_strong 54 = .ok (.aload 4, 2) := by decide +kernel
theorem dX8_strong_56 : decode cX8_strong 56 = .ok (.iload_n 2, 1) := by decide +kernel
theorem dX8_strong_57 : decode cX8_strong 57 = .ok (.iload_n 3, 1) := by decide +kernel
theorem dX8_strong_58 : decode cX8_strong 58 = .ok (.invokevirtual 294, 3) := by decide +kernel
theorem dX8_strong_61 : decode cX8_strong 61 = .ok (.aload_n 0, 1) := by decide +kernel
theorem dX8_strong_62 : decode cX8_strong 62 = .ok (.aload 5, 2) := by decide +kernel
theorem dX8_strong_64 : decode cX8_strong 64 = .ok (.iload_n 2, 1) := by decide +kernel
theorem dX8_strong_65 : decode cX8_strong 65 = .ok (.iload_n 3, 1) := by decide +kernel
theorem dX8_strong_66 : decode cX8_strong 66 = .ok (.invokevirtual 294, 3) := by decide +kernel
theorem dX8_strong_69 : decode cX8_strong 69 = .ok (.isub, 1) := by decide +kernel
theorem dX8_strong_70 : decode cX8_strong 70 = .ok (.ireturn, 1) := by decide +kernel
theorem dX8_apartInThought_0 : decode cX8_apartInThought 0 = .ok (.aload_n 0, 1) := by decide +kernel
theorem dX8_apartInThought_1 : decode cX8_apartInThought 1 = .ok (.getfield 58, 3) := by decide +kernel
theorem dX8_apartInThought_4 : decode cX8_apartInThought 4 = .ok (.aload_n 1, 1) := by decide +kernel
theorem dX8_apartInThought_5 : decode cX8_apartInThought 5 = .ok (.iload_n 3, 1) := by decide +kernel
theorem dX8_apartInThought_6 : decode cX8_apartInThought 6 = .ok (.invokevirtual 131, 3) := by decide +kernel
theorem dX8_apartInThought_9 : decode cX8_apartInThought 9 = .ok (.aload_n 0, 1) := by decide +kernel
theorem dX8_apartInThought_10 : decode cX8_apartInThought 10 = .ok (.getfield 62, 3) := by decide +kernel
theorem dX8_apartInThought_13 : decode cX8_apartInThought 13 = .ok (.aload_n 1, 1) := by decide +kernel
theorem dX8_apartInThought_14 : decode cX8_apartInThought 14 = .ok (.iload_n 3, 1) := by decide +kernel
theorem dX8_apartInThought_15 : decode cX8_apartInThought 15 = .ok (.iconst 1, 1) := by decide +kernel
theorem dX8_apartInThought_16 : decode cX8_apartInThought 16 = .ok (.iadd, 1) := by decide +kernel
theorem dX8_apartInThought_17 : decode cX8_apartInThought 17 = .ok (.invokevirtual 131, 3) := by decide +kernel
theorem dX8_apartInThought_20 : decode cX8_apartInThought 20 = .ok (.aload_n 0, 1) := by decide +kernel
theorem dX8_apartInThought_21 : decode cX8_apartInThought 21 = .ok (.getfield 58, 3) := by decide +kernel
theorem dX8_apartInThought_24 : decode cX8_apartInThought 24 = .ok (.iload_n 2, 1) := by decide +kernel
theorem dX8_apartInThought_25 : decode cX8_apartInThought 25 = .ok (.invokevirtual 183, 3) := by decide +kernel
theorem dX8_apartInThought_28 : decode cX8_apartInThought 28 = .ok (.pop, 1) := by decide +kernel
theorem dX8_apartInThought_29 : decode cX8_apartInThought 29 = .ok (.aload_n 0, 1) := by decide +kernel
theorem dX8_apartInThought_30 : decode cX8_apartInThought 30 = .ok (.getfield 62, 3) := by decide +kernel
theorem dX8_apartInThought_33 : decode cX8_apartInThought 33 = .ok (.iload_n 2, 1) := by decide +kernel
theorem dX8_apartInThought_34 : decode cX8_apartInThought 34 = .ok (.invokevirtual 183, 3) := by decide +kernel
theorem dX8_apartInThought_37 : decode cX8_apartInThought 37 = .ok (.pop, 1) := by decide +kernel
theorem dX8_apartInThought_38 : decode cX8_apartInThought 38 = .ok (.aload_n 0, 1) := by decide +kernel
theorem dX8_apartInThought_39 : decode cX8_apartInThought 39 = .ok (.aload_n 0, 1) := by decide +kernel
theorem dX8_apartInThought_40 : decode cX8_apartInThought 40 = .ok (.getfield 58, 3) := by decide +kernel
theorem dX8_apartInThought_43 : decode cX8_apartInThought 43 = .ok (.aload_n 0, 1) := by decide +kernel
theorem dX8_apartInThought_44 : decode cX8_apartInThought 44 = .ok (.getfield 62, 3) := by decide +kernel
theorem dX8_apartInThought_47 : decode cX8_apartInThought 47 = .ok (.invokevirtual 216, 3) := by decide +kernel
theorem dX8_apartInThought_50 : decode cX8_apartInThought 50 = .ok (.ireturn, 1) := by decide +kernel
theorem dX8_line_0 : decode cX8_line 0 = .ok (.aload_n 0, 1) := by decide +kernel
theorem dX8_line_1 : decode cX8_line 1 = .ok (.iload_n 1, 1) := by decide +kernel
theorem dX8_line_2 : decode cX8_line 2 = .ok (.bipush 10, 2) := by decide +kernel
theorem dX8_line_4 : decode cX8_line 4 = .ok (.idiv, 1) := by decide +kernel
theorem dX8_line_5 : decode cX8_line 5 = .ok (.invokevirtual 147, 3) := by decide +kernel
theorem dX8_line_8 : decode cX8_line 8 = .ok (.astore_n 2, 1) := by decide +kernel
theorem dX8_line_9 : decode cX8_line 9 = .ok (.aload_n 0, 1) := by decide +kernel
theorem dX8_line_10 : decode cX8_line 10 = .ok (.iload_n 1, 1) := by decide +kernel
theorem dX8_line_11 : decode cX8_line 11 = .ok (.bipush 10, 2) := by decide +kernel
theorem dX8_line_13 : decode cX8_line 13 = .ok (.irem, 1) := by decide +kernel
theorem dX8_line_14 : decode cX8_line 14 = .ok (.invokevirtual 147, 3) := by decide +kernel
theorem dX8_line_17 : decode cX8_line 17 = .ok (.astore_n 3, 1) := by decide +kernel
theorem dX8_line_18 : decode cX8_line 18 = .ok (.aload_n 2, 1) := by decide +kernel
theorem dX8_line_19 : decode cX8_line 19 = .ok (.ifnull 12, 3) := by decide +kernel
theorem dX8_line_22 : decode cX8_line 22 = .ok (.aload_n 3, 1) := by decide +kernel
theorem dX8_line_23 : decode cX8_line 23 = .ok (.ifnull 8, 3) := by decide +kernel
theorem dX8_line_26 : decode cX8_line 26 = .ok (.aload_n 2, 1) := by decide +kernel
theorem dX8_line_27 : decode cX8_line 27 = .ok (.aload_n 3, 1) := by decide +kernel
theorem dX8_line_28 : decode cX8_line 28 = .ok (.if_acmp .ne 5, 3) := by decide +kernel
theorem dX8_line_31 : decode cX8_line 31 = .ok (.iconst (-1), 1) := by decide +kernel
theorem dX8_line_32 : decode cX8_line 32 = .ok (.ireturn, 1) := by decide +kernel
theorem dX8_line_33 : decode cX8_line 33 = .ok (.aload_n 2, 1) := by decide +kernel
theorem dX8_line_34 : decode cX8_line 34 = .ok (.invokevirtual 164, 3) := by decide +kernel
theorem dX8_line_37 : decode cX8_line 37 = .ok (.aload_n 3, 1) := by decide +kernel
theorem dX8_line_38 : decode cX8_line 38 = .ok (.invokevirtual 164, 3) := by decide +kernel
theorem dX8_line_41 : decode cX8_line 41 = .ok (.aload_n 0, 1) := by decide +kernel
theorem dX8_line_42 : decode cX8_line 42 = .ok (.aload_n 2, 1) := by decide +kernel
theorem dX8_line_43 : decode cX8_line 43 = .ok (.getfield 170, 3) := by decide +kernel
theorem dX8_line_46 : decode cX8_line 46 = .ok (.aload_n 3, 1) := by decide +kernel
theorem dX8_line_47 : decode cX8_line 47 = .ok (.getfield 170, 3) := by decide +kernel
theorem dX8_line_50 : decode cX8_line 50 = .ok (.invokevirtual 297, 3) := by decide +kernel
theorem dX8_line_53 : decode cX8_line 53 = .ok (.ireturn, 1) := by decide +kernel
theorem dX8_against_0 : decode cX8_against 0 = .ok (.aload_n 0, 1) := by decide +kernel
theorem dX8_against_1 : decode cX8_against 1 = .ok (.iload_n 1, 1) := by decide +kernel
theorem dX8_against_2 : decode cX8_against 2 = .ok (.bipush 10, 2) := by decide +kernel
theorem dX8_against_4 : decode cX8_against 4 = .ok (.idiv, 1) := by decide +kernel
theorem dX8_against_5 : decode cX8_against 5 = .ok (.invokevirtual 147, 3) := by decide +kernel
theorem dX8_against_8 : decode cX8_against 8 = .ok (.astore 4, 2) := by decide +kernel
theorem dX8_against_10 : decode cX8_against 10 = .ok (.aload_n 0, 1) := by decide +kernel
theorem dX8_against_11 : decode cX8_against 11 = .ok (.iload_n 1, 1) := by decide +kernel
theorem dX8_against_12 : decode cX8_against 12 = .ok (.bipush 10, 2) := by decide +kernel
theorem dX8_against_14 : decode cX8_against 14 = .ok (.irem, 1) := by decide +kernel
theorem dX8_against_15 : decode cX8_against 15 = .ok (.invokevirtual 147, 3) := by decide +kernel
theorem dX8_against_18 : decode cX8_against 18 = .ok (.astore 5, 2) := by decide +kernel
theorem dX8_against_20 : decode cX8_against 20 = .ok (.aload 4, 2) := by decide +kernel
theorem dX8_against_22 : decode cX8_against 22 = .ok (.ifnull 26, 3) := by decide +kernel
theorem dX8_against_25 : decode cX8_against 25 = .ok (.aload 5, 2) := by decide +kernel
theorem dX8_against_27 : decode cX8_against 27 = .ok (.ifnull 21, 3) := by decide +kernel
theorem dX8_against_30 : decode cX8_against 30 = .ok (.aload 4, 2) := by decide +kernel
theorem dX8_against_32 : decode cX8_against 32 = .ok (.aload 5, 2) := by decide +kernel
theorem dX8_against_34 : decode cX8_against 34 = .ok (.if_acmp .eq 14, 3) := by decide +kernel
theorem dX8_against_37 : decode cX8_against 37 = .ok (.iload_n 3, 1) := by decide +kernel
theorem dX8_against_38 : decode cX8_against 38 = .ok (.iconst 1, 1) := by decide +kernel
theorem dX8_against_39 : decode cX8_against 39 = .ok (.if_icmp .lt 9, 3) := by decide +kernel
theorem dX8_against_42 : decode cX8_against 42 = .ok (.iload_n 3, 1) := by decide +kernel
theorem dX8_against_43 : decode cX8_against 43 = .ok (.bipush 50, 2) := by decide +kernel
theorem dX8_against_45 : decode cX8_against 45 = .ok (.if_icmp .le 5, 3) := by decide +kernel
theorem dX8_against_48 : decode cX8_against 48 = .ok (.iconst (-1), 1) := by decide +kernel
theorem dX8_against_49 : decode cX8_against 49 = .ok (.ireturn, 1) := by decide +kernel
theorem dX8_against_50 : decode cX8_against 50 = .ok (.aload 4, 2) := by decide +kernel
theorem dX8_against_52 : decode cX8_against 52 = .ok (.invokevirtual 164, 3) := by decide +kernel
theorem dX8_against_55 : decode cX8_against 55 = .ok (.aload 5, 2) := by decide +kernel
theorem dX8_against_57 : decode cX8_against 57 = .ok (.invokevirtual 164, 3) := by decide +kernel
theorem dX8_against_60 : decode cX8_against 60 = .ok (.aload_n 0, 1) := by decide +kernel
theorem dX8_against_61 : decode cX8_against 61 = .ok (.aload 4, 2) := by decide +kernel
theorem dX8_against_63 : decode cX8_against 63 = .ok (.getfield 170, 3) := by decide +kernel
theorem dX8_against_66 : decode cX8_against 66 = .ok (.aload 5, 2) := by decide +kernel
theorem dX8_against_68 : decode cX8_against 68 = .ok (.getfield 170, 3) := by decide +kernel
theorem dX8_against_71 : decode cX8_against 71 = .ok (.invokevirtual 297, 3) := by decide +kernel
theorem dX8_against_74 : decode cX8_against 74 = .ok (.istore 6, 2) := by decide +kernel
theorem dX8_against_76 : decode cX8_against 76 = .ok (.iconst 0, 1) := by decide +kernel
theorem dX8_against_77 : decode cX8_against 77 = .ok (.istore 7, 2) := by decide +kernel
theorem dX8_against_79 : decode cX8_against 79 = .ok (.iload_n 2, 1) := by decide +kernel
theorem dX8_against_80 : decode cX8_against 80 = .ok (.istore 8, 2) := by decide +kernel
theorem dX8_against_82 : decode cX8_against 82 = .ok (.aload 5, 2) := by decide +kernel
theorem dX8_against_84 : decode cX8_against 84 = .ok (.getfield 170, 3) := by decide +kernel
theorem dX8_against_87 : decode cX8_against 87 = .ok (.iconst 0, 1) := by decide +kernel
theorem dX8_against_88 : decode cX8_against 88 = .ok (.aload_n 0, 1) := by decide +kernel
theorem dX8_against_89 : decode cX8_against 89 = .ok (.getfield 81, 3) := by decide +kernel
theorem dX8_against_92 : decode cX8_against 92 = .ok (.iconst 0, 1) := by decide +kernel
theorem dX8_against_93 : decode cX8_against 93 = .ok (.aload_n 0, 1) := by decide +kernel
theorem dX8_against_94 : decode cX8_against 94 = .ok (.getfield 10, 3) := by decide +kernel
theorem dX8_against_97 : decode cX8_against 97 = .ok (.getfield 88, 3) := by decide +kernel
theorem dX8_against_100 : decode cX8_against 100 = .ok (.invokestatic 301, 3) := by decide +kernel
theorem dX8_against_103 : decode cX8_against 103 = .ok (.iconst 0, 1) := by decide +kernel
theorem dX8_against_104 : decode cX8_against 104 = .ok (.istore 9, 2) := by decide +kernel
theorem dX8_against_106 : decode cX8_against 106 = .ok (.iload 9, 2) := by decide +kernel
theorem dX8_against_108 : decode cX8_against 108 = .ok (.iload_n 3, 1) := by decide +kernel
theorem dX8_against_109 : decode cX8_against 109 = .ok (.if_icmp .ge 48, 3) := by decide +kernel
theorem dX8_against_112 : decode cX8_against 112 = .ok (.aload_n 0, 1) := by decide +kernel
theorem dX8_against_113 : decode cX8_against 113 = .ok (.getfield 81, 3) := by decide +kernel
theorem dX8_against_116 : decode cX8_against 116 = .ok (.aload_n 0, 1) := by decide +kernel
theorem dX8_against_117 : decode cX8_against 117 = .ok (.getfield 10, 3) := by decide +kernel
theorem dX8_against_120 : decode cX8_against 120 = .ok (.getfield 88, 3) := by decide +kernel
theorem dX8_against_123 : decode cX8_against 123 = .ok (.iload 8, 2) := by decide +kernel
theorem dX8_against_125 : decode cX8_against 125 = .ok (.invokestatic 307, 3) := by decide +kernel
theorem dX8_against_128 : decode cX8_against 128 = .ok (.istore 8, 2) := by decide +kernel
theorem dX8_against_130 : decode cX8_against 130 = .ok (.aload_n 0, 1) := by decide +kernel
theorem dX8_against_131 : decode cX8_against 131 = .ok (.aload 4, 2) := by decide +kernel
theorem dX8_against_133 : decode cX8_against 133 = .ok (.getfield 170, 3) := by decide +kernel
theorem dX8_against_136 : decode cX8_against 136 = .ok (.aload_n 0, 1) := by decide +kernel
theorem dX8_against_137 : decode cX8_against 137 = .ok (.getfield 81, 3) := by decide +kernel
theorem dX8_against_140 : decode cX8_against 140 = .ok (.invokevirtual 297, 3) := by decide +kernel
theorem dX8_against_143 : decode cX8_against 143 = .ok (.iload 6, 2) := by decide +kernel
theorem dX8_against_145 : decode cX8_against 145 = .ok (.if_icmp .gt 6, 3) := by decide +kernel
theorem dX8_against_148 : decode cX8_against 148 = .ok (.iinc 7 1, 3) := by decide +kernel
theorem dX8_against_151 : decode cX8_against 151 = .ok (.iinc 9 1, 3) := by decide +kernel
theorem dX8_against_154 : decode cX8_against 154 = .ok (.goto (-48), 3) := by decide +kernel
theorem dX8_against_157 : decode cX8_against 157 = .ok (.iload 7, 2) := by decide +kernel
theorem dX8_against_159 : decode cX8_against 159 = .ok (.ireturn, 1) := by decide +kernel
theorem dX8_farApart_0 : decode cX8_farApart 0 = .ok (.iconst 0, 1) := by decide +kernel
theorem dX8_farApart_1 : decode cX8_farApart 1 = .ok (.istore_n 3, 1) := by decide +kernel
theorem dX8_farApart_2 : decode cX8_farApart 2 = .ok (.iconst 0, 1) := by decide +kernel
theorem dX8_farApart_3 : decode cX8_farApart 3 = .ok (.istore 4, 2) := by decide +kernel
theorem dX8_farApart_5 : decode cX8_farApart 5 = .ok (.iload 4, 2) := by decide +kernel
theorem dX8_farApart_7 : decode cX8_farApart 7 = .ok (.aload_n 0, 1) := by decide +kernel
theorem dX8_farApart_8 : decode cX8_farApart 8 = .ok (.getfield 10, 3) := by decide +kernel
theorem dX8_farApart_11 : decode cX8_farApart 11 = .ok (.getfield 88, 3) := by decide +kernel
theorem dX8_farApart_14 : decode cX8_farApart 14 = .ok (.if_icmp .ge 24, 3) := by decide +kernel
theorem dX8_farApart_17 : decode cX8_farApart 17 = .ok (.iload_n 3, 1) := by decide +kernel
theorem dX8_farApart_18 : decode cX8_farApart 18 = .ok (.aload_n 1, 1) := by decide +kernel
theorem dX8_farApart_19 : decode cX8_farApart 19 = .ok (.iload 4, 2) := by decide +kernel
theorem dX8_farApart_21 : decode cX8_farApart 21 = .ok (.iaload, 1) := by decide +kernel
theorem dX8_farApart_22 : decode cX8_farApart 22 = .ok (.aload_n 2, 1) := by decide +kernel
theorem dX8_farApart_23 : decode cX8_farApart 23 = .ok (.iload 4, 2) := by decide +kernel
theorem dX8_farApart_25 : decode cX8_farApart 25 = .ok (.iaload, 1) := by decide +kernel
theorem dX8_farApart_26 : decode cX8_farApart 26 = .ok (.isub, 1) := by decide +kernel
theorem dX8_farApart_27 : decode cX8_farApart 27 = .ok (.invokestatic 211, 3) := by decide +kernel
theorem dX8_farApart_30 : decode cX8_farApart 30 = .ok (.iadd, 1) := by decide +kernel
theorem dX8_farApart_31 : decode cX8_farApart 31 = .ok (.istore_n 3, 1) := by decide +kernel
theorem dX8_farApart_32 : decode cX8_farApart 32 = .ok (.iinc 4 1, 3) := by decide +kernel
theorem dX8_farApart_35 : decode cX8_farApart 35 = .ok (.goto (-30), 3) := by decide +kernel
theorem dX8_farApart_38 : decode cX8_farApart 38 = .ok (.iload_n 3, 1) := by decide +kernel
theorem dX8_farApart_39 : decode cX8_farApart 39 = .ok (.ireturn, 1) := by decide +kernel
theorem dX8_shuffle_0 : decode cX8_shuffle 0 = .ok (.iload_n 2, 1) := by decide +kernel
theorem dX8_shuffle_1 : decode cX8_shuffle 1 = .ok (.istore_n 3, 1) := by decide +kernel
theorem dX8_shuffle_2 : decode cX8_shuffle 2 = .ok (.iload_n 1, 1) := by decide +kernel
theorem dX8_shuffle_3 : decode cX8_shuffle 3 = .ok (.iconst 1, 1) := by decide +kernel
theorem dX8_shuffle_4 : decode cX8_shuffle 4 = .ok (.isub, 1) := by decide +kernel
theorem dX8_shuffle_5 : decode cX8_shuffle 5 = .ok (.istore 4, 2) := by decide +kernel
theorem dX8_shuffle_7 : decode cX8_shuffle 7 = .ok (.iload 4, 2) := by decide +kernel
theorem dX8_shuffle_9 : decode cX8_shuffle 9 = .ok (.ifCond .le 45, 3) := by decide +kernel
theorem dX8_shuffle_12 : decode cX8_shuffle 12 = .ok (.iload_n 3, 1) := by decide +kernel
theorem dX8_shuffle_13 : decode cX8_shuffle 13 = .ok (.invokestatic 311, 3) := by decide +kernel
theorem dX8_shuffle_16 : decode cX8_shuffle 16 = .ok (.istore_n 3, 1) := by decide +kernel
theorem dX8_shuffle_17 : decode cX8_shuffle 17 = .ok (.iload_n 3, 1) := by decide +kernel
theorem dX8_shuffle_18 : decode cX8_shuffle 18 = .ok (.bipush 8, 2) := by decide +kernel
theorem dX8_shuffle_20 : decode cX8_shuffle 20 = .ok (.iushr, 1) := by decide +kernel
theorem dX8_shuffle_21 : decode cX8_shuffle 21 = .ok (.iload 4, 2) := by decide +kernel
theorem dX8_shuffle_23 : decode cX8_shuffle 23 = .ok (.iconst 1, 1) := by decide +kernel
theorem dX8_shuffle_24 : decode cX8_shuffle 24 = .ok (.iadd, 1) := by decide +kernel
theorem dX8_shuffle_25 : decode cX8_shuffle 25 = .ok (.irem, 1) := by decide +kernel
theorem dX8_shuffle_26 : decode cX8_shuffle 26 = .ok (.istore 5, 2) := by decide +kernel
theorem dX8_shuffle_28 : decode cX8_shuffle 28 = .ok (.aload_n 0, 1) := by decide +kernel
theorem dX8_shuffle_29 : decode cX8_shuffle 29 = .ok (.iload 4, 2) := by decide +kernel
theorem dX8_shuffle_31 : decode cX8_shuffle 31 = .ok (.iaload, 1) := by decide +kernel
theorem dX8_shuffle_32 : decode cX8_shuffle 32 = .ok (.istore 6, 2) := by decide +kernel
theorem dX8_shuffle_34 : decode cX8_shuffle 34 = .ok (.aload_n 0, 1) := by decide +kernel
theorem dX8_shuffle_35 : decode cX8_shuffle 35 = .ok (.iload 4, 2) := by decide +kernel
theorem dX8_shuffle_37 : decode cX8_shuffle 37 = .ok (.aload_n 0, 1) := by decide +kernel
theorem dX8_shuffle_38 : decode cX8_shuffle 38 = .ok (.iload 5, 2) := by decide +kernel
theorem dX8_shuffle_40 : decode cX8_shuffle 40 = .ok (.iaload, 1) := by decide +kernel
theorem dX8_shuffle_41 : decode cX8_shuffle 41 = .ok (.iastore, 1) := by decide +kernel
theorem dX8_shuffle_42 : decode cX8_shuffle 42 = .ok (.aload_n 0, 1) := by decide +kernel
theorem dX8_shuffle_43 : decode cX8_shuffle 43 = .ok (.iload 5, 2) := by decide +kernel
theorem dX8_shuffle_45 : decode cX8_shuffle 45 = .ok (.iload 6, 2) := by decide +kernel
theorem dX8_shuffle_47 : decode cX8_shuffle 47 = .ok (.iastore, 1) := by decide +kernel
theorem dX8_shuffle_48 : decode cX8_shuffle 48 = .ok (.iinc 4 (-1), 3) := by decide +kernel
theorem dX8_shuffle_51 : decode cX8_shuffle 51 = .ok (.goto (-44), 3) := by decide +kernel
theorem dX8_shuffle_54 : decode cX8_shuffle 54 = .ok (.iload_n 3, 1) := by decide +kernel
theorem dX8_shuffle_55 : decode cX8_shuffle 55 = .ok (.ireturn, 1) := by decide +kernel
theorem dX8_undo_0 : decode cX8_undo 0 = .ok (.aload_n 0, 1) := by decide +kernel
theorem dX8_undo_1 : decode cX8_undo 1 = .ok (.getfield 38, 3) := by decide +kernel
theorem dX8_undo_4 : decode cX8_undo 4 = .ok (.getfield 314, 3) := by decide +kernel
theorem dX8_undo_7 : decode cX8_undo 7 = .ok (.ifCond .ne 6, 3) := by decide +kernel
theorem dX8_undo_10 : decode cX8_undo 10 = .ok (.bipush (-5), 2) := by decide +kernel
theorem dX8_undo_12 : decode cX8_undo 12 = .ok (.ireturn, 1) := by decide +kernel
theorem dX8_undo_13 : decode cX8_undo 13 = .ok (.aload_n 0, 1) := by decide +kernel
theorem dX8_undo_14 : decode cX8_undo 14 = .ok (.getfield 38, 3) := by decide +kernel
theorem dX8_undo_17 : decode cX8_undo 17 = .ok (.dup, 1) := by decide +kernel
theorem dX8_undo_18 : decode cX8_undo 18 = .ok (.getfield 314, 3) := by decide +kernel
theorem dX8_undo_21 : decode cX8_undo 21 = .ok (.iconst 1, 1) := by decide +kernel
theorem dX8_undo_22 : decode cX8_undo 22 = .ok (.isub, 1) := by decide +kernel
theorem dX8_undo_23 : decode cX8_undo 23 = .ok (.putfield 314, 3) := by decide +kernel
theorem dX8_undo_26 : decode cX8_undo 26 = .ok (.aload_n 0, 1) := by decide +kernel
theorem dX8_undo_27 : decode cX8_undo 27 = .ok (.aload_n 0, 1) := by decide +kernel
theorem dX8_undo_28 : decode cX8_undo 28 = .ok (.getfield 38, 3) := by decide +kernel
theorem dX8_undo_31 : decode cX8_undo 31 = .ok (.getfield 314, 3) := by decide +kernel
theorem dX8_undo_34 : decode cX8_undo 34 = .ok (.aload_n 0, 1) := by decide +kernel
theorem dX8_undo_35 : decode cX8_undo 35 = .ok (.getfield 38, 3) := by decide +kernel
theorem dX8_undo_38 : decode cX8_undo 38 = .ok (.getfield 317, 3) := by decide +kernel
theorem dX8_undo_41 : decode cX8_undo 41 = .ok (.aload_n 0, 1) := by decide +kernel
theorem dX8_undo_42 : decode cX8_undo 42 = .ok (.getfield 38, 3) := by decide +kernel
theorem dX8_undo_45 : decode cX8_undo 45 = .ok (.getfield 314, 3) := by decide +kernel
theorem dX8_undo_48 : decode cX8_undo 48 = .ok (.iaload, 1) := by decide +kernel
theorem dX8_undo_49 : decode cX8_undo 49 = .ok (.invokevirtual 320, 3) := by decide +kernel
theorem dX8_undo_52 : decode cX8_undo 52 = .ok (.aload_n 0, 1) := by decide +kernel
theorem dX8_undo_53 : decode cX8_undo 53 = .ok (.getfield 38, 3) := by decide +kernel
theorem dX8_undo_56 : decode cX8_undo 56 = .ok (.getfield 314, 3) := by decide +kernel
theorem dX8_undo_59 : decode cX8_undo 59 = .ok (.ireturn, 1) := by decide +kernel
theorem dX8_redo_0 : decode cX8_redo 0 = .ok (.aload_n 0, 1) := by decide +kernel
theorem dX8_redo_1 : decode cX8_redo 1 = .ok (.getfield 38, 3) := by decide +kernel
theorem dX8_redo_4 : decode cX8_redo 4 = .ok (.getfield 314, 3) := by decide +kernel
theorem dX8_redo_7 : decode cX8_redo 7 = .ok (.aload_n 0, 1) := by decide +kernel
theorem dX8_redo_8 : decode cX8_redo 8 = .ok (.getfield 38, 3) := by decide +kernel
theorem dX8_redo_11 : decode cX8_redo 11 = .ok (.getfield 324, 3) := by decide +kernel
theorem dX8_redo_14 : decode cX8_redo 14 = .ok (.if_icmp .lt 6, 3) := by decide +kernel
theorem dX8_redo_17 : decode cX8_redo 17 = .ok (.bipush (-5), 2) := by decide +kernel
theorem dX8_redo_19 : decode cX8_redo 19 = .ok (.ireturn, 1) := by decide +kernel
theorem dX8_redo_20 : decode cX8_redo 20 = .ok (.aload_n 0, 1) := by decide +kernel
theorem dX8_redo_21 : decode cX8_redo 21 = .ok (.getfield 38, 3) := by decide +kernel
theorem dX8_redo_24 : decode cX8_redo 24 = .ok (.dup, 1) := by decide +kernel
theorem dX8_redo_25 : decode cX8_redo 25 = .ok (.getfield 314, 3) := by decide +kernel
theorem dX8_redo_28 : decode cX8_redo 28 = .ok (.iconst 1, 1) := by decide +kernel
theorem dX8_redo_29 : decode cX8_redo 29 = .ok (.iadd, 1) := by decide +kernel
theorem dX8_redo_30 : decode cX8_redo 30 = .ok (.putfield 314, 3) := by decide +kernel
theorem dX8_redo_33 : decode cX8_redo 33 = .ok (.aload_n 0, 1) := by decide +kernel
theorem dX8_redo_34 : decode cX8_redo 34 = .ok (.aload_n 0, 1) := by decide +kernel
theorem dX8_redo_35 : decode cX8_redo 35 = .ok (.getfield 38, 3) := by decide +kernel
theorem dX8_redo_38 : decode cX8_redo 38 = .ok (.getfield 314, 3) := by decide +kernel
theorem dX8_redo_41 : decode cX8_redo 41 = .ok (.iconst 1, 1) := by decide +kernel
theorem dX8_redo_42 : decode cX8_redo 42 = .ok (.isub, 1) := by decide +kernel
theorem dX8_redo_43 : decode cX8_redo 43 = .ok (.aload_n 0, 1) := by decide +kernel
theorem dX8_redo_44 : decode cX8_redo 44 = .ok (.getfield 38, 3) := by decide +kernel
theorem dX8_redo_47 : decode cX8_redo 47 = .ok (.getfield 325, 3) := by decide +kernel
theorem dX8_redo_50 : decode cX8_redo 50 = .ok (.aload_n 0, 1) := by decide +kernel
theorem dX8_redo_51 : decode cX8_redo 51 = .ok (.getfield 38, 3) := by decide +kernel
theorem dX8_redo_54 : decode cX8_redo 54 = .ok (.getfield 314, 3) := by decide +kernel
theorem dX8_redo_57 : decode cX8_redo 57 = .ok (.iconst 1, 1) := by decide +kernel
theorem dX8_redo_58 : decode cX8_redo 58 = .ok (.isub, 1) := by decide +kernel
theorem dX8_redo_59 : decode cX8_redo 59 = .ok (.iaload, 1) := by decide +kernel
theorem dX8_redo_60 : decode cX8_redo 60 = .ok (.invokevirtual 320, 3) := by decide +kernel
theorem dX8_redo_63 : decode cX8_redo 63 = .ok (.aload_n 0, 1) := by decide +kernel
theorem dX8_redo_64 : decode cX8_redo 64 = .ok (.getfield 38, 3) := by decide +kernel
theorem dX8_redo_67 : decode cX8_redo 67 = .ok (.getfield 324, 3) := by decide +kernel
theorem dX8_redo_70 : decode cX8_redo 70 = .ok (.aload_n 0, 1) := by decide +kernel
theorem dX8_redo_71 : decode cX8_redo 71 = .ok (.getfield 38, 3) := by decide +kernel
theorem dX8_redo_74 : decode cX8_redo 74 = .ok (.getfield 314, 3) := by decide +kernel
theorem dX8_redo_77 : decode cX8_redo 77 = .ok (.isub, 1) := by decide +kernel
theorem dX8_redo_78 : decode cX8_redo 78 = .ok (.ireturn, 1) := by decide +kernel
theorem dX8_apply_0 : decode cX8_apply 0 = .ok (.aload_n 0, 1) := by decide +kernel
theorem dX8_apply_1 : decode cX8_apply 1 = .ok (.aload_n 0, 1) := by decide +kernel
theorem dX8_apply_2 : decode cX8_apply 2 = .ok (.getfield 38, 3) := by decide +kernel
theorem dX8_apply_5 : decode cX8_apply 5 = .ok (.getfield 328, 3) := by decide +kernel
theorem dX8_apply_8 : decode cX8_apply 8 = .ok (.iload_n 1, 1) := by decide +kernel
theorem dX8_apply_9 : decode cX8_apply 9 = .ok (.iaload, 1) := by decide +kernel
theorem dX8_apply_10 : decode cX8_apply 10 = .ok (.invokevirtual 147, 3) := by decide +kernel
theorem dX8_apply_13 : decode cX8_apply 13 = .ok (.astore_n 3, 1) := by decide +kernel
theorem dX8_apply_14 : decode cX8_apply 14 = .ok (.aload_n 0, 1) := by decide +kernel
theorem dX8_apply_15 : decode cX8_apply 15 = .ok (.getfield 38, 3) := by decide +kernel
theorem dX8_apply_18 : decode cX8_apply 18 = .ok (.getfield 330, 3) := by decide +kernel
theorem dX8_apply_21 : decode cX8_apply 21 = .ok (.iload_n 1, 1) := by decide +kernel
theorem dX8_apply_22 : decode cX8_apply 22 = .ok (.iaload, 1) := by decide +kernel
theorem dX8_apply_23 : decode cX8_apply 23 = .ok (.istore 4, 2) := by decide +kernel
theorem dX8_apply_25 : decode cX8_apply 25 = .ok (.aload_n 3, 1) := by decide +kernel
theorem dX8_apply_26 : decode cX8_apply 26 = .ok (.ifnonnull 29, 3) := by decide +kernel
theorem dX8_apply_29 : decode cX8_apply 29 = .ok (.aload_n 0, 1) := by decide +kernel
theorem dX8_apply_30 : decode cX8_apply 30 = .ok (.getfield 10, 3) := by decide +kernel
theorem dX8_apply_33 : decode cX8_apply 33 = .ok (.iload 4, 2) := by decide +kernel
theorem dX8_apply_35 : decode cX8_apply 35 = .ok (.invokevirtual 95, 3) := by decide +kernel
theorem dX8_apply_38 : decode cX8_apply 38 = .ok (.ifCond .eq 17, 3) := by decide +kernel
theorem dX8_apply_41 : decode cX8_apply 41 = .ok (.aload_n 0, 1) := by decide +kernel
theorem dX8_apply_42 : decode cX8_apply 42 = .ok (.getfield 10, 3) := by decide +kernel
theorem dX8_apply_45 : decode cX8_apply 45 = .ok (.getfield 92, 3) := by decide +kernel
theorem dX8_apply_48 : decode cX8_apply 48 = .ok (.iload 4, 2) := by decide +kernel
theorem dX8_apply_50 : decode cX8_apply 50 = .ok (.iload_n 2, 1) := by decide +kernel
theorem dX8_apply_51 : decode cX8_apply 51 = .ok (.iastore, 1) := by decide +kernel
theorem dX8_apply_52 : decode cX8_apply 52 = .ok (.goto 39, 3) := by decide +kernel
theorem dX8_apply_55 : decode cX8_apply 55 = .ok (.aload_n 3, 1) := by decide +kernel
theorem dX8_apply_56 : decode cX8_apply 56 = .ok (.ifnull 26, 3) := by decide +kernel
theorem dX8_apply_59 : decode cX8_apply 59 = .ok (.aload_n 0, 1) := by decide +kernel
theorem dX8_apply_60 : decode cX8_apply 60 = .ok (.getfield 10, 3) := by decide +kernel
theorem dX8_apply_63 : decode cX8_apply 63 = .ok (.iload 4, 2) := by decide +kernel
theorem dX8_apply_65 : decode cX8_apply 65 = .ok (.invokevirtual 95, 3) := by decide +kernel
theorem dX8_apply_68 : decode cX8_apply 68 = .ok (.ifCond .eq 14, 3) := by decide +kernel
theorem dX8_apply_71 : decode cX8_apply 71 = .ok (.aload_n 3, 1) := by decide +kernel
theorem dX8_apply_72 : decode cX8_apply 72 = .ok (.getfield 167, 3) := by decide +kernel
theorem dX8_apply_75 : decode cX8_apply 75 = .ok (.iload 4, 2) := by decide +kernel
theorem dX8_apply_77 : decode cX8_apply 77 = .ok (.iload_n 2, 1) := by decide +kernel
theorem dX8_apply_78 : decode cX8_apply 78 = .ok (.iastore, 1) := by decide +kernel
theorem dX8_apply_79 : decode cX8_apply 79 = .ok (.goto 12, 3) := by decide +kernel
theorem dX8_apply_82 : decode cX8_apply 82 = .ok (.aload_n 3, 1) := by decide +kernel
theorem dX8_apply_83 : decode cX8_apply 83 = .ok (.ifnull 8, 3) := by decide +kernel
theorem dX8_apply_86 : decode cX8_apply 86 = .ok (.aload_n 3, 1) := by decide +kernel
theorem dX8_apply_87 : decode cX8_apply 87 = .ok (.iload_n 2, 1) := by decide +kernel
theorem dX8_apply_88 : decode cX8_apply 88 = .ok (.putfield 144, 3) := by decide +kernel
theorem dX8_apply_91 : decode cX8_apply 91 = .ok (.return_, 1) := by decide +kernel
theorem dX8_body_0 : decode cX8_body 0 = .ok (.iload_n 1, 1) := by decide +kernel
theorem dX8_body_1 : decode cX8_body 1 = .ok (.ifCond .lt 9, 3) := by decide +kernel
theorem dX8_body_4 : decode cX8_body 4 = .ok (.iload_n 1, 1) := by decide +kernel
theorem dX8_body_5 : decode cX8_body 5 = .ok (.bipush 8, 2) := by decide +kernel
theorem dX8_body_7 : decode cX8_body 7 = .ok (.if_icmp .lt 5, 3) := by decide +kernel
theorem dX8_body_10 : decode cX8_body 10 = .ok (.iconst (-1), 1) := by decide +kernel
theorem dX8_body_11 : decode cX8_body 11 = .ok (.ireturn, 1) := by decide +kernel
theorem dX8_body_12 : decode cX8_body 12 = .ok (.aload_n 0, 1) := by decide +kernel
theorem dX8_body_13 : decode cX8_body 13 = .ok (.getfield 45, 3) := by decide +kernel
theorem dX8_body_16 : decode cX8_body 16 = .ok (.getfield 332, 3) := by decide +kernel
theorem dX8_body_19 : decode cX8_body 19 = .ok (.bipush 50, 2) := by decide +kernel
theorem dX8_body_21 : decode cX8_body 21 = .ok (.if_icmp .lt 6, 3) := by decide +kernel
theorem dX8_body_24 : decode cX8_body 24 = .ok (.bipush (-3), 2) := by decide +kernel
theorem dX8_body_26 : decode cX8_body 26 = .ok (.ireturn, 1) := by decide +kernel
theorem dX8_body_27 : decode cX8_body 27 = .ok (.aload_n 0, 1) := by decide +kernel
theorem dX8_body_28 : decode cX8_body 28 = .ok (.getfield 45, 3) := by decide +kernel
theorem dX8_body_31 : decode cX8_body 31 = .ok (.getfield 333, 3) := by decide +kernel
theorem dX8_body_34 : decode cX8_body 34 = .ok (.aload_n 0, 1) := by decide +kernel
theorem dX8_body_35 : decode cX8_body 35 = .ok (.getfield 45, 3) := by decide +kernel
theorem dX8_body_38 : decode cX8_body 38 = .ok (.getfield 332, 3) := by decide +kernel
theorem dX8_body_41 : decode cX8_body 41 = .ok (.iload_n 1, 1) := by decide +kernel
theorem dX8_body_42 : decode cX8_body 42 = .ok (.iastore, 1) := by decide +kernel
theorem dX8_body_43 : decode cX8_body 43 = .ok (.aload_n 0, 1) := by decide +kernel
theorem dX8_body_44 : decode cX8_body 44 = .ok (.getfield 45, 3) := by decide +kernel
theorem dX8_body_47 : decode cX8_body 47 = .ok (.dup, 1) := by decide +kernel
theorem dX8_body_48 : decode cX8_body 48 = .ok (.getfield 332, 3) := by decide +kernel
theorem dX8_body_51 : decode cX8_body 51 = .ok (.iconst 1, 1) := by decide +kernel
theorem dX8_body_52 : decode cX8_body 52 = .ok (.iadd, 1) := by decide +kernel
theorem dX8_body_53 : decode cX8_body 53 = .ok (.putfield 332, 3) := by decide +kernel
theorem dX8_body_56 : decode cX8_body 56 = .ok (.aload_n 0, 1) := by decide +kernel
theorem dX8_body_57 : decode cX8_body 57 = .ok (.getfield 45, 3) := by decide +kernel
theorem dX8_body_60 : decode cX8_body 60 = .ok (.getfield 332, 3) := by decide +kernel
theorem dX8_body_63 : decode cX8_body 63 = .ok (.iconst 1, 1) := by decide +kernel
theorem dX8_body_64 : decode cX8_body 64 = .ok (.isub, 1) := by decide +kernel
theorem dX8_body_65 : decode cX8_body 65 = .ok (.ireturn, 1) := by decide +kernel
theorem dX8_act_0 : decode cX8_act 0 = .ok (.aload_n 0, 1) := by decide +kernel
theorem dX8_act_1 : decode cX8_act 1 = .ok (.getfield 45, 3) := by decide +kernel
theorem dX8_act_4 : decode cX8_act 4 = .ok (.iload_n 1, 1) := by decide +kernel
theorem dX8_act_5 : decode cX8_act 5 = .ok (.iload_n 2, 1) := by decide +kernel
theorem dX8_act_6 : decode cX8_act 6 = .ok (.iload_n 3, 1) := by decide +kernel
theorem dX8_act_7 : decode cX8_act 7 = .ok (.invokevirtual 336, 3) := by decide +kernel
theorem dX8_act_10 : decode cX8_act 10 = .ok (.ireturn, 1) := by decide +kernel
theorem dX8_trace_0 : decode cX8_trace 0 = .ok (.iload_n 1, 1) := by decide +kernel
theorem dX8_trace_1 : decode cX8_trace 1 = .ok (.ifCond .lt 20, 3) := by decide +kernel
theorem dX8_trace_4 : decode cX8_trace 4 = .ok (.iload_n 1, 1) := by decide +kernel
theorem dX8_trace_5 : decode cX8_trace 5 = .ok (.aload_n 0, 1) := by decide +kernel
theorem dX8_trace_6 : decode cX8_trace 6 = .ok (.getfield 45, 3) := by decide +kernel
theorem dX8_trace_9 : decode cX8_trace 9 = .ok (.getfield 340, 3) := by decide +kernel
theorem dX8_trace_12 : decode cX8_trace 12 = .ok (.if_icmp .ge 9, 3) := by decide +kernel
theorem dX8_trace_15 : decode cX8_trace 15 = .ok (.iload_n 1, 1) := by decide +kernel
theorem dX8_trace_16 : decode cX8_trace 16 = .ok (.bipush 24, 2) := by decide +kernel
theorem dX8_trace_18 : decode cX8_trace 18 = .ok (.if_icmp .lt 5, 3) := by decide +kernel
theorem dX8_trace_21 : decode cX8_trace 21 = .ok (.iconst (-1), 1) := by decide +kernel
theorem dX8_trace_22 : decode cX8_trace 22 = .ok (.ireturn, 1) := by decide +kernel
theorem dX8_trace_23 : decode cX8_trace 23 = .ok (.aload_n 0, 1) := by decide +kernel
theorem dX8_trace_24 : decode cX8_trace 24 = .ok (.getfield 45, 3) := by decide +kernel
theorem dX8_trace_27 : decode cX8_trace 27 = .ok (.getfield 343, 3) := by decide +kernel
theorem dX8_trace_30 : decode cX8_trace 30 = .ok (.iload_n 1, 1) := by decide +kernel
theorem dX8_trace_31 : decode cX8_trace 31 = .ok (.iaload, 1) := by decide +kernel
theorem dX8_trace_32 : decode cX8_trace 32 = .ok (.ireturn, 1) := by decide +kernel
theorem dX8_keep_0 : decode cX8_keep 0 = .ok (.aload_n 0, 1) := by decide +kernel
theorem dX8_keep_1 : decode cX8_keep 1 = .ok (.iload_n 1, 1) := by decide +kernel
theorem dX8_keep_2 : decode cX8_keep 2 = .ok (.invokevirtual 186, 3) := by decide +kernel
theorem dX8_keep_5 : decode cX8_keep 5 = .ok (.astore_n 3, 1) := by decide +kernel
theorem dX8_keep_6 : decode cX8_keep 6 = .ok (.aload_n 3, 1) := by decide +kernel
theorem dX8_keep_7 : decode cX8_keep 7 = .ok (.ifnull 19, 3) := by decide +kernel
theorem dX8_keep_10 : decode cX8_keep 10 = .ok (.iload_n 2, 1) := by decide +kernel
theorem dX8_keep_11 : decode cX8_keep 11 = .ok (.iconst (-1), 1) := by decide +kernel
theorem dX8_keep_12 : decode cX8_keep 12 = .ok (.if_icmp .eq 16, 3) := by decide +kernel
theorem dX8_keep_15 : decode cX8_keep 15 = .ok (.aload_n 0, 1) := by decide +kernel
theorem dX8_keep_16 : decode cX8_keep 16 = .ok (.getfield 45, 3) := by decide +kernel
theorem dX8_keep_19 : decode cX8_keep 19 = .ok (.iload_n 2, 1) := by decide +kernel
theorem dX8_keep_20 : decode cX8_keep 20 = .ok (.invokevirtual 346, 3) := by decide +kernel
theorem dX8_keep_23 : decode cX8_keep 23 = .ok (.ifCond .ne 5, 3) := by decide +kernel
theorem dX8_keep_26 : decode cX8_keep 26 = .ok (.iconst (-1), 1) := by decide +kernel
theorem dX8_keep_27 : decode cX8_keep 27 = .ok (.ireturn, 1) := by decide +kernel
theorem dX8_keep_28 : decode cX8_keep 28 = .ok (.aload_n 3, 1) := by decide +kernel
theorem dX8_keep_29 : decode cX8_keep 29 = .ok (.iload_n 2, 1) := by decide +kernel
theorem dX8_keep_30 : decode cX8_keep 30 = .ok (.ifCond .ge 7, 3) := by decide +kernel
theorem dX8_keep_33 : decode cX8_keep 33 = .ok (.iconst 0, 1) := by decide +kernel
theorem dX8_keep_34 : decode cX8_keep 34 = .ok (.goto 4, 3) := by decide +kernel
theorem dX8_keep_37 : decode cX8_keep 37 = .ok (.iconst 1, 1) := by decide +kernel
theorem dX8_keep_38 : decode cX8_keep 38 = .ok (.putfield 190, 3) := by decide +kernel
theorem dX8_keep_41 : decode cX8_keep 41 = .ok (.aload_n 3, 1) := by decide +kernel
theorem dX8_keep_42 : decode cX8_keep 42 = .ok (.iload_n 2, 1) := by decide +kernel
theorem dX8_keep_43 : decode cX8_keep 43 = .ok (.putfield 347, 3) := by decide +kernel
theorem dX8_keep_46 : decode cX8_keep 46 = .ok (.iconst 1, 1) := by decide +kernel
theorem dX8_keep_47 : decode cX8_keep 47 = .ok (.ireturn, 1) := by decide +kernel
theorem dX8_row_0 : decode cX8_row 0 = .ok (.aload_n 0, 1) := by decide +kernel
theorem dX8_row_1 : decode cX8_row 1 = .ok (.iload_n 1, 1) := by decide +kernel
theorem dX8_row_2 : decode cX8_row 2 = .ok (.invokevirtual 186, 3) := by decide +kernel
theorem dX8_row_5 : decode cX8_row 5 = .ok (.astore 4, 2) := by decide +kernel
theorem dX8_row_7 : decode cX8_row 7 = .ok (.aload 4, 2) := by decide +kernel
theorem dX8_row_9 : decode cX8_row 9 = .ok (.ifnull 18, 3) := by decide +kernel
theorem dX8_row_12 : decode cX8_row 12 = .ok (.iload_n 2, 1) := by decide +kernel
theorem dX8_row_13 : decode cX8_row 13 = .ok (.ifCond .lt 14, 3) := by decide +kernel
theorem dX8_row_16 : decode cX8_row 16 = .ok (.iload_n 2, 1) := by decide +kernel
theorem dX8_row_17 : decode cX8_row 17 = .ok (.iconst 4, 1) := by decide +kernel
theorem dX8_row_18 : decode cX8_row 18 = .ok (.if_icmp .gt 9, 3) := by decide +kernel
theorem dX8_row_21 : decode cX8_row 21 = .ok (.iload_n 3, 1) := by decide +kernel
theorem dX8_row_22 : decode cX8_row 22 = .ok (.bipush 60, 2) := by decide +kernel
theorem dX8_row_24 : decode cX8_row 24 = .ok (.if_icmp .le 5, 3) := by decide +kernel
theorem dX8_row_27 : decode cX8_row 27 = .ok (.iconst (-1), 1) := by decide +kernel
theorem dX8_row_28 : decode cX8_row 28 = .ok (.ireturn, 1) := by decide +kernel
theorem dX8_row_29 : decode cX8_row 29 = .ok (.iload_n 3, 1) := by decide +kernel
theorem dX8_row_30 : decode cX8_row 30 = .ok (.ifCond .ge 6, 3) := by decide +kernel
theorem dX8_row_33 : decode cX8_row 33 = .ok (.bipush (-14), 2) := by decide +kernel
theorem dX8_row_35 : decode cX8_row 35 = .ok (.ireturn, 1) := by decide +kernel
theorem dX8_row_36 : decode cX8_row 36 = .ok (.aload 4, 2) := by decide +kernel
theorem dX8_row_38 : decode cX8_row 38 = .ok (.iconst 2, 1) := by decide +kernel
theorem dX8_row_39 : decode cX8_row 39 = .ok (.putfield 190, 3) := by decide +kernel
theorem dX8_row_42 : decode cX8_row 42 = .ok (.aload 4, 2) := by decide +kernel
theorem dX8_row_44 : decode cX8_row 44 = .ok (.iload_n 2, 1) := by decide +kernel
theorem dX8_row_45 : decode cX8_row 45 = .ok (.putfield 193, 3) := by decide +kernel
theorem dX8_row_48 : decode cX8_row 48 = .ok (.aload 4, 2) := by decide +kernel
theorem dX8_row_50 : decode cX8_row 50 = .ok (.iload_n 3, 1) := by decide +kernel
theorem dX8_row_51 : decode cX8_row 51 = .ok (.putfield 350, 3) := by decide +kernel
theorem dX8_row_54 : decode cX8_row 54 = .ok (.aload 4, 2) := by decide +kernel
theorem dX8_row_56 : decode cX8_row 56 = .ok (.getfield 197, 3) := by decide +kernel
theorem dX8_row_59 : decode cX8_row 59 = .ok (.lconst 0, 1) := by decide +kernel
theorem dX8_row_60 : decode cX8_row 60 = .ok (.invokestatic 351, 3) := by decide +kernel
theorem dX8_row_63 : decode cX8_row 63 = .ok (.iconst 1, 1) := by decide +kernel
theorem dX8_row_64 : decode cX8_row 64 = .ok (.ireturn, 1) := by decide +kernel
theorem dX8_put_0 : decode cX8_put 0 = .ok (.aload_n 0, 1) := by decide +kernel
end
section
theorem dX8_put_1 : decode cX8_put 1 = .ok (.iload_n 1, 1) := by decide +kernel
theorem dX8_put_2 : decode cX8_put 2 = .ok (.invokevirtual 186, 3) := by decide +kernel
theorem dX8_put_5 : decode cX8_put 5 = .ok (.astore 5, 2) := by decide +kernel
theorem dX8_put_7 : decode cX8_put 7 = .ok (.aload 5, 2) := by decide +kernel
theorem dX8_put_9 : decode cX8_put 9 = .ok (.iload_n 2, 1) := by decide +kernel
theorem dX8_put_10 : decode cX8_put 10 = .ok (.invokestatic 354, 3) := by decide +kernel
theorem dX8_put_13 : decode cX8_put 13 = .ok (.istore 6, 2) := by decide +kernel
theorem dX8_put_15 : decode cX8_put 15 = .ok (.aload 5, 2) := by decide +kernel
theorem dX8_put_17 : decode cX8_put 17 = .ok (.ifnull 8, 3) := by decide +kernel
theorem dX8_put_20 : decode cX8_put 20 = .ok (.iload 6, 2) := by decide +kernel
theorem dX8_put_22 : decode cX8_put 22 = .ok (.ifCond .eq 6, 3) := by decide +kernel
theorem dX8_put_25 : decode cX8_put 25 = .ok (.iload 6, 2) := by decide +kernel
theorem dX8_put_27 : decode cX8_put 27 = .ok (.ireturn, 1) := by decide +kernel
theorem dX8_put_28 : decode cX8_put 28 = .ok (.aload 5, 2) := by decide +kernel
theorem dX8_put_30 : decode cX8_put 30 = .ok (.getfield 197, 3) := by decide +kernel
theorem dX8_put_33 : decode cX8_put 33 = .ok (.iload_n 2, 1) := by decide +kernel
theorem dX8_put_34 : decode cX8_put 34 = .ok (.aload 5, 2) := by decide +kernel
theorem dX8_put_36 : decode cX8_put 36 = .ok (.lload_n 3, 1) := by decide +kernel
theorem dX8_put_37 : decode cX8_put 37 = .ok (.invokevirtual 358, 3) := by decide +kernel
theorem dX8_put_40 : decode cX8_put 40 = .ok (.lastore, 1) := by decide +kernel
theorem dX8_put_41 : decode cX8_put 41 = .ok (.iconst 1, 1) := by decide +kernel
theorem dX8_put_42 : decode cX8_put 42 = .ok (.ireturn, 1) := by decide +kernel
theorem dX8_element_0 : decode cX8_element 0 = .ok (.aload_n 0, 1) := by decide +kernel
theorem dX8_element_1 : decode cX8_element 1 = .ok (.iload_n 1, 1) := by decide +kernel
theorem dX8_element_2 : decode cX8_element 2 = .ok (.invokevirtual 186, 3) := by decide +kernel
theorem dX8_element_5 : decode cX8_element 5 = .ok (.astore_n 3, 1) := by decide +kernel
theorem dX8_element_6 : decode cX8_element 6 = .ok (.aload_n 3, 1) := by decide +kernel
theorem dX8_element_7 : decode cX8_element 7 = .ok (.ifnull 11, 3) := by decide +kernel
theorem dX8_element_10 : decode cX8_element 10 = .ok (.aload_n 3, 1) := by decide +kernel
theorem dX8_element_11 : decode cX8_element 11 = .ok (.iload_n 2, 1) := by decide +kernel
theorem dX8_element_12 : decode cX8_element 12 = .ok (.invokestatic 354, 3) := by decide +kernel
theorem dX8_element_15 : decode cX8_element 15 = .ok (.ifCond .eq 9, 3) := by decide +kernel
theorem dX8_element_18 : decode cX8_element 18 = .ok (.ldc2_w 362, 3) := by decide +kernel
theorem dX8_element_21 : decode cX8_element 21 = .ok (.goto 9, 3) := by decide +kernel
theorem dX8_element_24 : decode cX8_element 24 = .ok (.aload_n 3, 1) := by decide +kernel
theorem dX8_element_25 : decode cX8_element 25 = .ok (.getfield 197, 3) := by decide +kernel
theorem dX8_element_28 : decode cX8_element 28 = .ok (.iload_n 2, 1) := by decide +kernel
theorem dX8_element_29 : decode cX8_element 29 = .ok (.laload, 1) := by decide +kernel
theorem dX8_element_30 : decode cX8_element 30 = .ok (.lreturn, 1) := by decide +kernel
theorem dX8_refusalOf_0 : decode cX8_refusalOf 0 = .ok (.aload_n 0, 1) := by decide +kernel
theorem dX8_refusalOf_1 : decode cX8_refusalOf 1 = .ok (.ifnonnull 5, 3) := by decide +kernel
theorem dX8_refusalOf_4 : decode cX8_refusalOf 4 = .ok (.iconst (-1), 1) := by decide +kernel
theorem dX8_refusalOf_5 : decode cX8_refusalOf 5 = .ok (.ireturn, 1) := by decide +kernel
theorem dX8_refusalOf_6 : decode cX8_refusalOf 6 = .ok (.aload_n 0, 1) := by decide +kernel
theorem dX8_refusalOf_7 : decode cX8_refusalOf 7 = .ok (.getfield 190, 3) := by decide +kernel
theorem dX8_refusalOf_10 : decode cX8_refusalOf 10 = .ok (.ifCond .ne 6, 3) := by decide +kernel
theorem dX8_refusalOf_13 : decode cX8_refusalOf 13 = .ok (.bipush (-11), 2) := by decide +kernel
theorem dX8_refusalOf_15 : decode cX8_refusalOf 15 = .ok (.ireturn, 1) := by decide +kernel
theorem dX8_refusalOf_16 : decode cX8_refusalOf 16 = .ok (.aload_n 0, 1) := by decide +kernel
theorem dX8_refusalOf_17 : decode cX8_refusalOf 17 = .ok (.getfield 190, 3) := by decide +kernel
theorem dX8_refusalOf_20 : decode cX8_refusalOf 20 = .ok (.iconst 2, 1) := by decide +kernel
theorem dX8_refusalOf_21 : decode cX8_refusalOf 21 = .ok (.if_icmp .eq 6, 3) := by decide +kernel
theorem dX8_refusalOf_24 : decode cX8_refusalOf 24 = .ok (.bipush (-12), 2) := by decide +kernel
theorem dX8_refusalOf_26 : decode cX8_refusalOf 26 = .ok (.ireturn, 1) := by decide +kernel
theorem dX8_refusalOf_27 : decode cX8_refusalOf 27 = .ok (.aload_n 0, 1) := by decide +kernel
theorem dX8_refusalOf_28 : decode cX8_refusalOf 28 = .ok (.iload_n 1, 1) := by decide +kernel
theorem dX8_refusalOf_29 : decode cX8_refusalOf 29 = .ok (.invokevirtual 196, 3) := by decide +kernel
theorem dX8_refusalOf_32 : decode cX8_refusalOf 32 = .ok (.ifCond .eq 7, 3) := by decide +kernel
theorem dX8_refusalOf_35 : decode cX8_refusalOf 35 = .ok (.iconst 0, 1) := by decide +kernel
theorem dX8_refusalOf_36 : decode cX8_refusalOf 36 = .ok (.goto 5, 3) := by decide +kernel
theorem dX8_refusalOf_39 : decode cX8_refusalOf 39 = .ok (.bipush (-13), 2) := by decide +kernel
theorem dX8_refusalOf_41 : decode cX8_refusalOf 41 = .ok (.ireturn, 1) := by decide +kernel
theorem dX8_shift_0 : decode cX8_shift 0 = .ok (.aload_n 0, 1) := by decide +kernel
theorem dX8_shift_1 : decode cX8_shift 1 = .ok (.iload_n 1, 1) := by decide +kernel
theorem dX8_shift_2 : decode cX8_shift 2 = .ok (.invokevirtual 186, 3) := by decide +kernel
theorem dX8_shift_5 : decode cX8_shift 5 = .ok (.astore 6, 2) := by decide +kernel
theorem dX8_shift_7 : decode cX8_shift 7 = .ok (.aload_n 0, 1) := by decide +kernel
theorem dX8_shift_8 : decode cX8_shift 8 = .ok (.iload_n 3, 1) := by decide +kernel
theorem dX8_shift_9 : decode cX8_shift 9 = .ok (.invokevirtual 186, 3) := by decide +kernel
theorem dX8_shift_12 : decode cX8_shift 12 = .ok (.astore 7, 2) := by decide +kernel
theorem dX8_shift_14 : decode cX8_shift 14 = .ok (.aload 6, 2) := by decide +kernel
theorem dX8_shift_16 : decode cX8_shift 16 = .ok (.ifnull 8, 3) := by decide +kernel
theorem dX8_shift_19 : decode cX8_shift 19 = .ok (.aload 7, 2) := by decide +kernel
theorem dX8_shift_21 : decode cX8_shift 21 = .ok (.ifnonnull 5, 3) := by decide +kernel
theorem dX8_shift_24 : decode cX8_shift 24 = .ok (.iconst (-1), 1) := by decide +kernel
theorem dX8_shift_25 : decode cX8_shift 25 = .ok (.ireturn, 1) := by decide +kernel
theorem dX8_shift_26 : decode cX8_shift 26 = .ok (.aload 6, 2) := by decide +kernel
theorem dX8_shift_28 : decode cX8_shift 28 = .ok (.getfield 190, 3) := by decide +kernel
theorem dX8_shift_31 : decode cX8_shift 31 = .ok (.ifCond .eq 11, 3) := by decide +kernel
theorem dX8_shift_34 : decode cX8_shift 34 = .ok (.aload 7, 2) := by decide +kernel
theorem dX8_shift_36 : decode cX8_shift 36 = .ok (.getfield 190, 3) := by decide +kernel
theorem dX8_shift_39 : decode cX8_shift 39 = .ok (.ifCond .ne 6, 3) := by decide +kernel
theorem dX8_shift_42 : decode cX8_shift 42 = .ok (.bipush (-11), 2) := by decide +kernel
theorem dX8_shift_44 : decode cX8_shift 44 = .ok (.ireturn, 1) := by decide +kernel
theorem dX8_shift_45 : decode cX8_shift 45 = .ok (.aload 6, 2) := by decide +kernel
theorem dX8_shift_47 : decode cX8_shift 47 = .ok (.getfield 190, 3) := by decide +kernel
theorem dX8_shift_50 : decode cX8_shift 50 = .ok (.iconst 2, 1) := by decide +kernel
theorem dX8_shift_51 : decode cX8_shift 51 = .ok (.if_icmp .ne 25, 3) := by decide +kernel
theorem dX8_shift_54 : decode cX8_shift 54 = .ok (.aload 7, 2) := by decide +kernel
theorem dX8_shift_56 : decode cX8_shift 56 = .ok (.getfield 190, 3) := by decide +kernel
theorem dX8_shift_59 : decode cX8_shift 59 = .ok (.iconst 2, 1) := by decide +kernel
theorem dX8_shift_60 : decode cX8_shift 60 = .ok (.if_icmp .ne 16, 3) := by decide +kernel
theorem dX8_shift_63 : decode cX8_shift 63 = .ok (.aload 6, 2) := by decide +kernel
theorem dX8_shift_65 : decode cX8_shift 65 = .ok (.getfield 193, 3) := by decide +kernel
theorem dX8_shift_68 : decode cX8_shift 68 = .ok (.aload 7, 2) := by decide +kernel
theorem dX8_shift_70 : decode cX8_shift 70 = .ok (.getfield 193, 3) := by decide +kernel
theorem dX8_shift_73 : decode cX8_shift 73 = .ok (.if_icmp .eq 6, 3) := by decide +kernel
theorem dX8_shift_76 : decode cX8_shift 76 = .ok (.bipush (-12), 2) := by decide +kernel
theorem dX8_shift_78 : decode cX8_shift 78 = .ok (.ireturn, 1) := by decide +kernel
theorem dX8_shift_79 : decode cX8_shift 79 = .ok (.aload 6, 2) := by decide +kernel
theorem dX8_shift_81 : decode cX8_shift 81 = .ok (.iload_n 2, 1) := by decide +kernel
theorem dX8_shift_82 : decode cX8_shift 82 = .ok (.iload 5, 2) := by decide +kernel
theorem dX8_shift_84 : decode cX8_shift 84 = .ok (.invokevirtual 364, 3) := by decide +kernel
theorem dX8_shift_87 : decode cX8_shift 87 = .ok (.ifCond .eq 15, 3) := by decide +kernel
theorem dX8_shift_90 : decode cX8_shift 90 = .ok (.aload 7, 2) := by decide +kernel
theorem dX8_shift_92 : decode cX8_shift 92 = .ok (.iload 4, 2) := by decide +kernel
theorem dX8_shift_94 : decode cX8_shift 94 = .ok (.iload 5, 2) := by decide +kernel
theorem dX8_shift_96 : decode cX8_shift 96 = .ok (.invokevirtual 364, 3) := by decide +kernel
theorem dX8_shift_99 : decode cX8_shift 99 = .ok (.ifCond .ne 6, 3) := by decide +kernel
theorem dX8_shift_102 : decode cX8_shift 102 = .ok (.bipush (-13), 2) := by decide +kernel
theorem dX8_shift_104 : decode cX8_shift 104 = .ok (.ireturn, 1) := by decide +kernel
theorem dX8_shift_105 : decode cX8_shift 105 = .ok (.aload 6, 2) := by decide +kernel
theorem dX8_shift_107 : decode cX8_shift 107 = .ok (.getfield 197, 3) := by decide +kernel
theorem dX8_shift_110 : decode cX8_shift 110 = .ok (.iload_n 2, 1) := by decide +kernel
theorem dX8_shift_111 : decode cX8_shift 111 = .ok (.aload 7, 2) := by decide +kernel
theorem dX8_shift_113 : decode cX8_shift 113 = .ok (.getfield 197, 3) := by decide +kernel
theorem dX8_shift_116 : decode cX8_shift 116 = .ok (.iload 4, 2) := by decide +kernel
theorem dX8_shift_118 : decode cX8_shift 118 = .ok (.iload 5, 2) := by decide +kernel
theorem dX8_shift_120 : decode cX8_shift 120 = .ok (.invokestatic 301, 3) := by decide +kernel
theorem dX8_shift_123 : decode cX8_shift 123 = .ok (.iload 5, 2) := by decide +kernel
theorem dX8_shift_125 : decode cX8_shift 125 = .ok (.ireturn, 1) := by decide +kernel
theorem dX8_taken_0 : decode cX8_taken 0 = .ok (.aload_n 0, 1) := by decide +kernel
theorem dX8_taken_1 : decode cX8_taken 1 = .ok (.iload_n 1, 1) := by decide +kernel
theorem dX8_taken_2 : decode cX8_taken 2 = .ok (.invokevirtual 186, 3) := by decide +kernel
theorem dX8_taken_5 : decode cX8_taken 5 = .ok (.astore_n 3, 1) := by decide +kernel
theorem dX8_taken_6 : decode cX8_taken 6 = .ok (.aload_n 3, 1) := by decide +kernel
theorem dX8_taken_7 : decode cX8_taken 7 = .ok (.ifnull 13, 3) := by decide +kernel
theorem dX8_taken_10 : decode cX8_taken 10 = .ok (.iload_n 2, 1) := by decide +kernel
theorem dX8_taken_11 : decode cX8_taken 11 = .ok (.ifCond .lt 9, 3) := by decide +kernel
theorem dX8_taken_14 : decode cX8_taken 14 = .ok (.iload_n 2, 1) := by decide +kernel
theorem dX8_taken_15 : decode cX8_taken 15 = .ok (.bipush 8, 2) := by decide +kernel
theorem dX8_taken_17 : decode cX8_taken 17 = .ok (.if_icmp .lt 5, 3) := by decide +kernel
theorem dX8_taken_20 : decode cX8_taken 20 = .ok (.iconst (-1), 1) := by decide +kernel
theorem dX8_taken_21 : decode cX8_taken 21 = .ok (.ireturn, 1) := by decide +kernel
theorem dX8_taken_22 : decode cX8_taken 22 = .ok (.aload_n 3, 1) := by decide +kernel
theorem dX8_taken_23 : decode cX8_taken 23 = .ok (.getfield 190, 3) := by decide +kernel
theorem dX8_taken_26 : decode cX8_taken 26 = .ok (.ifCond .ne 6, 3) := by decide +kernel
theorem dX8_taken_29 : decode cX8_taken 29 = .ok (.bipush (-11), 2) := by decide +kernel
theorem dX8_taken_31 : decode cX8_taken 31 = .ok (.ireturn, 1) := by decide +kernel
theorem dX8_taken_32 : decode cX8_taken 32 = .ok (.aload_n 3, 1) := by decide +kernel
theorem dX8_taken_33 : decode cX8_taken 33 = .ok (.getfield 190, 3) := by decide +kernel
theorem dX8_taken_36 : decode cX8_taken 36 = .ok (.iconst 1, 1) := by decide +kernel
theorem dX8_taken_37 : decode cX8_taken 37 = .ok (.if_icmp .ne 36, 3) := by decide +kernel
theorem dX8_taken_40 : decode cX8_taken 40 = .ok (.aload_n 0, 1) := by decide +kernel
theorem dX8_taken_41 : decode cX8_taken 41 = .ok (.getfield 45, 3) := by decide +kernel
theorem dX8_taken_44 : decode cX8_taken 44 = .ok (.aload_n 3, 1) := by decide +kernel
theorem dX8_taken_45 : decode cX8_taken 45 = .ok (.getfield 347, 3) := by decide +kernel
theorem dX8_taken_48 : decode cX8_taken 48 = .ok (.invokevirtual 346, 3) := by decide +kernel
theorem dX8_taken_51 : decode cX8_taken 51 = .ok (.ifCond .eq 22, 3) := by decide +kernel
theorem dX8_taken_54 : decode cX8_taken 54 = .ok (.aload_n 0, 1) := by decide +kernel
theorem dX8_taken_55 : decode cX8_taken 55 = .ok (.getfield 45, 3) := by decide +kernel
theorem dX8_taken_58 : decode cX8_taken 58 = .ok (.getfield 333, 3) := by decide +kernel
theorem dX8_taken_61 : decode cX8_taken 61 = .ok (.aload_n 3, 1) := by decide +kernel
theorem dX8_taken_62 : decode cX8_taken 62 = .ok (.getfield 347, 3) := by decide +kernel
theorem dX8_taken_65 : decode cX8_taken 65 = .ok (.iaload, 1) := by decide +kernel
theorem dX8_taken_66 : decode cX8_taken 66 = .ok (.iload_n 2, 1) := by decide +kernel
theorem dX8_taken_67 : decode cX8_taken 67 = .ok (.invokestatic 368, 3) := by decide +kernel
theorem dX8_taken_70 : decode cX8_taken 70 = .ok (.ifCond .ne 6, 3) := by decide +kernel
theorem dX8_taken_73 : decode cX8_taken 73 = .ok (.bipush (-12), 2) := by decide +kernel
theorem dX8_taken_75 : decode cX8_taken 75 = .ok (.ireturn, 1) := by decide +kernel
theorem dX8_taken_76 : decode cX8_taken 76 = .ok (.aload_n 0, 1) := by decide +kernel
theorem dX8_taken_77 : decode cX8_taken 77 = .ok (.getfield 45, 3) := by decide +kernel
theorem dX8_taken_80 : decode cX8_taken 80 = .ok (.getfield 333, 3) := by decide +kernel
theorem dX8_taken_83 : decode cX8_taken 83 = .ok (.aload_n 3, 1) := by decide +kernel
theorem dX8_taken_84 : decode cX8_taken 84 = .ok (.getfield 347, 3) := by decide +kernel
theorem dX8_taken_87 : decode cX8_taken 87 = .ok (.iaload, 1) := by decide +kernel
theorem dX8_taken_88 : decode cX8_taken 88 = .ok (.ireturn, 1) := by decide +kernel
theorem dX8_count_0 : decode cX8_count 0 = .ok (.iload_n 1, 1) := by decide +kernel
theorem dX8_count_1 : decode cX8_count 1 = .ok (.tableswitch 93 0 6 #[43, 51, 56, 61, 69, 77, 85], 43) := by decide +kernel
theorem dX8_count_44 : decode cX8_count 44 = .ok (.aload_n 0, 1) := by decide +kernel
theorem dX8_count_45 : decode cX8_count 45 = .ok (.getfield 10, 3) := by decide +kernel
theorem dX8_count_48 : decode cX8_count 48 = .ok (.getfield 88, 3) := by decide +kernel
theorem dX8_count_51 : decode cX8_count 51 = .ok (.ireturn, 1) := by decide +kernel
theorem dX8_count_52 : decode cX8_count 52 = .ok (.aload_n 0, 1) := by decide +kernel
theorem dX8_count_53 : decode cX8_count 53 = .ok (.getfield 110, 3) := by decide +kernel
theorem dX8_count_56 : decode cX8_count 56 = .ok (.ireturn, 1) := by decide +kernel
theorem dX8_count_57 : decode cX8_count 57 = .ok (.aload_n 0, 1) := by decide +kernel
theorem dX8_count_58 : decode cX8_count 58 = .ok (.getfield 128, 3) := by decide +kernel
theorem dX8_count_61 : decode cX8_count 61 = .ok (.ireturn, 1) := by decide +kernel
theorem dX8_count_62 : decode cX8_count 62 = .ok (.aload_n 0, 1) := by decide +kernel
theorem dX8_count_63 : decode cX8_count 63 = .ok (.getfield 19, 3) := by decide +kernel
theorem dX8_count_66 : decode cX8_count 66 = .ok (.getfield 103, 3) := by decide +kernel
theorem dX8_count_69 : decode cX8_count 69 = .ok (.ireturn, 1) := by decide +kernel
theorem dX8_count_70 : decode cX8_count 70 = .ok (.aload_n 0, 1) := by decide +kernel
theorem dX8_count_71 : decode cX8_count 71 = .ok (.getfield 38, 3) := by decide +kernel
theorem dX8_count_74 : decode cX8_count 74 = .ok (.getfield 314, 3) := by decide +kernel
theorem dX8_count_77 : decode cX8_count 77 = .ok (.ireturn, 1) := by decide +kernel
theorem dX8_count_78 : decode cX8_count 78 = .ok (.aload_n 0, 1) := by decide +kernel
theorem dX8_count_79 : decode cX8_count 79 = .ok (.getfield 45, 3) := by decide +kernel
theorem dX8_count_82 : decode cX8_count 82 = .ok (.getfield 332, 3) := by decide +kernel
theorem dX8_count_85 : decode cX8_count 85 = .ok (.ireturn, 1) := by decide +kernel
theorem dX8_count_86 : decode cX8_count 86 = .ok (.aload_n 0, 1) := by decide +kernel
theorem dX8_count_87 : decode cX8_count 87 = .ok (.getfield 45, 3) := by decide +kernel
theorem dX8_count_90 : decode cX8_count 90 = .ok (.getfield 340, 3) := by decide +kernel
theorem dX8_count_93 : decode cX8_count 93 = .ok (.ireturn, 1) := by decide +kernel
theorem dX8_count_94 : decode cX8_count 94 = .ok (.iconst (-1), 1) := by decide +kernel
theorem dX8_count_95 : decode cX8_count 95 = .ok (.ireturn, 1) := by decide +kernel
end
section
theorem dX9_within_0 : decode cX9_within 0 = .ok (.lload_n 0, 1) := by decide +kernel
theorem dX9_within_1 : decode cX9_within 1 = .ok (.lload_n 2, 1) := by decide +kernel
theorem dX9_within_2 : decode cX9_within 2 = .ok (.lcmp, 1) := by decide +kernel
theorem dX9_within_3 : decode cX9_within 3 = .ok (.ifCond .lt 14, 3) := by decide +kernel
theorem dX9_within_6 : decode cX9_within 6 = .ok (.lload_n 0, 1) := by decide +kernel
theorem dX9_within_7 : decode cX9_within 7 = .ok (.lload 4, 2) := by decide +kernel
theorem dX9_within_9 : decode cX9_within 9 = .ok (.lcmp, 1) := by decide +kernel
theorem dX9_within_10 : decode cX9_within 10 = .ok (.ifCond .gt 7, 3) := by decide +kernel
theorem dX9_within_13 : decode cX9_within 13 = .ok (.iconst 1, 1) := by decide +kernel
theorem dX9_within_14 : decode cX9_within 14 = .ok (.goto 4, 3) := by decide +kernel
theorem dX9_within_17 : decode cX9_within 17 = .ok (.iconst 0, 1) := by decide +kernel
theorem dX9_within_18 : decode cX9_within 18 = .ok (.ireturn, 1) := by decide +kernel
theorem dX9_size_0 : decode cX9_size 0 = .ok (.iload_n 0, 1) := by decide +kernel
theorem dX9_size_1 : decode cX9_size 1 = .ok (.ifCond .ge 8, 3) := by decide +kernel
theorem dX9_size_4 : decode cX9_size 4 = .ok (.iload_n 0, 1) := by decide +kernel
theorem dX9_size_5 : decode cX9_size 5 = .ok (.ineg, 1) := by decide +kernel
theorem dX9_size_6 : decode cX9_size 6 = .ok (.goto 4, 3) := by decide +kernel
theorem dX9_size_9 : decode cX9_size 9 = .ok (.iload_n 0, 1) := by decide +kernel
theorem dX9_size_10 : decode cX9_size 10 = .ok (.ireturn, 1) := by decide +kernel
theorem dX9_init_0 : decode cX9_init 0 = .ok (.aload_n 0, 1) := by decide +kernel
theorem dX9_init_1 : decode cX9_init 1 = .ok (.invokespecial 3, 3) := by decide +kernel
theorem dX9_init_4 : decode cX9_init 4 = .ok (.aload_n 0, 1) := by decide +kernel
theorem dX9_init_5 : decode cX9_init 5 = .ok (.sipush 155, 3) := by decide +kernel
theorem dX9_init_8 : decode cX9_init 8 = .ok (.newarray .int, 2) := by decide +kernel
theorem dX9_init_10 : decode cX9_init 10 = .ok (.putfield 9, 3) := by decide +kernel
theorem dX9_init_13 : decode cX9_init 13 = .ok (.aload_n 0, 1) := by decide +kernel
theorem dX9_init_14 : decode cX9_init 14 = .ok (.bipush 40, 2) := by decide +kernel
theorem dX9_init_16 : decode cX9_init 16 = .ok (.newarray .int, 2) := by decide +kernel
theorem dX9_init_18 : decode cX9_init 18 = .ok (.putfield 13, 3) := by decide +kernel
theorem dX9_init_21 : decode cX9_init 21 = .ok (.aload_n 0, 1) := by decide +kernel
theorem dX9_init_22 : decode cX9_init 22 = .ok (.bipush 40, 2) := by decide +kernel
theorem dX9_init_24 : decode cX9_init 24 = .ok (.newarray .int, 2) := by decide +kernel
theorem dX9_init_26 : decode cX9_init 26 = .ok (.putfield 16, 3) := by decide +kernel
theorem dX9_init_29 : decode cX9_init 29 = .ok (.aload_n 0, 1) := by decide +kernel
theorem dX9_init_30 : decode cX9_init 30 = .ok (.bipush 40, 2) := by decide +kernel
theorem dX9_init_32 : decode cX9_init 32 = .ok (.newarray .int, 2) := by decide +kernel
theorem dX9_init_34 : decode cX9_init 34 = .ok (.putfield 19, 3) := by decide +kernel
theorem dX9_init_37 : decode cX9_init 37 = .ok (.aload_n 0, 1) := by decide +kernel
theorem dX9_init_38 : decode cX9_init 38 = .ok (.bipush 120, 2) := by decide +kernel
theorem dX9_init_40 : decode cX9_init 40 = .ok (.newarray .int, 2) := by decide +kernel
theorem dX9_init_42 : decode cX9_init 42 = .ok (.putfield 22, 3) := by decide +kernel
theorem dX9_init_45 : decode cX9_init 45 = .ok (.aload_n 0, 1) := by decide +kernel
theorem dX9_init_46 : decode cX9_init 46 = .ok (.sipush 720, 3) := by decide +kernel
theorem dX9_init_49 : decode cX9_init 49 = .ok (.newarray .int, 2) := by decide +kernel
theorem dX9_init_51 : decode cX9_init 51 = .ok (.putfield 25, 3) := by decide +kernel
theorem dX9_init_54 : decode cX9_init 54 = .ok (.aload_n 0, 1) := by decide +kernel
theorem dX9_init_55 : decode cX9_init 55 = .ok (.bipush 6, 2) := by decide +kernel
theorem dX9_init_57 : decode cX9_init 57 = .ok (.newarray .int, 2) := by decide +kernel
theorem dX9_init_59 : decode cX9_init 59 = .ok (.putfield 28, 3) := by decide +kernel
theorem dX9_init_62 : decode cX9_init 62 = .ok (.aload_n 0, 1) := by decide +kernel
theorem dX9_init_63 : decode cX9_init 63 = .ok (.bipush 7, 2) := by decide +kernel
theorem dX9_init_65 : decode cX9_init 65 = .ok (.newarray .int, 2) := by decide +kernel
theorem dX9_init_67 : decode cX9_init 67 = .ok (.putfield 31, 3) := by decide +kernel
theorem dX9_init_70 : decode cX9_init 70 = .ok (.aload_n 0, 1) := by decide +kernel
theorem dX9_init_71 : decode cX9_init 71 = .ok (.bipush 11, 2) := by decide +kernel
theorem dX9_init_73 : decode cX9_init 73 = .ok (.newarray .int, 2) := by decide +kernel
theorem dX9_init_75 : decode cX9_init 75 = .ok (.putfield 34, 3) := by decide +kernel
theorem dX9_init_78 : decode cX9_init 78 = .ok (.aload_n 0, 1) := by decide +kernel
theorem dX9_init_79 : decode cX9_init 79 = .ok (.bipush 11, 2) := by decide +kernel
theorem dX9_init_81 : decode cX9_init 81 = .ok (.newarray .int, 2) := by decide +kernel
theorem dX9_init_83 : decode cX9_init 83 = .ok (.putfield 37, 3) := by decide +kernel
theorem dX9_init_86 : decode cX9_init 86 = .ok (.aload_n 0, 1) := by decide +kernel
theorem dX9_init_87 : decode cX9_init 87 = .ok (.bipush 11, 2) := by decide +kernel
theorem dX9_init_89 : decode cX9_init 89 = .ok (.newarray .int, 2) := by decide +kernel
theorem dX9_init_91 : decode cX9_init 91 = .ok (.putfield 40, 3) := by decide +kernel
theorem dX9_init_94 : decode cX9_init 94 = .ok (.aload_n 0, 1) := by decide +kernel
theorem dX9_init_95 : decode cX9_init 95 = .ok (.bipush 11, 2) := by decide +kernel
theorem dX9_init_97 : decode cX9_init 97 = .ok (.newarray .int, 2) := by decide +kernel
theorem dX9_init_99 : decode cX9_init 99 = .ok (.putfield 43, 3) := by decide +kernel
theorem dX9_init_102 : decode cX9_init 102 = .ok (.aload_n 0, 1) := by decide +kernel
theorem dX9_init_103 : decode cX9_init 103 = .ok (.bipush 11, 2) := by decide +kernel
theorem dX9_init_105 : decode cX9_init 105 = .ok (.newarray .int, 2) := by decide +kernel
theorem dX9_init_107 : decode cX9_init 107 = .ok (.putfield 46, 3) := by decide +kernel
theorem dX9_init_110 : decode cX9_init 110 = .ok (.aload_n 0, 1) := by decide +kernel
theorem dX9_init_111 : decode cX9_init 111 = .ok (.bipush 11, 2) := by decide +kernel
theorem dX9_init_113 : decode cX9_init 113 = .ok (.newarray .int, 2) := by decide +kernel
theorem dX9_init_115 : decode cX9_init 115 = .ok (.putfield 49, 3) := by decide +kernel
theorem dX9_init_118 : decode cX9_init 118 = .ok (.aload_n 0, 1) := by decide +kernel
theorem dX9_init_119 : decode cX9_init 119 = .ok (.sipush 2200, 3) := by decide +kernel
theorem dX9_init_122 : decode cX9_init 122 = .ok (.newarray .int, 2) := by decide +kernel
theorem dX9_init_124 : decode cX9_init 124 = .ok (.putfield 52, 3) := by decide +kernel
theorem dX9_init_127 : decode cX9_init 127 = .ok (.aload_n 0, 1) := by decide +kernel
theorem dX9_init_128 : decode cX9_init 128 = .ok (.bipush 12, 2) := by decide +kernel
theorem dX9_init_130 : decode cX9_init 130 = .ok (.newarray .int, 2) := by decide +kernel
theorem dX9_init_132 : decode cX9_init 132 = .ok (.putfield 55, 3) := by decide +kernel
theorem dX9_init_135 : decode cX9_init 135 = .ok (.aload_n 0, 1) := by decide +kernel
theorem dX9_init_136 : decode cX9_init 136 = .ok (.bipush 28, 2) := by decide +kernel
theorem dX9_init_138 : decode cX9_init 138 = .ok (.newarray .int, 2) := by decide +kernel
theorem dX9_init_140 : decode cX9_init 140 = .ok (.putfield 58, 3) := by decide +kernel
theorem dX9_init_143 : decode cX9_init 143 = .ok (.aload_n 0, 1) := by decide +kernel
theorem dX9_init_144 : decode cX9_init 144 = .ok (.bipush 12, 2) := by decide +kernel
theorem dX9_init_146 : decode cX9_init 146 = .ok (.newarray .int, 2) := by decide +kernel
theorem dX9_init_148 : decode cX9_init 148 = .ok (.putfield 61, 3) := by decide +kernel
theorem dX9_init_151 : decode cX9_init 151 = .ok (.aload_n 0, 1) := by decide +kernel
theorem dX9_init_152 : decode cX9_init 152 = .ok (.bipush 9, 2) := by decide +kernel
theorem dX9_init_154 : decode cX9_init 154 = .ok (.newarray .int, 2) := by decide +kernel
theorem dX9_init_156 : decode cX9_init 156 = .ok (.putfield 64, 3) := by decide +kernel
theorem dX9_init_159 : decode cX9_init 159 = .ok (.aload_n 0, 1) := by decide +kernel
theorem dX9_init_160 : decode cX9_init 160 = .ok (.bipush 36, 2) := by decide +kernel
theorem dX9_init_162 : decode cX9_init 162 = .ok (.newarray .int, 2) := by decide +kernel
theorem dX9_init_164 : decode cX9_init 164 = .ok (.putfield 67, 3) := by decide +kernel
theorem dX9_init_167 : decode cX9_init 167 = .ok (.aload_n 0, 1) := by decide +kernel
theorem dX9_init_168 : decode cX9_init 168 = .ok (.bipush 12, 2) := by decide +kernel
theorem dX9_init_170 : decode cX9_init 170 = .ok (.newarray .int, 2) := by decide +kernel
theorem dX9_init_172 : decode cX9_init 172 = .ok (.putfield 70, 3) := by decide +kernel
theorem dX9_init_175 : decode cX9_init 175 = .ok (.aload_n 0, 1) := by decide +kernel
theorem dX9_init_176 : decode cX9_init 176 = .ok (.bipush 50, 2) := by decide +kernel
theorem dX9_init_178 : decode cX9_init 178 = .ok (.newarray .int, 2) := by decide +kernel
theorem dX9_init_180 : decode cX9_init 180 = .ok (.putfield 73, 3) := by decide +kernel
theorem dX9_init_183 : decode cX9_init 183 = .ok (.aload_n 0, 1) := by decide +kernel
theorem dX9_init_184 : decode cX9_init 184 = .ok (.bipush 24, 2) := by decide +kernel
theorem dX9_init_186 : decode cX9_init 186 = .ok (.newarray .int, 2) := by decide +kernel
theorem dX9_init_188 : decode cX9_init 188 = .ok (.putfield 76, 3) := by decide +kernel
theorem dX9_init_191 : decode cX9_init 191 = .ok (.aload_n 0, 1) := by decide +kernel
theorem dX9_init_192 : decode cX9_init 192 = .ok (.bipush 6, 2) := by decide +kernel
theorem dX9_init_194 : decode cX9_init 194 = .ok (.newarray .int, 2) := by decide +kernel
theorem dX9_init_196 : decode cX9_init 196 = .ok (.putfield 79, 3) := by decide +kernel
theorem dX9_init_199 : decode cX9_init 199 = .ok (.aload_n 0, 1) := by decide +kernel
theorem dX9_init_200 : decode cX9_init 200 = .ok (.bipush 6, 2) := by decide +kernel
theorem dX9_init_202 : decode cX9_init 202 = .ok (.newarray .int, 2) := by decide +kernel
theorem dX9_init_204 : decode cX9_init 204 = .ok (.putfield 82, 3) := by decide +kernel
theorem dX9_init_207 : decode cX9_init 207 = .ok (.aload_n 0, 1) := by decide +kernel
theorem dX9_init_208 : decode cX9_init 208 = .ok (.sipush 360, 3) := by decide +kernel
theorem dX9_init_211 : decode cX9_init 211 = .ok (.newarray .long, 2) := by decide +kernel
theorem dX9_init_213 : decode cX9_init 213 = .ok (.putfield 85, 3) := by decide +kernel
theorem dX9_init_216 : decode cX9_init 216 = .ok (.aload_n 0, 1) := by decide +kernel
theorem dX9_init_217 : decode cX9_init 217 = .ok (.bipush 60, 2) := by decide +kernel
theorem dX9_init_219 : decode cX9_init 219 = .ok (.newarray .long, 2) := by decide +kernel
theorem dX9_init_221 : decode cX9_init 221 = .ok (.putfield 89, 3) := by decide +kernel
theorem dX9_init_224 : decode cX9_init 224 = .ok (.iconst 0, 1) := by decide +kernel
theorem dX9_init_225 : decode cX9_init 225 = .ok (.istore_n 1, 1) := by decide +kernel
theorem dX9_init_226 : decode cX9_init 226 = .ok (.iload_n 1, 1) := by decide +kernel
theorem dX9_init_227 : decode cX9_init 227 = .ok (.bipush 6, 2) := by decide +kernel
theorem dX9_init_229 : decode cX9_init 229 = .ok (.if_icmp .ge 16, 3) := by decide +kernel
theorem dX9_init_232 : decode cX9_init 232 = .ok (.aload_n 0, 1) := by decide +kernel
theorem dX9_init_233 : decode cX9_init 233 = .ok (.getfield 79, 3) := by decide +kernel
theorem dX9_init_236 : decode cX9_init 236 = .ok (.iload_n 1, 1) := by decide +kernel
theorem dX9_init_237 : decode cX9_init 237 = .ok (.iconst (-1), 1) := by decide +kernel
theorem dX9_init_238 : decode cX9_init 238 = .ok (.iastore, 1) := by decide +kernel
theorem dX9_init_239 : decode cX9_init 239 = .ok (.iinc 1 1, 3) := by decide +kernel
theorem dX9_init_242 : decode cX9_init 242 = .ok (.goto (-16), 3) := by decide +kernel
theorem dX9_init_245 : decode cX9_init 245 = .ok (.return_, 1) := by decide +kernel
theorem dX9_becomes_0 : decode cX9_becomes 0 = .ok (.aload_n 0, 1) := by decide +kernel
theorem dX9_becomes_1 : decode cX9_becomes 1 = .ok (.getfield 9, 3) := by decide +kernel
theorem dX9_becomes_4 : decode cX9_becomes 4 = .ok (.iload_n 1, 1) := by decide +kernel
theorem dX9_becomes_5 : decode cX9_becomes 5 = .ok (.iaload, 1) := by decide +kernel
theorem dX9_becomes_6 : decode cX9_becomes 6 = .ok (.istore_n 3, 1) := by decide +kernel
theorem dX9_becomes_7 : decode cX9_becomes 7 = .ok (.iload_n 3, 1) := by decide +kernel
theorem dX9_becomes_8 : decode cX9_becomes 8 = .ok (.iload_n 2, 1) := by decide +kernel
theorem dX9_becomes_9 : decode cX9_becomes 9 = .ok (.if_icmp .ne 5, 3) := by decide +kernel
theorem dX9_becomes_12 : decode cX9_becomes 12 = .ok (.iload_n 3, 1) := by decide +kernel
theorem dX9_becomes_13 : decode cX9_becomes 13 = .ok (.ireturn, 1) := by decide +kernel
theorem dX9_becomes_14 : decode cX9_becomes 14 = .ok (.aload_n 0, 1) := by decide +kernel
theorem dX9_becomes_15 : decode cX9_becomes 15 = .ok (.getfield 92, 3) := by decide +kernel
theorem dX9_becomes_18 : decode cX9_becomes 18 = .ok (.bipush 40, 2) := by decide +kernel
theorem dX9_becomes_20 : decode cX9_becomes 20 = .ok (.if_icmp .ne 77, 3) := by decide +kernel
theorem dX9_becomes_23 : decode cX9_becomes 23 = .ok (.iconst 1, 1) := by decide +kernel
theorem dX9_becomes_24 : decode cX9_becomes 24 = .ok (.istore 4, 2) := by decide +kernel
theorem dX9_becomes_26 : decode cX9_becomes 26 = .ok (.iload 4, 2) := by decide +kernel
theorem dX9_becomes_28 : decode cX9_becomes 28 = .ok (.bipush 40, 2) := by decide +kernel
theorem dX9_becomes_30 : decode cX9_becomes 30 = .ok (.if_icmp .ge 57, 3) := by decide +kernel
theorem dX9_becomes_33 : decode cX9_becomes 33 = .ok (.aload_n 0, 1) := by decide +kernel
theorem dX9_becomes_34 : decode cX9_becomes 34 = .ok (.getfield 13, 3) := by decide +kernel
theorem dX9_becomes_37 : decode cX9_becomes 37 = .ok (.iload 4, 2) := by decide +kernel
theorem dX9_becomes_39 : decode cX9_becomes 39 = .ok (.iconst 1, 1) := by decide +kernel
theorem dX9_becomes_40 : decode cX9_becomes 40 = .ok (.isub, 1) := by decide +kernel
theorem dX9_becomes_41 : decode cX9_becomes 41 = .ok (.aload_n 0, 1) := by decide +kernel
theorem dX9_becomes_42 : decode cX9_becomes 42 = .ok (.getfield 13, 3) := by decide +kernel
theorem dX9_becomes_45 : decode cX9_becomes 45 = .ok (.iload 4, 2) := by decide +kernel
theorem dX9_becomes_47 : decode cX9_becomes 47 = .ok (.iaload, 1) := by decide +kernel
theorem dX9_becomes_48 : decode cX9_becomes 48 = .ok (.iastore, 1) := by decide +kernel
theorem dX9_becomes_49 : decode cX9_becomes 49 = .ok (.aload_n 0, 1) := by decide +kernel
theorem dX9_becomes_50 : decode cX9_becomes 50 = .ok (.getfield 16, 3) := by decide +kernel
theorem dX9_becomes_53 : decode cX9_becomes 53 = .ok (.iload 4, 2) := by decide +kernel
theorem dX9_becomes_55 : decode cX9_becomes 55 = .ok (.iconst 1, 1) := by decide +kernel
theorem dX9_becomes_56 : decode cX9_becomes 56 = .ok (.isub, 1) := by decide +kernel
theorem dX9_becomes_57 : decode cX9_becomes 57 = .ok (.aload_n 0, 1) := by decide +kernel
theorem dX9_becomes_58 : decode cX9_becomes 58 = .ok (.getfield 16, 3) := by decide +kernel
theorem dX9_becomes_61 : decode cX9_becomes 61 = .ok (.iload 4, 2) := by decide +kernel
theorem dX9_becomes_63 : decode cX9_becomes 63 = .ok (.iaload, 1) := by decide +kernel
theorem dX9_becomes_64 : decode cX9_becomes 64 = .ok (.iastore, 1) := by decide +kernel
theorem dX9_becomes_65 : decode cX9_becomes 65 = .ok (.aload_n 0, 1) := by decide +kernel
theorem dX9_becomes_66 : decode cX9_becomes 66 = .ok (.getfield 19, 3) := by decide +kernel
theorem dX9_becomes_69 : decode cX9_becomes 69 = .ok (.iload 4, 2) := by decide +kernel
theorem dX9_becomes_71 : decode cX9_becomes 71 = .ok (.iconst 1, 1) := by decide +kernel
theorem dX9_becomes_72 : decode cX9_becomes 72 = .ok (.isub, 1) := by decide +kernel
theorem dX9_becomes_73 : decode cX9_becomes 73 = .ok (.aload_n 0, 1) := by decide +kernel
theorem dX9_becomes_74 : decode cX9_becomes 74 = .ok (.getfield 19, 3) := by decide +kernel
theorem dX9_becomes_77 : decode cX9_becomes 77 = .ok (.iload 4, 2) := by decide +kernel
theorem dX9_becomes_79 : decode cX9_becomes 79 = .ok (.iaload, 1) := by decide +kernel
theorem dX9_becomes_80 : decode cX9_becomes 80 = .ok (.iastore, 1) := by decide +kernel
theorem dX9_becomes_81 : decode cX9_becomes 81 = .ok (.iinc 4 1, 3) := by decide +kernel
theorem dX9_becomes_84 : decode cX9_becomes 84 = .ok (.goto (-58), 3) := by decide +kernel
theorem dX9_becomes_87 : decode cX9_becomes 87 = .ok (.aload_n 0, 1) := by decide +kernel
theorem dX9_becomes_88 : decode cX9_becomes 88 = .ok (.dup, 1) := by decide +kernel
theorem dX9_becomes_89 : decode cX9_becomes 89 = .ok (.getfield 92, 3) := by decide +kernel
theorem dX9_becomes_92 : decode cX9_becomes 92 = .ok (.iconst 1, 1) := by decide +kernel
theorem dX9_becomes_93 : decode cX9_becomes 93 = .ok (.isub, 1) := by decide +kernel
theorem dX9_becomes_94 : decode cX9_becomes 94 = .ok (.putfield 92, 3) := by decide +kernel
theorem dX9_becomes_97 : decode cX9_becomes 97 = .ok (.aload_n 0, 1) := by decide +kernel
theorem dX9_becomes_98 : decode cX9_becomes 98 = .ok (.getfield 13, 3) := by decide +kernel
theorem dX9_becomes_101 : decode cX9_becomes 101 = .ok (.aload_n 0, 1) := by decide +kernel
theorem dX9_becomes_102 : decode cX9_becomes 102 = .ok (.getfield 92, 3) := by decide +kernel
theorem dX9_becomes_105 : decode cX9_becomes 105 = .ok (.iload_n 1, 1) := by decide +kernel
theorem dX9_becomes_106 : decode cX9_becomes 106 = .ok (.iastore, 1) := by decide +kernel
theorem dX9_becomes_107 : decode cX9_becomes 107 = .ok (.aload_n 0, 1) := by decide +kernel
theorem dX9_becomes_108 : decode cX9_becomes 108 = .ok (.getfield 16, 3) := by decide +kernel
theorem dX9_becomes_111 : decode cX9_becomes 111 = .ok (.aload_n 0, 1) := by decide +kernel
theorem dX9_becomes_112 : decode cX9_becomes 112 = .ok (.getfield 92, 3) := by decide +kernel
theorem dX9_becomes_115 : decode cX9_becomes 115 = .ok (.iload_n 3, 1) := by decide +kernel
theorem dX9_becomes_116 : decode cX9_becomes 116 = .ok (.iastore, 1) := by decide +kernel
theorem dX9_becomes_117 : decode cX9_becomes 117 = .ok (.aload_n 0, 1) := by decide +kernel
theorem dX9_becomes_118 : decode cX9_becomes 118 = .ok (.getfield 19, 3) := by decide +kernel
theorem dX9_becomes_121 : decode cX9_becomes 121 = .ok (.aload_n 0, 1) := by decide +kernel
theorem dX9_becomes_122 : decode cX9_becomes 122 = .ok (.getfield 92, 3) := by decide +kernel
theorem dX9_becomes_125 : decode cX9_becomes 125 = .ok (.iload_n 2, 1) := by decide +kernel
theorem dX9_becomes_126 : decode cX9_becomes 126 = .ok (.iastore, 1) := by decide +kernel
theorem dX9_becomes_127 : decode cX9_becomes 127 = .ok (.aload_n 0, 1) := by decide +kernel
theorem dX9_becomes_128 : decode cX9_becomes 128 = .ok (.dup, 1) := by decide +kernel
theorem dX9_becomes_129 : decode cX9_becomes 129 = .ok (.getfield 92, 3) := by decide +kernel
theorem dX9_becomes_132 : decode cX9_becomes 132 = .ok (.iconst 1, 1) := by decide +kernel
theorem dX9_becomes_133 : decode cX9_becomes 133 = .ok (.iadd, 1) := by decide +kernel
theorem dX9_becomes_134 : decode cX9_becomes 134 = .ok (.putfield 92, 3) := by decide +kernel
theorem dX9_becomes_137 : decode cX9_becomes 137 = .ok (.aload_n 0, 1) := by decide +kernel
theorem dX9_becomes_138 : decode cX9_becomes 138 = .ok (.aload_n 0, 1) := by decide +kernel
theorem dX9_becomes_139 : decode cX9_becomes 139 = .ok (.getfield 92, 3) := by decide +kernel
theorem dX9_becomes_142 : decode cX9_becomes 142 = .ok (.putfield 96, 3) := by decide +kernel
theorem dX9_becomes_145 : decode cX9_becomes 145 = .ok (.aload_n 0, 1) := by decide +kernel
theorem dX9_becomes_146 : decode cX9_becomes 146 = .ok (.getfield 9, 3) := by decide +kernel
theorem dX9_becomes_149 : decode cX9_becomes 149 = .ok (.iload_n 1, 1) := by decide +kernel
theorem dX9_becomes_150 : decode cX9_becomes 150 = .ok (.iload_n 2, 1) := by decide +kernel
theorem dX9_becomes_151 : decode cX9_becomes 151 = .ok (.iastore, 1) := by decide +kernel
theorem dX9_becomes_152 : decode cX9_becomes 152 = .ok (.iload_n 3, 1) := by decide +kernel
theorem dX9_becomes_153 : decode cX9_becomes 153 = .ok (.ireturn, 1) := by decide +kernel
theorem dX9_undo_0 : decode cX9_undo 0 = .ok (.aload_n 0, 1) := by decide +kernel
theorem dX9_undo_1 : decode cX9_undo 1 = .ok (.getfield 92, 3) := by decide +kernel
theorem dX9_undo_4 : decode cX9_undo 4 = .ok (.ifCond .ne 6, 3) := by decide +kernel
theorem dX9_undo_7 : decode cX9_undo 7 = .ok (.bipush (-5), 2) := by decide +kernel
theorem dX9_undo_9 : decode cX9_undo 9 = .ok (.ireturn, 1) := by decide +kernel
theorem dX9_undo_10 : decode cX9_undo 10 = .ok (.aload_n 0, 1) := by decide +kernel
theorem dX9_undo_11 : decode cX9_undo 11 = .ok (.dup, 1) := by decide +kernel
theorem dX9_undo_12 : decode cX9_undo 12 = .ok (.getfield 92, 3) := by decide +kernel
theorem dX9_undo_15 : decode cX9_undo 15 = .ok (.iconst 1, 1) := by decide +kernel
theorem dX9_undo_16 : decode cX9_undo 16 = .ok (.isub, 1) := by decide +kernel
theorem dX9_undo_17 : decode cX9_undo 17 = .ok (.putfield 92, 3) := by decide +kernel
theorem dX9_undo_20 : decode cX9_undo 20 = .ok (.aload_n 0, 1) := by decide +kernel
theorem dX9_undo_21 : decode cX9_undo 21 = .ok (.getfield 9, 3) := by decide +kernel
theorem dX9_undo_24 : decode cX9_undo 24 = .ok (.aload_n 0, 1) := by decide +kernel
theorem dX9_undo_25 : decode cX9_undo 25 = .ok (.getfield 13, 3) := by decide +kernel
theorem dX9_undo_28 : decode cX9_undo 28 = .ok (.aload_n 0, 1) := by decide +kernel
theorem dX9_undo_29 : decode cX9_undo 29 = .ok (.getfield 92, 3) := by decide +kernel
theorem dX9_undo_32 : decode cX9_undo 32 = .ok (.iaload, 1) := by decide +kernel
theorem dX9_undo_33 : decode cX9_undo 33 = .ok (.aload_n 0, 1) := by decide +kernel
theorem dX9_undo_34 : decode cX9_undo 34 = .ok (.getfield 16, 3) := by decide +kernel
theorem dX9_undo_37 : decode cX9_undo 37 = .ok (.aload_n 0, 1) := by decide +kernel
theorem dX9_undo_38 : decode cX9_undo 38 = .ok (.getfield 92, 3) := by decide +kernel
theorem dX9_undo_41 : decode cX9_undo 41 = .ok (.iaload, 1) := by decide +kernel
theorem dX9_undo_42 : decode cX9_undo 42 = .ok (.iastore, 1) := by decide +kernel
theorem dX9_undo_43 : decode cX9_undo 43 = .ok (.aload_n 0, 1) := by decide +kernel
theorem dX9_undo_44 : decode cX9_undo 44 = .ok (.getfield 92, 3) := by decide +kernel
theorem dX9_undo_47 : decode cX9_undo 47 = .ok (.ireturn, 1) := by decide +kernel
theorem dX9_redo_0 : decode cX9_redo 0 = .ok (.aload_n 0, 1) := by decide +kernel
theorem dX9_redo_1 : decode cX9_redo 1 = .ok (.getfield 92, 3) := by decide +kernel
theorem dX9_redo_4 : decode cX9_redo 4 = .ok (.aload_n 0, 1) := by decide +kernel
theorem dX9_redo_5 : decode cX9_redo 5 = .ok (.getfield 96, 3) := by decide +kernel
theorem dX9_redo_8 : decode cX9_redo 8 = .ok (.if_icmp .ne 6, 3) := by decide +kernel
theorem dX9_redo_11 : decode cX9_redo 11 = .ok (.bipush (-5), 2) := by decide +kernel
theorem dX9_redo_13 : decode cX9_redo 13 = .ok (.ireturn, 1) := by decide +kernel
theorem dX9_redo_14 : decode cX9_redo 14 = .ok (.aload_n 0, 1) := by decide +kernel
theorem dX9_redo_15 : decode cX9_redo 15 = .ok (.getfield 9, 3) := by decide +kernel
theorem dX9_redo_18 : decode cX9_redo 18 = .ok (.aload_n 0, 1) := by decide +kernel
theorem dX9_redo_19 : decode cX9_redo 19 = .ok (.getfield 13, 3) := by decide +kernel
theorem dX9_redo_22 : decode cX9_redo 22 = .ok (.aload_n 0, 1) := by decide +kernel
theorem dX9_redo_23 : decode cX9_redo 23 = .ok (.getfield 92, 3) := by decide +kernel
theorem dX9_redo_26 : decode cX9_redo 26 = .ok (.iaload, 1) := by decide +kernel
theorem dX9_redo_27 : decode cX9_redo 27 = .ok (.aload_n 0, 1) := by decide +kernel
theorem dX9_redo_28 : decode cX9_redo 28 = .ok (.getfield 19, 3) := by decide +kernel
theorem dX9_redo_31 : decode cX9_redo 31 = .ok (.aload_n 0, 1) := by decide +kernel
theorem dX9_redo_32 : decode cX9_redo 32 = .ok (.getfield 92, 3) := by decide +kernel
theorem dX9_redo_35 : decode cX9_redo 35 = .ok (.iaload, 1) := by decide +kernel
theorem dX9_redo_36 : decode cX9_redo 36 = .ok (.iastore, 1) := by decide +kernel
theorem dX9_redo_37 : decode cX9_redo 37 = .ok (.aload_n 0, 1) := by decide +kernel
theorem dX9_redo_38 : decode cX9_redo 38 = .ok (.dup, 1) := by decide +kernel
theorem dX9_redo_39 : decode cX9_redo 39 = .ok (.getfield 92, 3) := by decide +kernel
theorem dX9_redo_42 : decode cX9_redo 42 = .ok (.iconst 1, 1) := by decide +kernel
theorem dX9_redo_43 : decode cX9_redo 43 = .ok (.iadd, 1) := by decide +kernel
theorem dX9_redo_44 : decode cX9_redo 44 = .ok (.putfield 92, 3) := by decide +kernel
theorem dX9_redo_47 : decode cX9_redo 47 = .ok (.aload_n 0, 1) := by decide +kernel
theorem dX9_redo_48 : decode cX9_redo 48 = .ok (.getfield 96, 3) := by decide +kernel
theorem dX9_redo_51 : decode cX9_redo 51 = .ok (.aload_n 0, 1) := by decide +kernel
theorem dX9_redo_52 : decode cX9_redo 52 = .ok (.getfield 92, 3) := by decide +kernel
theorem dX9_redo_55 : decode cX9_redo 55 = .ok (.isub, 1) := by decide +kernel
theorem dX9_redo_56 : decode cX9_redo 56 = .ok (.ireturn, 1) := by decide +kernel
theorem dX9_isSong_0 : decode cX9_isSong 0 = .ok (.iload_n 1, 1) := by decide +kernel
theorem dX9_isSong_1 : decode cX9_isSong 1 = .ok (.i2l, 1) := by decide +kernel
theorem dX9_isSong_2 : decode cX9_isSong 2 = .ok (.lconst 0, 1) := by decide +kernel
theorem dX9_isSong_3 : decode cX9_isSong 3 = .ok (.aload_n 0, 1) := by decide +kernel
theorem dX9_isSong_4 : decode cX9_isSong 4 = .ok (.getfield 99, 3) := by decide +kernel
theorem dX9_isSong_7 : decode cX9_isSong 7 = .ok (.iconst 1, 1) := by decide +kernel
theorem dX9_isSong_8 : decode cX9_isSong 8 = .ok (.isub, 1) := by decide +kernel
theorem dX9_isSong_9 : decode cX9_isSong 9 = .ok (.i2l, 1) := by decide +kernel
theorem dX9_isSong_10 : decode cX9_isSong 10 = .ok (.invokestatic 102, 3) := by decide +kernel
theorem dX9_isSong_13 : decode cX9_isSong 13 = .ok (.ireturn, 1) := by decide +kernel
theorem dX9_isLaw_0 : decode cX9_isLaw 0 = .ok (.iload_n 1, 1) := by decide +kernel
theorem dX9_isLaw_1 : decode cX9_isLaw 1 = .ok (.i2l, 1) := by decide +kernel
theorem dX9_isLaw_2 : decode cX9_isLaw 2 = .ok (.lconst 0, 1) := by decide +kernel
theorem dX9_isLaw_3 : decode cX9_isLaw 3 = .ok (.aload_n 0, 1) := by decide +kernel
theorem dX9_isLaw_4 : decode cX9_isLaw 4 = .ok (.getfield 106, 3) := by decide +kernel
theorem dX9_isLaw_7 : decode cX9_isLaw 7 = .ok (.iconst 1, 1) := by decide +kernel
theorem dX9_isLaw_8 : decode cX9_isLaw 8 = .ok (.isub, 1) := by decide +kernel
theorem dX9_isLaw_9 : decode cX9_isLaw 9 = .ok (.i2l, 1) := by decide +kernel
theorem dX9_isLaw_10 : decode cX9_isLaw 10 = .ok (.invokestatic 102, 3) := by decide +kernel
theorem dX9_isLaw_13 : decode cX9_isLaw 13 = .ok (.ireturn, 1) := by decide +kernel
theorem dX9_song_0 : decode cX9_song 0 = .ok (.iload_n 1, 1) := by decide +kernel
theorem dX9_song_1 : decode cX9_song 1 = .ok (.i2l, 1) := by decide +kernel
theorem dX9_song_2 : decode cX9_song 2 = .ok (.lconst 0, 1) := by decide +kernel
theorem dX9_song_3 : decode cX9_song 3 = .ok (.ldc2_w 109, 3) := by decide +kernel
theorem dX9_song_6 : decode cX9_song 6 = .ok (.invokestatic 102, 3) := by decide +kernel
theorem dX9_song_9 : decode cX9_song 9 = .ok (.ifCond .ne 5, 3) := by decide +kernel
theorem dX9_song_12 : decode cX9_song 12 = .ok (.iconst (-1), 1) := by decide +kernel
theorem dX9_song_13 : decode cX9_song 13 = .ok (.ireturn, 1) := by decide +kernel
theorem dX9_song_14 : decode cX9_song 14 = .ok (.aload_n 0, 1) := by decide +kernel
theorem dX9_song_15 : decode cX9_song 15 = .ok (.getfield 99, 3) := by decide +kernel
theorem dX9_song_18 : decode cX9_song 18 = .ok (.bipush 12, 2) := by decide +kernel
theorem dX9_song_20 : decode cX9_song 20 = .ok (.if_icmp .ne 6, 3) := by decide +kernel
theorem dX9_song_23 : decode cX9_song 23 = .ok (.bipush (-3), 2) := by decide +kernel
theorem dX9_song_25 : decode cX9_song 25 = .ok (.ireturn, 1) := by decide +kernel
theorem dX9_song_26 : decode cX9_song 26 = .ok (.aload_n 0, 1) := by decide +kernel
theorem dX9_song_27 : decode cX9_song 27 = .ok (.getfield 9, 3) := by decide +kernel
theorem dX9_song_30 : decode cX9_song 30 = .ok (.aload_n 0, 1) := by decide +kernel
theorem dX9_song_31 : decode cX9_song 31 = .ok (.getfield 99, 3) := by decide +kernel
theorem dX9_song_34 : decode cX9_song 34 = .ok (.iload_n 1, 1) := by decide +kernel
theorem dX9_song_35 : decode cX9_song 35 = .ok (.iastore, 1) := by decide +kernel
theorem dX9_song_36 : decode cX9_song 36 = .ok (.aload_n 0, 1) := by decide +kernel
theorem dX9_song_37 : decode cX9_song 37 = .ok (.dup, 1) := by decide +kernel
theorem dX9_song_38 : decode cX9_song 38 = .ok (.getfield 99, 3) := by decide +kernel
theorem dX9_song_41 : decode cX9_song 41 = .ok (.iconst 1, 1) := by decide +kernel
theorem dX9_song_42 : decode cX9_song 42 = .ok (.iadd, 1) := by decide +kernel
theorem dX9_song_43 : decode cX9_song 43 = .ok (.putfield 99, 3) := by decide +kernel
theorem dX9_song_46 : decode cX9_song 46 = .ok (.aload_n 0, 1) := by decide +kernel
theorem dX9_song_47 : decode cX9_song 47 = .ok (.getfield 99, 3) := by decide +kernel
theorem dX9_song_50 : decode cX9_song 50 = .ok (.iconst 1, 1) := by decide +kernel
theorem dX9_song_51 : decode cX9_song 51 = .ok (.isub, 1) := by decide +kernel
theorem dX9_song_52 : decode cX9_song 52 = .ok (.ireturn, 1) := by decide +kernel
theorem dX9_worth_0 : decode cX9_worth 0 = .ok (.aload_n 0, 1) := by decide +kernel
theorem dX9_worth_1 : decode cX9_worth 1 = .ok (.iload_n 1, 1) := by decide +kernel
theorem dX9_worth_2 : decode cX9_worth 2 = .ok (.invokevirtual 111, 3) := by decide +kernel
theorem dX9_worth_5 : decode cX9_worth 5 = .ok (.ifCond .eq 24, 3) := by decide +kernel
theorem dX9_worth_8 : decode cX9_worth 8 = .ok (.iload_n 2, 1) := by decide +kernel
theorem dX9_worth_9 : decode cX9_worth 9 = .ok (.i2l, 1) := by decide +kernel
theorem dX9_worth_10 : decode cX9_worth 10 = .ok (.lconst 0, 1) := by decide +kernel
theorem dX9_worth_11 : decode cX9_worth 11 = .ok (.ldc2_w 109, 3) := by decide +kernel
theorem dX9_worth_14 : decode cX9_worth 14 = .ok (.invokestatic 102, 3) := by decide +kernel
theorem dX9_worth_17 : decode cX9_worth 17 = .ok (.ifCond .eq 12, 3) := by decide +kernel
theorem dX9_worth_20 : decode cX9_worth 20 = .ok (.aload_n 0, 1) := by decide +kernel
theorem dX9_worth_21 : decode cX9_worth 21 = .ok (.iload_n 1, 1) := by decide +kernel
theorem dX9_worth_22 : decode cX9_worth 22 = .ok (.iload_n 2, 1) := by decide +kernel
theorem dX9_worth_23 : decode cX9_worth 23 = .ok (.invokevirtual 115, 3) := by decide +kernel
theorem dX9_worth_26 : decode cX9_worth 26 = .ok (.goto 4, 3) := by decide +kernel
theorem dX9_worth_29 : decode cX9_worth 29 = .ok (.iconst (-1), 1) := by decide +kernel
theorem dX9_worth_30 : decode cX9_worth 30 = .ok (.ireturn, 1) := by decide +kernel
theorem dX9_feed_0 : decode cX9_feed 0 = .ok (.iload_n 1, 1) := by decide +kernel
theorem dX9_feed_1 : decode cX9_feed 1 = .ok (.i2l, 1) := by decide +kernel
theorem dX9_feed_2 : decode cX9_feed 2 = .ok (.lconst 1, 1) := by decide +kernel
theorem dX9_feed_3 : decode cX9_feed 3 = .ok (.ldc2_w 119, 3) := by decide +kernel
theorem dX9_feed_6 : decode cX9_feed 6 = .ok (.invokestatic 102, 3) := by decide +kernel
theorem dX9_feed_9 : decode cX9_feed 9 = .ok (.ifCond .ne 5, 3) := by decide +kernel
theorem dX9_feed_12 : decode cX9_feed 12 = .ok (.iconst (-1), 1) := by decide +kernel
theorem dX9_feed_13 : decode cX9_feed 13 = .ok (.ireturn, 1) := by decide +kernel
theorem dX9_feed_14 : decode cX9_feed 14 = .ok (.aload_n 0, 1) := by decide +kernel
theorem dX9_feed_15 : decode cX9_feed 15 = .ok (.getfield 121, 3) := by decide +kernel
theorem dX9_feed_18 : decode cX9_feed 18 = .ok (.iload_n 1, 1) := by decide +kernel
theorem dX9_feed_19 : decode cX9_feed 19 = .ok (.iadd, 1) := by decide +kernel
theorem dX9_feed_20 : decode cX9_feed 20 = .ok (.bipush 120, 2) := by decide +kernel
theorem dX9_feed_22 : decode cX9_feed 22 = .ok (.if_icmp .le 6, 3) := by decide +kernel
theorem dX9_feed_25 : decode cX9_feed 25 = .ok (.bipush (-3), 2) := by decide +kernel
theorem dX9_feed_27 : decode cX9_feed 27 = .ok (.ireturn, 1) := by decide +kernel
theorem dX9_feed_28 : decode cX9_feed 28 = .ok (.iconst 0, 1) := by decide +kernel
theorem dX9_feed_29 : decode cX9_feed 29 = .ok (.istore_n 3, 1) := by decide +kernel
theorem dX9_feed_30 : decode cX9_feed 30 = .ok (.iload_n 3, 1) := by decide +kernel
theorem dX9_feed_31 : decode cX9_feed 31 = .ok (.iload_n 1, 1) := by decide +kernel
theorem dX9_feed_32 : decode cX9_feed 32 = .ok (.if_icmp .ge 38, 3) := by decide +kernel
theorem dX9_feed_35 : decode cX9_feed 35 = .ok (.aload_n 0, 1) := by decide +kernel
theorem dX9_feed_36 : decode cX9_feed 36 = .ok (.getfield 22, 3) := by decide +kernel
theorem dX9_feed_39 : decode cX9_feed 39 = .ok (.aload_n 0, 1) := by decide +kernel
theorem dX9_feed_40 : decode cX9_feed 40 = .ok (.getfield 121, 3) := by decide +kernel
theorem dX9_feed_43 : decode cX9_feed 43 = .ok (.iload_n 2, 1) := by decide +kernel
theorem dX9_feed_44 : decode cX9_feed 44 = .ok (.bipush 8, 2) := by decide +kernel
theorem dX9_feed_46 : decode cX9_feed 46 = .ok (.iload_n 3, 1) := by decide +kernel
theorem dX9_feed_47 : decode cX9_feed 47 = .ok (.imul, 1) := by decide +kernel
theorem dX9_feed_48 : decode cX9_feed 48 = .ok (.ishr, 1) := by decide +kernel
theorem dX9_feed_49 : decode cX9_feed 49 = .ok (.sipush 255, 3) := by decide +kernel
theorem dX9_feed_52 : decode cX9_feed 52 = .ok (.iand, 1) := by decide +kernel
theorem dX9_feed_53 : decode cX9_feed 53 = .ok (.iastore, 1) := by decide +kernel
theorem dX9_feed_54 : decode cX9_feed 54 = .ok (.aload_n 0, 1) := by decide +kernel
theorem dX9_feed_55 : decode cX9_feed 55 = .ok (.dup, 1) := by decide +kernel
theorem dX9_feed_56 : decode cX9_feed 56 = .ok (.getfield 121, 3) := by decide +kernel
theorem dX9_feed_59 : decode cX9_feed 59 = .ok (.iconst 1, 1) := by decide +kernel
theorem dX9_feed_60 : decode cX9_feed 60 = .ok (.iadd, 1) := by decide +kernel
theorem dX9_feed_61 : decode cX9_feed 61 = .ok (.putfield 121, 3) := by decide +kernel
theorem dX9_feed_64 : decode cX9_feed 64 = .ok (.iinc 3 1, 3) := by decide +kernel
theorem dX9_feed_67 : decode cX9_feed 67 = .ok (.goto (-37), 3) := by decide +kernel
theorem dX9_feed_70 : decode cX9_feed 70 = .ok (.aload_n 0, 1) := by decide +kernel
theorem dX9_feed_71 : decode cX9_feed 71 = .ok (.getfield 121, 3) := by decide +kernel
theorem dX9_feed_74 : decode cX9_feed 74 = .ok (.ireturn, 1) := by decide +kernel
theorem dX9_byteAt_0 : decode cX9_byteAt 0 = .ok (.aload_n 0, 1) := by decide +kernel
theorem dX9_byteAt_1 : decode cX9_byteAt 1 = .ok (.getfield 124, 3) := by decide +kernel
theorem dX9_byteAt_4 : decode cX9_byteAt 4 = .ok (.aload_n 0, 1) := by decide +kernel
theorem dX9_byteAt_5 : decode cX9_byteAt 5 = .ok (.getfield 127, 3) := by decide +kernel
theorem dX9_byteAt_8 : decode cX9_byteAt 8 = .ok (.if_icmp .ge 39, 3) := by decide +kernel
theorem dX9_byteAt_11 : decode cX9_byteAt 11 = .ok (.aload_n 0, 1) := by decide +kernel
theorem dX9_byteAt_12 : decode cX9_byteAt 12 = .ok (.getfield 130, 3) := by decide +kernel
theorem dX9_byteAt_15 : decode cX9_byteAt 15 = .ok (.ifCond .ge 15, 3) := by decide +kernel
theorem dX9_byteAt_18 : decode cX9_byteAt 18 = .ok (.aload_n 0, 1) := by decide +kernel
theorem dX9_byteAt_19 : decode cX9_byteAt 19 = .ok (.getfield 22, 3) := by decide +kernel
theorem dX9_byteAt_22 : decode cX9_byteAt 22 = .ok (.aload_n 0, 1) := by decide +kernel
theorem dX9_byteAt_23 : decode cX9_byteAt 23 = .ok (.getfield 124, 3) := by decide +kernel
theorem dX9_byteAt_26 : decode cX9_byteAt 26 = .ok (.iaload, 1) := by decide +kernel
theorem dX9_byteAt_27 : decode cX9_byteAt 27 = .ok (.goto 21, 3) := by decide +kernel
theorem dX9_byteAt_30 : decode cX9_byteAt 30 = .ok (.aload_n 0, 1) := by decide +kernel
theorem dX9_byteAt_31 : decode cX9_byteAt 31 = .ok (.getfield 25, 3) := by decide +kernel
theorem dX9_byteAt_34 : decode cX9_byteAt 34 = .ok (.aload_n 0, 1) := by decide +kernel
theorem dX9_byteAt_35 : decode cX9_byteAt 35 = .ok (.getfield 130, 3) := by decide +kernel
theorem dX9_byteAt_38 : decode cX9_byteAt 38 = .ok (.aload_n 0, 1) := by decide +kernel
theorem dX9_byteAt_39 : decode cX9_byteAt 39 = .ok (.getfield 124, 3) := by decide +kernel
theorem dX9_byteAt_42 : decode cX9_byteAt 42 = .ok (.iadd, 1) := by decide +kernel
theorem dX9_byteAt_43 : decode cX9_byteAt 43 = .ok (.iaload, 1) := by decide +kernel
theorem dX9_byteAt_44 : decode cX9_byteAt 44 = .ok (.goto 4, 3) := by decide +kernel
theorem dX9_byteAt_47 : decode cX9_byteAt 47 = .ok (.iconst 0, 1) := by decide +kernel
theorem dX9_byteAt_48 : decode cX9_byteAt 48 = .ok (.ireturn, 1) := by decide +kernel
theorem dX9_wrong_0 : decode cX9_wrong 0 = .ok (.aload_n 0, 1) := by decide +kernel
theorem dX9_wrong_1 : decode cX9_wrong 1 = .ok (.aload_n 0, 1) := by decide +kernel
theorem dX9_wrong_2 : decode cX9_wrong 2 = .ok (.getfield 133, 3) := by decide +kernel
theorem dX9_wrong_5 : decode cX9_wrong 5 = .ok (.ifCond .ge 10, 3) := by decide +kernel
theorem dX9_wrong_8 : decode cX9_wrong 8 = .ok (.aload_n 0, 1) := by decide +kernel
theorem dX9_wrong_9 : decode cX9_wrong 9 = .ok (.getfield 124, 3) := by decide +kernel
theorem dX9_wrong_12 : decode cX9_wrong 12 = .ok (.goto 7, 3) := by decide +kernel
theorem dX9_wrong_15 : decode cX9_wrong 15 = .ok (.aload_n 0, 1) := by decide +kernel
theorem dX9_wrong_16 : decode cX9_wrong 16 = .ok (.getfield 133, 3) := by decide +kernel
theorem dX9_wrong_19 : decode cX9_wrong 19 = .ok (.putfield 133, 3) := by decide +kernel
theorem dX9_wrong_22 : decode cX9_wrong 22 = .ok (.iconst 0, 1) := by decide +kernel
theorem dX9_wrong_23 : decode cX9_wrong 23 = .ok (.ireturn, 1) := by decide +kernel
theorem dX9_takes_0 : decode cX9_takes 0 = .ok (.aload_n 0, 1) := by decide +kernel
theorem dX9_takes_1 : decode cX9_takes 1 = .ok (.getfield 133, 3) := by decide +kernel
theorem dX9_takes_4 : decode cX9_takes 4 = .ok (.ifCond .ge 11, 3) := by decide +kernel
theorem dX9_takes_7 : decode cX9_takes 7 = .ok (.aload_n 0, 1) := by decide +kernel
theorem dX9_takes_8 : decode cX9_takes 8 = .ok (.invokevirtual 136, 3) := by decide +kernel
theorem dX9_takes_11 : decode cX9_takes 11 = .ok (.iload_n 1, 1) := by decide +kernel
theorem dX9_takes_12 : decode cX9_takes 12 = .ok (.if_icmp .eq 5, 3) := by decide +kernel
theorem dX9_takes_15 : decode cX9_takes 15 = .ok (.iconst 0, 1) := by decide +kernel
theorem dX9_takes_16 : decode cX9_takes 16 = .ok (.ireturn, 1) := by decide +kernel
theorem dX9_takes_17 : decode cX9_takes 17 = .ok (.aload_n 0, 1) := by decide +kernel
theorem dX9_takes_18 : decode cX9_takes 18 = .ok (.dup, 1) := by decide +kernel
theorem dX9_takes_19 : decode cX9_takes 19 = .ok (.getfield 124, 3) := by decide +kernel
theorem dX9_takes_22 : decode cX9_takes 22 = .ok (.iconst 1, 1) := by decide +kernel
theorem dX9_takes_23 : decode cX9_takes 23 = .ok (.iadd, 1) := by decide +kernel
theorem dX9_takes_24 : decode cX9_takes 24 = .ok (.putfield 124, 3) := by decide +kernel
theorem dX9_takes_27 : decode cX9_takes 27 = .ok (.iconst 1, 1) := by decide +kernel
theorem dX9_takes_28 : decode cX9_takes 28 = .ok (.ireturn, 1) := by decide +kernel
theorem dX9_either_0 : decode cX9_either 0 = .ok (.aload_n 0, 1) := by decide +kernel
theorem dX9_either_1 : decode cX9_either 1 = .ok (.invokevirtual 140, 3) := by decide +kernel
theorem dX9_either_4 : decode cX9_either 4 = .ok (.istore_n 1, 1) := by decide +kernel
theorem dX9_either_5 : decode cX9_either 5 = .ok (.aload_n 0, 1) := by decide +kernel
theorem dX9_either_6 : decode cX9_either 6 = .ok (.bipush 124, 2) := by decide +kernel
theorem dX9_either_8 : decode cX9_either 8 = .ok (.invokevirtual 143, 3) := by decide +kernel
theorem dX9_either_11 : decode cX9_either 11 = .ok (.ifCond .eq 25, 3) := by decide +kernel
theorem dX9_either_14 : decode cX9_either 14 = .ok (.aload_n 0, 1) := by decide +kernel
theorem dX9_either_15 : decode cX9_either 15 = .ok (.invokevirtual 140, 3) := by decide +kernel
theorem dX9_either_18 : decode cX9_either 18 = .ok (.istore_n 2, 1) := by decide +kernel
theorem dX9_either_19 : decode cX9_either 19 = .ok (.iload_n 1, 1) := by decide +kernel
theorem dX9_either_20 : decode cX9_either 20 = .ok (.ifCond .ne 7, 3) := by decide +kernel
theorem dX9_either_23 : decode cX9_either 23 = .ok (.iload_n 2, 1) := by decide +kernel
theorem dX9_either_24 : decode cX9_either 24 = .ok (.ifCond .eq 7, 3) := by decide +kernel
theorem dX9_either_27 : decode cX9_either 27 = .ok (.iconst 1, 1) := by decide +kernel
theorem dX9_either_28 : decode cX9_either 28 = .ok (.goto 4, 3) := by decide +kernel
theorem dX9_either_31 : decode cX9_either 31 = .ok (.iconst 0, 1) := by decide +kernel
theorem dX9_either_32 : decode cX9_either 32 = .ok (.istore_n 1, 1) := by decide +kernel
theorem dX9_either_33 : decode cX9_either 33 = .ok (.goto (-28), 3) := by decide +kernel
theorem dX9_either_36 : decode cX9_either 36 = .ok (.iload_n 1, 1) := by decide +kernel
theorem dX9_either_37 : decode cX9_either 37 = .ok (.ireturn, 1) := by decide +kernel
theorem dX9_both_0 : decode cX9_both 0 = .ok (.aload_n 0, 1) := by decide +kernel
theorem dX9_both_1 : decode cX9_both 1 = .ok (.invokevirtual 146, 3) := by decide +kernel
theorem dX9_both_4 : decode cX9_both 4 = .ok (.istore_n 1, 1) := by decide +kernel
theorem dX9_both_5 : decode cX9_both 5 = .ok (.aload_n 0, 1) := by decide +kernel
theorem dX9_both_6 : decode cX9_both 6 = .ok (.bipush 38, 2) := by decide +kernel
theorem dX9_both_8 : decode cX9_both 8 = .ok (.invokevirtual 143, 3) := by decide +kernel
theorem dX9_both_11 : decode cX9_both 11 = .ok (.ifCond .eq 25, 3) := by decide +kernel
theorem dX9_both_14 : decode cX9_both 14 = .ok (.aload_n 0, 1) := by decide +kernel
theorem dX9_both_15 : decode cX9_both 15 = .ok (.invokevirtual 146, 3) := by decide +kernel
theorem dX9_both_18 : decode cX9_both 18 = .ok (.istore_n 2, 1) := by decide +kernel
theorem dX9_both_19 : decode cX9_both 19 = .ok (.iload_n 1, 1) := by decide +kernel
theorem dX9_both_20 : decode cX9_both 20 = .ok (.ifCond .eq 11, 3) := by decide +kernel
theorem dX9_both_23 : decode cX9_both 23 = .ok (.iload_n 2, 1) := by decide +kernel
theorem dX9_both_24 : decode cX9_both 24 = .ok (.ifCond .eq 7, 3) := by decide +kernel
theorem dX9_both_27 : decode cX9_both 27 = .ok (.iconst 1, 1) := by decide +kernel
theorem dX9_both_28 : decode cX9_both 28 = .ok (.goto 4, 3) := by decide +kernel
theorem dX9_both_31 : decode cX9_both 31 = .ok (.iconst 0, 1) := by decide +kernel
theorem dX9_both_32 : decode cX9_both 32 = .ok (.istore_n 1, 1) := by decide +kernel
theorem dX9_both_33 : decode cX9_both 33 = .ok (.goto (-28), 3) := by decide +kernel
theorem dX9_both_36 : decode cX9_both 36 = .ok (.iload_n 1, 1) := by decide +kernel
theorem dX9_both_37 : decode cX9_both 37 = .ok (.ireturn, 1) := by decide +kernel
theorem dX9_compared_0 : decode cX9_compared 0 = .ok (.aload_n 0, 1) := by decide +kernel
theorem dX9_compared_1 : decode cX9_compared 1 = .ok (.invokevirtual 149, 3) := by decide +kernel
theorem dX9_compared_4 : decode cX9_compared 4 = .ok (.istore_n 1, 1) := by decide +kernel
theorem dX9_compared_5 : decode cX9_compared 5 = .ok (.aload_n 0, 1) := by decide +kernel
theorem dX9_compared_6 : decode cX9_compared 6 = .ok (.invokevirtual 136, 3) := by decide +kernel
theorem dX9_compared_9 : decode cX9_compared 9 = .ok (.istore_n 2, 1) := by decide +kernel
theorem dX9_compared_10 : decode cX9_compared 10 = .ok (.aload_n 0, 1) := by decide +kernel
theorem dX9_compared_11 : decode cX9_compared 11 = .ok (.getfield 133, 3) := by decide +kernel
theorem dX9_compared_14 : decode cX9_compared 14 = .ok (.ifCond .ge 21, 3) := by decide +kernel
theorem dX9_compared_17 : decode cX9_compared 17 = .ok (.iload_n 2, 1) := by decide +kernel
theorem dX9_compared_18 : decode cX9_compared 18 = .ok (.bipush 60, 2) := by decide +kernel
theorem dX9_compared_20 : decode cX9_compared 20 = .ok (.if_icmp .eq 17, 3) := by decide +kernel
theorem dX9_compared_23 : decode cX9_compared 23 = .ok (.iload_n 2, 1) := by decide +kernel
theorem dX9_compared_24 : decode cX9_compared 24 = .ok (.bipush 61, 2) := by decide +kernel
theorem dX9_compared_26 : decode cX9_compared 26 = .ok (.if_icmp .eq 11, 3) := by decide +kernel
theorem dX9_compared_29 : decode cX9_compared 29 = .ok (.iload_n 2, 1) := by decide +kernel
theorem dX9_compared_30 : decode cX9_compared 30 = .ok (.bipush 62, 2) := by decide +kernel
theorem dX9_compared_32 : decode cX9_compared 32 = .ok (.if_icmp .eq 5, 3) := by decide +kernel
theorem dX9_compared_35 : decode cX9_compared 35 = .ok (.iload_n 1, 1) := by decide +kernel
theorem dX9_compared_36 : decode cX9_compared 36 = .ok (.ireturn, 1) := by decide +kernel
theorem dX9_compared_37 : decode cX9_compared 37 = .ok (.aload_n 0, 1) := by decide +kernel
theorem dX9_compared_38 : decode cX9_compared 38 = .ok (.dup, 1) := by decide +kernel
theorem dX9_compared_39 : decode cX9_compared 39 = .ok (.getfield 124, 3) := by decide +kernel
theorem dX9_compared_42 : decode cX9_compared 42 = .ok (.iconst 1, 1) := by decide +kernel
theorem dX9_compared_43 : decode cX9_compared 43 = .ok (.iadd, 1) := by decide +kernel
theorem dX9_compared_44 : decode cX9_compared 44 = .ok (.putfield 124, 3) := by decide +kernel
theorem dX9_compared_47 : decode cX9_compared 47 = .ok (.aload_n 0, 1) := by decide +kernel
theorem dX9_compared_48 : decode cX9_compared 48 = .ok (.invokevirtual 149, 3) := by decide +kernel
theorem dX9_compared_51 : decode cX9_compared 51 = .ok (.istore_n 3, 1) := by decide +kernel
theorem dX9_compared_52 : decode cX9_compared 52 = .ok (.iload_n 2, 1) := by decide +kernel
theorem dX9_compared_53 : decode cX9_compared 53 = .ok (.bipush 60, 2) := by decide +kernel
theorem dX9_compared_55 : decode cX9_compared 55 = .ok (.if_icmp .ne 11, 3) := by decide +kernel
theorem dX9_compared_58 : decode cX9_compared 58 = .ok (.iload_n 1, 1) := by decide +kernel
theorem dX9_compared_59 : decode cX9_compared 59 = .ok (.iload_n 3, 1) := by decide +kernel
theorem dX9_compared_60 : decode cX9_compared 60 = .ok (.if_icmp .ge 29, 3) := by decide +kernel
theorem dX9_compared_63 : decode cX9_compared 63 = .ok (.goto 22, 3) := by decide +kernel
theorem dX9_compared_66 : decode cX9_compared 66 = .ok (.iload_n 2, 1) := by decide +kernel
theorem dX9_compared_67 : decode cX9_compared 67 = .ok (.bipush 61, 2) := by decide +kernel
theorem dX9_compared_69 : decode cX9_compared 69 = .ok (.if_icmp .ne 11, 3) := by decide +kernel
theorem dX9_compared_72 : decode cX9_compared 72 = .ok (.iload_n 1, 1) := by decide +kernel
theorem dX9_compared_73 : decode cX9_compared 73 = .ok (.iload_n 3, 1) := by decide +kernel
theorem dX9_compared_74 : decode cX9_compared 74 = .ok (.if_icmp .ne 15, 3) := by decide +kernel
theorem dX9_compared_77 : decode cX9_compared 77 = .ok (.goto 8, 3) := by decide +kernel
theorem dX9_compared_80 : decode cX9_compared 80 = .ok (.iload_n 1, 1) := by decide +kernel
theorem dX9_compared_81 : decode cX9_compared 81 = .ok (.iload_n 3, 1) := by decide +kernel
theorem dX9_compared_82 : decode cX9_compared 82 = .ok (.if_icmp .le 7, 3) := by decide +kernel
theorem dX9_compared_85 : decode cX9_compared 85 = .ok (.iconst 1, 1) := by decide +kernel
theorem dX9_compared_86 : decode cX9_compared 86 = .ok (.goto 4, 3) := by decide +kernel
theorem dX9_compared_89 : decode cX9_compared 89 = .ok (.iconst 0, 1) := by decide +kernel
theorem dX9_compared_90 : decode cX9_compared 90 = .ok (.ireturn, 1) := by decide +kernel
theorem dX9_sums_0 : decode cX9_sums 0 = .ok (.aload_n 0, 1) := by decide +kernel
theorem dX9_sums_1 : decode cX9_sums 1 = .ok (.invokevirtual 152, 3) := by decide +kernel
theorem dX9_sums_4 : decode cX9_sums 4 = .ok (.istore_n 1, 1) := by decide +kernel
theorem dX9_sums_5 : decode cX9_sums 5 = .ok (.aload_n 0, 1) := by decide +kernel
theorem dX9_sums_6 : decode cX9_sums 6 = .ok (.getfield 133, 3) := by decide +kernel
theorem dX9_sums_9 : decode cX9_sums 9 = .ok (.ifCond .ge 68, 3) := by decide +kernel
theorem dX9_sums_12 : decode cX9_sums 12 = .ok (.aload_n 0, 1) := by decide +kernel
theorem dX9_sums_13 : decode cX9_sums 13 = .ok (.invokevirtual 136, 3) := by decide +kernel
theorem dX9_sums_16 : decode cX9_sums 16 = .ok (.bipush 43, 2) := by decide +kernel
theorem dX9_sums_18 : decode cX9_sums 18 = .ok (.if_icmp .eq 12, 3) := by decide +kernel
theorem dX9_sums_21 : decode cX9_sums 21 = .ok (.aload_n 0, 1) := by decide +kernel
theorem dX9_sums_22 : decode cX9_sums 22 = .ok (.invokevirtual 136, 3) := by decide +kernel
theorem dX9_sums_25 : decode cX9_sums 25 = .ok (.bipush 45, 2) := by decide +kernel
theorem dX9_sums_27 : decode cX9_sums 27 = .ok (.if_icmp .ne 50, 3) := by decide +kernel
theorem dX9_sums_30 : decode cX9_sums 30 = .ok (.aload_n 0, 1) := by decide +kernel
theorem dX9_sums_31 : decode cX9_sums 31 = .ok (.invokevirtual 136, 3) := by decide +kernel
theorem dX9_sums_34 : decode cX9_sums 34 = .ok (.bipush 43, 2) := by decide +kernel
theorem dX9_sums_36 : decode cX9_sums 36 = .ok (.if_icmp .ne 7, 3) := by decide +kernel
theorem dX9_sums_39 : decode cX9_sums 39 = .ok (.iconst 1, 1) := by decide +kernel
theorem dX9_sums_40 : decode cX9_sums 40 = .ok (.goto 4, 3) := by decide +kernel
theorem dX9_sums_43 : decode cX9_sums 43 = .ok (.iconst 0, 1) := by decide +kernel
theorem dX9_sums_44 : decode cX9_sums 44 = .ok (.istore_n 2, 1) := by decide +kernel
theorem dX9_sums_45 : decode cX9_sums 45 = .ok (.aload_n 0, 1) := by decide +kernel
theorem dX9_sums_46 : decode cX9_sums 46 = .ok (.dup, 1) := by decide +kernel
theorem dX9_sums_47 : decode cX9_sums 47 = .ok (.getfield 124, 3) := by decide +kernel
theorem dX9_sums_50 : decode cX9_sums 50 = .ok (.iconst 1, 1) := by decide +kernel
theorem dX9_sums_51 : decode cX9_sums 51 = .ok (.iadd, 1) := by decide +kernel
theorem dX9_sums_52 : decode cX9_sums 52 = .ok (.putfield 124, 3) := by decide +kernel
theorem dX9_sums_55 : decode cX9_sums 55 = .ok (.aload_n 0, 1) := by decide +kernel
theorem dX9_sums_56 : decode cX9_sums 56 = .ok (.invokevirtual 152, 3) := by decide +kernel
theorem dX9_sums_59 : decode cX9_sums 59 = .ok (.istore_n 3, 1) := by decide +kernel
theorem dX9_sums_60 : decode cX9_sums 60 = .ok (.iload_n 2, 1) := by decide +kernel
theorem dX9_sums_61 : decode cX9_sums 61 = .ok (.ifCond .eq 9, 3) := by decide +kernel
theorem dX9_sums_64 : decode cX9_sums 64 = .ok (.iload_n 1, 1) := by decide +kernel
theorem dX9_sums_65 : decode cX9_sums 65 = .ok (.iload_n 3, 1) := by decide +kernel
theorem dX9_sums_66 : decode cX9_sums 66 = .ok (.iadd, 1) := by decide +kernel
theorem dX9_sums_67 : decode cX9_sums 67 = .ok (.goto 6, 3) := by decide +kernel
theorem dX9_sums_70 : decode cX9_sums 70 = .ok (.iload_n 1, 1) := by decide +kernel
theorem dX9_sums_71 : decode cX9_sums 71 = .ok (.iload_n 3, 1) := by decide +kernel
theorem dX9_sums_72 : decode cX9_sums 72 = .ok (.isub, 1) := by decide +kernel
theorem dX9_sums_73 : decode cX9_sums 73 = .ok (.istore_n 1, 1) := by decide +kernel
theorem dX9_sums_74 : decode cX9_sums 74 = .ok (.goto (-69), 3) := by decide +kernel
theorem dX9_sums_77 : decode cX9_sums 77 = .ok (.iload_n 1, 1) := by decide +kernel
theorem dX9_sums_78 : decode cX9_sums 78 = .ok (.ireturn, 1) := by decide +kernel
theorem dX9_product_0 : decode cX9_product 0 = .ok (.aload_n 0, 1) := by decide +kernel
theorem dX9_product_1 : decode cX9_product 1 = .ok (.invokevirtual 155, 3) := by decide +kernel
theorem dX9_product_4 : decode cX9_product 4 = .ok (.istore_n 1, 1) := by decide +kernel
theorem dX9_product_5 : decode cX9_product 5 = .ok (.aload_n 0, 1) := by decide +kernel
theorem dX9_product_6 : decode cX9_product 6 = .ok (.invokevirtual 136, 3) := by decide +kernel
theorem dX9_product_9 : decode cX9_product 9 = .ok (.istore_n 2, 1) := by decide +kernel
theorem dX9_product_10 : decode cX9_product 10 = .ok (.aload_n 0, 1) := by decide +kernel
theorem dX9_product_11 : decode cX9_product 11 = .ok (.getfield 133, 3) := by decide +kernel
theorem dX9_product_14 : decode cX9_product 14 = .ok (.ifCond .ge 80, 3) := by decide +kernel
theorem dX9_product_17 : decode cX9_product 17 = .ok (.iload_n 2, 1) := by decide +kernel
theorem dX9_product_18 : decode cX9_product 18 = .ok (.bipush 42, 2) := by decide +kernel
theorem dX9_product_20 : decode cX9_product 20 = .ok (.if_icmp .eq 15, 3) := by decide +kernel
theorem dX9_product_23 : decode cX9_product 23 = .ok (.iload_n 2, 1) := by decide +kernel
theorem dX9_product_24 : decode cX9_product 24 = .ok (.bipush 47, 2) := by decide +kernel
theorem dX9_product_26 : decode cX9_product 26 = .ok (.if_icmp .eq 9, 3) := by decide +kernel
theorem dX9_product_29 : decode cX9_product 29 = .ok (.iload_n 2, 1) := by decide +kernel
theorem dX9_product_30 : decode cX9_product 30 = .ok (.bipush 37, 2) := by decide +kernel
theorem dX9_product_32 : decode cX9_product 32 = .ok (.if_icmp .ne 62, 3) := by decide +kernel
theorem dX9_product_35 : decode cX9_product 35 = .ok (.aload_n 0, 1) := by decide +kernel
theorem dX9_product_36 : decode cX9_product 36 = .ok (.dup, 1) := by decide +kernel
theorem dX9_product_37 : decode cX9_product 37 = .ok (.getfield 124, 3) := by decide +kernel
theorem dX9_product_40 : decode cX9_product 40 = .ok (.iconst 1, 1) := by decide +kernel
theorem dX9_product_41 : decode cX9_product 41 = .ok (.iadd, 1) := by decide +kernel
theorem dX9_product_42 : decode cX9_product 42 = .ok (.putfield 124, 3) := by decide +kernel
theorem dX9_product_45 : decode cX9_product 45 = .ok (.aload_n 0, 1) := by decide +kernel
theorem dX9_product_46 : decode cX9_product 46 = .ok (.invokevirtual 155, 3) := by decide +kernel
theorem dX9_product_49 : decode cX9_product 49 = .ok (.istore_n 3, 1) := by decide +kernel
theorem dX9_product_50 : decode cX9_product 50 = .ok (.iload_n 2, 1) := by decide +kernel
theorem dX9_product_51 : decode cX9_product 51 = .ok (.bipush 42, 2) := by decide +kernel
theorem dX9_product_53 : decode cX9_product 53 = .ok (.if_icmp .ne 9, 3) := by decide +kernel
theorem dX9_product_56 : decode cX9_product 56 = .ok (.iload_n 1, 1) := by decide +kernel
theorem dX9_product_57 : decode cX9_product 57 = .ok (.iload_n 3, 1) := by decide +kernel
theorem dX9_product_58 : decode cX9_product 58 = .ok (.imul, 1) := by decide +kernel
theorem dX9_product_59 : decode cX9_product 59 = .ok (.goto 26, 3) := by decide +kernel
theorem dX9_product_62 : decode cX9_product 62 = .ok (.iload_n 3, 1) := by decide +kernel
theorem dX9_product_63 : decode cX9_product 63 = .ok (.ifCond .ne 7, 3) := by decide +kernel
theorem dX9_product_66 : decode cX9_product 66 = .ok (.iconst 0, 1) := by decide +kernel
theorem dX9_product_67 : decode cX9_product 67 = .ok (.goto 18, 3) := by decide +kernel
theorem dX9_product_70 : decode cX9_product 70 = .ok (.iload_n 2, 1) := by decide +kernel
theorem dX9_product_71 : decode cX9_product 71 = .ok (.bipush 47, 2) := by decide +kernel
theorem dX9_product_73 : decode cX9_product 73 = .ok (.if_icmp .ne 9, 3) := by decide +kernel
theorem dX9_product_76 : decode cX9_product 76 = .ok (.iload_n 1, 1) := by decide +kernel
theorem dX9_product_77 : decode cX9_product 77 = .ok (.iload_n 3, 1) := by decide +kernel
theorem dX9_product_78 : decode cX9_product 78 = .ok (.idiv, 1) := by decide +kernel
theorem dX9_product_79 : decode cX9_product 79 = .ok (.goto 6, 3) := by decide +kernel
theorem dX9_product_82 : decode cX9_product 82 = .ok (.iload_n 1, 1) := by decide +kernel
theorem dX9_product_83 : decode cX9_product 83 = .ok (.iload_n 3, 1) := by decide +kernel
theorem dX9_product_84 : decode cX9_product 84 = .ok (.irem, 1) := by decide +kernel
theorem dX9_product_85 : decode cX9_product 85 = .ok (.istore_n 1, 1) := by decide +kernel
theorem dX9_product_86 : decode cX9_product 86 = .ok (.aload_n 0, 1) := by decide +kernel
theorem dX9_product_87 : decode cX9_product 87 = .ok (.invokevirtual 136, 3) := by decide +kernel
theorem dX9_product_90 : decode cX9_product 90 = .ok (.istore_n 2, 1) := by decide +kernel
theorem dX9_product_91 : decode cX9_product 91 = .ok (.goto (-81), 3) := by decide +kernel
theorem dX9_product_94 : decode cX9_product 94 = .ok (.iload_n 1, 1) := by decide +kernel
theorem dX9_product_95 : decode cX9_product 95 = .ok (.ireturn, 1) := by decide +kernel
theorem dX9_nameOf_0 : decode cX9_nameOf 0 = .ok (.iload_n 0, 1) := by decide +kernel
theorem dX9_nameOf_1 : decode cX9_nameOf 1 = .ok (.tableswitch 114 99 119 #[101, 114, 114, 114, 114, 114, 111, 114, 109, 114, 114, 105, 114, 103, 114, 114, 114, 107, 114, 114, 99], 99) := by decide +kernel
theorem dX9_nameOf_100 : decode cX9_nameOf 100 = .ok (.iconst 0, 1) := by decide +kernel
theorem dX9_nameOf_101 : decode cX9_nameOf 101 = .ok (.ireturn, 1) := by decide +kernel
theorem dX9_nameOf_102 : decode cX9_nameOf 102 = .ok (.iconst 1, 1) := by decide +kernel
theorem dX9_nameOf_103 : decode cX9_nameOf 103 = .ok (.ireturn, 1) := by decide +kernel
theorem dX9_nameOf_104 : decode cX9_nameOf 104 = .ok (.iconst 2, 1) := by decide +kernel
theorem dX9_nameOf_105 : decode cX9_nameOf 105 = .ok (.ireturn, 1) := by decide +kernel
theorem dX9_nameOf_106 : decode cX9_nameOf 106 = .ok (.iconst 3, 1) := by decide +kernel
theorem dX9_nameOf_107 : decode cX9_nameOf 107 = .ok (.ireturn, 1) := by decide +kernel
theorem dX9_nameOf_108 : decode cX9_nameOf 108 = .ok (.iconst 4, 1) := by decide +kernel
theorem dX9_nameOf_109 : decode cX9_nameOf 109 = .ok (.ireturn, 1) := by decide +kernel
theorem dX9_nameOf_110 : decode cX9_nameOf 110 = .ok (.iconst 5, 1) := by decide +kernel
theorem dX9_nameOf_111 : decode cX9_nameOf 111 = .ok (.ireturn, 1) := by decide +kernel
theorem dX9_nameOf_112 : decode cX9_nameOf 112 = .ok (.bipush 6, 2) := by decide +kernel
theorem dX9_nameOf_114 : decode cX9_nameOf 114 = .ok (.ireturn, 1) := by decide +kernel
theorem dX9_nameOf_115 : decode cX9_nameOf 115 = .ok (.iconst (-1), 1) := by decide +kernel
theorem dX9_nameOf_116 : decode cX9_nameOf 116 = .ok (.ireturn, 1) := by decide +kernel
theorem dX9_one_0 : decode cX9_one 0 = .ok (.aload_n 0, 1) := by decide +kernel
theorem dX9_one_1 : decode cX9_one 1 = .ok (.getfield 133, 3) := by decide +kernel
theorem dX9_one_4 : decode cX9_one 4 = .ok (.ifCond .lt 5, 3) := by decide +kernel
theorem dX9_one_7 : decode cX9_one 7 = .ok (.iconst 0, 1) := by decide +kernel
theorem dX9_one_8 : decode cX9_one 8 = .ok (.ireturn, 1) := by decide +kernel
theorem dX9_one_9 : decode cX9_one 9 = .ok (.aload_n 0, 1) := by decide +kernel
theorem dX9_one_10 : decode cX9_one 10 = .ok (.invokevirtual 136, 3) := by decide +kernel
theorem dX9_one_13 : decode cX9_one 13 = .ok (.istore_n 1, 1) := by decide +kernel
theorem dX9_one_14 : decode cX9_one 14 = .ok (.iload_n 1, 1) := by decide +kernel
theorem dX9_one_15 : decode cX9_one 15 = .ok (.bipush 33, 2) := by decide +kernel
theorem dX9_one_17 : decode cX9_one 17 = .ok (.if_icmp .eq 15, 3) := by decide +kernel
theorem dX9_one_20 : decode cX9_one 20 = .ok (.iload_n 1, 1) := by decide +kernel
theorem dX9_one_21 : decode cX9_one 21 = .ok (.bipush 45, 2) := by decide +kernel
theorem dX9_one_23 : decode cX9_one 23 = .ok (.if_icmp .eq 9, 3) := by decide +kernel
theorem dX9_one_26 : decode cX9_one 26 = .ok (.iload_n 1, 1) := by decide +kernel
theorem dX9_one_27 : decode cX9_one 27 = .ok (.bipush 40, 2) := by decide +kernel
theorem dX9_one_29 : decode cX9_one 29 = .ok (.if_icmp .ne 116, 3) := by decide +kernel
theorem dX9_one_32 : decode cX9_one 32 = .ok (.aload_n 0, 1) := by decide +kernel
theorem dX9_one_33 : decode cX9_one 33 = .ok (.getfield 158, 3) := by decide +kernel
theorem dX9_one_36 : decode cX9_one 36 = .ok (.bipush 6, 2) := by decide +kernel
theorem dX9_one_38 : decode cX9_one 38 = .ok (.if_icmp .ne 8, 3) := by decide +kernel
theorem dX9_one_41 : decode cX9_one 41 = .ok (.aload_n 0, 1) := by decide +kernel
theorem dX9_one_42 : decode cX9_one 42 = .ok (.invokevirtual 161, 3) := by decide +kernel
theorem dX9_one_45 : decode cX9_one 45 = .ok (.ireturn, 1) := by decide +kernel
theorem dX9_one_46 : decode cX9_one 46 = .ok (.aload_n 0, 1) := by decide +kernel
theorem dX9_one_47 : decode cX9_one 47 = .ok (.dup, 1) := by decide +kernel
theorem dX9_one_48 : decode cX9_one 48 = .ok (.getfield 158, 3) := by decide +kernel
theorem dX9_one_51 : decode cX9_one 51 = .ok (.iconst 1, 1) := by decide +kernel
theorem dX9_one_52 : decode cX9_one 52 = .ok (.iadd, 1) := by decide +kernel
theorem dX9_one_53 : decode cX9_one 53 = .ok (.putfield 158, 3) := by decide +kernel
theorem dX9_one_56 : decode cX9_one 56 = .ok (.aload_n 0, 1) := by decide +kernel
theorem dX9_one_57 : decode cX9_one 57 = .ok (.dup, 1) := by decide +kernel
theorem dX9_one_58 : decode cX9_one 58 = .ok (.getfield 124, 3) := by decide +kernel
theorem dX9_one_61 : decode cX9_one 61 = .ok (.iconst 1, 1) := by decide +kernel
theorem dX9_one_62 : decode cX9_one 62 = .ok (.iadd, 1) := by decide +kernel
theorem dX9_one_63 : decode cX9_one 63 = .ok (.putfield 124, 3) := by decide +kernel
theorem dX9_one_66 : decode cX9_one 66 = .ok (.iload_n 1, 1) := by decide +kernel
theorem dX9_one_67 : decode cX9_one 67 = .ok (.bipush 40, 2) := by decide +kernel
theorem dX9_one_69 : decode cX9_one 69 = .ok (.if_icmp .ne 10, 3) := by decide +kernel
theorem dX9_one_72 : decode cX9_one 72 = .ok (.aload_n 0, 1) := by decide +kernel
theorem dX9_one_73 : decode cX9_one 73 = .ok (.invokevirtual 164, 3) := by decide +kernel
theorem dX9_one_76 : decode cX9_one 76 = .ok (.goto 7, 3) := by decide +kernel
theorem dX9_one_79 : decode cX9_one 79 = .ok (.aload_n 0, 1) := by decide +kernel
theorem dX9_one_80 : decode cX9_one 80 = .ok (.invokevirtual 155, 3) := by decide +kernel
theorem dX9_one_83 : decode cX9_one 83 = .ok (.istore_n 2, 1) := by decide +kernel
theorem dX9_one_84 : decode cX9_one 84 = .ok (.iload_n 1, 1) := by decide +kernel
theorem dX9_one_85 : decode cX9_one 85 = .ok (.bipush 40, 2) := by decide +kernel
theorem dX9_one_87 : decode cX9_one 87 = .ok (.if_icmp .ne 17, 3) := by decide +kernel
theorem dX9_one_90 : decode cX9_one 90 = .ok (.aload_n 0, 1) := by decide +kernel
theorem dX9_one_91 : decode cX9_one 91 = .ok (.bipush 41, 2) := by decide +kernel
theorem dX9_one_93 : decode cX9_one 93 = .ok (.invokevirtual 143, 3) := by decide +kernel
theorem dX9_one_96 : decode cX9_one 96 = .ok (.ifCond .ne 8, 3) := by decide +kernel
theorem dX9_one_99 : decode cX9_one 99 = .ok (.aload_n 0, 1) := by decide +kernel
theorem dX9_one_100 : decode cX9_one 100 = .ok (.invokevirtual 161, 3) := by decide +kernel
theorem dX9_one_103 : decode cX9_one 103 = .ok (.ireturn, 1) := by decide +kernel
theorem dX9_one_104 : decode cX9_one 104 = .ok (.aload_n 0, 1) := by decide +kernel
theorem dX9_one_105 : decode cX9_one 105 = .ok (.dup, 1) := by decide +kernel
theorem dX9_one_106 : decode cX9_one 106 = .ok (.getfield 158, 3) := by decide +kernel
theorem dX9_one_109 : decode cX9_one 109 = .ok (.iconst 1, 1) := by decide +kernel
theorem dX9_one_110 : decode cX9_one 110 = .ok (.isub, 1) := by decide +kernel
theorem dX9_one_111 : decode cX9_one 111 = .ok (.putfield 158, 3) := by decide +kernel
theorem dX9_one_114 : decode cX9_one 114 = .ok (.iload_n 1, 1) := by decide +kernel
theorem dX9_one_115 : decode cX9_one 115 = .ok (.bipush 40, 2) := by decide +kernel
theorem dX9_one_117 : decode cX9_one 117 = .ok (.if_icmp .ne 7, 3) := by decide +kernel
theorem dX9_one_120 : decode cX9_one 120 = .ok (.iload_n 2, 1) := by decide +kernel
theorem dX9_one_121 : decode cX9_one 121 = .ok (.goto 23, 3) := by decide +kernel
theorem dX9_one_124 : decode cX9_one 124 = .ok (.iload_n 1, 1) := by decide +kernel
theorem dX9_one_125 : decode cX9_one 125 = .ok (.bipush 45, 2) := by decide +kernel
theorem dX9_one_127 : decode cX9_one 127 = .ok (.if_icmp .ne 8, 3) := by decide +kernel
theorem dX9_one_130 : decode cX9_one 130 = .ok (.iload_n 2, 1) := by decide +kernel
theorem dX9_one_131 : decode cX9_one 131 = .ok (.ineg, 1) := by decide +kernel
theorem dX9_one_132 : decode cX9_one 132 = .ok (.goto 12, 3) := by decide +kernel
theorem dX9_one_135 : decode cX9_one 135 = .ok (.iload_n 2, 1) := by decide +kernel
theorem dX9_one_136 : decode cX9_one 136 = .ok (.ifCond .ne 7, 3) := by decide +kernel
theorem dX9_one_139 : decode cX9_one 139 = .ok (.iconst 1, 1) := by decide +kernel
theorem dX9_one_140 : decode cX9_one 140 = .ok (.goto 4, 3) := by decide +kernel
theorem dX9_one_143 : decode cX9_one 143 = .ok (.iconst 0, 1) := by decide +kernel
theorem dX9_one_144 : decode cX9_one 144 = .ok (.ireturn, 1) := by decide +kernel
theorem dX9_one_145 : decode cX9_one 145 = .ok (.iload_n 1, 1) := by decide +kernel
theorem dX9_one_146 : decode cX9_one 146 = .ok (.invokestatic 167, 3) := by decide +kernel
theorem dX9_one_149 : decode cX9_one 149 = .ok (.istore_n 2, 1) := by decide +kernel
theorem dX9_one_150 : decode cX9_one 150 = .ok (.iload_n 2, 1) := by decide +kernel
theorem dX9_one_151 : decode cX9_one 151 = .ok (.ifCond .lt 20, 3) := by decide +kernel
theorem dX9_one_154 : decode cX9_one 154 = .ok (.aload_n 0, 1) := by decide +kernel
theorem dX9_one_155 : decode cX9_one 155 = .ok (.dup, 1) := by decide +kernel
theorem dX9_one_156 : decode cX9_one 156 = .ok (.getfield 124, 3) := by decide +kernel
theorem dX9_one_159 : decode cX9_one 159 = .ok (.iconst 1, 1) := by decide +kernel
theorem dX9_one_160 : decode cX9_one 160 = .ok (.iadd, 1) := by decide +kernel
theorem dX9_one_161 : decode cX9_one 161 = .ok (.putfield 124, 3) := by decide +kernel
theorem dX9_one_164 : decode cX9_one 164 = .ok (.aload_n 0, 1) := by decide +kernel
theorem dX9_one_165 : decode cX9_one 165 = .ok (.getfield 31, 3) := by decide +kernel
theorem dX9_one_168 : decode cX9_one 168 = .ok (.iload_n 2, 1) := by decide +kernel
theorem dX9_one_169 : decode cX9_one 169 = .ok (.iaload, 1) := by decide +kernel
theorem dX9_one_170 : decode cX9_one 170 = .ok (.ireturn, 1) := by decide +kernel
theorem dX9_one_171 : decode cX9_one 171 = .ok (.iconst 0, 1) := by decide +kernel
theorem dX9_one_172 : decode cX9_one 172 = .ok (.istore_n 3, 1) := by decide +kernel
theorem dX9_one_173 : decode cX9_one 173 = .ok (.iconst 0, 1) := by decide +kernel
theorem dX9_one_174 : decode cX9_one 174 = .ok (.istore 4, 2) := by decide +kernel
theorem dX9_one_176 : decode cX9_one 176 = .ok (.iload 4, 2) := by decide +kernel
theorem dX9_one_178 : decode cX9_one 178 = .ok (.iconst 4, 1) := by decide +kernel
theorem dX9_one_179 : decode cX9_one 179 = .ok (.if_icmp .ge 50, 3) := by decide +kernel
theorem dX9_one_182 : decode cX9_one 182 = .ok (.aload_n 0, 1) := by decide +kernel
theorem dX9_one_183 : decode cX9_one 183 = .ok (.invokevirtual 136, 3) := by decide +kernel
theorem dX9_one_186 : decode cX9_one 186 = .ok (.bipush 48, 2) := by decide +kernel
theorem dX9_one_188 : decode cX9_one 188 = .ok (.if_icmp .lt 41, 3) := by decide +kernel
theorem dX9_one_191 : decode cX9_one 191 = .ok (.aload_n 0, 1) := by decide +kernel
theorem dX9_one_192 : decode cX9_one 192 = .ok (.invokevirtual 136, 3) := by decide +kernel
theorem dX9_one_195 : decode cX9_one 195 = .ok (.bipush 57, 2) := by decide +kernel
theorem dX9_one_197 : decode cX9_one 197 = .ok (.if_icmp .gt 32, 3) := by decide +kernel
theorem dX9_one_200 : decode cX9_one 200 = .ok (.bipush 10, 2) := by decide +kernel
theorem dX9_one_202 : decode cX9_one 202 = .ok (.iload_n 3, 1) := by decide +kernel
theorem dX9_one_203 : decode cX9_one 203 = .ok (.imul, 1) := by decide +kernel
theorem dX9_one_204 : decode cX9_one 204 = .ok (.aload_n 0, 1) := by decide +kernel
theorem dX9_one_205 : decode cX9_one 205 = .ok (.invokevirtual 136, 3) := by decide +kernel
theorem dX9_one_208 : decode cX9_one 208 = .ok (.iadd, 1) := by decide +kernel
theorem dX9_one_209 : decode cX9_one 209 = .ok (.bipush 48, 2) := by decide +kernel
theorem dX9_one_211 : decode cX9_one 211 = .ok (.isub, 1) := by decide +kernel
theorem dX9_one_212 : decode cX9_one 212 = .ok (.istore_n 3, 1) := by decide +kernel
theorem dX9_one_213 : decode cX9_one 213 = .ok (.iinc 4 1, 3) := by decide +kernel
theorem dX9_one_216 : decode cX9_one 216 = .ok (.aload_n 0, 1) := by decide +kernel
theorem dX9_one_217 : decode cX9_one 217 = .ok (.dup, 1) := by decide +kernel
theorem dX9_one_218 : decode cX9_one 218 = .ok (.getfield 124, 3) := by decide +kernel
theorem dX9_one_221 : decode cX9_one 221 = .ok (.iconst 1, 1) := by decide +kernel
theorem dX9_one_222 : decode cX9_one 222 = .ok (.iadd, 1) := by decide +kernel
theorem dX9_one_223 : decode cX9_one 223 = .ok (.putfield 124, 3) := by decide +kernel
theorem dX9_one_226 : decode cX9_one 226 = .ok (.goto (-50), 3) := by decide +kernel
theorem dX9_one_229 : decode cX9_one 229 = .ok (.iload 4, 2) := by decide +kernel
theorem dX9_one_231 : decode cX9_one 231 = .ok (.ifCond .ne 10, 3) := by decide +kernel
theorem dX9_one_234 : decode cX9_one 234 = .ok (.aload_n 0, 1) := by decide +kernel
theorem dX9_one_235 : decode cX9_one 235 = .ok (.invokevirtual 161, 3) := by decide +kernel
theorem dX9_one_238 : decode cX9_one 238 = .ok (.goto 4, 3) := by decide +kernel
theorem dX9_one_241 : decode cX9_one 241 = .ok (.iload_n 3, 1) := by decide +kernel
theorem dX9_one_242 : decode cX9_one 242 = .ok (.ireturn, 1) := by decide +kernel
theorem dX9_workOut_0 : decode cX9_workOut 0 = .ok (.aload_n 0, 1) := by decide +kernel
theorem dX9_workOut_1 : decode cX9_workOut 1 = .ok (.iload_n 1, 1) := by decide +kernel
theorem dX9_workOut_2 : decode cX9_workOut 2 = .ok (.putfield 130, 3) := by decide +kernel
theorem dX9_workOut_5 : decode cX9_workOut 5 = .ok (.aload_n 0, 1) := by decide +kernel
theorem dX9_workOut_6 : decode cX9_workOut 6 = .ok (.iconst 0, 1) := by decide +kernel
theorem dX9_workOut_7 : decode cX9_workOut 7 = .ok (.putfield 124, 3) := by decide +kernel
theorem dX9_workOut_10 : decode cX9_workOut 10 = .ok (.aload_n 0, 1) := by decide +kernel
theorem dX9_workOut_11 : decode cX9_workOut 11 = .ok (.iload_n 2, 1) := by decide +kernel
theorem dX9_workOut_12 : decode cX9_workOut 12 = .ok (.putfield 127, 3) := by decide +kernel
theorem dX9_workOut_15 : decode cX9_workOut 15 = .ok (.aload_n 0, 1) := by decide +kernel
theorem dX9_workOut_16 : decode cX9_workOut 16 = .ok (.iconst (-1), 1) := by decide +kernel
theorem dX9_workOut_17 : decode cX9_workOut 17 = .ok (.putfield 133, 3) := by decide +kernel
theorem dX9_workOut_20 : decode cX9_workOut 20 = .ok (.aload_n 0, 1) := by decide +kernel
theorem dX9_workOut_21 : decode cX9_workOut 21 = .ok (.iconst 0, 1) := by decide +kernel
theorem dX9_workOut_22 : decode cX9_workOut 22 = .ok (.putfield 158, 3) := by decide +kernel
theorem dX9_workOut_25 : decode cX9_workOut 25 = .ok (.iconst 0, 1) := by decide +kernel
theorem dX9_workOut_26 : decode cX9_workOut 26 = .ok (.istore_n 3, 1) := by decide +kernel
theorem dX9_workOut_27 : decode cX9_workOut 27 = .ok (.iconst 0, 1) := by decide +kernel
theorem dX9_workOut_28 : decode cX9_workOut 28 = .ok (.istore 4, 2) := by decide +kernel
theorem dX9_workOut_30 : decode cX9_workOut 30 = .ok (.iconst 1, 1) := by decide +kernel
theorem dX9_workOut_31 : decode cX9_workOut 31 = .ok (.istore 5, 2) := by decide +kernel
theorem dX9_workOut_33 : decode cX9_workOut 33 = .ok (.iload 5, 2) := by decide +kernel
theorem dX9_workOut_35 : decode cX9_workOut 35 = .ok (.ifCond .eq 72, 3) := by decide +kernel
theorem dX9_workOut_38 : decode cX9_workOut 38 = .ok (.aload_n 0, 1) := by decide +kernel
theorem dX9_workOut_39 : decode cX9_workOut 39 = .ok (.invokevirtual 164, 3) := by decide +kernel
theorem dX9_workOut_42 : decode cX9_workOut 42 = .ok (.istore 6, 2) := by decide +kernel
theorem dX9_workOut_44 : decode cX9_workOut 44 = .ok (.iconst 1, 1) := by decide +kernel
theorem dX9_workOut_45 : decode cX9_workOut 45 = .ok (.istore 7, 2) := by decide +kernel
theorem dX9_workOut_47 : decode cX9_workOut 47 = .ok (.aload_n 0, 1) := by decide +kernel
theorem dX9_workOut_48 : decode cX9_workOut 48 = .ok (.bipush 63, 2) := by decide +kernel
theorem dX9_workOut_50 : decode cX9_workOut 50 = .ok (.invokevirtual 143, 3) := by decide +kernel
theorem dX9_workOut_53 : decode cX9_workOut 53 = .ok (.ifCond .eq 21, 3) := by decide +kernel
theorem dX9_workOut_56 : decode cX9_workOut 56 = .ok (.iload 6, 2) := by decide +kernel
theorem dX9_workOut_58 : decode cX9_workOut 58 = .ok (.ifCond .eq 7, 3) := by decide +kernel
theorem dX9_workOut_61 : decode cX9_workOut 61 = .ok (.iconst 1, 1) := by decide +kernel
theorem dX9_workOut_62 : decode cX9_workOut 62 = .ok (.goto 4, 3) := by decide +kernel
theorem dX9_workOut_65 : decode cX9_workOut 65 = .ok (.iconst 0, 1) := by decide +kernel
theorem dX9_workOut_66 : decode cX9_workOut 66 = .ok (.istore 7, 2) := by decide +kernel
theorem dX9_workOut_68 : decode cX9_workOut 68 = .ok (.aload_n 0, 1) := by decide +kernel
theorem dX9_workOut_69 : decode cX9_workOut 69 = .ok (.invokevirtual 164, 3) := by decide +kernel
theorem dX9_workOut_72 : decode cX9_workOut 72 = .ok (.istore 6, 2) := by decide +kernel
theorem dX9_workOut_74 : decode cX9_workOut 74 = .ok (.aload_n 0, 1) := by decide +kernel
theorem dX9_workOut_75 : decode cX9_workOut 75 = .ok (.getfield 133, 3) := by decide +kernel
theorem dX9_workOut_78 : decode cX9_workOut 78 = .ok (.ifCond .ge 18, 3) := by decide +kernel
theorem dX9_workOut_81 : decode cX9_workOut 81 = .ok (.iload 7, 2) := by decide +kernel
theorem dX9_workOut_83 : decode cX9_workOut 83 = .ok (.ifCond .eq 13, 3) := by decide +kernel
theorem dX9_workOut_86 : decode cX9_workOut 86 = .ok (.iload_n 3, 1) := by decide +kernel
theorem dX9_workOut_87 : decode cX9_workOut 87 = .ok (.ifCond .ne 9, 3) := by decide +kernel
theorem dX9_workOut_90 : decode cX9_workOut 90 = .ok (.iconst 1, 1) := by decide +kernel
theorem dX9_workOut_91 : decode cX9_workOut 91 = .ok (.istore_n 3, 1) := by decide +kernel
theorem dX9_workOut_92 : decode cX9_workOut 92 = .ok (.iload 6, 2) := by decide +kernel
theorem dX9_workOut_94 : decode cX9_workOut 94 = .ok (.istore 4, 2) := by decide +kernel
theorem dX9_workOut_96 : decode cX9_workOut 96 = .ok (.aload_n 0, 1) := by decide +kernel
theorem dX9_workOut_97 : decode cX9_workOut 97 = .ok (.bipush 59, 2) := by decide +kernel
theorem dX9_workOut_99 : decode cX9_workOut 99 = .ok (.invokevirtual 143, 3) := by decide +kernel
theorem dX9_workOut_102 : decode cX9_workOut 102 = .ok (.istore 5, 2) := by decide +kernel
theorem dX9_workOut_104 : decode cX9_workOut 104 = .ok (.goto (-71), 3) := by decide +kernel
theorem dX9_workOut_107 : decode cX9_workOut 107 = .ok (.aload_n 0, 1) := by decide +kernel
theorem dX9_workOut_108 : decode cX9_workOut 108 = .ok (.getfield 133, 3) := by decide +kernel
theorem dX9_workOut_111 : decode cX9_workOut 111 = .ok (.ifCond .ge 19, 3) := by decide +kernel
theorem dX9_workOut_114 : decode cX9_workOut 114 = .ok (.aload_n 0, 1) := by decide +kernel
theorem dX9_workOut_115 : decode cX9_workOut 115 = .ok (.getfield 124, 3) := by decide +kernel
theorem dX9_workOut_118 : decode cX9_workOut 118 = .ok (.aload_n 0, 1) := by decide +kernel
theorem dX9_workOut_119 : decode cX9_workOut 119 = .ok (.getfield 127, 3) := by decide +kernel
theorem dX9_workOut_122 : decode cX9_workOut 122 = .ok (.if_icmp .ge 8, 3) := by decide +kernel
theorem dX9_workOut_125 : decode cX9_workOut 125 = .ok (.aload_n 0, 1) := by decide +kernel
theorem dX9_workOut_126 : decode cX9_workOut 126 = .ok (.invokevirtual 161, 3) := by decide +kernel
theorem dX9_workOut_129 : decode cX9_workOut 129 = .ok (.ireturn, 1) := by decide +kernel
theorem dX9_workOut_130 : decode cX9_workOut 130 = .ok (.iload 4, 2) := by decide +kernel
theorem dX9_workOut_132 : decode cX9_workOut 132 = .ok (.ireturn, 1) := by decide +kernel
theorem dX9_law_0 : decode cX9_law 0 = .ok (.aload_n 0, 1) := by decide +kernel
theorem dX9_law_1 : decode cX9_law 1 = .ok (.getfield 106, 3) := by decide +kernel
theorem dX9_law_4 : decode cX9_law 4 = .ok (.bipush 6, 2) := by decide +kernel
theorem dX9_law_6 : decode cX9_law 6 = .ok (.if_icmp .ne 6, 3) := by decide +kernel
theorem dX9_law_9 : decode cX9_law 9 = .ok (.bipush (-3), 2) := by decide +kernel
theorem dX9_law_11 : decode cX9_law 11 = .ok (.ireturn, 1) := by decide +kernel
theorem dX9_law_12 : decode cX9_law 12 = .ok (.aload_n 0, 1) := by decide +kernel
theorem dX9_law_13 : decode cX9_law 13 = .ok (.iconst (-1), 1) := by decide +kernel
theorem dX9_law_14 : decode cX9_law 14 = .ok (.aload_n 0, 1) := by decide +kernel
theorem dX9_law_15 : decode cX9_law 15 = .ok (.getfield 121, 3) := by decide +kernel
theorem dX9_law_18 : decode cX9_law 18 = .ok (.invokevirtual 171, 3) := by decide +kernel
theorem dX9_law_21 : decode cX9_law 21 = .ok (.istore_n 1, 1) := by decide +kernel
theorem dX9_law_22 : decode cX9_law 22 = .ok (.aload_n 0, 1) := by decide +kernel
theorem dX9_law_23 : decode cX9_law 23 = .ok (.getfield 121, 3) := by decide +kernel
theorem dX9_law_26 : decode cX9_law 26 = .ok (.istore_n 2, 1) := by decide +kernel
theorem dX9_law_27 : decode cX9_law 27 = .ok (.aload_n 0, 1) := by decide +kernel
theorem dX9_law_28 : decode cX9_law 28 = .ok (.iconst 0, 1) := by decide +kernel
theorem dX9_law_29 : decode cX9_law 29 = .ok (.putfield 121, 3) := by decide +kernel
theorem dX9_law_32 : decode cX9_law 32 = .ok (.aload_n 0, 1) := by decide +kernel
theorem dX9_law_33 : decode cX9_law 33 = .ok (.getfield 133, 3) := by decide +kernel
theorem dX9_law_36 : decode cX9_law 36 = .ok (.ifCond .lt 11, 3) := by decide +kernel
theorem dX9_law_39 : decode cX9_law 39 = .ok (.bipush (-100), 2) := by decide +kernel
theorem dX9_law_41 : decode cX9_law 41 = .ok (.aload_n 0, 1) := by decide +kernel
theorem dX9_law_42 : decode cX9_law 42 = .ok (.getfield 133, 3) := by decide +kernel
theorem dX9_law_45 : decode cX9_law 45 = .ok (.isub, 1) := by decide +kernel
theorem dX9_law_46 : decode cX9_law 46 = .ok (.ireturn, 1) := by decide +kernel
theorem dX9_law_47 : decode cX9_law 47 = .ok (.iconst 0, 1) := by decide +kernel
theorem dX9_law_48 : decode cX9_law 48 = .ok (.istore_n 3, 1) := by decide +kernel
theorem dX9_law_49 : decode cX9_law 49 = .ok (.iload_n 3, 1) := by decide +kernel
theorem dX9_law_50 : decode cX9_law 50 = .ok (.iload_n 2, 1) := by decide +kernel
theorem dX9_law_51 : decode cX9_law 51 = .ok (.if_icmp .ge 29, 3) := by decide +kernel
theorem dX9_law_54 : decode cX9_law 54 = .ok (.aload_n 0, 1) := by decide +kernel
theorem dX9_law_55 : decode cX9_law 55 = .ok (.getfield 25, 3) := by decide +kernel
theorem dX9_law_58 : decode cX9_law 58 = .ok (.bipush 120, 2) := by decide +kernel
theorem dX9_law_60 : decode cX9_law 60 = .ok (.aload_n 0, 1) := by decide +kernel
theorem dX9_law_61 : decode cX9_law 61 = .ok (.getfield 106, 3) := by decide +kernel
theorem dX9_law_64 : decode cX9_law 64 = .ok (.imul, 1) := by decide +kernel
theorem dX9_law_65 : decode cX9_law 65 = .ok (.iload_n 3, 1) := by decide +kernel
theorem dX9_law_66 : decode cX9_law 66 = .ok (.iadd, 1) := by decide +kernel
theorem dX9_law_67 : decode cX9_law 67 = .ok (.aload_n 0, 1) := by decide +kernel
theorem dX9_law_68 : decode cX9_law 68 = .ok (.getfield 22, 3) := by decide +kernel
theorem dX9_law_71 : decode cX9_law 71 = .ok (.iload_n 3, 1) := by decide +kernel
theorem dX9_law_72 : decode cX9_law 72 = .ok (.iaload, 1) := by decide +kernel
theorem dX9_law_73 : decode cX9_law 73 = .ok (.iastore, 1) := by decide +kernel
theorem dX9_law_74 : decode cX9_law 74 = .ok (.iinc 3 1, 3) := by decide +kernel
theorem dX9_law_77 : decode cX9_law 77 = .ok (.goto (-28), 3) := by decide +kernel
theorem dX9_law_80 : decode cX9_law 80 = .ok (.aload_n 0, 1) := by decide +kernel
theorem dX9_law_81 : decode cX9_law 81 = .ok (.getfield 28, 3) := by decide +kernel
theorem dX9_law_84 : decode cX9_law 84 = .ok (.aload_n 0, 1) := by decide +kernel
theorem dX9_law_85 : decode cX9_law 85 = .ok (.getfield 106, 3) := by decide +kernel
theorem dX9_law_88 : decode cX9_law 88 = .ok (.iload_n 2, 1) := by decide +kernel
theorem dX9_law_89 : decode cX9_law 89 = .ok (.iastore, 1) := by decide +kernel
theorem dX9_law_90 : decode cX9_law 90 = .ok (.aload_n 0, 1) := by decide +kernel
theorem dX9_law_91 : decode cX9_law 91 = .ok (.dup, 1) := by decide +kernel
theorem dX9_law_92 : decode cX9_law 92 = .ok (.getfield 106, 3) := by decide +kernel
theorem dX9_law_95 : decode cX9_law 95 = .ok (.iconst 1, 1) := by decide +kernel
theorem dX9_law_96 : decode cX9_law 96 = .ok (.iadd, 1) := by decide +kernel
theorem dX9_law_97 : decode cX9_law 97 = .ok (.putfield 106, 3) := by decide +kernel
theorem dX9_law_100 : decode cX9_law 100 = .ok (.aload_n 0, 1) := by decide +kernel
theorem dX9_law_101 : decode cX9_law 101 = .ok (.getfield 106, 3) := by decide +kernel
theorem dX9_law_104 : decode cX9_law 104 = .ok (.iconst 1, 1) := by decide +kernel
theorem dX9_law_105 : decode cX9_law 105 = .ok (.isub, 1) := by decide +kernel
theorem dX9_law_106 : decode cX9_law 106 = .ok (.ireturn, 1) := by decide +kernel
theorem dX9_isWorld_0 : decode cX9_isWorld 0 = .ok (.iload_n 1, 1) := by decide +kernel
theorem dX9_isWorld_1 : decode cX9_isWorld 1 = .ok (.i2l, 1) := by decide +kernel
theorem dX9_isWorld_2 : decode cX9_isWorld 2 = .ok (.lconst 0, 1) := by decide +kernel
theorem dX9_isWorld_3 : decode cX9_isWorld 3 = .ok (.aload_n 0, 1) := by decide +kernel
theorem dX9_isWorld_4 : decode cX9_isWorld 4 = .ok (.getfield 174, 3) := by decide +kernel
theorem dX9_isWorld_7 : decode cX9_isWorld 7 = .ok (.iconst 1, 1) := by decide +kernel
theorem dX9_isWorld_8 : decode cX9_isWorld 8 = .ok (.isub, 1) := by decide +kernel
theorem dX9_isWorld_9 : decode cX9_isWorld 9 = .ok (.i2l, 1) := by decide +kernel
theorem dX9_isWorld_10 : decode cX9_isWorld 10 = .ok (.invokestatic 102, 3) := by decide +kernel
theorem dX9_isWorld_13 : decode cX9_isWorld 13 = .ok (.ireturn, 1) := by decide +kernel
theorem dX9_countOf_0 : decode cX9_countOf 0 = .ok (.aload_n 0, 1) := by decide +kernel
theorem dX9_countOf_1 : decode cX9_countOf 1 = .ok (.getfield 9, 3) := by decide +kernel
theorem dX9_countOf_4 : decode cX9_countOf 4 = .ok (.bipush 23, 2) := by decide +kernel
theorem dX9_countOf_6 : decode cX9_countOf 6 = .ok (.bipush 12, 2) := by decide +kernel
theorem dX9_countOf_8 : decode cX9_countOf 8 = .ok (.iload_n 1, 1) := by decide +kernel
theorem dX9_countOf_9 : decode cX9_countOf 9 = .ok (.imul, 1) := by decide +kernel
theorem dX9_countOf_10 : decode cX9_countOf 10 = .ok (.iadd, 1) := by decide +kernel
theorem dX9_countOf_11 : decode cX9_countOf 11 = .ok (.iload_n 2, 1) := by decide +kernel
theorem dX9_countOf_12 : decode cX9_countOf 12 = .ok (.iadd, 1) := by decide +kernel
theorem dX9_countOf_13 : decode cX9_countOf 13 = .ok (.iaload, 1) := by decide +kernel
theorem dX9_countOf_14 : decode cX9_countOf 14 = .ok (.ireturn, 1) := by decide +kernel
theorem dX9_begins_0 : decode cX9_begins 0 = .ok (.aload_n 0, 1) := by decide +kernel
theorem dX9_begins_1 : decode cX9_begins 1 = .ok (.getfield 34, 3) := by decide +kernel
theorem dX9_begins_4 : decode cX9_begins 4 = .ok (.iload_n 1, 1) := by decide +kernel
theorem dX9_begins_5 : decode cX9_begins 5 = .ok (.iload_n 2, 1) := by decide +kernel
theorem dX9_begins_6 : decode cX9_begins 6 = .ok (.iastore, 1) := by decide +kernel
theorem dX9_begins_7 : decode cX9_begins 7 = .ok (.aload_n 0, 1) := by decide +kernel
theorem dX9_begins_8 : decode cX9_begins 8 = .ok (.getfield 37, 3) := by decide +kernel
theorem dX9_begins_11 : decode cX9_begins 11 = .ok (.iload_n 1, 1) := by decide +kernel
theorem dX9_begins_12 : decode cX9_begins 12 = .ok (.iload_n 3, 1) := by decide +kernel
theorem dX9_begins_13 : decode cX9_begins 13 = .ok (.iastore, 1) := by decide +kernel
theorem dX9_begins_14 : decode cX9_begins 14 = .ok (.aload_n 0, 1) := by decide +kernel
theorem dX9_begins_15 : decode cX9_begins 15 = .ok (.getfield 40, 3) := by decide +kernel
theorem dX9_begins_18 : decode cX9_begins 18 = .ok (.iload_n 1, 1) := by decide +kernel
theorem dX9_begins_19 : decode cX9_begins 19 = .ok (.iload 4, 2) := by decide +kernel
theorem dX9_begins_21 : decode cX9_begins 21 = .ok (.iastore, 1) := by decide +kernel
theorem dX9_begins_22 : decode cX9_begins 22 = .ok (.aload_n 0, 1) := by decide +kernel
theorem dX9_begins_23 : decode cX9_begins 23 = .ok (.getfield 9, 3) := by decide +kernel
theorem dX9_begins_26 : decode cX9_begins 26 = .ok (.bipush 12, 2) := by decide +kernel
theorem dX9_begins_28 : decode cX9_begins 28 = .ok (.iload_n 1, 1) := by decide +kernel
theorem dX9_begins_29 : decode cX9_begins 29 = .ok (.iadd, 1) := by decide +kernel
theorem dX9_begins_30 : decode cX9_begins 30 = .ok (.iload 5, 2) := by decide +kernel
theorem dX9_begins_32 : decode cX9_begins 32 = .ok (.iastore, 1) := by decide +kernel
theorem dX9_begins_33 : decode cX9_begins 33 = .ok (.aload_n 0, 1) := by decide +kernel
theorem dX9_begins_34 : decode cX9_begins 34 = .ok (.getfield 43, 3) := by decide +kernel
theorem dX9_begins_37 : decode cX9_begins 37 = .ok (.iload_n 1, 1) := by decide +kernel
theorem dX9_begins_38 : decode cX9_begins 38 = .ok (.iload 6, 2) := by decide +kernel
theorem dX9_begins_40 : decode cX9_begins 40 = .ok (.iastore, 1) := by decide +kernel
theorem dX9_begins_41 : decode cX9_begins 41 = .ok (.aload_n 0, 1) := by decide +kernel
theorem dX9_begins_42 : decode cX9_begins 42 = .ok (.getfield 46, 3) := by decide +kernel
theorem dX9_begins_45 : decode cX9_begins 45 = .ok (.iload_n 1, 1) := by decide +kernel
theorem dX9_begins_46 : decode cX9_begins 46 = .ok (.iconst 0, 1) := by decide +kernel
theorem dX9_begins_47 : decode cX9_begins 47 = .ok (.iastore, 1) := by decide +kernel
theorem dX9_begins_48 : decode cX9_begins 48 = .ok (.aload_n 0, 1) := by decide +kernel
theorem dX9_begins_49 : decode cX9_begins 49 = .ok (.getfield 49, 3) := by decide +kernel
theorem dX9_begins_52 : decode cX9_begins 52 = .ok (.iload_n 1, 1) := by decide +kernel
theorem dX9_begins_53 : decode cX9_begins 53 = .ok (.iconst 0, 1) := by decide +kernel
theorem dX9_begins_54 : decode cX9_begins 54 = .ok (.iastore, 1) := by decide +kernel
theorem dX9_begins_55 : decode cX9_begins 55 = .ok (.iconst 0, 1) := by decide +kernel
theorem dX9_begins_56 : decode cX9_begins 56 = .ok (.istore 7, 2) := by decide +kernel
theorem dX9_begins_58 : decode cX9_begins 58 = .ok (.iload 7, 2) := by decide +kernel
theorem dX9_begins_60 : decode cX9_begins 60 = .ok (.bipush 12, 2) := by decide +kernel
theorem dX9_begins_62 : decode cX9_begins 62 = .ok (.if_icmp .ge 25, 3) := by decide +kernel
theorem dX9_begins_65 : decode cX9_begins 65 = .ok (.aload_n 0, 1) := by decide +kernel
theorem dX9_begins_66 : decode cX9_begins 66 = .ok (.getfield 9, 3) := by decide +kernel
theorem dX9_begins_69 : decode cX9_begins 69 = .ok (.bipush 23, 2) := by decide +kernel
end
section
theorem dX9_begins_71 : decode cX9_begins 71 = .ok (.bipush 12, 2) := by decide +kernel
theorem dX9_begins_73 : decode cX9_begins 73 = .ok (.iload_n 1, 1) := by decide +kernel
theorem dX9_begins_74 : decode cX9_begins 74 = .ok (.imul, 1) := by decide +kernel
theorem dX9_begins_75 : decode cX9_begins 75 = .ok (.iadd, 1) := by decide +kernel
theorem dX9_begins_76 : decode cX9_begins 76 = .ok (.iload 7, 2) := by decide +kernel
theorem dX9_begins_78 : decode cX9_begins 78 = .ok (.iadd, 1) := by decide +kernel
theorem dX9_begins_79 : decode cX9_begins 79 = .ok (.iconst 0, 1) := by decide +kernel
theorem dX9_begins_80 : decode cX9_begins 80 = .ok (.iastore, 1) := by decide +kernel
theorem dX9_begins_81 : decode cX9_begins 81 = .ok (.iinc 7 1, 3) := by decide +kernel
theorem dX9_begins_84 : decode cX9_begins 84 = .ok (.goto (-26), 3) := by decide +kernel
theorem dX9_begins_87 : decode cX9_begins 87 = .ok (.return_, 1) := by decide +kernel
theorem dX9_world_0 : decode cX9_world 0 = .ok (.iload_n 1, 1) := by decide +kernel
theorem dX9_world_1 : decode cX9_world 1 = .ok (.ifCond .lt 34, 3) := by decide +kernel
theorem dX9_world_4 : decode cX9_world 4 = .ok (.aload_n 0, 1) := by decide +kernel
theorem dX9_world_5 : decode cX9_world 5 = .ok (.iload_n 1, 1) := by decide +kernel
theorem dX9_world_6 : decode cX9_world 6 = .ok (.bipush 10, 2) := by decide +kernel
theorem dX9_world_8 : decode cX9_world 8 = .ok (.idiv, 1) := by decide +kernel
theorem dX9_world_9 : decode cX9_world 9 = .ok (.invokevirtual 177, 3) := by decide +kernel
theorem dX9_world_12 : decode cX9_world 12 = .ok (.ifCond .eq 23, 3) := by decide +kernel
theorem dX9_world_15 : decode cX9_world 15 = .ok (.iload_n 1, 1) := by decide +kernel
theorem dX9_world_16 : decode cX9_world 16 = .ok (.bipush 10, 2) := by decide +kernel
theorem dX9_world_18 : decode cX9_world 18 = .ok (.irem, 1) := by decide +kernel
theorem dX9_world_19 : decode cX9_world 19 = .ok (.iconst 2, 1) := by decide +kernel
theorem dX9_world_20 : decode cX9_world 20 = .ok (.if_icmp .gt 15, 3) := by decide +kernel
theorem dX9_world_23 : decode cX9_world 23 = .ok (.iload_n 2, 1) := by decide +kernel
theorem dX9_world_24 : decode cX9_world 24 = .ok (.i2l, 1) := by decide +kernel
theorem dX9_world_25 : decode cX9_world 25 = .ok (.lconst 0, 1) := by decide +kernel
theorem dX9_world_26 : decode cX9_world 26 = .ok (.ldc2_w 180, 3) := by decide +kernel
theorem dX9_world_29 : decode cX9_world 29 = .ok (.invokestatic 102, 3) := by decide +kernel
theorem dX9_world_32 : decode cX9_world 32 = .ok (.ifCond .ne 5, 3) := by decide +kernel
theorem dX9_world_35 : decode cX9_world 35 = .ok (.iconst (-1), 1) := by decide +kernel
theorem dX9_world_36 : decode cX9_world 36 = .ok (.ireturn, 1) := by decide +kernel
theorem dX9_world_37 : decode cX9_world 37 = .ok (.aload_n 0, 1) := by decide +kernel
theorem dX9_world_38 : decode cX9_world 38 = .ok (.getfield 174, 3) := by decide +kernel
theorem dX9_world_41 : decode cX9_world 41 = .ok (.bipush 9, 2) := by decide +kernel
theorem dX9_world_43 : decode cX9_world 43 = .ok (.if_icmp .ne 6, 3) := by decide +kernel
theorem dX9_world_46 : decode cX9_world 46 = .ok (.bipush (-3), 2) := by decide +kernel
theorem dX9_world_48 : decode cX9_world 48 = .ok (.ireturn, 1) := by decide +kernel
theorem dX9_world_49 : decode cX9_world 49 = .ok (.aload_n 0, 1) := by decide +kernel
theorem dX9_world_50 : decode cX9_world 50 = .ok (.aload_n 0, 1) := by decide +kernel
theorem dX9_world_51 : decode cX9_world 51 = .ok (.getfield 174, 3) := by decide +kernel
theorem dX9_world_54 : decode cX9_world 54 = .ok (.iload_n 1, 1) := by decide +kernel
theorem dX9_world_55 : decode cX9_world 55 = .ok (.bipush 10, 2) := by decide +kernel
theorem dX9_world_57 : decode cX9_world 57 = .ok (.idiv, 1) := by decide +kernel
theorem dX9_world_58 : decode cX9_world 58 = .ok (.iload_n 1, 1) := by decide +kernel
theorem dX9_world_59 : decode cX9_world 59 = .ok (.bipush 10, 2) := by decide +kernel
theorem dX9_world_61 : decode cX9_world 61 = .ok (.irem, 1) := by decide +kernel
theorem dX9_world_62 : decode cX9_world 62 = .ok (.iload_n 2, 1) := by decide +kernel
theorem dX9_world_63 : decode cX9_world 63 = .ok (.sipush 10000, 3) := by decide +kernel
theorem dX9_world_66 : decode cX9_world 66 = .ok (.idiv, 1) := by decide +kernel
theorem dX9_world_67 : decode cX9_world 67 = .ok (.iload_n 2, 1) := by decide +kernel
theorem dX9_world_68 : decode cX9_world 68 = .ok (.sipush 10000, 3) := by decide +kernel
theorem dX9_world_71 : decode cX9_world 71 = .ok (.irem, 1) := by decide +kernel
theorem dX9_world_72 : decode cX9_world 72 = .ok (.iload_n 3, 1) := by decide +kernel
theorem dX9_world_73 : decode cX9_world 73 = .ok (.invokevirtual 182, 3) := by decide +kernel
theorem dX9_world_76 : decode cX9_world 76 = .ok (.aload_n 0, 1) := by decide +kernel
theorem dX9_world_77 : decode cX9_world 77 = .ok (.dup, 1) := by decide +kernel
theorem dX9_world_78 : decode cX9_world 78 = .ok (.getfield 174, 3) := by decide +kernel
theorem dX9_world_81 : decode cX9_world 81 = .ok (.iconst 1, 1) := by decide +kernel
theorem dX9_world_82 : decode cX9_world 82 = .ok (.iadd, 1) := by decide +kernel
theorem dX9_world_83 : decode cX9_world 83 = .ok (.putfield 174, 3) := by decide +kernel
theorem dX9_world_86 : decode cX9_world 86 = .ok (.aload_n 0, 1) := by decide +kernel
theorem dX9_world_87 : decode cX9_world 87 = .ok (.getfield 174, 3) := by decide +kernel
theorem dX9_world_90 : decode cX9_world 90 = .ok (.iconst 1, 1) := by decide +kernel
theorem dX9_world_91 : decode cX9_world 91 = .ok (.isub, 1) := by decide +kernel
theorem dX9_world_92 : decode cX9_world 92 = .ok (.ireturn, 1) := by decide +kernel
theorem dX9_nothing_0 : decode cX9_nothing 0 = .ok (.aload_n 0, 1) := by decide +kernel
theorem dX9_nothing_1 : decode cX9_nothing 1 = .ok (.iload_n 1, 1) := by decide +kernel
theorem dX9_nothing_2 : decode cX9_nothing 2 = .ok (.invokevirtual 186, 3) := by decide +kernel
theorem dX9_nothing_5 : decode cX9_nothing 5 = .ok (.ifCond .eq 27, 3) := by decide +kernel
theorem dX9_nothing_8 : decode cX9_nothing 8 = .ok (.iload_n 2, 1) := by decide +kernel
theorem dX9_nothing_9 : decode cX9_nothing 9 = .ok (.i2l, 1) := by decide +kernel
theorem dX9_nothing_10 : decode cX9_nothing 10 = .ok (.lconst 0, 1) := by decide +kernel
theorem dX9_nothing_11 : decode cX9_nothing 11 = .ok (.ldc2_w 189, 3) := by decide +kernel
theorem dX9_nothing_14 : decode cX9_nothing 14 = .ok (.invokestatic 102, 3) := by decide +kernel
theorem dX9_nothing_17 : decode cX9_nothing 17 = .ok (.ifCond .eq 15, 3) := by decide +kernel
theorem dX9_nothing_20 : decode cX9_nothing 20 = .ok (.aload_n 0, 1) := by decide +kernel
theorem dX9_nothing_21 : decode cX9_nothing 21 = .ok (.bipush 12, 2) := by decide +kernel
theorem dX9_nothing_23 : decode cX9_nothing 23 = .ok (.iload_n 1, 1) := by decide +kernel
theorem dX9_nothing_24 : decode cX9_nothing 24 = .ok (.iadd, 1) := by decide +kernel
theorem dX9_nothing_25 : decode cX9_nothing 25 = .ok (.iload_n 2, 1) := by decide +kernel
theorem dX9_nothing_26 : decode cX9_nothing 26 = .ok (.invokevirtual 115, 3) := by decide +kernel
theorem dX9_nothing_29 : decode cX9_nothing 29 = .ok (.goto 4, 3) := by decide +kernel
theorem dX9_nothing_32 : decode cX9_nothing 32 = .ok (.iconst (-1), 1) := by decide +kernel
theorem dX9_nothing_33 : decode cX9_nothing 33 = .ok (.ireturn, 1) := by decide +kernel
theorem dX9_place_0 : decode cX9_place 0 = .ok (.iconst 0, 1) := by decide +kernel
theorem dX9_place_1 : decode cX9_place 1 = .ok (.istore_n 3, 1) := by decide +kernel
theorem dX9_place_2 : decode cX9_place 2 = .ok (.iconst 0, 1) := by decide +kernel
theorem dX9_place_3 : decode cX9_place 3 = .ok (.istore 4, 2) := by decide +kernel
theorem dX9_place_5 : decode cX9_place 5 = .ok (.iload 4, 2) := by decide +kernel
theorem dX9_place_7 : decode cX9_place 7 = .ok (.aload_n 0, 1) := by decide +kernel
theorem dX9_place_8 : decode cX9_place 8 = .ok (.getfield 99, 3) := by decide +kernel
theorem dX9_place_11 : decode cX9_place 11 = .ok (.if_icmp .ge 55, 3) := by decide +kernel
theorem dX9_place_14 : decode cX9_place 14 = .ok (.iload_n 3, 1) := by decide +kernel
theorem dX9_place_15 : decode cX9_place 15 = .ok (.aload_n 0, 1) := by decide +kernel
theorem dX9_place_16 : decode cX9_place 16 = .ok (.iload_n 1, 1) := by decide +kernel
theorem dX9_place_17 : decode cX9_place 17 = .ok (.iload 4, 2) := by decide +kernel
theorem dX9_place_19 : decode cX9_place 19 = .ok (.invokevirtual 191, 3) := by decide +kernel
theorem dX9_place_22 : decode cX9_place 22 = .ok (.aload_n 0, 1) := by decide +kernel
theorem dX9_place_23 : decode cX9_place 23 = .ok (.iload_n 1, 1) := by decide +kernel
theorem dX9_place_24 : decode cX9_place 24 = .ok (.iload_n 2, 1) := by decide +kernel
theorem dX9_place_25 : decode cX9_place 25 = .ok (.invokevirtual 191, 3) := by decide +kernel
theorem dX9_place_28 : decode cX9_place 28 = .ok (.if_icmp .gt 25, 3) := by decide +kernel
theorem dX9_place_31 : decode cX9_place 31 = .ok (.aload_n 0, 1) := by decide +kernel
theorem dX9_place_32 : decode cX9_place 32 = .ok (.iload_n 1, 1) := by decide +kernel
theorem dX9_place_33 : decode cX9_place 33 = .ok (.iload 4, 2) := by decide +kernel
theorem dX9_place_35 : decode cX9_place 35 = .ok (.invokevirtual 191, 3) := by decide +kernel
theorem dX9_place_38 : decode cX9_place 38 = .ok (.aload_n 0, 1) := by decide +kernel
theorem dX9_place_39 : decode cX9_place 39 = .ok (.iload_n 1, 1) := by decide +kernel
theorem dX9_place_40 : decode cX9_place 40 = .ok (.iload_n 2, 1) := by decide +kernel
theorem dX9_place_41 : decode cX9_place 41 = .ok (.invokevirtual 191, 3) := by decide +kernel
theorem dX9_place_44 : decode cX9_place 44 = .ok (.if_icmp .ne 13, 3) := by decide +kernel
theorem dX9_place_47 : decode cX9_place 47 = .ok (.iload 4, 2) := by decide +kernel
theorem dX9_place_49 : decode cX9_place 49 = .ok (.iload_n 2, 1) := by decide +kernel
theorem dX9_place_50 : decode cX9_place 50 = .ok (.if_icmp .ge 7, 3) := by decide +kernel
theorem dX9_place_53 : decode cX9_place 53 = .ok (.iconst 1, 1) := by decide +kernel
theorem dX9_place_54 : decode cX9_place 54 = .ok (.goto 4, 3) := by decide +kernel
theorem dX9_place_57 : decode cX9_place 57 = .ok (.iconst 0, 1) := by decide +kernel
theorem dX9_place_58 : decode cX9_place 58 = .ok (.iadd, 1) := by decide +kernel
theorem dX9_place_59 : decode cX9_place 59 = .ok (.istore_n 3, 1) := by decide +kernel
theorem dX9_place_60 : decode cX9_place 60 = .ok (.iinc 4 1, 3) := by decide +kernel
theorem dX9_place_63 : decode cX9_place 63 = .ok (.goto (-58), 3) := by decide +kernel
theorem dX9_place_66 : decode cX9_place 66 = .ok (.iload_n 3, 1) := by decide +kernel
theorem dX9_place_67 : decode cX9_place 67 = .ok (.ireturn, 1) := by decide +kernel
theorem dX9_seenPlace_0 : decode cX9_seenPlace 0 = .ok (.aload_n 0, 1) := by decide +kernel
theorem dX9_seenPlace_1 : decode cX9_seenPlace 1 = .ok (.getfield 37, 3) := by decide +kernel
theorem dX9_seenPlace_4 : decode cX9_seenPlace 4 = .ok (.iload_n 1, 1) := by decide +kernel
theorem dX9_seenPlace_5 : decode cX9_seenPlace 5 = .ok (.iaload, 1) := by decide +kernel
theorem dX9_seenPlace_6 : decode cX9_seenPlace 6 = .ok (.ifCond .ne 5, 3) := by decide +kernel
theorem dX9_seenPlace_9 : decode cX9_seenPlace 9 = .ok (.iconst 0, 1) := by decide +kernel
theorem dX9_seenPlace_10 : decode cX9_seenPlace 10 = .ok (.ireturn, 1) := by decide +kernel
theorem dX9_seenPlace_11 : decode cX9_seenPlace 11 = .ok (.aload_n 0, 1) := by decide +kernel
theorem dX9_seenPlace_12 : decode cX9_seenPlace 12 = .ok (.getfield 37, 3) := by decide +kernel
theorem dX9_seenPlace_15 : decode cX9_seenPlace 15 = .ok (.iload_n 1, 1) := by decide +kernel
theorem dX9_seenPlace_16 : decode cX9_seenPlace 16 = .ok (.iaload, 1) := by decide +kernel
theorem dX9_seenPlace_17 : decode cX9_seenPlace 17 = .ok (.iconst 2, 1) := by decide +kernel
theorem dX9_seenPlace_18 : decode cX9_seenPlace 18 = .ok (.if_icmp .ne 34, 3) := by decide +kernel
theorem dX9_seenPlace_21 : decode cX9_seenPlace 21 = .ok (.aload_n 0, 1) := by decide +kernel
theorem dX9_seenPlace_22 : decode cX9_seenPlace 22 = .ok (.getfield 46, 3) := by decide +kernel
theorem dX9_seenPlace_25 : decode cX9_seenPlace 25 = .ok (.iload_n 1, 1) := by decide +kernel
theorem dX9_seenPlace_26 : decode cX9_seenPlace 26 = .ok (.iaload, 1) := by decide +kernel
theorem dX9_seenPlace_27 : decode cX9_seenPlace 27 = .ok (.aload_n 0, 1) := by decide +kernel
theorem dX9_seenPlace_28 : decode cX9_seenPlace 28 = .ok (.getfield 40, 3) := by decide +kernel
theorem dX9_seenPlace_31 : decode cX9_seenPlace 31 = .ok (.iload_n 1, 1) := by decide +kernel
theorem dX9_seenPlace_32 : decode cX9_seenPlace 32 = .ok (.iaload, 1) := by decide +kernel
theorem dX9_seenPlace_33 : decode cX9_seenPlace 33 = .ok (.if_icmp .ge 19, 3) := by decide +kernel
theorem dX9_seenPlace_36 : decode cX9_seenPlace 36 = .ok (.aload_n 0, 1) := by decide +kernel
theorem dX9_seenPlace_37 : decode cX9_seenPlace 37 = .ok (.getfield 99, 3) := by decide +kernel
theorem dX9_seenPlace_40 : decode cX9_seenPlace 40 = .ok (.iconst 1, 1) := by decide +kernel
theorem dX9_seenPlace_41 : decode cX9_seenPlace 41 = .ok (.isub, 1) := by decide +kernel
theorem dX9_seenPlace_42 : decode cX9_seenPlace 42 = .ok (.aload_n 0, 1) := by decide +kernel
theorem dX9_seenPlace_43 : decode cX9_seenPlace 43 = .ok (.iload_n 1, 1) := by decide +kernel
theorem dX9_seenPlace_44 : decode cX9_seenPlace 44 = .ok (.iload_n 2, 1) := by decide +kernel
theorem dX9_seenPlace_45 : decode cX9_seenPlace 45 = .ok (.invokevirtual 194, 3) := by decide +kernel
theorem dX9_seenPlace_48 : decode cX9_seenPlace 48 = .ok (.isub, 1) := by decide +kernel
theorem dX9_seenPlace_49 : decode cX9_seenPlace 49 = .ok (.goto 9, 3) := by decide +kernel
theorem dX9_seenPlace_52 : decode cX9_seenPlace 52 = .ok (.aload_n 0, 1) := by decide +kernel
theorem dX9_seenPlace_53 : decode cX9_seenPlace 53 = .ok (.iload_n 1, 1) := by decide +kernel
theorem dX9_seenPlace_54 : decode cX9_seenPlace 54 = .ok (.iload_n 2, 1) := by decide +kernel
theorem dX9_seenPlace_55 : decode cX9_seenPlace 55 = .ok (.invokevirtual 194, 3) := by decide +kernel
theorem dX9_seenPlace_58 : decode cX9_seenPlace 58 = .ok (.ireturn, 1) := by decide +kernel
theorem dX9_songAt_0 : decode cX9_songAt 0 = .ok (.iconst 0, 1) := by decide +kernel
theorem dX9_songAt_1 : decode cX9_songAt 1 = .ok (.istore_n 3, 1) := by decide +kernel
theorem dX9_songAt_2 : decode cX9_songAt 2 = .ok (.aload_n 0, 1) := by decide +kernel
theorem dX9_songAt_3 : decode cX9_songAt 3 = .ok (.iload_n 1, 1) := by decide +kernel
theorem dX9_songAt_4 : decode cX9_songAt 4 = .ok (.iload_n 3, 1) := by decide +kernel
theorem dX9_songAt_5 : decode cX9_songAt 5 = .ok (.invokevirtual 194, 3) := by decide +kernel
theorem dX9_songAt_8 : decode cX9_songAt 8 = .ok (.iload_n 2, 1) := by decide +kernel
theorem dX9_songAt_9 : decode cX9_songAt 9 = .ok (.if_icmp .eq 9, 3) := by decide +kernel
theorem dX9_songAt_12 : decode cX9_songAt 12 = .ok (.iinc 3 1, 3) := by decide +kernel
theorem dX9_songAt_15 : decode cX9_songAt 15 = .ok (.goto (-13), 3) := by decide +kernel
theorem dX9_songAt_18 : decode cX9_songAt 18 = .ok (.iload_n 3, 1) := by decide +kernel
theorem dX9_songAt_19 : decode cX9_songAt 19 = .ok (.ireturn, 1) := by decide +kernel
theorem dX9_weighs_0 : decode cX9_weighs 0 = .ok (.aload_n 0, 1) := by decide +kernel
theorem dX9_weighs_1 : decode cX9_weighs 1 = .ok (.getfield 31, 3) := by decide +kernel
theorem dX9_weighs_4 : decode cX9_weighs 4 = .ok (.iconst 0, 1) := by decide +kernel
theorem dX9_weighs_5 : decode cX9_weighs 5 = .ok (.aload_n 0, 1) := by decide +kernel
theorem dX9_weighs_6 : decode cX9_weighs 6 = .ok (.getfield 9, 3) := by decide +kernel
theorem dX9_weighs_9 : decode cX9_weighs 9 = .ok (.iload_n 2, 1) := by decide +kernel
theorem dX9_weighs_10 : decode cX9_weighs 10 = .ok (.iaload, 1) := by decide +kernel
theorem dX9_weighs_11 : decode cX9_weighs 11 = .ok (.iastore, 1) := by decide +kernel
theorem dX9_weighs_12 : decode cX9_weighs 12 = .ok (.aload_n 0, 1) := by decide +kernel
theorem dX9_weighs_13 : decode cX9_weighs 13 = .ok (.getfield 31, 3) := by decide +kernel
theorem dX9_weighs_16 : decode cX9_weighs 16 = .ok (.iconst 1, 1) := by decide +kernel
theorem dX9_weighs_17 : decode cX9_weighs 17 = .ok (.iload_n 3, 1) := by decide +kernel
theorem dX9_weighs_18 : decode cX9_weighs 18 = .ok (.iastore, 1) := by decide +kernel
theorem dX9_weighs_19 : decode cX9_weighs 19 = .ok (.aload_n 0, 1) := by decide +kernel
theorem dX9_weighs_20 : decode cX9_weighs 20 = .ok (.getfield 31, 3) := by decide +kernel
theorem dX9_weighs_23 : decode cX9_weighs 23 = .ok (.iconst 2, 1) := by decide +kernel
theorem dX9_weighs_24 : decode cX9_weighs 24 = .ok (.iload 4, 2) := by decide +kernel
theorem dX9_weighs_26 : decode cX9_weighs 26 = .ok (.iastore, 1) := by decide +kernel
theorem dX9_weighs_27 : decode cX9_weighs 27 = .ok (.aload_n 0, 1) := by decide +kernel
theorem dX9_weighs_28 : decode cX9_weighs 28 = .ok (.getfield 31, 3) := by decide +kernel
theorem dX9_weighs_31 : decode cX9_weighs 31 = .ok (.iconst 3, 1) := by decide +kernel
theorem dX9_weighs_32 : decode cX9_weighs 32 = .ok (.aload_n 0, 1) := by decide +kernel
theorem dX9_weighs_33 : decode cX9_weighs 33 = .ok (.getfield 99, 3) := by decide +kernel
theorem dX9_weighs_36 : decode cX9_weighs 36 = .ok (.iastore, 1) := by decide +kernel
theorem dX9_weighs_37 : decode cX9_weighs 37 = .ok (.aload_n 0, 1) := by decide +kernel
theorem dX9_weighs_38 : decode cX9_weighs 38 = .ok (.getfield 31, 3) := by decide +kernel
theorem dX9_weighs_41 : decode cX9_weighs 41 = .ok (.iconst 4, 1) := by decide +kernel
theorem dX9_weighs_42 : decode cX9_weighs 42 = .ok (.iload 5, 2) := by decide +kernel
theorem dX9_weighs_44 : decode cX9_weighs 44 = .ok (.iastore, 1) := by decide +kernel
theorem dX9_weighs_45 : decode cX9_weighs 45 = .ok (.aload_n 0, 1) := by decide +kernel
theorem dX9_weighs_46 : decode cX9_weighs 46 = .ok (.getfield 31, 3) := by decide +kernel
theorem dX9_weighs_49 : decode cX9_weighs 49 = .ok (.iconst 5, 1) := by decide +kernel
theorem dX9_weighs_50 : decode cX9_weighs 50 = .ok (.iload 6, 2) := by decide +kernel
theorem dX9_weighs_52 : decode cX9_weighs 52 = .ok (.iastore, 1) := by decide +kernel
theorem dX9_weighs_53 : decode cX9_weighs 53 = .ok (.aload_n 0, 1) := by decide +kernel
theorem dX9_weighs_54 : decode cX9_weighs 54 = .ok (.getfield 31, 3) := by decide +kernel
theorem dX9_weighs_57 : decode cX9_weighs 57 = .ok (.bipush 6, 2) := by decide +kernel
theorem dX9_weighs_59 : decode cX9_weighs 59 = .ok (.iload_n 2, 1) := by decide +kernel
theorem dX9_weighs_60 : decode cX9_weighs 60 = .ok (.iastore, 1) := by decide +kernel
theorem dX9_weighs_61 : decode cX9_weighs 61 = .ok (.aload_n 0, 1) := by decide +kernel
theorem dX9_weighs_62 : decode cX9_weighs 62 = .ok (.bipush 120, 2) := by decide +kernel
theorem dX9_weighs_64 : decode cX9_weighs 64 = .ok (.iload_n 1, 1) := by decide +kernel
theorem dX9_weighs_65 : decode cX9_weighs 65 = .ok (.imul, 1) := by decide +kernel
theorem dX9_weighs_66 : decode cX9_weighs 66 = .ok (.aload_n 0, 1) := by decide +kernel
theorem dX9_weighs_67 : decode cX9_weighs 67 = .ok (.getfield 28, 3) := by decide +kernel
theorem dX9_weighs_70 : decode cX9_weighs 70 = .ok (.iload_n 1, 1) := by decide +kernel
theorem dX9_weighs_71 : decode cX9_weighs 71 = .ok (.iaload, 1) := by decide +kernel
theorem dX9_weighs_72 : decode cX9_weighs 72 = .ok (.invokevirtual 171, 3) := by decide +kernel
theorem dX9_weighs_75 : decode cX9_weighs 75 = .ok (.istore 7, 2) := by decide +kernel
theorem dX9_weighs_77 : decode cX9_weighs 77 = .ok (.iload 7, 2) := by decide +kernel
theorem dX9_weighs_79 : decode cX9_weighs 79 = .ok (.ifCond .ge 7, 3) := by decide +kernel
theorem dX9_weighs_82 : decode cX9_weighs 82 = .ok (.iconst 0, 1) := by decide +kernel
theorem dX9_weighs_83 : decode cX9_weighs 83 = .ok (.goto 19, 3) := by decide +kernel
theorem dX9_weighs_86 : decode cX9_weighs 86 = .ok (.iload 7, 2) := by decide +kernel
theorem dX9_weighs_88 : decode cX9_weighs 88 = .ok (.sipush 9999, 3) := by decide +kernel
theorem dX9_weighs_91 : decode cX9_weighs 91 = .ok (.if_icmp .le 9, 3) := by decide +kernel
theorem dX9_weighs_94 : decode cX9_weighs 94 = .ok (.sipush 9999, 3) := by decide +kernel
theorem dX9_weighs_97 : decode cX9_weighs 97 = .ok (.goto 5, 3) := by decide +kernel
theorem dX9_weighs_100 : decode cX9_weighs 100 = .ok (.iload 7, 2) := by decide +kernel
theorem dX9_weighs_102 : decode cX9_weighs 102 = .ok (.ireturn, 1) := by decide +kernel
theorem dX9_weightOf_0 : decode cX9_weightOf 0 = .ok (.aload_n 0, 1) := by decide +kernel
theorem dX9_weightOf_1 : decode cX9_weightOf 1 = .ok (.aload_n 0, 1) := by decide +kernel
theorem dX9_weightOf_2 : decode cX9_weightOf 2 = .ok (.getfield 34, 3) := by decide +kernel
theorem dX9_weightOf_5 : decode cX9_weightOf 5 = .ok (.iload_n 1, 1) := by decide +kernel
theorem dX9_weightOf_6 : decode cX9_weightOf 6 = .ok (.iaload, 1) := by decide +kernel
theorem dX9_weightOf_7 : decode cX9_weightOf 7 = .ok (.iload_n 2, 1) := by decide +kernel
theorem dX9_weightOf_8 : decode cX9_weightOf 8 = .ok (.aload_n 0, 1) := by decide +kernel
theorem dX9_weightOf_9 : decode cX9_weightOf 9 = .ok (.getfield 37, 3) := by decide +kernel
theorem dX9_weightOf_12 : decode cX9_weightOf 12 = .ok (.iload_n 1, 1) := by decide +kernel
theorem dX9_weightOf_13 : decode cX9_weightOf 13 = .ok (.iaload, 1) := by decide +kernel
theorem dX9_weightOf_14 : decode cX9_weightOf 14 = .ok (.ifCond .ne 7, 3) := by decide +kernel
theorem dX9_weightOf_17 : decode cX9_weightOf 17 = .ok (.iconst 0, 1) := by decide +kernel
theorem dX9_weightOf_18 : decode cX9_weightOf 18 = .ok (.goto 9, 3) := by decide +kernel
theorem dX9_weightOf_21 : decode cX9_weightOf 21 = .ok (.aload_n 0, 1) := by decide +kernel
theorem dX9_weightOf_22 : decode cX9_weightOf 22 = .ok (.iload_n 1, 1) := by decide +kernel
theorem dX9_weightOf_23 : decode cX9_weightOf 23 = .ok (.iload_n 2, 1) := by decide +kernel
theorem dX9_weightOf_24 : decode cX9_weightOf 24 = .ok (.invokevirtual 191, 3) := by decide +kernel
theorem dX9_weightOf_27 : decode cX9_weightOf 27 = .ok (.aload_n 0, 1) := by decide +kernel
theorem dX9_weightOf_28 : decode cX9_weightOf 28 = .ok (.iload_n 1, 1) := by decide +kernel
theorem dX9_weightOf_29 : decode cX9_weightOf 29 = .ok (.iload_n 2, 1) := by decide +kernel
theorem dX9_weightOf_30 : decode cX9_weightOf 30 = .ok (.invokevirtual 197, 3) := by decide +kernel
theorem dX9_weightOf_33 : decode cX9_weightOf 33 = .ok (.aload_n 0, 1) := by decide +kernel
theorem dX9_weightOf_34 : decode cX9_weightOf 34 = .ok (.getfield 46, 3) := by decide +kernel
theorem dX9_weightOf_37 : decode cX9_weightOf 37 = .ok (.iload_n 1, 1) := by decide +kernel
theorem dX9_weightOf_38 : decode cX9_weightOf 38 = .ok (.iaload, 1) := by decide +kernel
theorem dX9_weightOf_39 : decode cX9_weightOf 39 = .ok (.aload_n 0, 1) := by decide +kernel
theorem dX9_weightOf_40 : decode cX9_weightOf 40 = .ok (.getfield 49, 3) := by decide +kernel
theorem dX9_weightOf_43 : decode cX9_weightOf 43 = .ok (.iload_n 1, 1) := by decide +kernel
theorem dX9_weightOf_44 : decode cX9_weightOf 44 = .ok (.iaload, 1) := by decide +kernel
theorem dX9_weightOf_45 : decode cX9_weightOf 45 = .ok (.invokevirtual 200, 3) := by decide +kernel
theorem dX9_weightOf_48 : decode cX9_weightOf 48 = .ok (.ireturn, 1) := by decide +kernel
theorem dX9_allCounts_0 : decode cX9_allCounts 0 = .ok (.iconst 0, 1) := by decide +kernel
theorem dX9_allCounts_1 : decode cX9_allCounts 1 = .ok (.istore_n 2, 1) := by decide +kernel
theorem dX9_allCounts_2 : decode cX9_allCounts 2 = .ok (.iconst 0, 1) := by decide +kernel
theorem dX9_allCounts_3 : decode cX9_allCounts 3 = .ok (.istore_n 3, 1) := by decide +kernel
theorem dX9_allCounts_4 : decode cX9_allCounts 4 = .ok (.iload_n 3, 1) := by decide +kernel
theorem dX9_allCounts_5 : decode cX9_allCounts 5 = .ok (.aload_n 0, 1) := by decide +kernel
theorem dX9_allCounts_6 : decode cX9_allCounts 6 = .ok (.getfield 99, 3) := by decide +kernel
theorem dX9_allCounts_9 : decode cX9_allCounts 9 = .ok (.if_icmp .ge 18, 3) := by decide +kernel
theorem dX9_allCounts_12 : decode cX9_allCounts 12 = .ok (.iload_n 2, 1) := by decide +kernel
theorem dX9_allCounts_13 : decode cX9_allCounts 13 = .ok (.aload_n 0, 1) := by decide +kernel
theorem dX9_allCounts_14 : decode cX9_allCounts 14 = .ok (.iload_n 1, 1) := by decide +kernel
theorem dX9_allCounts_15 : decode cX9_allCounts 15 = .ok (.iload_n 3, 1) := by decide +kernel
theorem dX9_allCounts_16 : decode cX9_allCounts 16 = .ok (.invokevirtual 191, 3) := by decide +kernel
theorem dX9_allCounts_19 : decode cX9_allCounts 19 = .ok (.iadd, 1) := by decide +kernel
theorem dX9_allCounts_20 : decode cX9_allCounts 20 = .ok (.istore_n 2, 1) := by decide +kernel
theorem dX9_allCounts_21 : decode cX9_allCounts 21 = .ok (.iinc 3 1, 3) := by decide +kernel
theorem dX9_allCounts_24 : decode cX9_allCounts 24 = .ok (.goto (-20), 3) := by decide +kernel
theorem dX9_allCounts_27 : decode cX9_allCounts 27 = .ok (.iload_n 2, 1) := by decide +kernel
theorem dX9_allCounts_28 : decode cX9_allCounts 28 = .ok (.ireturn, 1) := by decide +kernel
theorem dX9_share_0 : decode cX9_share 0 = .ok (.aload_n 0, 1) := by decide +kernel
theorem dX9_share_1 : decode cX9_share 1 = .ok (.iload_n 1, 1) := by decide +kernel
theorem dX9_share_2 : decode cX9_share 2 = .ok (.invokevirtual 204, 3) := by decide +kernel
theorem dX9_share_5 : decode cX9_share 5 = .ok (.istore_n 3, 1) := by decide +kernel
theorem dX9_share_6 : decode cX9_share 6 = .ok (.iload_n 3, 1) := by decide +kernel
theorem dX9_share_7 : decode cX9_share 7 = .ok (.ifCond .ne 7, 3) := by decide +kernel
theorem dX9_share_10 : decode cX9_share 10 = .ok (.iconst 0, 1) := by decide +kernel
theorem dX9_share_11 : decode cX9_share 11 = .ok (.goto 18, 3) := by decide +kernel
theorem dX9_share_14 : decode cX9_share 14 = .ok (.ldc2_w 207, 3) := by decide +kernel
theorem dX9_share_17 : decode cX9_share 17 = .ok (.aload_n 0, 1) := by decide +kernel
theorem dX9_share_18 : decode cX9_share 18 = .ok (.iload_n 1, 1) := by decide +kernel
theorem dX9_share_19 : decode cX9_share 19 = .ok (.iload_n 2, 1) := by decide +kernel
theorem dX9_share_20 : decode cX9_share 20 = .ok (.invokevirtual 191, 3) := by decide +kernel
theorem dX9_share_23 : decode cX9_share 23 = .ok (.i2l, 1) := by decide +kernel
theorem dX9_share_24 : decode cX9_share 24 = .ok (.lmul, 1) := by decide +kernel
theorem dX9_share_25 : decode cX9_share 25 = .ok (.iload_n 3, 1) := by decide +kernel
theorem dX9_share_26 : decode cX9_share 26 = .ok (.i2l, 1) := by decide +kernel
theorem dX9_share_27 : decode cX9_share 27 = .ok (.ldiv, 1) := by decide +kernel
theorem dX9_share_28 : decode cX9_share 28 = .ok (.l2i, 1) := by decide +kernel
theorem dX9_share_29 : decode cX9_share 29 = .ok (.ireturn, 1) := by decide +kernel
theorem dX9_of_0 : decode cX9_of 0 = .ok (.aload_n 0, 1) := by decide +kernel
theorem dX9_of_1 : decode cX9_of 1 = .ok (.iload_n 1, 1) := by decide +kernel
theorem dX9_of_2 : decode cX9_of 2 = .ok (.invokevirtual 186, 3) := by decide +kernel
theorem dX9_of_5 : decode cX9_of 5 = .ok (.ifCond .ne 5, 3) := by decide +kernel
theorem dX9_of_8 : decode cX9_of 8 = .ok (.iconst (-1), 1) := by decide +kernel
theorem dX9_of_9 : decode cX9_of 9 = .ok (.ireturn, 1) := by decide +kernel
theorem dX9_of_10 : decode cX9_of 10 = .ok (.iload_n 2, 1) := by decide +kernel
theorem dX9_of_11 : decode cX9_of 11 = .ok (.tableswitch 80 0 4 #[33, 40, 47, 54, 61], 33) := by decide +kernel
theorem dX9_of_44 : decode cX9_of 44 = .ok (.aload_n 0, 1) := by decide +kernel
theorem dX9_of_45 : decode cX9_of 45 = .ok (.getfield 46, 3) := by decide +kernel
theorem dX9_of_48 : decode cX9_of 48 = .ok (.iload_n 1, 1) := by decide +kernel
theorem dX9_of_49 : decode cX9_of 49 = .ok (.iaload, 1) := by decide +kernel
theorem dX9_of_50 : decode cX9_of 50 = .ok (.ireturn, 1) := by decide +kernel
theorem dX9_of_51 : decode cX9_of 51 = .ok (.aload_n 0, 1) := by decide +kernel
theorem dX9_of_52 : decode cX9_of 52 = .ok (.getfield 49, 3) := by decide +kernel
theorem dX9_of_55 : decode cX9_of 55 = .ok (.iload_n 1, 1) := by decide +kernel
theorem dX9_of_56 : decode cX9_of 56 = .ok (.iaload, 1) := by decide +kernel
theorem dX9_of_57 : decode cX9_of 57 = .ok (.ireturn, 1) := by decide +kernel
theorem dX9_of_58 : decode cX9_of 58 = .ok (.aload_n 0, 1) := by decide +kernel
theorem dX9_of_59 : decode cX9_of 59 = .ok (.getfield 34, 3) := by decide +kernel
theorem dX9_of_62 : decode cX9_of 62 = .ok (.iload_n 1, 1) := by decide +kernel
theorem dX9_of_63 : decode cX9_of 63 = .ok (.iaload, 1) := by decide +kernel
theorem dX9_of_64 : decode cX9_of 64 = .ok (.ireturn, 1) := by decide +kernel
theorem dX9_of_65 : decode cX9_of 65 = .ok (.aload_n 0, 1) := by decide +kernel
theorem dX9_of_66 : decode cX9_of 66 = .ok (.getfield 37, 3) := by decide +kernel
theorem dX9_of_69 : decode cX9_of 69 = .ok (.iload_n 1, 1) := by decide +kernel
theorem dX9_of_70 : decode cX9_of 70 = .ok (.iaload, 1) := by decide +kernel
theorem dX9_of_71 : decode cX9_of 71 = .ok (.ireturn, 1) := by decide +kernel
theorem dX9_of_72 : decode cX9_of 72 = .ok (.aload_n 0, 1) := by decide +kernel
theorem dX9_of_73 : decode cX9_of 73 = .ok (.getfield 99, 3) := by decide +kernel
theorem dX9_of_76 : decode cX9_of 76 = .ok (.ifCond .ne 8, 3) := by decide +kernel
theorem dX9_of_79 : decode cX9_of 79 = .ok (.bipush (-2), 2) := by decide +kernel
theorem dX9_of_81 : decode cX9_of 81 = .ok (.goto 9, 3) := by decide +kernel
theorem dX9_of_84 : decode cX9_of 84 = .ok (.aload_n 0, 1) := by decide +kernel
theorem dX9_of_85 : decode cX9_of 85 = .ok (.iload_n 1, 1) := by decide +kernel
theorem dX9_of_86 : decode cX9_of 86 = .ok (.iconst 0, 1) := by decide +kernel
theorem dX9_of_87 : decode cX9_of 87 = .ok (.invokevirtual 209, 3) := by decide +kernel
theorem dX9_of_90 : decode cX9_of 90 = .ok (.ireturn, 1) := by decide +kernel
theorem dX9_of_91 : decode cX9_of 91 = .ok (.iload_n 2, 1) := by decide +kernel
theorem dX9_of_92 : decode cX9_of 92 = .ok (.bipush 100, 2) := by decide +kernel
theorem dX9_of_94 : decode cX9_of 94 = .ok (.irem, 1) := by decide +kernel
theorem dX9_of_95 : decode cX9_of 95 = .ok (.istore_n 3, 1) := by decide +kernel
theorem dX9_of_96 : decode cX9_of 96 = .ok (.iload_n 2, 1) := by decide +kernel
theorem dX9_of_97 : decode cX9_of 97 = .ok (.i2l, 1) := by decide +kernel
theorem dX9_of_98 : decode cX9_of 98 = .ok (.ldc2_w 212, 3) := by decide +kernel
theorem dX9_of_101 : decode cX9_of 101 = .ok (.ldc2_w 214, 3) := by decide +kernel
theorem dX9_of_104 : decode cX9_of 104 = .ok (.invokestatic 102, 3) := by decide +kernel
theorem dX9_of_107 : decode cX9_of 107 = .ok (.ifCond .eq 11, 3) := by decide +kernel
theorem dX9_of_110 : decode cX9_of 110 = .ok (.aload_n 0, 1) := by decide +kernel
theorem dX9_of_111 : decode cX9_of 111 = .ok (.iload_n 3, 1) := by decide +kernel
theorem dX9_of_112 : decode cX9_of 112 = .ok (.invokevirtual 111, 3) := by decide +kernel
theorem dX9_of_115 : decode cX9_of 115 = .ok (.ifCond .ne 5, 3) := by decide +kernel
theorem dX9_of_118 : decode cX9_of 118 = .ok (.iconst (-1), 1) := by decide +kernel
theorem dX9_of_119 : decode cX9_of 119 = .ok (.ireturn, 1) := by decide +kernel
theorem dX9_of_120 : decode cX9_of 120 = .ok (.iload_n 2, 1) := by decide +kernel
theorem dX9_of_121 : decode cX9_of 121 = .ok (.sipush 200, 3) := by decide +kernel
theorem dX9_of_124 : decode cX9_of 124 = .ok (.if_icmp .ge 12, 3) := by decide +kernel
theorem dX9_of_127 : decode cX9_of 127 = .ok (.aload_n 0, 1) := by decide +kernel
theorem dX9_of_128 : decode cX9_of 128 = .ok (.iload_n 1, 1) := by decide +kernel
theorem dX9_of_129 : decode cX9_of 129 = .ok (.iload_n 3, 1) := by decide +kernel
theorem dX9_of_130 : decode cX9_of 130 = .ok (.invokevirtual 191, 3) := by decide +kernel
theorem dX9_of_133 : decode cX9_of 133 = .ok (.goto 41, 3) := by decide +kernel
theorem dX9_of_136 : decode cX9_of 136 = .ok (.iload_n 2, 1) := by decide +kernel
theorem dX9_of_137 : decode cX9_of 137 = .ok (.sipush 300, 3) := by decide +kernel
theorem dX9_of_140 : decode cX9_of 140 = .ok (.if_icmp .ge 12, 3) := by decide +kernel
theorem dX9_of_143 : decode cX9_of 143 = .ok (.aload_n 0, 1) := by decide +kernel
theorem dX9_of_144 : decode cX9_of 144 = .ok (.iload_n 1, 1) := by decide +kernel
theorem dX9_of_145 : decode cX9_of 145 = .ok (.iload_n 3, 1) := by decide +kernel
theorem dX9_of_146 : decode cX9_of 146 = .ok (.invokevirtual 194, 3) := by decide +kernel
theorem dX9_of_149 : decode cX9_of 149 = .ok (.goto 25, 3) := by decide +kernel
theorem dX9_of_152 : decode cX9_of 152 = .ok (.iload_n 2, 1) := by decide +kernel
theorem dX9_of_153 : decode cX9_of 153 = .ok (.sipush 400, 3) := by decide +kernel
theorem dX9_of_156 : decode cX9_of 156 = .ok (.if_icmp .ge 12, 3) := by decide +kernel
theorem dX9_of_159 : decode cX9_of 159 = .ok (.aload_n 0, 1) := by decide +kernel
theorem dX9_of_160 : decode cX9_of 160 = .ok (.iload_n 1, 1) := by decide +kernel
theorem dX9_of_161 : decode cX9_of 161 = .ok (.iload_n 3, 1) := by decide +kernel
theorem dX9_of_162 : decode cX9_of 162 = .ok (.invokevirtual 197, 3) := by decide +kernel
theorem dX9_of_165 : decode cX9_of 165 = .ok (.goto 9, 3) := by decide +kernel
theorem dX9_of_168 : decode cX9_of 168 = .ok (.aload_n 0, 1) := by decide +kernel
theorem dX9_of_169 : decode cX9_of 169 = .ok (.iload_n 1, 1) := by decide +kernel
theorem dX9_of_170 : decode cX9_of 170 = .ok (.iload_n 3, 1) := by decide +kernel
theorem dX9_of_171 : decode cX9_of 171 = .ok (.invokevirtual 216, 3) := by decide +kernel
theorem dX9_of_174 : decode cX9_of 174 = .ok (.ireturn, 1) := by decide +kernel
theorem dX9_weight_0 : decode cX9_weight 0 = .ok (.aload_n 0, 1) := by decide +kernel
theorem dX9_weight_1 : decode cX9_weight 1 = .ok (.iload_n 1, 1) := by decide +kernel
theorem dX9_weight_2 : decode cX9_weight 2 = .ok (.invokevirtual 186, 3) := by decide +kernel
theorem dX9_weight_5 : decode cX9_weight 5 = .ok (.ifCond .eq 20, 3) := by decide +kernel
theorem dX9_weight_8 : decode cX9_weight 8 = .ok (.aload_n 0, 1) := by decide +kernel
theorem dX9_weight_9 : decode cX9_weight 9 = .ok (.iload_n 2, 1) := by decide +kernel
theorem dX9_weight_10 : decode cX9_weight 10 = .ok (.invokevirtual 111, 3) := by decide +kernel
theorem dX9_weight_13 : decode cX9_weight 13 = .ok (.ifCond .eq 12, 3) := by decide +kernel
theorem dX9_weight_16 : decode cX9_weight 16 = .ok (.aload_n 0, 1) := by decide +kernel
theorem dX9_weight_17 : decode cX9_weight 17 = .ok (.iload_n 1, 1) := by decide +kernel
theorem dX9_weight_18 : decode cX9_weight 18 = .ok (.iload_n 2, 1) := by decide +kernel
theorem dX9_weight_19 : decode cX9_weight 19 = .ok (.invokevirtual 219, 3) := by decide +kernel
theorem dX9_weight_22 : decode cX9_weight 22 = .ok (.goto 4, 3) := by decide +kernel
theorem dX9_weight_25 : decode cX9_weight 25 = .ok (.iconst (-1), 1) := by decide +kernel
theorem dX9_weight_26 : decode cX9_weight 26 = .ok (.ireturn, 1) := by decide +kernel
theorem dX9_findWeights_0 : decode cX9_findWeights 0 = .ok (.aload_n 0, 1) := by decide +kernel
theorem dX9_findWeights_1 : decode cX9_findWeights 1 = .ok (.getfield 9, 3) := by decide +kernel
theorem dX9_findWeights_4 : decode cX9_findWeights 4 = .ok (.bipush 12, 2) := by decide +kernel
theorem dX9_findWeights_6 : decode cX9_findWeights 6 = .ok (.iload_n 1, 1) := by decide +kernel
theorem dX9_findWeights_7 : decode cX9_findWeights 7 = .ok (.iadd, 1) := by decide +kernel
theorem dX9_findWeights_8 : decode cX9_findWeights 8 = .ok (.iaload, 1) := by decide +kernel
theorem dX9_findWeights_9 : decode cX9_findWeights 9 = .ok (.istore_n 2, 1) := by decide +kernel
theorem dX9_findWeights_10 : decode cX9_findWeights 10 = .ok (.iconst 0, 1) := by decide +kernel
theorem dX9_findWeights_11 : decode cX9_findWeights 11 = .ok (.istore_n 3, 1) := by decide +kernel
theorem dX9_findWeights_12 : decode cX9_findWeights 12 = .ok (.iload_n 3, 1) := by decide +kernel
theorem dX9_findWeights_13 : decode cX9_findWeights 13 = .ok (.aload_n 0, 1) := by decide +kernel
theorem dX9_findWeights_14 : decode cX9_findWeights 14 = .ok (.getfield 99, 3) := by decide +kernel
theorem dX9_findWeights_17 : decode cX9_findWeights 17 = .ok (.if_icmp .ge 30, 3) := by decide +kernel
theorem dX9_findWeights_20 : decode cX9_findWeights 20 = .ok (.aload_n 0, 1) := by decide +kernel
theorem dX9_findWeights_21 : decode cX9_findWeights 21 = .ok (.getfield 55, 3) := by decide +kernel
theorem dX9_findWeights_24 : decode cX9_findWeights 24 = .ok (.iload_n 3, 1) := by decide +kernel
theorem dX9_findWeights_25 : decode cX9_findWeights 25 = .ok (.aload_n 0, 1) := by decide +kernel
theorem dX9_findWeights_26 : decode cX9_findWeights 26 = .ok (.iload_n 1, 1) := by decide +kernel
theorem dX9_findWeights_27 : decode cX9_findWeights 27 = .ok (.iload_n 3, 1) := by decide +kernel
theorem dX9_findWeights_28 : decode cX9_findWeights 28 = .ok (.invokevirtual 219, 3) := by decide +kernel
theorem dX9_findWeights_31 : decode cX9_findWeights 31 = .ok (.iastore, 1) := by decide +kernel
theorem dX9_findWeights_32 : decode cX9_findWeights 32 = .ok (.iload_n 2, 1) := by decide +kernel
theorem dX9_findWeights_33 : decode cX9_findWeights 33 = .ok (.aload_n 0, 1) := by decide +kernel
theorem dX9_findWeights_34 : decode cX9_findWeights 34 = .ok (.getfield 55, 3) := by decide +kernel
theorem dX9_findWeights_37 : decode cX9_findWeights 37 = .ok (.iload_n 3, 1) := by decide +kernel
theorem dX9_findWeights_38 : decode cX9_findWeights 38 = .ok (.iaload, 1) := by decide +kernel
theorem dX9_findWeights_39 : decode cX9_findWeights 39 = .ok (.iadd, 1) := by decide +kernel
theorem dX9_findWeights_40 : decode cX9_findWeights 40 = .ok (.istore_n 2, 1) := by decide +kernel
theorem dX9_findWeights_41 : decode cX9_findWeights 41 = .ok (.iinc 3 1, 3) := by decide +kernel
theorem dX9_findWeights_44 : decode cX9_findWeights 44 = .ok (.goto (-32), 3) := by decide +kernel
theorem dX9_findWeights_47 : decode cX9_findWeights 47 = .ok (.iload_n 2, 1) := by decide +kernel
theorem dX9_findWeights_48 : decode cX9_findWeights 48 = .ok (.ireturn, 1) := by decide +kernel
theorem dX9_keeps_0 : decode cX9_keeps 0 = .ok (.aload_n 0, 1) := by decide +kernel
theorem dX9_keeps_1 : decode cX9_keeps 1 = .ok (.getfield 49, 3) := by decide +kernel
theorem dX9_keeps_4 : decode cX9_keeps 4 = .ok (.iload_n 1, 1) := by decide +kernel
theorem dX9_keeps_5 : decode cX9_keeps 5 = .ok (.iaload, 1) := by decide +kernel
theorem dX9_keeps_6 : decode cX9_keeps 6 = .ok (.sipush 200, 3) := by decide +kernel
theorem dX9_keeps_9 : decode cX9_keeps 9 = .ok (.if_icmp .ge 21, 3) := by decide +kernel
theorem dX9_keeps_12 : decode cX9_keeps 12 = .ok (.aload_n 0, 1) := by decide +kernel
theorem dX9_keeps_13 : decode cX9_keeps 13 = .ok (.getfield 52, 3) := by decide +kernel
theorem dX9_keeps_16 : decode cX9_keeps 16 = .ok (.sipush 200, 3) := by decide +kernel
theorem dX9_keeps_19 : decode cX9_keeps 19 = .ok (.iload_n 1, 1) := by decide +kernel
theorem dX9_keeps_20 : decode cX9_keeps 20 = .ok (.imul, 1) := by decide +kernel
theorem dX9_keeps_21 : decode cX9_keeps 21 = .ok (.aload_n 0, 1) := by decide +kernel
theorem dX9_keeps_22 : decode cX9_keeps 22 = .ok (.getfield 49, 3) := by decide +kernel
theorem dX9_keeps_25 : decode cX9_keeps 25 = .ok (.iload_n 1, 1) := by decide +kernel
theorem dX9_keeps_26 : decode cX9_keeps 26 = .ok (.iaload, 1) := by decide +kernel
theorem dX9_keeps_27 : decode cX9_keeps 27 = .ok (.iadd, 1) := by decide +kernel
theorem dX9_keeps_28 : decode cX9_keeps 28 = .ok (.iload_n 2, 1) := by decide +kernel
theorem dX9_keeps_29 : decode cX9_keeps 29 = .ok (.iastore, 1) := by decide +kernel
theorem dX9_keeps_30 : decode cX9_keeps 30 = .ok (.aload_n 0, 1) := by decide +kernel
theorem dX9_keeps_31 : decode cX9_keeps 31 = .ok (.getfield 49, 3) := by decide +kernel
theorem dX9_keeps_34 : decode cX9_keeps 34 = .ok (.iload_n 1, 1) := by decide +kernel
theorem dX9_keeps_35 : decode cX9_keeps 35 = .ok (.dup2, 1) := by decide +kernel
theorem dX9_keeps_36 : decode cX9_keeps 36 = .ok (.iaload, 1) := by decide +kernel
theorem dX9_keeps_37 : decode cX9_keeps 37 = .ok (.iconst 1, 1) := by decide +kernel
theorem dX9_keeps_38 : decode cX9_keeps 38 = .ok (.iadd, 1) := by decide +kernel
theorem dX9_keeps_39 : decode cX9_keeps 39 = .ok (.iastore, 1) := by decide +kernel
theorem dX9_keeps_40 : decode cX9_keeps 40 = .ok (.bipush 23, 2) := by decide +kernel
theorem dX9_keeps_42 : decode cX9_keeps 42 = .ok (.bipush 12, 2) := by decide +kernel
theorem dX9_keeps_44 : decode cX9_keeps 44 = .ok (.iload_n 1, 1) := by decide +kernel
theorem dX9_keeps_45 : decode cX9_keeps 45 = .ok (.imul, 1) := by decide +kernel
theorem dX9_keeps_46 : decode cX9_keeps 46 = .ok (.iadd, 1) := by decide +kernel
theorem dX9_keeps_47 : decode cX9_keeps 47 = .ok (.iload_n 2, 1) := by decide +kernel
theorem dX9_keeps_48 : decode cX9_keeps 48 = .ok (.iadd, 1) := by decide +kernel
theorem dX9_keeps_49 : decode cX9_keeps 49 = .ok (.istore_n 3, 1) := by decide +kernel
theorem dX9_keeps_50 : decode cX9_keeps 50 = .ok (.aload_n 0, 1) := by decide +kernel
theorem dX9_keeps_51 : decode cX9_keeps 51 = .ok (.getfield 9, 3) := by decide +kernel
theorem dX9_keeps_54 : decode cX9_keeps 54 = .ok (.iload_n 3, 1) := by decide +kernel
theorem dX9_keeps_55 : decode cX9_keeps 55 = .ok (.dup2, 1) := by decide +kernel
theorem dX9_keeps_56 : decode cX9_keeps 56 = .ok (.iaload, 1) := by decide +kernel
theorem dX9_keeps_57 : decode cX9_keeps 57 = .ok (.aload_n 0, 1) := by decide +kernel
theorem dX9_keeps_58 : decode cX9_keeps 58 = .ok (.getfield 9, 3) := by decide +kernel
theorem dX9_keeps_61 : decode cX9_keeps 61 = .ok (.iload_n 3, 1) := by decide +kernel
theorem dX9_keeps_62 : decode cX9_keeps 62 = .ok (.iaload, 1) := by decide +kernel
theorem dX9_keeps_63 : decode cX9_keeps 63 = .ok (.ldc 222, 2) := by decide +kernel
theorem dX9_keeps_65 : decode cX9_keeps 65 = .ok (.if_icmp .ge 7, 3) := by decide +kernel
theorem dX9_keeps_68 : decode cX9_keeps 68 = .ok (.iconst 1, 1) := by decide +kernel
theorem dX9_keeps_69 : decode cX9_keeps 69 = .ok (.goto 4, 3) := by decide +kernel
theorem dX9_keeps_72 : decode cX9_keeps 72 = .ok (.iconst 0, 1) := by decide +kernel
theorem dX9_keeps_73 : decode cX9_keeps 73 = .ok (.iadd, 1) := by decide +kernel
theorem dX9_keeps_74 : decode cX9_keeps 74 = .ok (.iastore, 1) := by decide +kernel
theorem dX9_keeps_75 : decode cX9_keeps 75 = .ok (.return_, 1) := by decide +kernel
theorem dX9_comesOne_0 : decode cX9_comesOne 0 = .ok (.aload_n 0, 1) := by decide +kernel
theorem dX9_comesOne_1 : decode cX9_comesOne 1 = .ok (.iload_n 1, 1) := by decide +kernel
theorem dX9_comesOne_2 : decode cX9_comesOne 2 = .ok (.invokevirtual 223, 3) := by decide +kernel
theorem dX9_comesOne_5 : decode cX9_comesOne 5 = .ok (.istore_n 2, 1) := by decide +kernel
theorem dX9_comesOne_6 : decode cX9_comesOne 6 = .ok (.aload_n 0, 1) := by decide +kernel
theorem dX9_comesOne_7 : decode cX9_comesOne 7 = .ok (.getfield 43, 3) := by decide +kernel
theorem dX9_comesOne_10 : decode cX9_comesOne 10 = .ok (.iload_n 1, 1) := by decide +kernel
theorem dX9_comesOne_11 : decode cX9_comesOne 11 = .ok (.aload_n 0, 1) := by decide +kernel
theorem dX9_comesOne_12 : decode cX9_comesOne 12 = .ok (.getfield 43, 3) := by decide +kernel
theorem dX9_comesOne_15 : decode cX9_comesOne 15 = .ok (.iload_n 1, 1) := by decide +kernel
theorem dX9_comesOne_16 : decode cX9_comesOne 16 = .ok (.iaload, 1) := by decide +kernel
theorem dX9_comesOne_17 : decode cX9_comesOne 17 = .ok (.ldc 226, 2) := by decide +kernel
theorem dX9_comesOne_19 : decode cX9_comesOne 19 = .ok (.imul, 1) := by decide +kernel
theorem dX9_comesOne_20 : decode cX9_comesOne 20 = .ok (.sipush 12345, 3) := by decide +kernel
theorem dX9_comesOne_23 : decode cX9_comesOne 23 = .ok (.iadd, 1) := by decide +kernel
theorem dX9_comesOne_24 : decode cX9_comesOne 24 = .ok (.iastore, 1) := by decide +kernel
theorem dX9_comesOne_25 : decode cX9_comesOne 25 = .ok (.iload_n 2, 1) := by decide +kernel
theorem dX9_comesOne_26 : decode cX9_comesOne 26 = .ok (.ifCond .ne 7, 3) := by decide +kernel
theorem dX9_comesOne_29 : decode cX9_comesOne 29 = .ok (.iconst 0, 1) := by decide +kernel
theorem dX9_comesOne_30 : decode cX9_comesOne 30 = .ok (.goto 14, 3) := by decide +kernel
theorem dX9_comesOne_33 : decode cX9_comesOne 33 = .ok (.aload_n 0, 1) := by decide +kernel
theorem dX9_comesOne_34 : decode cX9_comesOne 34 = .ok (.getfield 43, 3) := by decide +kernel
theorem dX9_comesOne_37 : decode cX9_comesOne 37 = .ok (.iload_n 1, 1) := by decide +kernel
theorem dX9_comesOne_38 : decode cX9_comesOne 38 = .ok (.iaload, 1) := by decide +kernel
theorem dX9_comesOne_39 : decode cX9_comesOne 39 = .ok (.bipush 8, 2) := by decide +kernel
theorem dX9_comesOne_41 : decode cX9_comesOne 41 = .ok (.iushr, 1) := by decide +kernel
theorem dX9_comesOne_42 : decode cX9_comesOne 42 = .ok (.iload_n 2, 1) := by decide +kernel
theorem dX9_comesOne_43 : decode cX9_comesOne 43 = .ok (.irem, 1) := by decide +kernel
theorem dX9_comesOne_44 : decode cX9_comesOne 44 = .ok (.istore_n 3, 1) := by decide +kernel
theorem dX9_comesOne_45 : decode cX9_comesOne 45 = .ok (.aload_n 0, 1) := by decide +kernel
theorem dX9_comesOne_46 : decode cX9_comesOne 46 = .ok (.getfield 46, 3) := by decide +kernel
theorem dX9_comesOne_49 : decode cX9_comesOne 49 = .ok (.iload_n 1, 1) := by decide +kernel
theorem dX9_comesOne_50 : decode cX9_comesOne 50 = .ok (.dup2, 1) := by decide +kernel
theorem dX9_comesOne_51 : decode cX9_comesOne 51 = .ok (.iaload, 1) := by decide +kernel
theorem dX9_comesOne_52 : decode cX9_comesOne 52 = .ok (.iconst 1, 1) := by decide +kernel
theorem dX9_comesOne_53 : decode cX9_comesOne 53 = .ok (.iadd, 1) := by decide +kernel
theorem dX9_comesOne_54 : decode cX9_comesOne 54 = .ok (.iastore, 1) := by decide +kernel
theorem dX9_comesOne_55 : decode cX9_comesOne 55 = .ok (.iconst 0, 1) := by decide +kernel
theorem dX9_comesOne_56 : decode cX9_comesOne 56 = .ok (.istore 4, 2) := by decide +kernel
theorem dX9_comesOne_58 : decode cX9_comesOne 58 = .ok (.iload 4, 2) := by decide +kernel
theorem dX9_comesOne_60 : decode cX9_comesOne 60 = .ok (.aload_n 0, 1) := by decide +kernel
theorem dX9_comesOne_61 : decode cX9_comesOne 61 = .ok (.getfield 99, 3) := by decide +kernel
theorem dX9_comesOne_64 : decode cX9_comesOne 64 = .ok (.if_icmp .ge 43, 3) := by decide +kernel
theorem dX9_comesOne_67 : decode cX9_comesOne 67 = .ok (.iload_n 2, 1) := by decide +kernel
theorem dX9_comesOne_68 : decode cX9_comesOne 68 = .ok (.ifCond .le 39, 3) := by decide +kernel
theorem dX9_comesOne_71 : decode cX9_comesOne 71 = .ok (.iload_n 3, 1) := by decide +kernel
theorem dX9_comesOne_72 : decode cX9_comesOne 72 = .ok (.aload_n 0, 1) := by decide +kernel
theorem dX9_comesOne_73 : decode cX9_comesOne 73 = .ok (.getfield 55, 3) := by decide +kernel
theorem dX9_comesOne_76 : decode cX9_comesOne 76 = .ok (.iload 4, 2) := by decide +kernel
theorem dX9_comesOne_78 : decode cX9_comesOne 78 = .ok (.iaload, 1) := by decide +kernel
theorem dX9_comesOne_79 : decode cX9_comesOne 79 = .ok (.if_icmp .ge 12, 3) := by decide +kernel
theorem dX9_comesOne_82 : decode cX9_comesOne 82 = .ok (.aload_n 0, 1) := by decide +kernel
theorem dX9_comesOne_83 : decode cX9_comesOne 83 = .ok (.iload_n 1, 1) := by decide +kernel
theorem dX9_comesOne_84 : decode cX9_comesOne 84 = .ok (.iload 4, 2) := by decide +kernel
theorem dX9_comesOne_86 : decode cX9_comesOne 86 = .ok (.invokevirtual 227, 3) := by decide +kernel
theorem dX9_comesOne_89 : decode cX9_comesOne 89 = .ok (.iconst 1, 1) := by decide +kernel
theorem dX9_comesOne_90 : decode cX9_comesOne 90 = .ok (.ireturn, 1) := by decide +kernel
theorem dX9_comesOne_91 : decode cX9_comesOne 91 = .ok (.iload_n 3, 1) := by decide +kernel
theorem dX9_comesOne_92 : decode cX9_comesOne 92 = .ok (.aload_n 0, 1) := by decide +kernel
theorem dX9_comesOne_93 : decode cX9_comesOne 93 = .ok (.getfield 55, 3) := by decide +kernel
theorem dX9_comesOne_96 : decode cX9_comesOne 96 = .ok (.iload 4, 2) := by decide +kernel
theorem dX9_comesOne_98 : decode cX9_comesOne 98 = .ok (.iaload, 1) := by decide +kernel
theorem dX9_comesOne_99 : decode cX9_comesOne 99 = .ok (.isub, 1) := by decide +kernel
theorem dX9_comesOne_100 : decode cX9_comesOne 100 = .ok (.istore_n 3, 1) := by decide +kernel
theorem dX9_comesOne_101 : decode cX9_comesOne 101 = .ok (.iinc 4 1, 3) := by decide +kernel
theorem dX9_comesOne_104 : decode cX9_comesOne 104 = .ok (.goto (-46), 3) := by decide +kernel
theorem dX9_comesOne_107 : decode cX9_comesOne 107 = .ok (.iconst 0, 1) := by decide +kernel
theorem dX9_comesOne_108 : decode cX9_comesOne 108 = .ok (.ireturn, 1) := by decide +kernel
theorem dX9_comesAll_0 : decode cX9_comesAll 0 = .ok (.iconst 0, 1) := by decide +kernel
theorem dX9_comesAll_1 : decode cX9_comesAll 1 = .ok (.istore_n 3, 1) := by decide +kernel
theorem dX9_comesAll_2 : decode cX9_comesAll 2 = .ok (.iconst 0, 1) := by decide +kernel
theorem dX9_comesAll_3 : decode cX9_comesAll 3 = .ok (.istore 4, 2) := by decide +kernel
theorem dX9_comesAll_5 : decode cX9_comesAll 5 = .ok (.iload 4, 2) := by decide +kernel
theorem dX9_comesAll_7 : decode cX9_comesAll 7 = .ok (.iload_n 2, 1) := by decide +kernel
theorem dX9_comesAll_8 : decode cX9_comesAll 8 = .ok (.if_icmp .ge 25, 3) := by decide +kernel
theorem dX9_comesAll_11 : decode cX9_comesAll 11 = .ok (.iload_n 3, 1) := by decide +kernel
theorem dX9_comesAll_12 : decode cX9_comesAll 12 = .ok (.aload_n 0, 1) := by decide +kernel
theorem dX9_comesAll_13 : decode cX9_comesAll 13 = .ok (.iload_n 1, 1) := by decide +kernel
theorem dX9_comesAll_14 : decode cX9_comesAll 14 = .ok (.invokevirtual 231, 3) := by decide +kernel
theorem dX9_comesAll_17 : decode cX9_comesAll 17 = .ok (.ifCond .eq 7, 3) := by decide +kernel
theorem dX9_comesAll_20 : decode cX9_comesAll 20 = .ok (.iconst 1, 1) := by decide +kernel
theorem dX9_comesAll_21 : decode cX9_comesAll 21 = .ok (.goto 4, 3) := by decide +kernel
theorem dX9_comesAll_24 : decode cX9_comesAll 24 = .ok (.iconst 0, 1) := by decide +kernel
theorem dX9_comesAll_25 : decode cX9_comesAll 25 = .ok (.iadd, 1) := by decide +kernel
theorem dX9_comesAll_26 : decode cX9_comesAll 26 = .ok (.istore_n 3, 1) := by decide +kernel
theorem dX9_comesAll_27 : decode cX9_comesAll 27 = .ok (.iinc 4 1, 3) := by decide +kernel
theorem dX9_comesAll_30 : decode cX9_comesAll 30 = .ok (.goto (-25), 3) := by decide +kernel
theorem dX9_comesAll_33 : decode cX9_comesAll 33 = .ok (.iload_n 3, 1) := by decide +kernel
theorem dX9_comesAll_34 : decode cX9_comesAll 34 = .ok (.ireturn, 1) := by decide +kernel
theorem dX9_come_0 : decode cX9_come 0 = .ok (.aload_n 0, 1) := by decide +kernel
theorem dX9_come_1 : decode cX9_come 1 = .ok (.iload_n 1, 1) := by decide +kernel
theorem dX9_come_2 : decode cX9_come 2 = .ok (.invokevirtual 186, 3) := by decide +kernel
theorem dX9_come_5 : decode cX9_come 5 = .ok (.ifCond .eq 24, 3) := by decide +kernel
theorem dX9_come_8 : decode cX9_come 8 = .ok (.iload_n 2, 1) := by decide +kernel
theorem dX9_come_9 : decode cX9_come 9 = .ok (.i2l, 1) := by decide +kernel
theorem dX9_come_10 : decode cX9_come 10 = .ok (.lconst 1, 1) := by decide +kernel
theorem dX9_come_11 : decode cX9_come 11 = .ok (.ldc2_w 234, 3) := by decide +kernel
theorem dX9_come_14 : decode cX9_come 14 = .ok (.invokestatic 102, 3) := by decide +kernel
theorem dX9_come_17 : decode cX9_come 17 = .ok (.ifCond .eq 12, 3) := by decide +kernel
theorem dX9_come_20 : decode cX9_come 20 = .ok (.aload_n 0, 1) := by decide +kernel
theorem dX9_come_21 : decode cX9_come 21 = .ok (.iload_n 1, 1) := by decide +kernel
theorem dX9_come_22 : decode cX9_come 22 = .ok (.iload_n 2, 1) := by decide +kernel
theorem dX9_come_23 : decode cX9_come 23 = .ok (.invokevirtual 236, 3) := by decide +kernel
theorem dX9_come_26 : decode cX9_come 26 = .ok (.goto 4, 3) := by decide +kernel
theorem dX9_come_29 : decode cX9_come 29 = .ok (.iconst (-1), 1) := by decide +kernel
theorem dX9_come_30 : decode cX9_come 30 = .ok (.ireturn, 1) := by decide +kernel
theorem dX9_keepings_0 : decode cX9_keepings 0 = .ok (.aload_n 0, 1) := by decide +kernel
theorem dX9_keepings_1 : decode cX9_keepings 1 = .ok (.iload_n 1, 1) := by decide +kernel
theorem dX9_keepings_2 : decode cX9_keepings 2 = .ok (.invokevirtual 186, 3) := by decide +kernel
theorem dX9_keepings_5 : decode cX9_keepings 5 = .ok (.ifCond .eq 23, 3) := by decide +kernel
theorem dX9_keepings_8 : decode cX9_keepings 8 = .ok (.iload_n 2, 1) := by decide +kernel
theorem dX9_keepings_9 : decode cX9_keepings 9 = .ok (.invokestatic 239, 3) := by decide +kernel
theorem dX9_keepings_12 : decode cX9_keepings 12 = .ok (.ifCond .eq 16, 3) := by decide +kernel
theorem dX9_keepings_15 : decode cX9_keepings 15 = .ok (.iload 4, 2) := by decide +kernel
theorem dX9_keepings_17 : decode cX9_keepings 17 = .ok (.i2l, 1) := by decide +kernel
theorem dX9_keepings_18 : decode cX9_keepings 18 = .ok (.lconst 1, 1) := by decide +kernel
theorem dX9_keepings_19 : decode cX9_keepings 19 = .ok (.ldc2_w 242, 3) := by decide +kernel
theorem dX9_keepings_22 : decode cX9_keepings 22 = .ok (.invokestatic 102, 3) := by decide +kernel
theorem dX9_keepings_25 : decode cX9_keepings 25 = .ok (.ifCond .ne 5, 3) := by decide +kernel
theorem dX9_keepings_28 : decode cX9_keepings 28 = .ok (.iconst (-1), 1) := by decide +kernel
theorem dX9_keepings_29 : decode cX9_keepings 29 = .ok (.ireturn, 1) := by decide +kernel
theorem dX9_keepings_30 : decode cX9_keepings 30 = .ok (.aload_n 0, 1) := by decide +kernel
theorem dX9_keepings_31 : decode cX9_keepings 31 = .ok (.getfield 79, 3) := by decide +kernel
theorem dX9_keepings_34 : decode cX9_keepings 34 = .ok (.iload_n 2, 1) := by decide +kernel
theorem dX9_keepings_35 : decode cX9_keepings 35 = .ok (.iaload, 1) := by decide +kernel
theorem dX9_keepings_36 : decode cX9_keepings 36 = .ok (.ifCond .lt 17, 3) := by decide +kernel
theorem dX9_keepings_39 : decode cX9_keepings 39 = .ok (.aload_n 0, 1) := by decide +kernel
theorem dX9_keepings_40 : decode cX9_keepings 40 = .ok (.getfield 79, 3) := by decide +kernel
theorem dX9_keepings_43 : decode cX9_keepings 43 = .ok (.iload_n 2, 1) := by decide +kernel
theorem dX9_keepings_44 : decode cX9_keepings 44 = .ok (.iaload, 1) := by decide +kernel
theorem dX9_keepings_45 : decode cX9_keepings 45 = .ok (.bipush 50, 2) := by decide +kernel
theorem dX9_keepings_47 : decode cX9_keepings 47 = .ok (.if_icmp .eq 6, 3) := by decide +kernel
theorem dX9_keepings_50 : decode cX9_keepings 50 = .ok (.bipush (-12), 2) := by decide +kernel
theorem dX9_keepings_52 : decode cX9_keepings 52 = .ok (.ireturn, 1) := by decide +kernel
theorem dX9_keepings_53 : decode cX9_keepings 53 = .ok (.iconst 0, 1) := by decide +kernel
theorem dX9_keepings_54 : decode cX9_keepings 54 = .ok (.istore 5, 2) := by decide +kernel
theorem dX9_keepings_56 : decode cX9_keepings 56 = .ok (.aload_n 0, 1) := by decide +kernel
theorem dX9_keepings_57 : decode cX9_keepings 57 = .ok (.getfield 79, 3) := by decide +kernel
theorem dX9_keepings_60 : decode cX9_keepings 60 = .ok (.iload_n 2, 1) := by decide +kernel
theorem dX9_keepings_61 : decode cX9_keepings 61 = .ok (.iaload, 1) := by decide +kernel
theorem dX9_keepings_62 : decode cX9_keepings 62 = .ok (.bipush 50, 2) := by decide +kernel
theorem dX9_keepings_64 : decode cX9_keepings 64 = .ok (.if_icmp .ne 11, 3) := by decide +kernel
theorem dX9_keepings_67 : decode cX9_keepings 67 = .ok (.iload_n 3, 1) := by decide +kernel
theorem dX9_keepings_68 : decode cX9_keepings 68 = .ok (.ifCond .lt 7, 3) := by decide +kernel
theorem dX9_keepings_71 : decode cX9_keepings 71 = .ok (.iconst 1, 1) := by decide +kernel
theorem dX9_keepings_72 : decode cX9_keepings 72 = .ok (.goto 4, 3) := by decide +kernel
theorem dX9_keepings_75 : decode cX9_keepings 75 = .ok (.iconst 0, 1) := by decide +kernel
theorem dX9_keepings_76 : decode cX9_keepings 76 = .ok (.istore 6, 2) := by decide +kernel
theorem dX9_keepings_78 : decode cX9_keepings 78 = .ok (.iload 6, 2) := by decide +kernel
theorem dX9_keepings_80 : decode cX9_keepings 80 = .ok (.ifCond .eq 98, 3) := by decide +kernel
theorem dX9_keepings_83 : decode cX9_keepings 83 = .ok (.iload 5, 2) := by decide +kernel
theorem dX9_keepings_85 : decode cX9_keepings 85 = .ok (.iload 4, 2) := by decide +kernel
theorem dX9_keepings_87 : decode cX9_keepings 87 = .ok (.if_icmp .ge 91, 3) := by decide +kernel
theorem dX9_keepings_90 : decode cX9_keepings 90 = .ok (.iload_n 3, 1) := by decide +kernel
theorem dX9_keepings_91 : decode cX9_keepings 91 = .ok (.aload_n 0, 1) := by decide +kernel
theorem dX9_keepings_92 : decode cX9_keepings 92 = .ok (.getfield 82, 3) := by decide +kernel
theorem dX9_keepings_95 : decode cX9_keepings 95 = .ok (.iload_n 2, 1) := by decide +kernel
theorem dX9_keepings_96 : decode cX9_keepings 96 = .ok (.iaload, 1) := by decide +kernel
theorem dX9_keepings_97 : decode cX9_keepings 97 = .ok (.iload 5, 2) := by decide +kernel
theorem dX9_keepings_99 : decode cX9_keepings 99 = .ok (.isub, 1) := by decide +kernel
theorem dX9_keepings_100 : decode cX9_keepings 100 = .ok (.if_icmp .ge 20, 3) := by decide +kernel
theorem dX9_keepings_103 : decode cX9_keepings 103 = .ok (.aload_n 0, 1) := by decide +kernel
theorem dX9_keepings_104 : decode cX9_keepings 104 = .ok (.getfield 85, 3) := by decide +kernel
theorem dX9_keepings_107 : decode cX9_keepings 107 = .ok (.bipush 60, 2) := by decide +kernel
theorem dX9_keepings_109 : decode cX9_keepings 109 = .ok (.iload_n 2, 1) := by decide +kernel
theorem dX9_keepings_110 : decode cX9_keepings 110 = .ok (.imul, 1) := by decide +kernel
theorem dX9_keepings_111 : decode cX9_keepings 111 = .ok (.iload_n 3, 1) := by decide +kernel
theorem dX9_keepings_112 : decode cX9_keepings 112 = .ok (.iadd, 1) := by decide +kernel
theorem dX9_keepings_113 : decode cX9_keepings 113 = .ok (.iload 5, 2) := by decide +kernel
theorem dX9_keepings_115 : decode cX9_keepings 115 = .ok (.iadd, 1) := by decide +kernel
theorem dX9_keepings_116 : decode cX9_keepings 116 = .ok (.laload, 1) := by decide +kernel
theorem dX9_keepings_117 : decode cX9_keepings 117 = .ok (.goto 6, 3) := by decide +kernel
theorem dX9_keepings_120 : decode cX9_keepings 120 = .ok (.ldc2_w 244, 3) := by decide +kernel
theorem dX9_keepings_123 : decode cX9_keepings 123 = .ok (.lstore 7, 2) := by decide +kernel
theorem dX9_keepings_125 : decode cX9_keepings 125 = .ok (.lload 7, 2) := by decide +kernel
theorem dX9_keepings_127 : decode cX9_keepings 127 = .ok (.ldc2_w 246, 3) := by decide +kernel
theorem dX9_keepings_130 : decode cX9_keepings 130 = .ok (.aload_n 0, 1) := by decide +kernel
theorem dX9_keepings_131 : decode cX9_keepings 131 = .ok (.getfield 99, 3) := by decide +kernel
theorem dX9_keepings_134 : decode cX9_keepings 134 = .ok (.iconst 1, 1) := by decide +kernel
theorem dX9_keepings_135 : decode cX9_keepings 135 = .ok (.isub, 1) := by decide +kernel
theorem dX9_keepings_136 : decode cX9_keepings 136 = .ok (.i2l, 1) := by decide +kernel
theorem dX9_keepings_137 : decode cX9_keepings 137 = .ok (.invokestatic 102, 3) := by decide +kernel
theorem dX9_keepings_140 : decode cX9_keepings 140 = .ok (.istore 6, 2) := by decide +kernel
theorem dX9_keepings_142 : decode cX9_keepings 142 = .ok (.iload 6, 2) := by decide +kernel
theorem dX9_keepings_144 : decode cX9_keepings 144 = .ok (.ifCond .eq 31, 3) := by decide +kernel
theorem dX9_keepings_147 : decode cX9_keepings 147 = .ok (.aload_n 0, 1) := by decide +kernel
theorem dX9_keepings_148 : decode cX9_keepings 148 = .ok (.getfield 46, 3) := by decide +kernel
theorem dX9_keepings_151 : decode cX9_keepings 151 = .ok (.iload_n 1, 1) := by decide +kernel
theorem dX9_keepings_152 : decode cX9_keepings 152 = .ok (.dup2, 1) := by decide +kernel
theorem dX9_keepings_153 : decode cX9_keepings 153 = .ok (.iaload, 1) := by decide +kernel
theorem dX9_keepings_154 : decode cX9_keepings 154 = .ok (.iconst 1, 1) := by decide +kernel
theorem dX9_keepings_155 : decode cX9_keepings 155 = .ok (.iadd, 1) := by decide +kernel
theorem dX9_keepings_156 : decode cX9_keepings 156 = .ok (.iastore, 1) := by decide +kernel
theorem dX9_keepings_157 : decode cX9_keepings 157 = .ok (.iinc 5 1, 3) := by decide +kernel
theorem dX9_keepings_160 : decode cX9_keepings 160 = .ok (.lload 7, 2) := by decide +kernel
theorem dX9_keepings_162 : decode cX9_keepings 162 = .ok (.lconst 0, 1) := by decide +kernel
theorem dX9_keepings_163 : decode cX9_keepings 163 = .ok (.lcmp, 1) := by decide +kernel
theorem dX9_keepings_164 : decode cX9_keepings 164 = .ok (.ifCond .lt 11, 3) := by decide +kernel
theorem dX9_keepings_167 : decode cX9_keepings 167 = .ok (.aload_n 0, 1) := by decide +kernel
theorem dX9_keepings_168 : decode cX9_keepings 168 = .ok (.iload_n 1, 1) := by decide +kernel
theorem dX9_keepings_169 : decode cX9_keepings 169 = .ok (.lload 7, 2) := by decide +kernel
theorem dX9_keepings_171 : decode cX9_keepings 171 = .ok (.l2i, 1) := by decide +kernel
theorem dX9_keepings_172 : decode cX9_keepings 172 = .ok (.invokevirtual 227, 3) := by decide +kernel
theorem dX9_keepings_175 : decode cX9_keepings 175 = .ok (.goto (-97), 3) := by decide +kernel
theorem dX9_keepings_178 : decode cX9_keepings 178 = .ok (.iload 5, 2) := by decide +kernel
theorem dX9_keepings_180 : decode cX9_keepings 180 = .ok (.ireturn, 1) := by decide +kernel
theorem dX9_led_0 : decode cX9_led 0 = .ok (.aload_n 0, 1) := by decide +kernel
theorem dX9_led_1 : decode cX9_led 1 = .ok (.iload_n 1, 1) := by decide +kernel
theorem dX9_led_2 : decode cX9_led 2 = .ok (.invokevirtual 186, 3) := by decide +kernel
theorem dX9_led_5 : decode cX9_led 5 = .ok (.ifCond .eq 39, 3) := by decide +kernel
theorem dX9_led_8 : decode cX9_led 8 = .ok (.iload_n 2, 1) := by decide +kernel
theorem dX9_led_9 : decode cX9_led 9 = .ok (.ifCond .lt 35, 3) := by decide +kernel
theorem dX9_led_12 : decode cX9_led 12 = .ok (.iload_n 2, 1) := by decide +kernel
theorem dX9_led_13 : decode cX9_led 13 = .ok (.aload_n 0, 1) := by decide +kernel
theorem dX9_led_14 : decode cX9_led 14 = .ok (.getfield 49, 3) := by decide +kernel
theorem dX9_led_17 : decode cX9_led 17 = .ok (.iload_n 1, 1) := by decide +kernel
theorem dX9_led_18 : decode cX9_led 18 = .ok (.iaload, 1) := by decide +kernel
theorem dX9_led_19 : decode cX9_led 19 = .ok (.if_icmp .ge 25, 3) := by decide +kernel
theorem dX9_led_22 : decode cX9_led 22 = .ok (.iload_n 2, 1) := by decide +kernel
theorem dX9_led_23 : decode cX9_led 23 = .ok (.sipush 200, 3) := by decide +kernel
theorem dX9_led_26 : decode cX9_led 26 = .ok (.if_icmp .ge 18, 3) := by decide +kernel
theorem dX9_led_29 : decode cX9_led 29 = .ok (.aload_n 0, 1) := by decide +kernel
theorem dX9_led_30 : decode cX9_led 30 = .ok (.getfield 52, 3) := by decide +kernel
theorem dX9_led_33 : decode cX9_led 33 = .ok (.sipush 200, 3) := by decide +kernel
theorem dX9_led_36 : decode cX9_led 36 = .ok (.iload_n 1, 1) := by decide +kernel
theorem dX9_led_37 : decode cX9_led 37 = .ok (.imul, 1) := by decide +kernel
theorem dX9_led_38 : decode cX9_led 38 = .ok (.iload_n 2, 1) := by decide +kernel
theorem dX9_led_39 : decode cX9_led 39 = .ok (.iadd, 1) := by decide +kernel
theorem dX9_led_40 : decode cX9_led 40 = .ok (.iaload, 1) := by decide +kernel
theorem dX9_led_41 : decode cX9_led 41 = .ok (.goto 4, 3) := by decide +kernel
theorem dX9_led_44 : decode cX9_led 44 = .ok (.iconst (-1), 1) := by decide +kernel
theorem dX9_led_45 : decode cX9_led 45 = .ok (.ireturn, 1) := by decide +kernel
theorem dX9_unequal_0 : decode cX9_unequal 0 = .ok (.aload_n 0, 1) := by decide +kernel
theorem dX9_unequal_1 : decode cX9_unequal 1 = .ok (.iload_n 1, 1) := by decide +kernel
theorem dX9_unequal_2 : decode cX9_unequal 2 = .ok (.invokevirtual 186, 3) := by decide +kernel
theorem dX9_unequal_5 : decode cX9_unequal 5 = .ok (.ifCond .ne 5, 3) := by decide +kernel
theorem dX9_unequal_8 : decode cX9_unequal 8 = .ok (.iconst (-1), 1) := by decide +kernel
theorem dX9_unequal_9 : decode cX9_unequal 9 = .ok (.ireturn, 1) := by decide +kernel
theorem dX9_unequal_10 : decode cX9_unequal 10 = .ok (.iconst 0, 1) := by decide +kernel
theorem dX9_unequal_11 : decode cX9_unequal 11 = .ok (.istore_n 2, 1) := by decide +kernel
theorem dX9_unequal_12 : decode cX9_unequal 12 = .ok (.iconst 0, 1) := by decide +kernel
theorem dX9_unequal_13 : decode cX9_unequal 13 = .ok (.istore_n 3, 1) := by decide +kernel
theorem dX9_unequal_14 : decode cX9_unequal 14 = .ok (.iload_n 3, 1) := by decide +kernel
theorem dX9_unequal_15 : decode cX9_unequal 15 = .ok (.aload_n 0, 1) := by decide +kernel
theorem dX9_unequal_16 : decode cX9_unequal 16 = .ok (.getfield 99, 3) := by decide +kernel
theorem dX9_unequal_19 : decode cX9_unequal 19 = .ok (.if_icmp .ge 44, 3) := by decide +kernel
theorem dX9_unequal_22 : decode cX9_unequal 22 = .ok (.iconst 0, 1) := by decide +kernel
theorem dX9_unequal_23 : decode cX9_unequal 23 = .ok (.istore 4, 2) := by decide +kernel
theorem dX9_unequal_25 : decode cX9_unequal 25 = .ok (.iload 4, 2) := by decide +kernel
theorem dX9_unequal_27 : decode cX9_unequal 27 = .ok (.iload_n 3, 1) := by decide +kernel
theorem dX9_unequal_28 : decode cX9_unequal 28 = .ok (.if_icmp .ge 29, 3) := by decide +kernel
theorem dX9_unequal_31 : decode cX9_unequal 31 = .ok (.iload_n 2, 1) := by decide +kernel
theorem dX9_unequal_32 : decode cX9_unequal 32 = .ok (.aload_n 0, 1) := by decide +kernel
theorem dX9_unequal_33 : decode cX9_unequal 33 = .ok (.iload_n 1, 1) := by decide +kernel
theorem dX9_unequal_34 : decode cX9_unequal 34 = .ok (.iload_n 3, 1) := by decide +kernel
theorem dX9_unequal_35 : decode cX9_unequal 35 = .ok (.invokevirtual 216, 3) := by decide +kernel
theorem dX9_unequal_38 : decode cX9_unequal 38 = .ok (.aload_n 0, 1) := by decide +kernel
theorem dX9_unequal_39 : decode cX9_unequal 39 = .ok (.iload_n 1, 1) := by decide +kernel
theorem dX9_unequal_40 : decode cX9_unequal 40 = .ok (.iload 4, 2) := by decide +kernel
theorem dX9_unequal_42 : decode cX9_unequal 42 = .ok (.invokevirtual 216, 3) := by decide +kernel
theorem dX9_unequal_45 : decode cX9_unequal 45 = .ok (.isub, 1) := by decide +kernel
theorem dX9_unequal_46 : decode cX9_unequal 46 = .ok (.invokestatic 248, 3) := by decide +kernel
theorem dX9_unequal_49 : decode cX9_unequal 49 = .ok (.iadd, 1) := by decide +kernel
theorem dX9_unequal_50 : decode cX9_unequal 50 = .ok (.istore_n 2, 1) := by decide +kernel
theorem dX9_unequal_51 : decode cX9_unequal 51 = .ok (.iinc 4 1, 3) := by decide +kernel
theorem dX9_unequal_54 : decode cX9_unequal 54 = .ok (.goto (-29), 3) := by decide +kernel
theorem dX9_unequal_57 : decode cX9_unequal 57 = .ok (.iinc 3 1, 3) := by decide +kernel
theorem dX9_unequal_60 : decode cX9_unequal 60 = .ok (.goto (-46), 3) := by decide +kernel
theorem dX9_unequal_63 : decode cX9_unequal 63 = .ok (.aload_n 0, 1) := by decide +kernel
theorem dX9_unequal_64 : decode cX9_unequal 64 = .ok (.getfield 99, 3) := by decide +kernel
theorem dX9_unequal_67 : decode cX9_unequal 67 = .ok (.ifCond .ne 7, 3) := by decide +kernel
theorem dX9_unequal_70 : decode cX9_unequal 70 = .ok (.iconst 0, 1) := by decide +kernel
theorem dX9_unequal_71 : decode cX9_unequal 71 = .ok (.goto 9, 3) := by decide +kernel
theorem dX9_unequal_74 : decode cX9_unequal 74 = .ok (.iload_n 2, 1) := by decide +kernel
theorem dX9_unequal_75 : decode cX9_unequal 75 = .ok (.aload_n 0, 1) := by decide +kernel
theorem dX9_unequal_76 : decode cX9_unequal 76 = .ok (.getfield 99, 3) := by decide +kernel
theorem dX9_unequal_79 : decode cX9_unequal 79 = .ok (.idiv, 1) := by decide +kernel
theorem dX9_unequal_80 : decode cX9_unequal 80 = .ok (.ireturn, 1) := by decide +kernel
theorem dX9_areTwo_0 : decode cX9_areTwo 0 = .ok (.iload_n 1, 1) := by decide +kernel
theorem dX9_areTwo_1 : decode cX9_areTwo 1 = .ok (.ifCond .lt 40, 3) := by decide +kernel
theorem dX9_areTwo_4 : decode cX9_areTwo 4 = .ok (.aload_n 0, 1) := by decide +kernel
theorem dX9_areTwo_5 : decode cX9_areTwo 5 = .ok (.iload_n 1, 1) := by decide +kernel
theorem dX9_areTwo_6 : decode cX9_areTwo 6 = .ok (.bipush 10, 2) := by decide +kernel
theorem dX9_areTwo_8 : decode cX9_areTwo 8 = .ok (.idiv, 1) := by decide +kernel
theorem dX9_areTwo_9 : decode cX9_areTwo 9 = .ok (.invokevirtual 186, 3) := by decide +kernel
theorem dX9_areTwo_12 : decode cX9_areTwo 12 = .ok (.ifCond .eq 29, 3) := by decide +kernel
theorem dX9_areTwo_15 : decode cX9_areTwo 15 = .ok (.aload_n 0, 1) := by decide +kernel
theorem dX9_areTwo_16 : decode cX9_areTwo 16 = .ok (.iload_n 1, 1) := by decide +kernel
theorem dX9_areTwo_17 : decode cX9_areTwo 17 = .ok (.bipush 10, 2) := by decide +kernel
theorem dX9_areTwo_19 : decode cX9_areTwo 19 = .ok (.irem, 1) := by decide +kernel
theorem dX9_areTwo_20 : decode cX9_areTwo 20 = .ok (.invokevirtual 186, 3) := by decide +kernel
theorem dX9_areTwo_23 : decode cX9_areTwo 23 = .ok (.ifCond .eq 18, 3) := by decide +kernel
theorem dX9_areTwo_26 : decode cX9_areTwo 26 = .ok (.iload_n 1, 1) := by decide +kernel
theorem dX9_areTwo_27 : decode cX9_areTwo 27 = .ok (.bipush 10, 2) := by decide +kernel
theorem dX9_areTwo_29 : decode cX9_areTwo 29 = .ok (.idiv, 1) := by decide +kernel
theorem dX9_areTwo_30 : decode cX9_areTwo 30 = .ok (.iload_n 1, 1) := by decide +kernel
theorem dX9_areTwo_31 : decode cX9_areTwo 31 = .ok (.bipush 10, 2) := by decide +kernel
theorem dX9_areTwo_33 : decode cX9_areTwo 33 = .ok (.irem, 1) := by decide +kernel
theorem dX9_areTwo_34 : decode cX9_areTwo 34 = .ok (.if_icmp .eq 7, 3) := by decide +kernel
theorem dX9_areTwo_37 : decode cX9_areTwo 37 = .ok (.iconst 1, 1) := by decide +kernel
theorem dX9_areTwo_38 : decode cX9_areTwo 38 = .ok (.goto 4, 3) := by decide +kernel
theorem dX9_areTwo_41 : decode cX9_areTwo 41 = .ok (.iconst 0, 1) := by decide +kernel
theorem dX9_areTwo_42 : decode cX9_areTwo 42 = .ok (.ireturn, 1) := by decide +kernel
theorem dX9_unlikeOf_0 : decode cX9_unlikeOf 0 = .ok (.iconst 0, 1) := by decide +kernel
theorem dX9_unlikeOf_1 : decode cX9_unlikeOf 1 = .ok (.istore_n 3, 1) := by decide +kernel
theorem dX9_unlikeOf_2 : decode cX9_unlikeOf 2 = .ok (.iconst 0, 1) := by decide +kernel
theorem dX9_unlikeOf_3 : decode cX9_unlikeOf 3 = .ok (.istore 4, 2) := by decide +kernel
theorem dX9_unlikeOf_5 : decode cX9_unlikeOf 5 = .ok (.iload 4, 2) := by decide +kernel
theorem dX9_unlikeOf_7 : decode cX9_unlikeOf 7 = .ok (.aload_n 0, 1) := by decide +kernel
theorem dX9_unlikeOf_8 : decode cX9_unlikeOf 8 = .ok (.getfield 99, 3) := by decide +kernel
theorem dX9_unlikeOf_11 : decode cX9_unlikeOf 11 = .ok (.if_icmp .ge 30, 3) := by decide +kernel
theorem dX9_unlikeOf_14 : decode cX9_unlikeOf 14 = .ok (.iload_n 3, 1) := by decide +kernel
theorem dX9_unlikeOf_15 : decode cX9_unlikeOf 15 = .ok (.aload_n 0, 1) := by decide +kernel
theorem dX9_unlikeOf_16 : decode cX9_unlikeOf 16 = .ok (.iload_n 1, 1) := by decide +kernel
theorem dX9_unlikeOf_17 : decode cX9_unlikeOf 17 = .ok (.iload 4, 2) := by decide +kernel
theorem dX9_unlikeOf_19 : decode cX9_unlikeOf 19 = .ok (.invokevirtual 216, 3) := by decide +kernel
theorem dX9_unlikeOf_22 : decode cX9_unlikeOf 22 = .ok (.aload_n 0, 1) := by decide +kernel
theorem dX9_unlikeOf_23 : decode cX9_unlikeOf 23 = .ok (.iload_n 2, 1) := by decide +kernel
theorem dX9_unlikeOf_24 : decode cX9_unlikeOf 24 = .ok (.iload 4, 2) := by decide +kernel
theorem dX9_unlikeOf_26 : decode cX9_unlikeOf 26 = .ok (.invokevirtual 216, 3) := by decide +kernel
theorem dX9_unlikeOf_29 : decode cX9_unlikeOf 29 = .ok (.isub, 1) := by decide +kernel
theorem dX9_unlikeOf_30 : decode cX9_unlikeOf 30 = .ok (.invokestatic 248, 3) := by decide +kernel
theorem dX9_unlikeOf_33 : decode cX9_unlikeOf 33 = .ok (.iadd, 1) := by decide +kernel
theorem dX9_unlikeOf_34 : decode cX9_unlikeOf 34 = .ok (.istore_n 3, 1) := by decide +kernel
theorem dX9_unlikeOf_35 : decode cX9_unlikeOf 35 = .ok (.iinc 4 1, 3) := by decide +kernel
theorem dX9_unlikeOf_38 : decode cX9_unlikeOf 38 = .ok (.goto (-33), 3) := by decide +kernel
theorem dX9_unlikeOf_41 : decode cX9_unlikeOf 41 = .ok (.iload_n 3, 1) := by decide +kernel
theorem dX9_unlikeOf_42 : decode cX9_unlikeOf 42 = .ok (.iconst 2, 1) := by decide +kernel
theorem dX9_unlikeOf_43 : decode cX9_unlikeOf 43 = .ok (.idiv, 1) := by decide +kernel
theorem dX9_unlikeOf_44 : decode cX9_unlikeOf 44 = .ok (.ireturn, 1) := by decide +kernel
theorem dX9_unlike_0 : decode cX9_unlike 0 = .ok (.aload_n 0, 1) := by decide +kernel
theorem dX9_unlike_1 : decode cX9_unlike 1 = .ok (.iload_n 1, 1) := by decide +kernel
theorem dX9_unlike_2 : decode cX9_unlike 2 = .ok (.invokevirtual 251, 3) := by decide +kernel
theorem dX9_unlike_5 : decode cX9_unlike 5 = .ok (.ifCond .eq 18, 3) := by decide +kernel
theorem dX9_unlike_8 : decode cX9_unlike 8 = .ok (.aload_n 0, 1) := by decide +kernel
theorem dX9_unlike_9 : decode cX9_unlike 9 = .ok (.iload_n 1, 1) := by decide +kernel
theorem dX9_unlike_10 : decode cX9_unlike 10 = .ok (.bipush 10, 2) := by decide +kernel
theorem dX9_unlike_12 : decode cX9_unlike 12 = .ok (.idiv, 1) := by decide +kernel
theorem dX9_unlike_13 : decode cX9_unlike 13 = .ok (.iload_n 1, 1) := by decide +kernel
theorem dX9_unlike_14 : decode cX9_unlike 14 = .ok (.bipush 10, 2) := by decide +kernel
theorem dX9_unlike_16 : decode cX9_unlike 16 = .ok (.irem, 1) := by decide +kernel
theorem dX9_unlike_17 : decode cX9_unlike 17 = .ok (.invokevirtual 254, 3) := by decide +kernel
theorem dX9_unlike_20 : decode cX9_unlike 20 = .ok (.goto 4, 3) := by decide +kernel
theorem dX9_unlike_23 : decode cX9_unlike 23 = .ok (.iconst (-1), 1) := by decide +kernel
theorem dX9_unlike_24 : decode cX9_unlike 24 = .ok (.ireturn, 1) := by decide +kernel
theorem dX9_luckOf_0 : decode cX9_luckOf 0 = .ok (.iconst 0, 1) := by decide +kernel
theorem dX9_luckOf_1 : decode cX9_luckOf 1 = .ok (.istore_n 3, 1) := by decide +kernel
theorem dX9_luckOf_2 : decode cX9_luckOf 2 = .ok (.iconst 0, 1) := by decide +kernel
theorem dX9_luckOf_3 : decode cX9_luckOf 3 = .ok (.istore 4, 2) := by decide +kernel
theorem dX9_luckOf_5 : decode cX9_luckOf 5 = .ok (.iconst 0, 1) := by decide +kernel
theorem dX9_luckOf_6 : decode cX9_luckOf 6 = .ok (.istore 5, 2) := by decide +kernel
theorem dX9_luckOf_8 : decode cX9_luckOf 8 = .ok (.iload 5, 2) := by decide +kernel
theorem dX9_luckOf_10 : decode cX9_luckOf 10 = .ok (.aload_n 0, 1) := by decide +kernel
theorem dX9_luckOf_11 : decode cX9_luckOf 11 = .ok (.getfield 174, 3) := by decide +kernel
theorem dX9_luckOf_14 : decode cX9_luckOf 14 = .ok (.if_icmp .ge 71, 3) := by decide +kernel
theorem dX9_luckOf_17 : decode cX9_luckOf 17 = .ok (.iconst 0, 1) := by decide +kernel
theorem dX9_luckOf_18 : decode cX9_luckOf 18 = .ok (.istore 6, 2) := by decide +kernel
theorem dX9_luckOf_20 : decode cX9_luckOf 20 = .ok (.iload 6, 2) := by decide +kernel
theorem dX9_luckOf_22 : decode cX9_luckOf 22 = .ok (.iload 5, 2) := by decide +kernel
theorem dX9_luckOf_24 : decode cX9_luckOf 24 = .ok (.if_icmp .ge 55, 3) := by decide +kernel
theorem dX9_luckOf_27 : decode cX9_luckOf 27 = .ok (.aload_n 0, 1) := by decide +kernel
theorem dX9_luckOf_28 : decode cX9_luckOf 28 = .ok (.getfield 34, 3) := by decide +kernel
theorem dX9_luckOf_31 : decode cX9_luckOf 31 = .ok (.iload 5, 2) := by decide +kernel
theorem dX9_luckOf_33 : decode cX9_luckOf 33 = .ok (.iaload, 1) := by decide +kernel
theorem dX9_luckOf_34 : decode cX9_luckOf 34 = .ok (.iload_n 1, 1) := by decide +kernel
theorem dX9_luckOf_35 : decode cX9_luckOf 35 = .ok (.if_icmp .ne 38, 3) := by decide +kernel
theorem dX9_luckOf_38 : decode cX9_luckOf 38 = .ok (.aload_n 0, 1) := by decide +kernel
theorem dX9_luckOf_39 : decode cX9_luckOf 39 = .ok (.getfield 34, 3) := by decide +kernel
theorem dX9_luckOf_42 : decode cX9_luckOf 42 = .ok (.iload 6, 2) := by decide +kernel
theorem dX9_luckOf_44 : decode cX9_luckOf 44 = .ok (.iaload, 1) := by decide +kernel
theorem dX9_luckOf_45 : decode cX9_luckOf 45 = .ok (.iload_n 1, 1) := by decide +kernel
theorem dX9_luckOf_46 : decode cX9_luckOf 46 = .ok (.if_icmp .ne 27, 3) := by decide +kernel
theorem dX9_luckOf_49 : decode cX9_luckOf 49 = .ok (.iload_n 3, 1) := by decide +kernel
theorem dX9_luckOf_50 : decode cX9_luckOf 50 = .ok (.aload_n 0, 1) := by decide +kernel
theorem dX9_luckOf_51 : decode cX9_luckOf 51 = .ok (.iload 5, 2) := by decide +kernel
theorem dX9_luckOf_53 : decode cX9_luckOf 53 = .ok (.iload_n 2, 1) := by decide +kernel
theorem dX9_luckOf_54 : decode cX9_luckOf 54 = .ok (.invokevirtual 216, 3) := by decide +kernel
theorem dX9_luckOf_57 : decode cX9_luckOf 57 = .ok (.aload_n 0, 1) := by decide +kernel
theorem dX9_luckOf_58 : decode cX9_luckOf 58 = .ok (.iload 6, 2) := by decide +kernel
theorem dX9_luckOf_60 : decode cX9_luckOf 60 = .ok (.iload_n 2, 1) := by decide +kernel
theorem dX9_luckOf_61 : decode cX9_luckOf 61 = .ok (.invokevirtual 216, 3) := by decide +kernel
theorem dX9_luckOf_64 : decode cX9_luckOf 64 = .ok (.isub, 1) := by decide +kernel
theorem dX9_luckOf_65 : decode cX9_luckOf 65 = .ok (.invokestatic 248, 3) := by decide +kernel
theorem dX9_luckOf_68 : decode cX9_luckOf 68 = .ok (.iadd, 1) := by decide +kernel
theorem dX9_luckOf_69 : decode cX9_luckOf 69 = .ok (.istore_n 3, 1) := by decide +kernel
theorem dX9_luckOf_70 : decode cX9_luckOf 70 = .ok (.iinc 4 1, 3) := by decide +kernel
theorem dX9_luckOf_73 : decode cX9_luckOf 73 = .ok (.iinc 6 1, 3) := by decide +kernel
theorem dX9_luckOf_76 : decode cX9_luckOf 76 = .ok (.goto (-56), 3) := by decide +kernel
theorem dX9_luckOf_79 : decode cX9_luckOf 79 = .ok (.iinc 5 1, 3) := by decide +kernel
theorem dX9_luckOf_82 : decode cX9_luckOf 82 = .ok (.goto (-74), 3) := by decide +kernel
theorem dX9_luckOf_85 : decode cX9_luckOf 85 = .ok (.iload 4, 2) := by decide +kernel
theorem dX9_luckOf_87 : decode cX9_luckOf 87 = .ok (.ifCond .ne 8, 3) := by decide +kernel
theorem dX9_luckOf_90 : decode cX9_luckOf 90 = .ok (.bipush (-2), 2) := by decide +kernel
theorem dX9_luckOf_92 : decode cX9_luckOf 92 = .ok (.goto 7, 3) := by decide +kernel
theorem dX9_luckOf_95 : decode cX9_luckOf 95 = .ok (.iload_n 3, 1) := by decide +kernel
theorem dX9_luckOf_96 : decode cX9_luckOf 96 = .ok (.iload 4, 2) := by decide +kernel
theorem dX9_luckOf_98 : decode cX9_luckOf 98 = .ok (.idiv, 1) := by decide +kernel
theorem dX9_luckOf_99 : decode cX9_luckOf 99 = .ok (.ireturn, 1) := by decide +kernel
theorem dX9_luck_0 : decode cX9_luck 0 = .ok (.aload_n 0, 1) := by decide +kernel
theorem dX9_luck_1 : decode cX9_luck 1 = .ok (.iload_n 1, 1) := by decide +kernel
theorem dX9_luck_2 : decode cX9_luck 2 = .ok (.invokevirtual 177, 3) := by decide +kernel
theorem dX9_luck_5 : decode cX9_luck 5 = .ok (.ifCond .eq 16, 3) := by decide +kernel
theorem dX9_luck_8 : decode cX9_luck 8 = .ok (.iload_n 2, 1) := by decide +kernel
theorem dX9_luck_9 : decode cX9_luck 9 = .ok (.iconst (-1), 1) := by decide +kernel
theorem dX9_luck_10 : decode cX9_luck 10 = .ok (.if_icmp .eq 13, 3) := by decide +kernel
theorem dX9_luck_13 : decode cX9_luck 13 = .ok (.aload_n 0, 1) := by decide +kernel
theorem dX9_luck_14 : decode cX9_luck 14 = .ok (.iload_n 2, 1) := by decide +kernel
theorem dX9_luck_15 : decode cX9_luck 15 = .ok (.invokevirtual 111, 3) := by decide +kernel
theorem dX9_luck_18 : decode cX9_luck 18 = .ok (.ifCond .ne 5, 3) := by decide +kernel
theorem dX9_luck_21 : decode cX9_luck 21 = .ok (.iconst (-1), 1) := by decide +kernel
theorem dX9_luck_22 : decode cX9_luck 22 = .ok (.ireturn, 1) := by decide +kernel
theorem dX9_luck_23 : decode cX9_luck 23 = .ok (.iload_n 2, 1) := by decide +kernel
theorem dX9_luck_24 : decode cX9_luck 24 = .ok (.iconst (-1), 1) := by decide +kernel
theorem dX9_luck_25 : decode cX9_luck 25 = .ok (.if_icmp .eq 10, 3) := by decide +kernel
theorem dX9_luck_28 : decode cX9_luck 28 = .ok (.aload_n 0, 1) := by decide +kernel
theorem dX9_luck_29 : decode cX9_luck 29 = .ok (.iload_n 1, 1) := by decide +kernel
theorem dX9_luck_30 : decode cX9_luck 30 = .ok (.iload_n 2, 1) := by decide +kernel
theorem dX9_luck_31 : decode cX9_luck 31 = .ok (.invokevirtual 257, 3) := by decide +kernel
theorem dX9_luck_34 : decode cX9_luck 34 = .ok (.ireturn, 1) := by decide +kernel
theorem dX9_luck_35 : decode cX9_luck 35 = .ok (.iconst 0, 1) := by decide +kernel
theorem dX9_luck_36 : decode cX9_luck 36 = .ok (.istore_n 3, 1) := by decide +kernel
theorem dX9_luck_37 : decode cX9_luck 37 = .ok (.iconst 0, 1) := by decide +kernel
theorem dX9_luck_38 : decode cX9_luck 38 = .ok (.istore 4, 2) := by decide +kernel
theorem dX9_luck_40 : decode cX9_luck 40 = .ok (.iload 4, 2) := by decide +kernel
theorem dX9_luck_42 : decode cX9_luck 42 = .ok (.aload_n 0, 1) := by decide +kernel
theorem dX9_luck_43 : decode cX9_luck 43 = .ok (.getfield 99, 3) := by decide +kernel
theorem dX9_luck_46 : decode cX9_luck 46 = .ok (.if_icmp .ge 33, 3) := by decide +kernel
theorem dX9_luck_49 : decode cX9_luck 49 = .ok (.aload_n 0, 1) := by decide +kernel
theorem dX9_luck_50 : decode cX9_luck 50 = .ok (.iload_n 1, 1) := by decide +kernel
theorem dX9_luck_51 : decode cX9_luck 51 = .ok (.iload 4, 2) := by decide +kernel
theorem dX9_luck_53 : decode cX9_luck 53 = .ok (.invokevirtual 257, 3) := by decide +kernel
theorem dX9_luck_56 : decode cX9_luck 56 = .ok (.istore 5, 2) := by decide +kernel
theorem dX9_luck_58 : decode cX9_luck 58 = .ok (.iload 5, 2) := by decide +kernel
theorem dX9_luck_60 : decode cX9_luck 60 = .ok (.bipush (-2), 2) := by decide +kernel
theorem dX9_luck_62 : decode cX9_luck 62 = .ok (.if_icmp .ne 6, 3) := by decide +kernel
theorem dX9_luck_65 : decode cX9_luck 65 = .ok (.bipush (-2), 2) := by decide +kernel
theorem dX9_luck_67 : decode cX9_luck 67 = .ok (.ireturn, 1) := by decide +kernel
theorem dX9_luck_68 : decode cX9_luck 68 = .ok (.iload_n 3, 1) := by decide +kernel
theorem dX9_luck_69 : decode cX9_luck 69 = .ok (.iload 5, 2) := by decide +kernel
theorem dX9_luck_71 : decode cX9_luck 71 = .ok (.iadd, 1) := by decide +kernel
theorem dX9_luck_72 : decode cX9_luck 72 = .ok (.istore_n 3, 1) := by decide +kernel
theorem dX9_luck_73 : decode cX9_luck 73 = .ok (.iinc 4 1, 3) := by decide +kernel
theorem dX9_luck_76 : decode cX9_luck 76 = .ok (.goto (-36), 3) := by decide +kernel
theorem dX9_luck_79 : decode cX9_luck 79 = .ok (.aload_n 0, 1) := by decide +kernel
theorem dX9_luck_80 : decode cX9_luck 80 = .ok (.getfield 99, 3) := by decide +kernel
theorem dX9_luck_83 : decode cX9_luck 83 = .ok (.ifCond .ne 8, 3) := by decide +kernel
theorem dX9_luck_86 : decode cX9_luck 86 = .ok (.bipush (-2), 2) := by decide +kernel
theorem dX9_luck_88 : decode cX9_luck 88 = .ok (.goto 9, 3) := by decide +kernel
theorem dX9_luck_91 : decode cX9_luck 91 = .ok (.iload_n 3, 1) := by decide +kernel
theorem dX9_luck_92 : decode cX9_luck 92 = .ok (.aload_n 0, 1) := by decide +kernel
theorem dX9_luck_93 : decode cX9_luck 93 = .ok (.getfield 99, 3) := by decide +kernel
theorem dX9_luck_96 : decode cX9_luck 96 = .ok (.idiv, 1) := by decide +kernel
theorem dX9_luck_97 : decode cX9_luck 97 = .ok (.ireturn, 1) := by decide +kernel
theorem dX9_findPairs_0 : decode cX9_findPairs 0 = .ok (.aload_n 0, 1) := by decide +kernel
theorem dX9_findPairs_1 : decode cX9_findPairs 1 = .ok (.iconst 0, 1) := by decide +kernel
theorem dX9_findPairs_2 : decode cX9_findPairs 2 = .ok (.putfield 260, 3) := by decide +kernel
theorem dX9_findPairs_5 : decode cX9_findPairs 5 = .ok (.aload_n 0, 1) := by decide +kernel
theorem dX9_findPairs_6 : decode cX9_findPairs 6 = .ok (.iconst 0, 1) := by decide +kernel
theorem dX9_findPairs_7 : decode cX9_findPairs 7 = .ok (.putfield 263, 3) := by decide +kernel
theorem dX9_findPairs_10 : decode cX9_findPairs 10 = .ok (.aload_n 0, 1) := by decide +kernel
theorem dX9_findPairs_11 : decode cX9_findPairs 11 = .ok (.iconst 0, 1) := by decide +kernel
theorem dX9_findPairs_12 : decode cX9_findPairs 12 = .ok (.putfield 266, 3) := by decide +kernel
theorem dX9_findPairs_15 : decode cX9_findPairs 15 = .ok (.iconst 0, 1) := by decide +kernel
theorem dX9_findPairs_16 : decode cX9_findPairs 16 = .ok (.istore_n 2, 1) := by decide +kernel
theorem dX9_findPairs_17 : decode cX9_findPairs 17 = .ok (.iload_n 2, 1) := by decide +kernel
theorem dX9_findPairs_18 : decode cX9_findPairs 18 = .ok (.aload_n 0, 1) := by decide +kernel
theorem dX9_findPairs_19 : decode cX9_findPairs 19 = .ok (.getfield 99, 3) := by decide +kernel
theorem dX9_findPairs_22 : decode cX9_findPairs 22 = .ok (.if_icmp .ge 197, 3) := by decide +kernel
theorem dX9_findPairs_25 : decode cX9_findPairs 25 = .ok (.iconst 0, 1) := by decide +kernel
theorem dX9_findPairs_26 : decode cX9_findPairs 26 = .ok (.istore_n 3, 1) := by decide +kernel
theorem dX9_findPairs_27 : decode cX9_findPairs 27 = .ok (.iload_n 3, 1) := by decide +kernel
theorem dX9_findPairs_28 : decode cX9_findPairs 28 = .ok (.iload_n 2, 1) := by decide +kernel
theorem dX9_findPairs_29 : decode cX9_findPairs 29 = .ok (.if_icmp .ge 184, 3) := by decide +kernel
theorem dX9_findPairs_32 : decode cX9_findPairs 32 = .ok (.iconst 0, 1) := by decide +kernel
theorem dX9_findPairs_33 : decode cX9_findPairs 33 = .ok (.istore 4, 2) := by decide +kernel
theorem dX9_findPairs_35 : decode cX9_findPairs 35 = .ok (.iconst 0, 1) := by decide +kernel
theorem dX9_findPairs_36 : decode cX9_findPairs 36 = .ok (.istore 5, 2) := by decide +kernel
theorem dX9_findPairs_38 : decode cX9_findPairs 38 = .ok (.iconst 0, 1) := by decide +kernel
theorem dX9_findPairs_39 : decode cX9_findPairs 39 = .ok (.istore 6, 2) := by decide +kernel
theorem dX9_findPairs_41 : decode cX9_findPairs 41 = .ok (.iload 6, 2) := by decide +kernel
theorem dX9_findPairs_43 : decode cX9_findPairs 43 = .ok (.aload_n 0, 1) := by decide +kernel
theorem dX9_findPairs_44 : decode cX9_findPairs 44 = .ok (.getfield 174, 3) := by decide +kernel
theorem dX9_findPairs_47 : decode cX9_findPairs 47 = .ok (.if_icmp .ge 109, 3) := by decide +kernel
theorem dX9_findPairs_50 : decode cX9_findPairs 50 = .ok (.aload_n 0, 1) := by decide +kernel
theorem dX9_findPairs_51 : decode cX9_findPairs 51 = .ok (.getfield 9, 3) := by decide +kernel
theorem dX9_findPairs_54 : decode cX9_findPairs 54 = .ok (.iload_n 2, 1) := by decide +kernel
theorem dX9_findPairs_55 : decode cX9_findPairs 55 = .ok (.iaload, 1) := by decide +kernel
theorem dX9_findPairs_56 : decode cX9_findPairs 56 = .ok (.aload_n 0, 1) := by decide +kernel
theorem dX9_findPairs_57 : decode cX9_findPairs 57 = .ok (.getfield 9, 3) := by decide +kernel
theorem dX9_findPairs_60 : decode cX9_findPairs 60 = .ok (.iload_n 3, 1) := by decide +kernel
theorem dX9_findPairs_61 : decode cX9_findPairs 61 = .ok (.iaload, 1) := by decide +kernel
theorem dX9_findPairs_62 : decode cX9_findPairs 62 = .ok (.if_icmp .eq 94, 3) := by decide +kernel
theorem dX9_findPairs_65 : decode cX9_findPairs 65 = .ok (.iload_n 1, 1) := by decide +kernel
theorem dX9_findPairs_66 : decode cX9_findPairs 66 = .ok (.iload 6, 2) := by decide +kernel
theorem dX9_findPairs_68 : decode cX9_findPairs 68 = .ok (.ishr, 1) := by decide +kernel
theorem dX9_findPairs_69 : decode cX9_findPairs 69 = .ok (.iconst 1, 1) := by decide +kernel
theorem dX9_findPairs_70 : decode cX9_findPairs 70 = .ok (.iand, 1) := by decide +kernel
theorem dX9_findPairs_71 : decode cX9_findPairs 71 = .ok (.iconst 1, 1) := by decide +kernel
theorem dX9_findPairs_72 : decode cX9_findPairs 72 = .ok (.if_icmp .ne 78, 3) := by decide +kernel
theorem dX9_findPairs_75 : decode cX9_findPairs 75 = .ok (.aload_n 0, 1) := by decide +kernel
theorem dX9_findPairs_76 : decode cX9_findPairs 76 = .ok (.iload 6, 2) := by decide +kernel
theorem dX9_findPairs_78 : decode cX9_findPairs 78 = .ok (.iload_n 2, 1) := by decide +kernel
theorem dX9_findPairs_79 : decode cX9_findPairs 79 = .ok (.invokevirtual 191, 3) := by decide +kernel
theorem dX9_findPairs_82 : decode cX9_findPairs 82 = .ok (.aload_n 0, 1) := by decide +kernel
theorem dX9_findPairs_83 : decode cX9_findPairs 83 = .ok (.iload 6, 2) := by decide +kernel
theorem dX9_findPairs_85 : decode cX9_findPairs 85 = .ok (.iload_n 3, 1) := by decide +kernel
theorem dX9_findPairs_86 : decode cX9_findPairs 86 = .ok (.invokevirtual 191, 3) := by decide +kernel
theorem dX9_findPairs_89 : decode cX9_findPairs 89 = .ok (.if_icmp .eq 61, 3) := by decide +kernel
theorem dX9_findPairs_92 : decode cX9_findPairs 92 = .ok (.iinc 5 1, 3) := by decide +kernel
theorem dX9_findPairs_95 : decode cX9_findPairs 95 = .ok (.iload 4, 2) := by decide +kernel
theorem dX9_findPairs_97 : decode cX9_findPairs 97 = .ok (.aload_n 0, 1) := by decide +kernel
theorem dX9_findPairs_98 : decode cX9_findPairs 98 = .ok (.getfield 9, 3) := by decide +kernel
theorem dX9_findPairs_101 : decode cX9_findPairs 101 = .ok (.iload_n 2, 1) := by decide +kernel
theorem dX9_findPairs_102 : decode cX9_findPairs 102 = .ok (.iaload, 1) := by decide +kernel
theorem dX9_findPairs_103 : decode cX9_findPairs 103 = .ok (.aload_n 0, 1) := by decide +kernel
theorem dX9_findPairs_104 : decode cX9_findPairs 104 = .ok (.getfield 9, 3) := by decide +kernel
end
section
theorem dX9_findPairs_107 : decode cX9_findPairs 107 = .ok (.iload_n 3, 1) := by decide +kernel
theorem dX9_findPairs_108 : decode cX9_findPairs 108 = .ok (.iaload, 1) := by decide +kernel
theorem dX9_findPairs_109 : decode cX9_findPairs 109 = .ok (.if_icmp .le 7, 3) := by decide +kernel
theorem dX9_findPairs_112 : decode cX9_findPairs 112 = .ok (.iconst 1, 1) := by decide +kernel
theorem dX9_findPairs_113 : decode cX9_findPairs 113 = .ok (.goto 4, 3) := by decide +kernel
theorem dX9_findPairs_116 : decode cX9_findPairs 116 = .ok (.iconst 0, 1) := by decide +kernel
theorem dX9_findPairs_117 : decode cX9_findPairs 117 = .ok (.aload_n 0, 1) := by decide +kernel
theorem dX9_findPairs_118 : decode cX9_findPairs 118 = .ok (.iload 6, 2) := by decide +kernel
theorem dX9_findPairs_120 : decode cX9_findPairs 120 = .ok (.iload_n 2, 1) := by decide +kernel
theorem dX9_findPairs_121 : decode cX9_findPairs 121 = .ok (.invokevirtual 191, 3) := by decide +kernel
theorem dX9_findPairs_124 : decode cX9_findPairs 124 = .ok (.aload_n 0, 1) := by decide +kernel
theorem dX9_findPairs_125 : decode cX9_findPairs 125 = .ok (.iload 6, 2) := by decide +kernel
theorem dX9_findPairs_127 : decode cX9_findPairs 127 = .ok (.iload_n 3, 1) := by decide +kernel
theorem dX9_findPairs_128 : decode cX9_findPairs 128 = .ok (.invokevirtual 191, 3) := by decide +kernel
theorem dX9_findPairs_131 : decode cX9_findPairs 131 = .ok (.if_icmp .le 7, 3) := by decide +kernel
theorem dX9_findPairs_134 : decode cX9_findPairs 134 = .ok (.iconst 1, 1) := by decide +kernel
theorem dX9_findPairs_135 : decode cX9_findPairs 135 = .ok (.goto 4, 3) := by decide +kernel
theorem dX9_findPairs_138 : decode cX9_findPairs 138 = .ok (.iconst 0, 1) := by decide +kernel
theorem dX9_findPairs_139 : decode cX9_findPairs 139 = .ok (.if_icmp .ne 7, 3) := by decide +kernel
theorem dX9_findPairs_142 : decode cX9_findPairs 142 = .ok (.iconst 1, 1) := by decide +kernel
theorem dX9_findPairs_143 : decode cX9_findPairs 143 = .ok (.goto 4, 3) := by decide +kernel
theorem dX9_findPairs_146 : decode cX9_findPairs 146 = .ok (.iconst 0, 1) := by decide +kernel
theorem dX9_findPairs_147 : decode cX9_findPairs 147 = .ok (.iadd, 1) := by decide +kernel
theorem dX9_findPairs_148 : decode cX9_findPairs 148 = .ok (.istore 4, 2) := by decide +kernel
theorem dX9_findPairs_150 : decode cX9_findPairs 150 = .ok (.iinc 6 1, 3) := by decide +kernel
theorem dX9_findPairs_153 : decode cX9_findPairs 153 = .ok (.goto (-112), 3) := by decide +kernel
theorem dX9_findPairs_156 : decode cX9_findPairs 156 = .ok (.aload_n 0, 1) := by decide +kernel
theorem dX9_findPairs_157 : decode cX9_findPairs 157 = .ok (.dup, 1) := by decide +kernel
theorem dX9_findPairs_158 : decode cX9_findPairs 158 = .ok (.getfield 260, 3) := by decide +kernel
theorem dX9_findPairs_161 : decode cX9_findPairs 161 = .ok (.iload 4, 2) := by decide +kernel
theorem dX9_findPairs_163 : decode cX9_findPairs 163 = .ok (.iadd, 1) := by decide +kernel
theorem dX9_findPairs_164 : decode cX9_findPairs 164 = .ok (.putfield 260, 3) := by decide +kernel
theorem dX9_findPairs_167 : decode cX9_findPairs 167 = .ok (.aload_n 0, 1) := by decide +kernel
theorem dX9_findPairs_168 : decode cX9_findPairs 168 = .ok (.dup, 1) := by decide +kernel
theorem dX9_findPairs_169 : decode cX9_findPairs 169 = .ok (.getfield 263, 3) := by decide +kernel
theorem dX9_findPairs_172 : decode cX9_findPairs 172 = .ok (.iload 5, 2) := by decide +kernel
theorem dX9_findPairs_174 : decode cX9_findPairs 174 = .ok (.iadd, 1) := by decide +kernel
theorem dX9_findPairs_175 : decode cX9_findPairs 175 = .ok (.putfield 263, 3) := by decide +kernel
theorem dX9_findPairs_178 : decode cX9_findPairs 178 = .ok (.aload_n 0, 1) := by decide +kernel
theorem dX9_findPairs_179 : decode cX9_findPairs 179 = .ok (.dup, 1) := by decide +kernel
theorem dX9_findPairs_180 : decode cX9_findPairs 180 = .ok (.getfield 266, 3) := by decide +kernel
theorem dX9_findPairs_183 : decode cX9_findPairs 183 = .ok (.iload 4, 2) := by decide +kernel
theorem dX9_findPairs_185 : decode cX9_findPairs 185 = .ok (.iload 5, 2) := by decide +kernel
theorem dX9_findPairs_187 : decode cX9_findPairs 187 = .ok (.iload 4, 2) := by decide +kernel
theorem dX9_findPairs_189 : decode cX9_findPairs 189 = .ok (.isub, 1) := by decide +kernel
theorem dX9_findPairs_190 : decode cX9_findPairs 190 = .ok (.if_icmp .le 8, 3) := by decide +kernel
theorem dX9_findPairs_193 : decode cX9_findPairs 193 = .ok (.iload 4, 2) := by decide +kernel
theorem dX9_findPairs_195 : decode cX9_findPairs 195 = .ok (.goto 8, 3) := by decide +kernel
theorem dX9_findPairs_198 : decode cX9_findPairs 198 = .ok (.iload 5, 2) := by decide +kernel
theorem dX9_findPairs_200 : decode cX9_findPairs 200 = .ok (.iload 4, 2) := by decide +kernel
theorem dX9_findPairs_202 : decode cX9_findPairs 202 = .ok (.isub, 1) := by decide +kernel
theorem dX9_findPairs_203 : decode cX9_findPairs 203 = .ok (.iadd, 1) := by decide +kernel
theorem dX9_findPairs_204 : decode cX9_findPairs 204 = .ok (.putfield 266, 3) := by decide +kernel
theorem dX9_findPairs_207 : decode cX9_findPairs 207 = .ok (.iinc 3 1, 3) := by decide +kernel
theorem dX9_findPairs_210 : decode cX9_findPairs 210 = .ok (.goto (-183), 3) := by decide +kernel
theorem dX9_findPairs_213 : decode cX9_findPairs 213 = .ok (.iinc 2 1, 3) := by decide +kernel
theorem dX9_findPairs_216 : decode cX9_findPairs 216 = .ok (.goto (-199), 3) := by decide +kernel
theorem dX9_findPairs_219 : decode cX9_findPairs 219 = .ok (.return_, 1) := by decide +kernel
theorem dX9_right_0 : decode cX9_right 0 = .ok (.aload_n 0, 1) := by decide +kernel
theorem dX9_right_1 : decode cX9_right 1 = .ok (.iload_n 1, 1) := by decide +kernel
theorem dX9_right_2 : decode cX9_right 2 = .ok (.invokevirtual 186, 3) := by decide +kernel
theorem dX9_right_5 : decode cX9_right 5 = .ok (.ifCond .ne 5, 3) := by decide +kernel
theorem dX9_right_8 : decode cX9_right 8 = .ok (.iconst (-1), 1) := by decide +kernel
theorem dX9_right_9 : decode cX9_right 9 = .ok (.ireturn, 1) := by decide +kernel
theorem dX9_right_10 : decode cX9_right 10 = .ok (.aload_n 0, 1) := by decide +kernel
theorem dX9_right_11 : decode cX9_right 11 = .ok (.iconst 1, 1) := by decide +kernel
theorem dX9_right_12 : decode cX9_right 12 = .ok (.iload_n 1, 1) := by decide +kernel
theorem dX9_right_13 : decode cX9_right 13 = .ok (.ishl, 1) := by decide +kernel
theorem dX9_right_14 : decode cX9_right 14 = .ok (.invokevirtual 269, 3) := by decide +kernel
theorem dX9_right_17 : decode cX9_right 17 = .ok (.aload_n 0, 1) := by decide +kernel
theorem dX9_right_18 : decode cX9_right 18 = .ok (.getfield 263, 3) := by decide +kernel
theorem dX9_right_21 : decode cX9_right 21 = .ok (.ifCond .ne 8, 3) := by decide +kernel
theorem dX9_right_24 : decode cX9_right 24 = .ok (.bipush (-2), 2) := by decide +kernel
theorem dX9_right_26 : decode cX9_right 26 = .ok (.goto 16, 3) := by decide +kernel
theorem dX9_right_29 : decode cX9_right 29 = .ok (.sipush 1000, 3) := by decide +kernel
theorem dX9_right_32 : decode cX9_right 32 = .ok (.aload_n 0, 1) := by decide +kernel
theorem dX9_right_33 : decode cX9_right 33 = .ok (.getfield 260, 3) := by decide +kernel
theorem dX9_right_36 : decode cX9_right 36 = .ok (.imul, 1) := by decide +kernel
theorem dX9_right_37 : decode cX9_right 37 = .ok (.aload_n 0, 1) := by decide +kernel
theorem dX9_right_38 : decode cX9_right 38 = .ok (.getfield 263, 3) := by decide +kernel
theorem dX9_right_41 : decode cX9_right 41 = .ok (.idiv, 1) := by decide +kernel
theorem dX9_right_42 : decode cX9_right 42 = .ok (.ireturn, 1) := by decide +kernel
theorem dX9_guess_0 : decode cX9_guess 0 = .ok (.iload_n 1, 1) := by decide +kernel
theorem dX9_guess_1 : decode cX9_guess 1 = .ok (.ifCond .lt 22, 3) := by decide +kernel
theorem dX9_guess_4 : decode cX9_guess 4 = .ok (.iload_n 1, 1) := by decide +kernel
theorem dX9_guess_5 : decode cX9_guess 5 = .ok (.aload_n 0, 1) := by decide +kernel
theorem dX9_guess_6 : decode cX9_guess 6 = .ok (.getfield 174, 3) := by decide +kernel
theorem dX9_guess_9 : decode cX9_guess 9 = .ok (.ishr, 1) := by decide +kernel
theorem dX9_guess_10 : decode cX9_guess 10 = .ok (.ifCond .ne 13, 3) := by decide +kernel
theorem dX9_guess_13 : decode cX9_guess 13 = .ok (.iload_n 2, 1) := by decide +kernel
theorem dX9_guess_14 : decode cX9_guess 14 = .ok (.i2l, 1) := by decide +kernel
theorem dX9_guess_15 : decode cX9_guess 15 = .ok (.lconst 0, 1) := by decide +kernel
theorem dX9_guess_16 : decode cX9_guess 16 = .ok (.lconst 1, 1) := by decide +kernel
theorem dX9_guess_17 : decode cX9_guess 17 = .ok (.invokestatic 102, 3) := by decide +kernel
theorem dX9_guess_20 : decode cX9_guess 20 = .ok (.ifCond .ne 5, 3) := by decide +kernel
theorem dX9_guess_23 : decode cX9_guess 23 = .ok (.iconst (-1), 1) := by decide +kernel
theorem dX9_guess_24 : decode cX9_guess 24 = .ok (.ireturn, 1) := by decide +kernel
theorem dX9_guess_25 : decode cX9_guess 25 = .ok (.aload_n 0, 1) := by decide +kernel
theorem dX9_guess_26 : decode cX9_guess 26 = .ok (.iload_n 1, 1) := by decide +kernel
theorem dX9_guess_27 : decode cX9_guess 27 = .ok (.invokevirtual 269, 3) := by decide +kernel
theorem dX9_guess_30 : decode cX9_guess 30 = .ok (.aload_n 0, 1) := by decide +kernel
theorem dX9_guess_31 : decode cX9_guess 31 = .ok (.getfield 263, 3) := by decide +kernel
theorem dX9_guess_34 : decode cX9_guess 34 = .ok (.ifCond .ne 8, 3) := by decide +kernel
theorem dX9_guess_37 : decode cX9_guess 37 = .ok (.bipush (-2), 2) := by decide +kernel
theorem dX9_guess_39 : decode cX9_guess 39 = .ok (.goto 27, 3) := by decide +kernel
theorem dX9_guess_42 : decode cX9_guess 42 = .ok (.sipush 1000, 3) := by decide +kernel
theorem dX9_guess_45 : decode cX9_guess 45 = .ok (.iload_n 2, 1) := by decide +kernel
theorem dX9_guess_46 : decode cX9_guess 46 = .ok (.ifCond .ne 10, 3) := by decide +kernel
theorem dX9_guess_49 : decode cX9_guess 49 = .ok (.aload_n 0, 1) := by decide +kernel
theorem dX9_guess_50 : decode cX9_guess 50 = .ok (.getfield 260, 3) := by decide +kernel
theorem dX9_guess_53 : decode cX9_guess 53 = .ok (.goto 7, 3) := by decide +kernel
theorem dX9_guess_56 : decode cX9_guess 56 = .ok (.aload_n 0, 1) := by decide +kernel
theorem dX9_guess_57 : decode cX9_guess 57 = .ok (.getfield 266, 3) := by decide +kernel
theorem dX9_guess_60 : decode cX9_guess 60 = .ok (.imul, 1) := by decide +kernel
theorem dX9_guess_61 : decode cX9_guess 61 = .ok (.aload_n 0, 1) := by decide +kernel
theorem dX9_guess_62 : decode cX9_guess 62 = .ok (.getfield 263, 3) := by decide +kernel
theorem dX9_guess_65 : decode cX9_guess 65 = .ok (.idiv, 1) := by decide +kernel
theorem dX9_guess_66 : decode cX9_guess 66 = .ok (.ireturn, 1) := by decide +kernel
theorem dX9_follows_0 : decode cX9_follows 0 = .ok (.iload_n 3, 1) := by decide +kernel
theorem dX9_follows_1 : decode cX9_follows 1 = .ok (.ifCond .ne 41, 3) := by decide +kernel
theorem dX9_follows_4 : decode cX9_follows 4 = .ok (.iload 4, 2) := by decide +kernel
theorem dX9_follows_6 : decode cX9_follows 6 = .ok (.iconst 1, 1) := by decide +kernel
theorem dX9_follows_7 : decode cX9_follows 7 = .ok (.if_icmp .ne 17, 3) := by decide +kernel
theorem dX9_follows_10 : decode cX9_follows 10 = .ok (.ldc2_w 207, 3) := by decide +kernel
theorem dX9_follows_13 : decode cX9_follows 13 = .ok (.aload_n 0, 1) := by decide +kernel
theorem dX9_follows_14 : decode cX9_follows 14 = .ok (.iload_n 1, 1) := by decide +kernel
theorem dX9_follows_15 : decode cX9_follows 15 = .ok (.iload_n 2, 1) := by decide +kernel
theorem dX9_follows_16 : decode cX9_follows 16 = .ok (.invokevirtual 191, 3) := by decide +kernel
theorem dX9_follows_19 : decode cX9_follows 19 = .ok (.i2l, 1) := by decide +kernel
theorem dX9_follows_20 : decode cX9_follows 20 = .ok (.lmul, 1) := by decide +kernel
theorem dX9_follows_21 : decode cX9_follows 21 = .ok (.goto 20, 3) := by decide +kernel
theorem dX9_follows_24 : decode cX9_follows 24 = .ok (.aload_n 0, 1) := by decide +kernel
theorem dX9_follows_25 : decode cX9_follows 25 = .ok (.iload_n 1, 1) := by decide +kernel
theorem dX9_follows_26 : decode cX9_follows 26 = .ok (.iconst 0, 1) := by decide +kernel
theorem dX9_follows_27 : decode cX9_follows 27 = .ok (.invokevirtual 209, 3) := by decide +kernel
theorem dX9_follows_30 : decode cX9_follows 30 = .ok (.iload_n 2, 1) := by decide +kernel
theorem dX9_follows_31 : decode cX9_follows 31 = .ok (.if_icmp .ne 9, 3) := by decide +kernel
theorem dX9_follows_34 : decode cX9_follows 34 = .ok (.ldc2_w 273, 3) := by decide +kernel
theorem dX9_follows_37 : decode cX9_follows 37 = .ok (.goto 4, 3) := by decide +kernel
theorem dX9_follows_40 : decode cX9_follows 40 = .ok (.lconst 0, 1) := by decide +kernel
theorem dX9_follows_41 : decode cX9_follows 41 = .ok (.lreturn, 1) := by decide +kernel
theorem dX9_follows_42 : decode cX9_follows 42 = .ok (.aload_n 0, 1) := by decide +kernel
theorem dX9_follows_43 : decode cX9_follows 43 = .ok (.iload_n 1, 1) := by decide +kernel
theorem dX9_follows_44 : decode cX9_follows 44 = .ok (.invokevirtual 223, 3) := by decide +kernel
theorem dX9_follows_47 : decode cX9_follows 47 = .ok (.istore 5, 2) := by decide +kernel
theorem dX9_follows_49 : decode cX9_follows 49 = .ok (.iconst 4, 1) := by decide +kernel
theorem dX9_follows_50 : decode cX9_follows 50 = .ok (.iload_n 3, 1) := by decide +kernel
theorem dX9_follows_51 : decode cX9_follows 51 = .ok (.imul, 1) := by decide +kernel
theorem dX9_follows_52 : decode cX9_follows 52 = .ok (.istore 6, 2) := by decide +kernel
theorem dX9_follows_54 : decode cX9_follows 54 = .ok (.iconst 0, 1) := by decide +kernel
theorem dX9_follows_55 : decode cX9_follows 55 = .ok (.istore 7, 2) := by decide +kernel
theorem dX9_follows_57 : decode cX9_follows 57 = .ok (.iload 7, 2) := by decide +kernel
theorem dX9_follows_59 : decode cX9_follows 59 = .ok (.aload_n 0, 1) := by decide +kernel
theorem dX9_follows_60 : decode cX9_follows 60 = .ok (.getfield 99, 3) := by decide +kernel
theorem dX9_follows_63 : decode cX9_follows 63 = .ok (.if_icmp .ge 26, 3) := by decide +kernel
theorem dX9_follows_66 : decode cX9_follows 66 = .ok (.aload_n 0, 1) := by decide +kernel
theorem dX9_follows_67 : decode cX9_follows 67 = .ok (.getfield 58, 3) := by decide +kernel
theorem dX9_follows_70 : decode cX9_follows 70 = .ok (.iload 6, 2) := by decide +kernel
theorem dX9_follows_72 : decode cX9_follows 72 = .ok (.iload 7, 2) := by decide +kernel
theorem dX9_follows_74 : decode cX9_follows 74 = .ok (.iadd, 1) := by decide +kernel
theorem dX9_follows_75 : decode cX9_follows 75 = .ok (.aload_n 0, 1) := by decide +kernel
theorem dX9_follows_76 : decode cX9_follows 76 = .ok (.getfield 55, 3) := by decide +kernel
theorem dX9_follows_79 : decode cX9_follows 79 = .ok (.iload 7, 2) := by decide +kernel
theorem dX9_follows_81 : decode cX9_follows 81 = .ok (.iaload, 1) := by decide +kernel
theorem dX9_follows_82 : decode cX9_follows 82 = .ok (.iastore, 1) := by decide +kernel
theorem dX9_follows_83 : decode cX9_follows 83 = .ok (.iinc 7 1, 3) := by decide +kernel
theorem dX9_follows_86 : decode cX9_follows 86 = .ok (.goto (-29), 3) := by decide +kernel
theorem dX9_follows_89 : decode cX9_follows 89 = .ok (.aload_n 0, 1) := by decide +kernel
theorem dX9_follows_90 : decode cX9_follows 90 = .ok (.getfield 46, 3) := by decide +kernel
theorem dX9_follows_93 : decode cX9_follows 93 = .ok (.iload_n 1, 1) := by decide +kernel
theorem dX9_follows_94 : decode cX9_follows 94 = .ok (.dup2, 1) := by decide +kernel
theorem dX9_follows_95 : decode cX9_follows 95 = .ok (.iaload, 1) := by decide +kernel
theorem dX9_follows_96 : decode cX9_follows 96 = .ok (.iconst 1, 1) := by decide +kernel
theorem dX9_follows_97 : decode cX9_follows 97 = .ok (.iadd, 1) := by decide +kernel
theorem dX9_follows_98 : decode cX9_follows 98 = .ok (.iastore, 1) := by decide +kernel
theorem dX9_follows_99 : decode cX9_follows 99 = .ok (.iload 5, 2) := by decide +kernel
theorem dX9_follows_101 : decode cX9_follows 101 = .ok (.ifCond .eq 15, 3) := by decide +kernel
theorem dX9_follows_104 : decode cX9_follows 104 = .ok (.aload_n 0, 1) := by decide +kernel
theorem dX9_follows_105 : decode cX9_follows 105 = .ok (.getfield 9, 3) := by decide +kernel
theorem dX9_follows_108 : decode cX9_follows 108 = .ok (.bipush 12, 2) := by decide +kernel
theorem dX9_follows_110 : decode cX9_follows 110 = .ok (.iload_n 1, 1) := by decide +kernel
theorem dX9_follows_111 : decode cX9_follows 111 = .ok (.iadd, 1) := by decide +kernel
theorem dX9_follows_112 : decode cX9_follows 112 = .ok (.iaload, 1) := by decide +kernel
theorem dX9_follows_113 : decode cX9_follows 113 = .ok (.ifCond .le 17, 3) := by decide +kernel
theorem dX9_follows_116 : decode cX9_follows 116 = .ok (.aload_n 0, 1) := by decide +kernel
theorem dX9_follows_117 : decode cX9_follows 117 = .ok (.iload_n 1, 1) := by decide +kernel
theorem dX9_follows_118 : decode cX9_follows 118 = .ok (.iload_n 2, 1) := by decide +kernel
theorem dX9_follows_119 : decode cX9_follows 119 = .ok (.iload_n 3, 1) := by decide +kernel
theorem dX9_follows_120 : decode cX9_follows 120 = .ok (.iconst 1, 1) := by decide +kernel
theorem dX9_follows_121 : decode cX9_follows 121 = .ok (.isub, 1) := by decide +kernel
theorem dX9_follows_122 : decode cX9_follows 122 = .ok (.iload 4, 2) := by decide +kernel
theorem dX9_follows_124 : decode cX9_follows 124 = .ok (.invokevirtual 275, 3) := by decide +kernel
theorem dX9_follows_127 : decode cX9_follows 127 = .ok (.goto 4, 3) := by decide +kernel
theorem dX9_follows_130 : decode cX9_follows 130 = .ok (.lconst 0, 1) := by decide +kernel
theorem dX9_follows_131 : decode cX9_follows 131 = .ok (.lstore 7, 2) := by decide +kernel
theorem dX9_follows_133 : decode cX9_follows 133 = .ok (.iload 5, 2) := by decide +kernel
theorem dX9_follows_135 : decode cX9_follows 135 = .ok (.ifCond .le 18, 3) := by decide +kernel
theorem dX9_follows_138 : decode cX9_follows 138 = .ok (.lload 7, 2) := by decide +kernel
theorem dX9_follows_140 : decode cX9_follows 140 = .ok (.aload_n 0, 1) := by decide +kernel
theorem dX9_follows_141 : decode cX9_follows 141 = .ok (.getfield 9, 3) := by decide +kernel
theorem dX9_follows_144 : decode cX9_follows 144 = .ok (.bipush 12, 2) := by decide +kernel
theorem dX9_follows_146 : decode cX9_follows 146 = .ok (.iload_n 1, 1) := by decide +kernel
theorem dX9_follows_147 : decode cX9_follows 147 = .ok (.iadd, 1) := by decide +kernel
theorem dX9_follows_148 : decode cX9_follows 148 = .ok (.iaload, 1) := by decide +kernel
theorem dX9_follows_149 : decode cX9_follows 149 = .ok (.i2l, 1) := by decide +kernel
theorem dX9_follows_150 : decode cX9_follows 150 = .ok (.lmul, 1) := by decide +kernel
theorem dX9_follows_151 : decode cX9_follows 151 = .ok (.lstore 7, 2) := by decide +kernel
theorem dX9_follows_153 : decode cX9_follows 153 = .ok (.iconst 0, 1) := by decide +kernel
theorem dX9_follows_154 : decode cX9_follows 154 = .ok (.istore 9, 2) := by decide +kernel
theorem dX9_follows_156 : decode cX9_follows 156 = .ok (.iload 9, 2) := by decide +kernel
theorem dX9_follows_158 : decode cX9_follows 158 = .ok (.aload_n 0, 1) := by decide +kernel
theorem dX9_follows_159 : decode cX9_follows 159 = .ok (.getfield 99, 3) := by decide +kernel
theorem dX9_follows_162 : decode cX9_follows 162 = .ok (.if_icmp .ge 130, 3) := by decide +kernel
theorem dX9_follows_165 : decode cX9_follows 165 = .ok (.iload 5, 2) := by decide +kernel
theorem dX9_follows_167 : decode cX9_follows 167 = .ok (.ifCond .le 125, 3) := by decide +kernel
theorem dX9_follows_170 : decode cX9_follows 170 = .ok (.aload_n 0, 1) := by decide +kernel
theorem dX9_follows_171 : decode cX9_follows 171 = .ok (.getfield 58, 3) := by decide +kernel
theorem dX9_follows_174 : decode cX9_follows 174 = .ok (.iload 6, 2) := by decide +kernel
theorem dX9_follows_176 : decode cX9_follows 176 = .ok (.iload 9, 2) := by decide +kernel
theorem dX9_follows_178 : decode cX9_follows 178 = .ok (.iadd, 1) := by decide +kernel
theorem dX9_follows_179 : decode cX9_follows 179 = .ok (.iaload, 1) := by decide +kernel
theorem dX9_follows_180 : decode cX9_follows 180 = .ok (.ifCond .ne 6, 3) := by decide +kernel
theorem dX9_follows_183 : decode cX9_follows 183 = .ok (.goto 103, 3) := by decide +kernel
theorem dX9_follows_186 : decode cX9_follows 186 = .ok (.bipush 23, 2) := by decide +kernel
theorem dX9_follows_188 : decode cX9_follows 188 = .ok (.bipush 12, 2) := by decide +kernel
theorem dX9_follows_190 : decode cX9_follows 190 = .ok (.iload_n 1, 1) := by decide +kernel
theorem dX9_follows_191 : decode cX9_follows 191 = .ok (.imul, 1) := by decide +kernel
theorem dX9_follows_192 : decode cX9_follows 192 = .ok (.iadd, 1) := by decide +kernel
theorem dX9_follows_193 : decode cX9_follows 193 = .ok (.iload 9, 2) := by decide +kernel
theorem dX9_follows_195 : decode cX9_follows 195 = .ok (.iadd, 1) := by decide +kernel
theorem dX9_follows_196 : decode cX9_follows 196 = .ok (.istore 10, 2) := by decide +kernel
theorem dX9_follows_198 : decode cX9_follows 198 = .ok (.aload_n 0, 1) := by decide +kernel
theorem dX9_follows_199 : decode cX9_follows 199 = .ok (.getfield 9, 3) := by decide +kernel
theorem dX9_follows_202 : decode cX9_follows 202 = .ok (.iload 10, 2) := by decide +kernel
theorem dX9_follows_204 : decode cX9_follows 204 = .ok (.iaload, 1) := by decide +kernel
theorem dX9_follows_205 : decode cX9_follows 205 = .ok (.istore 11, 2) := by decide +kernel
theorem dX9_follows_207 : decode cX9_follows 207 = .ok (.aload_n 0, 1) := by decide +kernel
theorem dX9_follows_208 : decode cX9_follows 208 = .ok (.getfield 9, 3) := by decide +kernel
theorem dX9_follows_211 : decode cX9_follows 211 = .ok (.iload 10, 2) := by decide +kernel
theorem dX9_follows_213 : decode cX9_follows 213 = .ok (.dup2, 1) := by decide +kernel
theorem dX9_follows_214 : decode cX9_follows 214 = .ok (.iaload, 1) := by decide +kernel
theorem dX9_follows_215 : decode cX9_follows 215 = .ok (.iload 11, 2) := by decide +kernel
theorem dX9_follows_217 : decode cX9_follows 217 = .ok (.ldc 222, 2) := by decide +kernel
theorem dX9_follows_219 : decode cX9_follows 219 = .ok (.if_icmp .ge 7, 3) := by decide +kernel
theorem dX9_follows_222 : decode cX9_follows 222 = .ok (.iconst 1, 1) := by decide +kernel
theorem dX9_follows_223 : decode cX9_follows 223 = .ok (.goto 4, 3) := by decide +kernel
theorem dX9_follows_226 : decode cX9_follows 226 = .ok (.iconst 0, 1) := by decide +kernel
theorem dX9_follows_227 : decode cX9_follows 227 = .ok (.iadd, 1) := by decide +kernel
theorem dX9_follows_228 : decode cX9_follows 228 = .ok (.iastore, 1) := by decide +kernel
theorem dX9_follows_229 : decode cX9_follows 229 = .ok (.aload_n 0, 1) := by decide +kernel
theorem dX9_follows_230 : decode cX9_follows 230 = .ok (.getfield 49, 3) := by decide +kernel
theorem dX9_follows_233 : decode cX9_follows 233 = .ok (.iload_n 1, 1) := by decide +kernel
theorem dX9_follows_234 : decode cX9_follows 234 = .ok (.dup2, 1) := by decide +kernel
theorem dX9_follows_235 : decode cX9_follows 235 = .ok (.iaload, 1) := by decide +kernel
theorem dX9_follows_236 : decode cX9_follows 236 = .ok (.iconst 1, 1) := by decide +kernel
theorem dX9_follows_237 : decode cX9_follows 237 = .ok (.iadd, 1) := by decide +kernel
theorem dX9_follows_238 : decode cX9_follows 238 = .ok (.iastore, 1) := by decide +kernel
theorem dX9_follows_239 : decode cX9_follows 239 = .ok (.lload 7, 2) := by decide +kernel
theorem dX9_follows_241 : decode cX9_follows 241 = .ok (.aload_n 0, 1) := by decide +kernel
theorem dX9_follows_242 : decode cX9_follows 242 = .ok (.getfield 58, 3) := by decide +kernel
theorem dX9_follows_245 : decode cX9_follows 245 = .ok (.iload 6, 2) := by decide +kernel
theorem dX9_follows_247 : decode cX9_follows 247 = .ok (.iload 9, 2) := by decide +kernel
theorem dX9_follows_249 : decode cX9_follows 249 = .ok (.iadd, 1) := by decide +kernel
theorem dX9_follows_250 : decode cX9_follows 250 = .ok (.iaload, 1) := by decide +kernel
theorem dX9_follows_251 : decode cX9_follows 251 = .ok (.i2l, 1) := by decide +kernel
theorem dX9_follows_252 : decode cX9_follows 252 = .ok (.aload_n 0, 1) := by decide +kernel
theorem dX9_follows_253 : decode cX9_follows 253 = .ok (.iload_n 1, 1) := by decide +kernel
theorem dX9_follows_254 : decode cX9_follows 254 = .ok (.iload_n 2, 1) := by decide +kernel
theorem dX9_follows_255 : decode cX9_follows 255 = .ok (.iload_n 3, 1) := by decide +kernel
theorem dX9_follows_256 : decode cX9_follows 256 = .ok (.iconst 1, 1) := by decide +kernel
theorem dX9_follows_257 : decode cX9_follows 257 = .ok (.isub, 1) := by decide +kernel
theorem dX9_follows_258 : decode cX9_follows 258 = .ok (.iload 4, 2) := by decide +kernel
theorem dX9_follows_260 : decode cX9_follows 260 = .ok (.invokevirtual 275, 3) := by decide +kernel
theorem dX9_follows_263 : decode cX9_follows 263 = .ok (.lmul, 1) := by decide +kernel
theorem dX9_follows_264 : decode cX9_follows 264 = .ok (.ladd, 1) := by decide +kernel
theorem dX9_follows_265 : decode cX9_follows 265 = .ok (.lstore 7, 2) := by decide +kernel
theorem dX9_follows_267 : decode cX9_follows 267 = .ok (.aload_n 0, 1) := by decide +kernel
theorem dX9_follows_268 : decode cX9_follows 268 = .ok (.getfield 49, 3) := by decide +kernel
theorem dX9_follows_271 : decode cX9_follows 271 = .ok (.iload_n 1, 1) := by decide +kernel
theorem dX9_follows_272 : decode cX9_follows 272 = .ok (.dup2, 1) := by decide +kernel
theorem dX9_follows_273 : decode cX9_follows 273 = .ok (.iaload, 1) := by decide +kernel
theorem dX9_follows_274 : decode cX9_follows 274 = .ok (.iconst 1, 1) := by decide +kernel
theorem dX9_follows_275 : decode cX9_follows 275 = .ok (.isub, 1) := by decide +kernel
theorem dX9_follows_276 : decode cX9_follows 276 = .ok (.iastore, 1) := by decide +kernel
theorem dX9_follows_277 : decode cX9_follows 277 = .ok (.aload_n 0, 1) := by decide +kernel
theorem dX9_follows_278 : decode cX9_follows 278 = .ok (.getfield 9, 3) := by decide +kernel
theorem dX9_follows_281 : decode cX9_follows 281 = .ok (.iload 10, 2) := by decide +kernel
theorem dX9_follows_283 : decode cX9_follows 283 = .ok (.iload 11, 2) := by decide +kernel
theorem dX9_follows_285 : decode cX9_follows 285 = .ok (.iastore, 1) := by decide +kernel
theorem dX9_follows_286 : decode cX9_follows 286 = .ok (.iinc 9 1, 3) := by decide +kernel
theorem dX9_follows_289 : decode cX9_follows 289 = .ok (.goto (-133), 3) := by decide +kernel
theorem dX9_follows_292 : decode cX9_follows 292 = .ok (.aload_n 0, 1) := by decide +kernel
theorem dX9_follows_293 : decode cX9_follows 293 = .ok (.getfield 46, 3) := by decide +kernel
theorem dX9_follows_296 : decode cX9_follows 296 = .ok (.iload_n 1, 1) := by decide +kernel
theorem dX9_follows_297 : decode cX9_follows 297 = .ok (.dup2, 1) := by decide +kernel
theorem dX9_follows_298 : decode cX9_follows 298 = .ok (.iaload, 1) := by decide +kernel
theorem dX9_follows_299 : decode cX9_follows 299 = .ok (.iconst 1, 1) := by decide +kernel
theorem dX9_follows_300 : decode cX9_follows 300 = .ok (.isub, 1) := by decide +kernel
theorem dX9_follows_301 : decode cX9_follows 301 = .ok (.iastore, 1) := by decide +kernel
theorem dX9_follows_302 : decode cX9_follows 302 = .ok (.iload 5, 2) := by decide +kernel
theorem dX9_follows_304 : decode cX9_follows 304 = .ok (.ifCond .ne 8, 3) := by decide +kernel
theorem dX9_follows_307 : decode cX9_follows 307 = .ok (.lload 7, 2) := by decide +kernel
theorem dX9_follows_309 : decode cX9_follows 309 = .ok (.goto 9, 3) := by decide +kernel
theorem dX9_follows_312 : decode cX9_follows 312 = .ok (.lload 7, 2) := by decide +kernel
theorem dX9_follows_314 : decode cX9_follows 314 = .ok (.iload 5, 2) := by decide +kernel
theorem dX9_follows_316 : decode cX9_follows 316 = .ok (.i2l, 1) := by decide +kernel
theorem dX9_follows_317 : decode cX9_follows 317 = .ok (.ldiv, 1) := by decide +kernel
theorem dX9_follows_318 : decode cX9_follows 318 = .ok (.lreturn, 1) := by decide +kernel
theorem dX9_odds_0 : decode cX9_odds 0 = .ok (.aload_n 0, 1) := by decide +kernel
theorem dX9_odds_1 : decode cX9_odds 1 = .ok (.iload_n 1, 1) := by decide +kernel
theorem dX9_odds_2 : decode cX9_odds 2 = .ok (.invokevirtual 186, 3) := by decide +kernel
theorem dX9_odds_5 : decode cX9_odds 5 = .ok (.ifCond .eq 34, 3) := by decide +kernel
theorem dX9_odds_8 : decode cX9_odds 8 = .ok (.aload_n 0, 1) := by decide +kernel
theorem dX9_odds_9 : decode cX9_odds 9 = .ok (.iload_n 2, 1) := by decide +kernel
theorem dX9_odds_10 : decode cX9_odds 10 = .ok (.invokevirtual 111, 3) := by decide +kernel
theorem dX9_odds_13 : decode cX9_odds 13 = .ok (.ifCond .eq 26, 3) := by decide +kernel
theorem dX9_odds_16 : decode cX9_odds 16 = .ok (.iload_n 3, 1) := by decide +kernel
theorem dX9_odds_17 : decode cX9_odds 17 = .ok (.i2l, 1) := by decide +kernel
theorem dX9_odds_18 : decode cX9_odds 18 = .ok (.lconst 0, 1) := by decide +kernel
theorem dX9_odds_19 : decode cX9_odds 19 = .ok (.ldc2_w 279, 3) := by decide +kernel
theorem dX9_odds_22 : decode cX9_odds 22 = .ok (.invokestatic 102, 3) := by decide +kernel
theorem dX9_odds_25 : decode cX9_odds 25 = .ok (.ifCond .eq 14, 3) := by decide +kernel
theorem dX9_odds_28 : decode cX9_odds 28 = .ok (.iload 4, 2) := by decide +kernel
theorem dX9_odds_30 : decode cX9_odds 30 = .ok (.i2l, 1) := by decide +kernel
theorem dX9_odds_31 : decode cX9_odds 31 = .ok (.lconst 0, 1) := by decide +kernel
theorem dX9_odds_32 : decode cX9_odds 32 = .ok (.lconst 1, 1) := by decide +kernel
theorem dX9_odds_33 : decode cX9_odds 33 = .ok (.invokestatic 102, 3) := by decide +kernel
theorem dX9_odds_36 : decode cX9_odds 36 = .ok (.ifCond .ne 5, 3) := by decide +kernel
theorem dX9_odds_39 : decode cX9_odds 39 = .ok (.iconst (-1), 1) := by decide +kernel
theorem dX9_odds_40 : decode cX9_odds 40 = .ok (.ireturn, 1) := by decide +kernel
theorem dX9_odds_41 : decode cX9_odds 41 = .ok (.aload_n 0, 1) := by decide +kernel
theorem dX9_odds_42 : decode cX9_odds 42 = .ok (.getfield 99, 3) := by decide +kernel
theorem dX9_odds_45 : decode cX9_odds 45 = .ok (.iconst 4, 1) := by decide +kernel
theorem dX9_odds_46 : decode cX9_odds 46 = .ok (.if_icmp .le 6, 3) := by decide +kernel
theorem dX9_odds_49 : decode cX9_odds 49 = .ok (.bipush (-4), 2) := by decide +kernel
theorem dX9_odds_51 : decode cX9_odds 51 = .ok (.ireturn, 1) := by decide +kernel
theorem dX9_odds_52 : decode cX9_odds 52 = .ok (.aload_n 0, 1) := by decide +kernel
theorem dX9_odds_53 : decode cX9_odds 53 = .ok (.iload_n 1, 1) := by decide +kernel
theorem dX9_odds_54 : decode cX9_odds 54 = .ok (.iload_n 2, 1) := by decide +kernel
theorem dX9_odds_55 : decode cX9_odds 55 = .ok (.iload_n 3, 1) := by decide +kernel
theorem dX9_odds_56 : decode cX9_odds 56 = .ok (.iload 4, 2) := by decide +kernel
theorem dX9_odds_58 : decode cX9_odds 58 = .ok (.invokevirtual 275, 3) := by decide +kernel
theorem dX9_odds_61 : decode cX9_odds 61 = .ok (.l2i, 1) := by decide +kernel
theorem dX9_odds_62 : decode cX9_odds 62 = .ok (.ireturn, 1) := by decide +kernel
theorem dX9_firstCounted_0 : decode cX9_firstCounted 0 = .ok (.iconst 0, 1) := by decide +kernel
theorem dX9_firstCounted_1 : decode cX9_firstCounted 1 = .ok (.istore_n 1, 1) := by decide +kernel
theorem dX9_firstCounted_2 : decode cX9_firstCounted 2 = .ok (.iconst 1, 1) := by decide +kernel
theorem dX9_firstCounted_3 : decode cX9_firstCounted 3 = .ok (.istore_n 2, 1) := by decide +kernel
theorem dX9_firstCounted_4 : decode cX9_firstCounted 4 = .ok (.iload_n 2, 1) := by decide +kernel
theorem dX9_firstCounted_5 : decode cX9_firstCounted 5 = .ok (.aload_n 0, 1) := by decide +kernel
theorem dX9_firstCounted_6 : decode cX9_firstCounted 6 = .ok (.getfield 99, 3) := by decide +kernel
theorem dX9_firstCounted_9 : decode cX9_firstCounted 9 = .ok (.if_icmp .ge 30, 3) := by decide +kernel
theorem dX9_firstCounted_12 : decode cX9_firstCounted 12 = .ok (.aload_n 0, 1) := by decide +kernel
theorem dX9_firstCounted_13 : decode cX9_firstCounted 13 = .ok (.getfield 61, 3) := by decide +kernel
theorem dX9_firstCounted_16 : decode cX9_firstCounted 16 = .ok (.iload_n 2, 1) := by decide +kernel
theorem dX9_firstCounted_17 : decode cX9_firstCounted 17 = .ok (.iaload, 1) := by decide +kernel
theorem dX9_firstCounted_18 : decode cX9_firstCounted 18 = .ok (.aload_n 0, 1) := by decide +kernel
theorem dX9_firstCounted_19 : decode cX9_firstCounted 19 = .ok (.getfield 61, 3) := by decide +kernel
theorem dX9_firstCounted_22 : decode cX9_firstCounted 22 = .ok (.iload_n 1, 1) := by decide +kernel
theorem dX9_firstCounted_23 : decode cX9_firstCounted 23 = .ok (.iaload, 1) := by decide +kernel
theorem dX9_firstCounted_24 : decode cX9_firstCounted 24 = .ok (.if_icmp .le 7, 3) := by decide +kernel
theorem dX9_firstCounted_27 : decode cX9_firstCounted 27 = .ok (.iload_n 2, 1) := by decide +kernel
theorem dX9_firstCounted_28 : decode cX9_firstCounted 28 = .ok (.goto 4, 3) := by decide +kernel
theorem dX9_firstCounted_31 : decode cX9_firstCounted 31 = .ok (.iload_n 1, 1) := by decide +kernel
theorem dX9_firstCounted_32 : decode cX9_firstCounted 32 = .ok (.istore_n 1, 1) := by decide +kernel
theorem dX9_firstCounted_33 : decode cX9_firstCounted 33 = .ok (.iinc 2 1, 3) := by decide +kernel
theorem dX9_firstCounted_36 : decode cX9_firstCounted 36 = .ok (.goto (-32), 3) := by decide +kernel
theorem dX9_firstCounted_39 : decode cX9_firstCounted 39 = .ok (.iload_n 1, 1) := by decide +kernel
theorem dX9_firstCounted_40 : decode cX9_firstCounted 40 = .ok (.ireturn, 1) := by decide +kernel
theorem dX9_after_0 : decode cX9_after 0 = .ok (.aload_n 0, 1) := by decide +kernel
theorem dX9_after_1 : decode cX9_after 1 = .ok (.iload_n 1, 1) := by decide +kernel
theorem dX9_after_2 : decode cX9_after 2 = .ok (.invokevirtual 186, 3) := by decide +kernel
theorem dX9_after_5 : decode cX9_after 5 = .ok (.ifCond .ne 5, 3) := by decide +kernel
theorem dX9_after_8 : decode cX9_after 8 = .ok (.iconst (-1), 1) := by decide +kernel
theorem dX9_after_9 : decode cX9_after 9 = .ok (.ireturn, 1) := by decide +kernel
theorem dX9_after_10 : decode cX9_after 10 = .ok (.aload_n 0, 1) := by decide +kernel
theorem dX9_after_11 : decode cX9_after 11 = .ok (.getfield 49, 3) := by decide +kernel
theorem dX9_after_14 : decode cX9_after 14 = .ok (.iload_n 1, 1) := by decide +kernel
theorem dX9_after_15 : decode cX9_after 15 = .ok (.iaload, 1) := by decide +kernel
theorem dX9_after_16 : decode cX9_after 16 = .ok (.ifCond .ne 6, 3) := by decide +kernel
theorem dX9_after_19 : decode cX9_after 19 = .ok (.bipush (-2), 2) := by decide +kernel
theorem dX9_after_21 : decode cX9_after 21 = .ok (.ireturn, 1) := by decide +kernel
theorem dX9_after_22 : decode cX9_after 22 = .ok (.aload_n 0, 1) := by decide +kernel
theorem dX9_after_23 : decode cX9_after 23 = .ok (.getfield 49, 3) := by decide +kernel
theorem dX9_after_26 : decode cX9_after 26 = .ok (.iload_n 1, 1) := by decide +kernel
theorem dX9_after_27 : decode cX9_after 27 = .ok (.iaload, 1) := by decide +kernel
theorem dX9_after_28 : decode cX9_after 28 = .ok (.sipush 200, 3) := by decide +kernel
theorem dX9_after_31 : decode cX9_after 31 = .ok (.if_icmp .le 6, 3) := by decide +kernel
theorem dX9_after_34 : decode cX9_after 34 = .ok (.bipush (-5), 2) := by decide +kernel
theorem dX9_after_36 : decode cX9_after 36 = .ok (.ireturn, 1) := by decide +kernel
theorem dX9_after_37 : decode cX9_after 37 = .ok (.iconst 0, 1) := by decide +kernel
theorem dX9_after_38 : decode cX9_after 38 = .ok (.istore_n 2, 1) := by decide +kernel
theorem dX9_after_39 : decode cX9_after 39 = .ok (.iload_n 2, 1) := by decide +kernel
theorem dX9_after_40 : decode cX9_after 40 = .ok (.aload_n 0, 1) := by decide +kernel
theorem dX9_after_41 : decode cX9_after 41 = .ok (.getfield 99, 3) := by decide +kernel
theorem dX9_after_44 : decode cX9_after 44 = .ok (.if_icmp .ge 16, 3) := by decide +kernel
theorem dX9_after_47 : decode cX9_after 47 = .ok (.aload_n 0, 1) := by decide +kernel
theorem dX9_after_48 : decode cX9_after 48 = .ok (.getfield 61, 3) := by decide +kernel
theorem dX9_after_51 : decode cX9_after 51 = .ok (.iload_n 2, 1) := by decide +kernel
theorem dX9_after_52 : decode cX9_after 52 = .ok (.iconst 0, 1) := by decide +kernel
theorem dX9_after_53 : decode cX9_after 53 = .ok (.iastore, 1) := by decide +kernel
theorem dX9_after_54 : decode cX9_after 54 = .ok (.iinc 2 1, 3) := by decide +kernel
theorem dX9_after_57 : decode cX9_after 57 = .ok (.goto (-18), 3) := by decide +kernel
theorem dX9_after_60 : decode cX9_after 60 = .ok (.aload_n 0, 1) := by decide +kernel
theorem dX9_after_61 : decode cX9_after 61 = .ok (.invokevirtual 281, 3) := by decide +kernel
theorem dX9_after_64 : decode cX9_after 64 = .ok (.istore_n 2, 1) := by decide +kernel
theorem dX9_after_65 : decode cX9_after 65 = .ok (.iconst 0, 1) := by decide +kernel
theorem dX9_after_66 : decode cX9_after 66 = .ok (.istore_n 3, 1) := by decide +kernel
theorem dX9_after_67 : decode cX9_after 67 = .ok (.iconst 0, 1) := by decide +kernel
theorem dX9_after_68 : decode cX9_after 68 = .ok (.istore 4, 2) := by decide +kernel
theorem dX9_after_70 : decode cX9_after 70 = .ok (.iload 4, 2) := by decide +kernel
theorem dX9_after_72 : decode cX9_after 72 = .ok (.aload_n 0, 1) := by decide +kernel
theorem dX9_after_73 : decode cX9_after 73 = .ok (.getfield 49, 3) := by decide +kernel
theorem dX9_after_76 : decode cX9_after 76 = .ok (.iload_n 1, 1) := by decide +kernel
theorem dX9_after_77 : decode cX9_after 77 = .ok (.iaload, 1) := by decide +kernel
theorem dX9_after_78 : decode cX9_after 78 = .ok (.if_icmp .ge 55, 3) := by decide +kernel
theorem dX9_after_81 : decode cX9_after 81 = .ok (.aload_n 0, 1) := by decide +kernel
theorem dX9_after_82 : decode cX9_after 82 = .ok (.getfield 61, 3) := by decide +kernel
theorem dX9_after_85 : decode cX9_after 85 = .ok (.aload_n 0, 1) := by decide +kernel
theorem dX9_after_86 : decode cX9_after 86 = .ok (.getfield 52, 3) := by decide +kernel
theorem dX9_after_89 : decode cX9_after 89 = .ok (.sipush 200, 3) := by decide +kernel
theorem dX9_after_92 : decode cX9_after 92 = .ok (.iload_n 1, 1) := by decide +kernel
theorem dX9_after_93 : decode cX9_after 93 = .ok (.imul, 1) := by decide +kernel
theorem dX9_after_94 : decode cX9_after 94 = .ok (.iload 4, 2) := by decide +kernel
theorem dX9_after_96 : decode cX9_after 96 = .ok (.iadd, 1) := by decide +kernel
theorem dX9_after_97 : decode cX9_after 97 = .ok (.iaload, 1) := by decide +kernel
theorem dX9_after_98 : decode cX9_after 98 = .ok (.dup2, 1) := by decide +kernel
theorem dX9_after_99 : decode cX9_after 99 = .ok (.iaload, 1) := by decide +kernel
theorem dX9_after_100 : decode cX9_after 100 = .ok (.iconst 1, 1) := by decide +kernel
theorem dX9_after_101 : decode cX9_after 101 = .ok (.iadd, 1) := by decide +kernel
theorem dX9_after_102 : decode cX9_after 102 = .ok (.iastore, 1) := by decide +kernel
theorem dX9_after_103 : decode cX9_after 103 = .ok (.aload_n 0, 1) := by decide +kernel
theorem dX9_after_104 : decode cX9_after 104 = .ok (.invokevirtual 281, 3) := by decide +kernel
theorem dX9_after_107 : decode cX9_after 107 = .ok (.istore 5, 2) := by decide +kernel
theorem dX9_after_109 : decode cX9_after 109 = .ok (.iload 5, 2) := by decide +kernel
theorem dX9_after_111 : decode cX9_after 111 = .ok (.iload_n 2, 1) := by decide +kernel
theorem dX9_after_112 : decode cX9_after 112 = .ok (.if_icmp .ne 7, 3) := by decide +kernel
theorem dX9_after_115 : decode cX9_after 115 = .ok (.iload_n 3, 1) := by decide +kernel
theorem dX9_after_116 : decode cX9_after 116 = .ok (.goto 7, 3) := by decide +kernel
theorem dX9_after_119 : decode cX9_after 119 = .ok (.iload 4, 2) := by decide +kernel
theorem dX9_after_121 : decode cX9_after 121 = .ok (.iconst 1, 1) := by decide +kernel
theorem dX9_after_122 : decode cX9_after 122 = .ok (.iadd, 1) := by decide +kernel
theorem dX9_after_123 : decode cX9_after 123 = .ok (.istore_n 3, 1) := by decide +kernel
theorem dX9_after_124 : decode cX9_after 124 = .ok (.iload 5, 2) := by decide +kernel
theorem dX9_after_126 : decode cX9_after 126 = .ok (.istore_n 2, 1) := by decide +kernel
theorem dX9_after_127 : decode cX9_after 127 = .ok (.iinc 4 1, 3) := by decide +kernel
theorem dX9_after_130 : decode cX9_after 130 = .ok (.goto (-60), 3) := by decide +kernel
theorem dX9_after_133 : decode cX9_after 133 = .ok (.iload_n 3, 1) := by decide +kernel
theorem dX9_after_134 : decode cX9_after 134 = .ok (.ireturn, 1) := by decide +kernel
theorem dX9_shop_0 : decode cX9_shop 0 = .ok (.aload_n 0, 1) := by decide +kernel
theorem dX9_shop_1 : decode cX9_shop 1 = .ok (.iload_n 1, 1) := by decide +kernel
theorem dX9_shop_2 : decode cX9_shop 2 = .ok (.invokevirtual 186, 3) := by decide +kernel
theorem dX9_shop_5 : decode cX9_shop 5 = .ok (.ifCond .eq 15, 3) := by decide +kernel
theorem dX9_shop_8 : decode cX9_shop 8 = .ok (.iload_n 2, 1) := by decide +kernel
theorem dX9_shop_9 : decode cX9_shop 9 = .ok (.i2l, 1) := by decide +kernel
theorem dX9_shop_10 : decode cX9_shop 10 = .ok (.lconst 0, 1) := by decide +kernel
theorem dX9_shop_11 : decode cX9_shop 11 = .ok (.ldc2_w 284, 3) := by decide +kernel
theorem dX9_shop_14 : decode cX9_shop 14 = .ok (.invokestatic 102, 3) := by decide +kernel
theorem dX9_shop_17 : decode cX9_shop 17 = .ok (.ifCond .ne 5, 3) := by decide +kernel
theorem dX9_shop_20 : decode cX9_shop 20 = .ok (.iconst (-1), 1) := by decide +kernel
theorem dX9_shop_21 : decode cX9_shop 21 = .ok (.ireturn, 1) := by decide +kernel
theorem dX9_shop_22 : decode cX9_shop 22 = .ok (.aload_n 0, 1) := by decide +kernel
theorem dX9_shop_23 : decode cX9_shop 23 = .ok (.getfield 64, 3) := by decide +kernel
theorem dX9_shop_26 : decode cX9_shop 26 = .ok (.iload_n 1, 1) := by decide +kernel
theorem dX9_shop_27 : decode cX9_shop 27 = .ok (.iaload, 1) := by decide +kernel
theorem dX9_shop_28 : decode cX9_shop 28 = .ok (.istore_n 3, 1) := by decide +kernel
theorem dX9_shop_29 : decode cX9_shop 29 = .ok (.aload_n 0, 1) := by decide +kernel
theorem dX9_shop_30 : decode cX9_shop 30 = .ok (.getfield 64, 3) := by decide +kernel
theorem dX9_shop_33 : decode cX9_shop 33 = .ok (.iload_n 1, 1) := by decide +kernel
theorem dX9_shop_34 : decode cX9_shop 34 = .ok (.iload_n 2, 1) := by decide +kernel
theorem dX9_shop_35 : decode cX9_shop 35 = .ok (.iastore, 1) := by decide +kernel
theorem dX9_shop_36 : decode cX9_shop 36 = .ok (.iload_n 3, 1) := by decide +kernel
theorem dX9_shop_37 : decode cX9_shop 37 = .ok (.ireturn, 1) := by decide +kernel
theorem dX9_chartOf_0 : decode cX9_chartOf 0 = .ok (.iconst 0, 1) := by decide +kernel
theorem dX9_chartOf_1 : decode cX9_chartOf 1 = .ok (.istore_n 2, 1) := by decide +kernel
theorem dX9_chartOf_2 : decode cX9_chartOf 2 = .ok (.iconst 0, 1) := by decide +kernel
theorem dX9_chartOf_3 : decode cX9_chartOf 3 = .ok (.istore_n 3, 1) := by decide +kernel
theorem dX9_chartOf_4 : decode cX9_chartOf 4 = .ok (.iload_n 3, 1) := by decide +kernel
theorem dX9_chartOf_5 : decode cX9_chartOf 5 = .ok (.aload_n 0, 1) := by decide +kernel
theorem dX9_chartOf_6 : decode cX9_chartOf 6 = .ok (.getfield 174, 3) := by decide +kernel
theorem dX9_chartOf_9 : decode cX9_chartOf 9 = .ok (.if_icmp .ge 25, 3) := by decide +kernel
theorem dX9_chartOf_12 : decode cX9_chartOf 12 = .ok (.iload_n 2, 1) := by decide +kernel
theorem dX9_chartOf_13 : decode cX9_chartOf 13 = .ok (.aload_n 0, 1) := by decide +kernel
theorem dX9_chartOf_14 : decode cX9_chartOf 14 = .ok (.getfield 64, 3) := by decide +kernel
theorem dX9_chartOf_17 : decode cX9_chartOf 17 = .ok (.iload_n 3, 1) := by decide +kernel
theorem dX9_chartOf_18 : decode cX9_chartOf 18 = .ok (.iaload, 1) := by decide +kernel
theorem dX9_chartOf_19 : decode cX9_chartOf 19 = .ok (.aload_n 0, 1) := by decide +kernel
theorem dX9_chartOf_20 : decode cX9_chartOf 20 = .ok (.iload_n 3, 1) := by decide +kernel
theorem dX9_chartOf_21 : decode cX9_chartOf 21 = .ok (.iload_n 1, 1) := by decide +kernel
theorem dX9_chartOf_22 : decode cX9_chartOf 22 = .ok (.invokevirtual 191, 3) := by decide +kernel
theorem dX9_chartOf_25 : decode cX9_chartOf 25 = .ok (.imul, 1) := by decide +kernel
theorem dX9_chartOf_26 : decode cX9_chartOf 26 = .ok (.iadd, 1) := by decide +kernel
theorem dX9_chartOf_27 : decode cX9_chartOf 27 = .ok (.istore_n 2, 1) := by decide +kernel
theorem dX9_chartOf_28 : decode cX9_chartOf 28 = .ok (.iinc 3 1, 3) := by decide +kernel
theorem dX9_chartOf_31 : decode cX9_chartOf 31 = .ok (.goto (-27), 3) := by decide +kernel
theorem dX9_chartOf_34 : decode cX9_chartOf 34 = .ok (.iload_n 2, 1) := by decide +kernel
theorem dX9_chartOf_35 : decode cX9_chartOf 35 = .ok (.ireturn, 1) := by decide +kernel
theorem dX9_chart_0 : decode cX9_chart 0 = .ok (.aload_n 0, 1) := by decide +kernel
theorem dX9_chart_1 : decode cX9_chart 1 = .ok (.iload_n 1, 1) := by decide +kernel
theorem dX9_chart_2 : decode cX9_chart 2 = .ok (.invokevirtual 111, 3) := by decide +kernel
theorem dX9_chart_5 : decode cX9_chart 5 = .ok (.ifCond .eq 13, 3) := by decide +kernel
theorem dX9_chart_8 : decode cX9_chart 8 = .ok (.iload_n 2, 1) := by decide +kernel
theorem dX9_chart_9 : decode cX9_chart 9 = .ok (.i2l, 1) := by decide +kernel
theorem dX9_chart_10 : decode cX9_chart 10 = .ok (.lconst 0, 1) := by decide +kernel
theorem dX9_chart_11 : decode cX9_chart 11 = .ok (.lconst 1, 1) := by decide +kernel
theorem dX9_chart_12 : decode cX9_chart 12 = .ok (.invokestatic 102, 3) := by decide +kernel
theorem dX9_chart_15 : decode cX9_chart 15 = .ok (.ifCond .ne 5, 3) := by decide +kernel
theorem dX9_chart_18 : decode cX9_chart 18 = .ok (.iconst (-1), 1) := by decide +kernel
theorem dX9_chart_19 : decode cX9_chart 19 = .ok (.ireturn, 1) := by decide +kernel
theorem dX9_chart_20 : decode cX9_chart 20 = .ok (.iconst 0, 1) := by decide +kernel
theorem dX9_chart_21 : decode cX9_chart 21 = .ok (.istore_n 3, 1) := by decide +kernel
theorem dX9_chart_22 : decode cX9_chart 22 = .ok (.iload_n 3, 1) := by decide +kernel
theorem dX9_chart_23 : decode cX9_chart 23 = .ok (.aload_n 0, 1) := by decide +kernel
theorem dX9_chart_24 : decode cX9_chart 24 = .ok (.getfield 99, 3) := by decide +kernel
theorem dX9_chart_27 : decode cX9_chart 27 = .ok (.if_icmp .ge 94, 3) := by decide +kernel
theorem dX9_chart_30 : decode cX9_chart 30 = .ok (.iconst 0, 1) := by decide +kernel
theorem dX9_chart_31 : decode cX9_chart 31 = .ok (.istore 4, 2) := by decide +kernel
theorem dX9_chart_33 : decode cX9_chart 33 = .ok (.iconst 0, 1) := by decide +kernel
theorem dX9_chart_34 : decode cX9_chart 34 = .ok (.istore 5, 2) := by decide +kernel
theorem dX9_chart_36 : decode cX9_chart 36 = .ok (.iload 5, 2) := by decide +kernel
theorem dX9_chart_38 : decode cX9_chart 38 = .ok (.aload_n 0, 1) := by decide +kernel
theorem dX9_chart_39 : decode cX9_chart 39 = .ok (.getfield 99, 3) := by decide +kernel
theorem dX9_chart_42 : decode cX9_chart 42 = .ok (.if_icmp .ge 53, 3) := by decide +kernel
theorem dX9_chart_45 : decode cX9_chart 45 = .ok (.iload 4, 2) := by decide +kernel
theorem dX9_chart_47 : decode cX9_chart 47 = .ok (.aload_n 0, 1) := by decide +kernel
theorem dX9_chart_48 : decode cX9_chart 48 = .ok (.iload 5, 2) := by decide +kernel
theorem dX9_chart_50 : decode cX9_chart 50 = .ok (.invokevirtual 286, 3) := by decide +kernel
theorem dX9_chart_53 : decode cX9_chart 53 = .ok (.aload_n 0, 1) := by decide +kernel
theorem dX9_chart_54 : decode cX9_chart 54 = .ok (.iload_n 3, 1) := by decide +kernel
theorem dX9_chart_55 : decode cX9_chart 55 = .ok (.invokevirtual 286, 3) := by decide +kernel
theorem dX9_chart_58 : decode cX9_chart 58 = .ok (.if_icmp .gt 23, 3) := by decide +kernel
theorem dX9_chart_61 : decode cX9_chart 61 = .ok (.aload_n 0, 1) := by decide +kernel
theorem dX9_chart_62 : decode cX9_chart 62 = .ok (.iload 5, 2) := by decide +kernel
theorem dX9_chart_64 : decode cX9_chart 64 = .ok (.invokevirtual 286, 3) := by decide +kernel
theorem dX9_chart_67 : decode cX9_chart 67 = .ok (.aload_n 0, 1) := by decide +kernel
theorem dX9_chart_68 : decode cX9_chart 68 = .ok (.iload_n 3, 1) := by decide +kernel
theorem dX9_chart_69 : decode cX9_chart 69 = .ok (.invokevirtual 286, 3) := by decide +kernel
theorem dX9_chart_72 : decode cX9_chart 72 = .ok (.if_icmp .ne 13, 3) := by decide +kernel
theorem dX9_chart_75 : decode cX9_chart 75 = .ok (.iload 5, 2) := by decide +kernel
theorem dX9_chart_77 : decode cX9_chart 77 = .ok (.iload_n 3, 1) := by decide +kernel
theorem dX9_chart_78 : decode cX9_chart 78 = .ok (.if_icmp .ge 7, 3) := by decide +kernel
theorem dX9_chart_81 : decode cX9_chart 81 = .ok (.iconst 1, 1) := by decide +kernel
theorem dX9_chart_82 : decode cX9_chart 82 = .ok (.goto 4, 3) := by decide +kernel
theorem dX9_chart_85 : decode cX9_chart 85 = .ok (.iconst 0, 1) := by decide +kernel
theorem dX9_chart_86 : decode cX9_chart 86 = .ok (.iadd, 1) := by decide +kernel
theorem dX9_chart_87 : decode cX9_chart 87 = .ok (.istore 4, 2) := by decide +kernel
theorem dX9_chart_89 : decode cX9_chart 89 = .ok (.iinc 5 1, 3) := by decide +kernel
theorem dX9_chart_92 : decode cX9_chart 92 = .ok (.goto (-56), 3) := by decide +kernel
theorem dX9_chart_95 : decode cX9_chart 95 = .ok (.iload 4, 2) := by decide +kernel
theorem dX9_chart_97 : decode cX9_chart 97 = .ok (.iload_n 1, 1) := by decide +kernel
theorem dX9_chart_98 : decode cX9_chart 98 = .ok (.if_icmp .ne 17, 3) := by decide +kernel
theorem dX9_chart_101 : decode cX9_chart 101 = .ok (.iload_n 2, 1) := by decide +kernel
theorem dX9_chart_102 : decode cX9_chart 102 = .ok (.ifCond .ne 7, 3) := by decide +kernel
theorem dX9_chart_105 : decode cX9_chart 105 = .ok (.iload_n 3, 1) := by decide +kernel
theorem dX9_chart_106 : decode cX9_chart 106 = .ok (.goto 8, 3) := by decide +kernel
theorem dX9_chart_109 : decode cX9_chart 109 = .ok (.aload_n 0, 1) := by decide +kernel
theorem dX9_chart_110 : decode cX9_chart 110 = .ok (.iload_n 3, 1) := by decide +kernel
theorem dX9_chart_111 : decode cX9_chart 111 = .ok (.invokevirtual 286, 3) := by decide +kernel
theorem dX9_chart_114 : decode cX9_chart 114 = .ok (.ireturn, 1) := by decide +kernel
theorem dX9_chart_115 : decode cX9_chart 115 = .ok (.iinc 3 1, 3) := by decide +kernel
theorem dX9_chart_118 : decode cX9_chart 118 = .ok (.goto (-96), 3) := by decide +kernel
theorem dX9_chart_121 : decode cX9_chart 121 = .ok (.iconst (-1), 1) := by decide +kernel
theorem dX9_chart_122 : decode cX9_chart 122 = .ok (.ireturn, 1) := by decide +kernel
theorem dX9_crate_0 : decode cX9_crate 0 = .ok (.aload_n 0, 1) := by decide +kernel
theorem dX9_crate_1 : decode cX9_crate 1 = .ok (.iload_n 1, 1) := by decide +kernel
theorem dX9_crate_2 : decode cX9_crate 2 = .ok (.invokevirtual 186, 3) := by decide +kernel
theorem dX9_crate_5 : decode cX9_crate 5 = .ok (.ifCond .eq 23, 3) := by decide +kernel
theorem dX9_crate_8 : decode cX9_crate 8 = .ok (.aload_n 0, 1) := by decide +kernel
theorem dX9_crate_9 : decode cX9_crate 9 = .ok (.iload_n 2, 1) := by decide +kernel
theorem dX9_crate_10 : decode cX9_crate 10 = .ok (.invokevirtual 111, 3) := by decide +kernel
theorem dX9_crate_13 : decode cX9_crate 13 = .ok (.ifCond .eq 15, 3) := by decide +kernel
theorem dX9_crate_16 : decode cX9_crate 16 = .ok (.iload_n 3, 1) := by decide +kernel
theorem dX9_crate_17 : decode cX9_crate 17 = .ok (.i2l, 1) := by decide +kernel
theorem dX9_crate_18 : decode cX9_crate 18 = .ok (.lconst 1, 1) := by decide +kernel
theorem dX9_crate_19 : decode cX9_crate 19 = .ok (.ldc2_w 189, 3) := by decide +kernel
theorem dX9_crate_22 : decode cX9_crate 22 = .ok (.invokestatic 102, 3) := by decide +kernel
theorem dX9_crate_25 : decode cX9_crate 25 = .ok (.ifCond .ne 5, 3) := by decide +kernel
theorem dX9_crate_28 : decode cX9_crate 28 = .ok (.iconst (-1), 1) := by decide +kernel
theorem dX9_crate_29 : decode cX9_crate 29 = .ok (.ireturn, 1) := by decide +kernel
theorem dX9_crate_30 : decode cX9_crate 30 = .ok (.aload_n 0, 1) := by decide +kernel
theorem dX9_crate_31 : decode cX9_crate 31 = .ok (.iload_n 1, 1) := by decide +kernel
theorem dX9_crate_32 : decode cX9_crate 32 = .ok (.iload_n 2, 1) := by decide +kernel
theorem dX9_crate_33 : decode cX9_crate 33 = .ok (.invokevirtual 191, 3) := by decide +kernel
theorem dX9_crate_36 : decode cX9_crate 36 = .ok (.iload_n 3, 1) := by decide +kernel
theorem dX9_crate_37 : decode cX9_crate 37 = .ok (.iadd, 1) := by decide +kernel
theorem dX9_crate_38 : decode cX9_crate 38 = .ok (.istore 4, 2) := by decide +kernel
theorem dX9_crate_40 : decode cX9_crate 40 = .ok (.aload_n 0, 1) := by decide +kernel
theorem dX9_crate_41 : decode cX9_crate 41 = .ok (.bipush 23, 2) := by decide +kernel
theorem dX9_crate_43 : decode cX9_crate 43 = .ok (.bipush 12, 2) := by decide +kernel
theorem dX9_crate_45 : decode cX9_crate 45 = .ok (.iload_n 1, 1) := by decide +kernel
theorem dX9_crate_46 : decode cX9_crate 46 = .ok (.imul, 1) := by decide +kernel
theorem dX9_crate_47 : decode cX9_crate 47 = .ok (.iadd, 1) := by decide +kernel
theorem dX9_crate_48 : decode cX9_crate 48 = .ok (.iload_n 2, 1) := by decide +kernel
theorem dX9_crate_49 : decode cX9_crate 49 = .ok (.iadd, 1) := by decide +kernel
theorem dX9_crate_50 : decode cX9_crate 50 = .ok (.iload 4, 2) := by decide +kernel
theorem dX9_crate_52 : decode cX9_crate 52 = .ok (.ldc 222, 2) := by decide +kernel
theorem dX9_crate_54 : decode cX9_crate 54 = .ok (.if_icmp .le 8, 3) := by decide +kernel
theorem dX9_crate_57 : decode cX9_crate 57 = .ok (.ldc 222, 2) := by decide +kernel
theorem dX9_crate_59 : decode cX9_crate 59 = .ok (.goto 5, 3) := by decide +kernel
theorem dX9_crate_62 : decode cX9_crate 62 = .ok (.iload 4, 2) := by decide +kernel
theorem dX9_crate_64 : decode cX9_crate 64 = .ok (.invokevirtual 115, 3) := by decide +kernel
theorem dX9_crate_67 : decode cX9_crate 67 = .ok (.istore 5, 2) := by decide +kernel
theorem dX9_crate_69 : decode cX9_crate 69 = .ok (.aload_n 0, 1) := by decide +kernel
theorem dX9_crate_70 : decode cX9_crate 70 = .ok (.iload_n 1, 1) := by decide +kernel
theorem dX9_crate_71 : decode cX9_crate 71 = .ok (.iload_n 2, 1) := by decide +kernel
theorem dX9_crate_72 : decode cX9_crate 72 = .ok (.invokevirtual 191, 3) := by decide +kernel
theorem dX9_crate_75 : decode cX9_crate 75 = .ok (.ireturn, 1) := by decide +kernel
theorem dX9_found_0 : decode cX9_found 0 = .ok (.aload_n 0, 1) := by decide +kernel
theorem dX9_found_1 : decode cX9_found 1 = .ok (.iload_n 1, 1) := by decide +kernel
theorem dX9_found_2 : decode cX9_found 2 = .ok (.invokevirtual 186, 3) := by decide +kernel
theorem dX9_found_5 : decode cX9_found 5 = .ok (.ifCond .eq 13, 3) := by decide +kernel
theorem dX9_found_8 : decode cX9_found 8 = .ok (.iload_n 2, 1) := by decide +kernel
theorem dX9_found_9 : decode cX9_found 9 = .ok (.i2l, 1) := by decide +kernel
theorem dX9_found_10 : decode cX9_found 10 = .ok (.lconst 0, 1) := by decide +kernel
theorem dX9_found_11 : decode cX9_found 11 = .ok (.lconst 1, 1) := by decide +kernel
theorem dX9_found_12 : decode cX9_found 12 = .ok (.invokestatic 102, 3) := by decide +kernel
theorem dX9_found_15 : decode cX9_found 15 = .ok (.ifCond .ne 5, 3) := by decide +kernel
theorem dX9_found_18 : decode cX9_found 18 = .ok (.iconst (-1), 1) := by decide +kernel
theorem dX9_found_19 : decode cX9_found 19 = .ok (.ireturn, 1) := by decide +kernel
theorem dX9_found_20 : decode cX9_found 20 = .ok (.aload_n 0, 1) := by decide +kernel
theorem dX9_found_21 : decode cX9_found 21 = .ok (.iload_n 1, 1) := by decide +kernel
theorem dX9_found_22 : decode cX9_found 22 = .ok (.invokevirtual 204, 3) := by decide +kernel
theorem dX9_found_25 : decode cX9_found 25 = .ok (.i2l, 1) := by decide +kernel
theorem dX9_found_26 : decode cX9_found 26 = .ok (.lstore_n 3, 1) := by decide +kernel
theorem dX9_found_27 : decode cX9_found 27 = .ok (.lconst 0, 1) := by decide +kernel
theorem dX9_found_28 : decode cX9_found 28 = .ok (.lstore 5, 2) := by decide +kernel
theorem dX9_found_30 : decode cX9_found 30 = .ok (.iconst 0, 1) := by decide +kernel
theorem dX9_found_31 : decode cX9_found 31 = .ok (.istore 7, 2) := by decide +kernel
theorem dX9_found_33 : decode cX9_found 33 = .ok (.iload 7, 2) := by decide +kernel
theorem dX9_found_35 : decode cX9_found 35 = .ok (.aload_n 0, 1) := by decide +kernel
theorem dX9_found_36 : decode cX9_found 36 = .ok (.getfield 99, 3) := by decide +kernel
theorem dX9_found_39 : decode cX9_found 39 = .ok (.if_icmp .ge 22, 3) := by decide +kernel
theorem dX9_found_42 : decode cX9_found 42 = .ok (.lload 5, 2) := by decide +kernel
theorem dX9_found_44 : decode cX9_found 44 = .ok (.aload_n 0, 1) := by decide +kernel
theorem dX9_found_45 : decode cX9_found 45 = .ok (.getfield 9, 3) := by decide +kernel
theorem dX9_found_48 : decode cX9_found 48 = .ok (.iload 7, 2) := by decide +kernel
theorem dX9_found_50 : decode cX9_found 50 = .ok (.iaload, 1) := by decide +kernel
theorem dX9_found_51 : decode cX9_found 51 = .ok (.i2l, 1) := by decide +kernel
theorem dX9_found_52 : decode cX9_found 52 = .ok (.ladd, 1) := by decide +kernel
theorem dX9_found_53 : decode cX9_found 53 = .ok (.lstore 5, 2) := by decide +kernel
theorem dX9_found_55 : decode cX9_found 55 = .ok (.iinc 7 1, 3) := by decide +kernel
theorem dX9_found_58 : decode cX9_found 58 = .ok (.goto (-25), 3) := by decide +kernel
theorem dX9_found_61 : decode cX9_found 61 = .ok (.lload_n 3, 1) := by decide +kernel
theorem dX9_found_62 : decode cX9_found 62 = .ok (.lconst 0, 1) := by decide +kernel
theorem dX9_found_63 : decode cX9_found 63 = .ok (.lcmp, 1) := by decide +kernel
theorem dX9_found_64 : decode cX9_found 64 = .ok (.ifCond .eq 10, 3) := by decide +kernel
theorem dX9_found_67 : decode cX9_found 67 = .ok (.lload 5, 2) := by decide +kernel
theorem dX9_found_69 : decode cX9_found 69 = .ok (.lconst 0, 1) := by decide +kernel
theorem dX9_found_70 : decode cX9_found 70 = .ok (.lcmp, 1) := by decide +kernel
theorem dX9_found_71 : decode cX9_found 71 = .ok (.ifCond .ne 6, 3) := by decide +kernel
theorem dX9_found_74 : decode cX9_found 74 = .ok (.bipush (-2), 2) := by decide +kernel
theorem dX9_found_76 : decode cX9_found 76 = .ok (.ireturn, 1) := by decide +kernel
theorem dX9_found_77 : decode cX9_found 77 = .ok (.iconst 0, 1) := by decide +kernel
theorem dX9_found_78 : decode cX9_found 78 = .ok (.istore 7, 2) := by decide +kernel
theorem dX9_found_80 : decode cX9_found 80 = .ok (.iconst 0, 1) := by decide +kernel
theorem dX9_found_81 : decode cX9_found 81 = .ok (.istore 8, 2) := by decide +kernel
theorem dX9_found_83 : decode cX9_found 83 = .ok (.iconst 0, 1) := by decide +kernel
theorem dX9_found_84 : decode cX9_found 84 = .ok (.istore 9, 2) := by decide +kernel
theorem dX9_found_86 : decode cX9_found 86 = .ok (.iload 9, 2) := by decide +kernel
theorem dX9_found_88 : decode cX9_found 88 = .ok (.aload_n 0, 1) := by decide +kernel
theorem dX9_found_89 : decode cX9_found 89 = .ok (.getfield 99, 3) := by decide +kernel
theorem dX9_found_92 : decode cX9_found 92 = .ok (.if_icmp .ge 53, 3) := by decide +kernel
theorem dX9_found_95 : decode cX9_found 95 = .ok (.aload_n 0, 1) := by decide +kernel
theorem dX9_found_96 : decode cX9_found 96 = .ok (.iload_n 1, 1) := by decide +kernel
theorem dX9_found_97 : decode cX9_found 97 = .ok (.iload 9, 2) := by decide +kernel
theorem dX9_found_99 : decode cX9_found 99 = .ok (.invokevirtual 191, 3) := by decide +kernel
theorem dX9_found_102 : decode cX9_found 102 = .ok (.lload_n 3, 1) := by decide +kernel
theorem dX9_found_103 : decode cX9_found 103 = .ok (.aload_n 0, 1) := by decide +kernel
theorem dX9_found_104 : decode cX9_found 104 = .ok (.getfield 9, 3) := by decide +kernel
theorem dX9_found_107 : decode cX9_found 107 = .ok (.iload 9, 2) := by decide +kernel
theorem dX9_found_109 : decode cX9_found 109 = .ok (.iaload, 1) := by decide +kernel
theorem dX9_found_110 : decode cX9_found 110 = .ok (.i2l, 1) := by decide +kernel
theorem dX9_found_111 : decode cX9_found 111 = .ok (.lmul, 1) := by decide +kernel
theorem dX9_found_112 : decode cX9_found 112 = .ok (.lload 5, 2) := by decide +kernel
theorem dX9_found_114 : decode cX9_found 114 = .ok (.ldiv, 1) := by decide +kernel
theorem dX9_found_115 : decode cX9_found 115 = .ok (.l2i, 1) := by decide +kernel
theorem dX9_found_116 : decode cX9_found 116 = .ok (.isub, 1) := by decide +kernel
theorem dX9_found_117 : decode cX9_found 117 = .ok (.istore 10, 2) := by decide +kernel
theorem dX9_found_119 : decode cX9_found 119 = .ok (.iload 9, 2) := by decide +kernel
theorem dX9_found_121 : decode cX9_found 121 = .ok (.ifCond .eq 10, 3) := by decide +kernel
theorem dX9_found_124 : decode cX9_found 124 = .ok (.iload 10, 2) := by decide +kernel
theorem dX9_found_126 : decode cX9_found 126 = .ok (.iload 8, 2) := by decide +kernel
theorem dX9_found_128 : decode cX9_found 128 = .ok (.if_icmp .le 11, 3) := by decide +kernel
theorem dX9_found_131 : decode cX9_found 131 = .ok (.iload 9, 2) := by decide +kernel
theorem dX9_found_133 : decode cX9_found 133 = .ok (.istore 7, 2) := by decide +kernel
theorem dX9_found_135 : decode cX9_found 135 = .ok (.iload 10, 2) := by decide +kernel
theorem dX9_found_137 : decode cX9_found 137 = .ok (.istore 8, 2) := by decide +kernel
theorem dX9_found_139 : decode cX9_found 139 = .ok (.iinc 9 1, 3) := by decide +kernel
theorem dX9_found_142 : decode cX9_found 142 = .ok (.goto (-56), 3) := by decide +kernel
theorem dX9_found_145 : decode cX9_found 145 = .ok (.iload_n 2, 1) := by decide +kernel
theorem dX9_found_146 : decode cX9_found 146 = .ok (.ifCond .ne 8, 3) := by decide +kernel
theorem dX9_found_149 : decode cX9_found 149 = .ok (.iload 7, 2) := by decide +kernel
theorem dX9_found_151 : decode cX9_found 151 = .ok (.goto 5, 3) := by decide +kernel
theorem dX9_found_154 : decode cX9_found 154 = .ok (.iload 8, 2) := by decide +kernel
theorem dX9_found_156 : decode cX9_found 156 = .ok (.ireturn, 1) := by decide +kernel
theorem dX9_bitsOf_0 : decode cX9_bitsOf 0 = .ok (.iconst 0, 1) := by decide +kernel
theorem dX9_bitsOf_1 : decode cX9_bitsOf 1 = .ok (.istore_n 1, 1) := by decide +kernel
theorem dX9_bitsOf_2 : decode cX9_bitsOf 2 = .ok (.iload_n 0, 1) := by decide +kernel
theorem dX9_bitsOf_3 : decode cX9_bitsOf 3 = .ok (.istore_n 2, 1) := by decide +kernel
theorem dX9_bitsOf_4 : decode cX9_bitsOf 4 = .ok (.iload_n 2, 1) := by decide +kernel
theorem dX9_bitsOf_5 : decode cX9_bitsOf 5 = .ok (.ifCond .eq 15, 3) := by decide +kernel
theorem dX9_bitsOf_8 : decode cX9_bitsOf 8 = .ok (.iinc 1 1, 3) := by decide +kernel
theorem dX9_bitsOf_11 : decode cX9_bitsOf 11 = .ok (.iload_n 2, 1) := by decide +kernel
theorem dX9_bitsOf_12 : decode cX9_bitsOf 12 = .ok (.iload_n 2, 1) := by decide +kernel
theorem dX9_bitsOf_13 : decode cX9_bitsOf 13 = .ok (.iconst 1, 1) := by decide +kernel
theorem dX9_bitsOf_14 : decode cX9_bitsOf 14 = .ok (.isub, 1) := by decide +kernel
theorem dX9_bitsOf_15 : decode cX9_bitsOf 15 = .ok (.iand, 1) := by decide +kernel
theorem dX9_bitsOf_16 : decode cX9_bitsOf 16 = .ok (.istore_n 2, 1) := by decide +kernel
theorem dX9_bitsOf_17 : decode cX9_bitsOf 17 = .ok (.goto (-13), 3) := by decide +kernel
theorem dX9_bitsOf_20 : decode cX9_bitsOf 20 = .ok (.iload_n 1, 1) := by decide +kernel
theorem dX9_bitsOf_21 : decode cX9_bitsOf 21 = .ok (.ireturn, 1) := by decide +kernel
theorem dX9_house_0 : decode cX9_house 0 = .ok (.aload_n 0, 1) := by decide +kernel
theorem dX9_house_1 : decode cX9_house 1 = .ok (.iload_n 1, 1) := by decide +kernel
theorem dX9_house_2 : decode cX9_house 2 = .ok (.invokevirtual 186, 3) := by decide +kernel
theorem dX9_house_5 : decode cX9_house 5 = .ok (.ifCond .eq 43, 3) := by decide +kernel
theorem dX9_house_8 : decode cX9_house 8 = .ok (.iload_n 2, 1) := by decide +kernel
theorem dX9_house_9 : decode cX9_house 9 = .ok (.ifCond .lt 39, 3) := by decide +kernel
theorem dX9_house_12 : decode cX9_house 12 = .ok (.iload_n 2, 1) := by decide +kernel
theorem dX9_house_13 : decode cX9_house 13 = .ok (.aload_n 0, 1) := by decide +kernel
theorem dX9_house_14 : decode cX9_house 14 = .ok (.getfield 99, 3) := by decide +kernel
theorem dX9_house_17 : decode cX9_house 17 = .ok (.ishr, 1) := by decide +kernel
theorem dX9_house_18 : decode cX9_house 18 = .ok (.ifCond .ne 30, 3) := by decide +kernel
theorem dX9_house_21 : decode cX9_house 21 = .ok (.iload_n 3, 1) := by decide +kernel
theorem dX9_house_22 : decode cX9_house 22 = .ok (.i2l, 1) := by decide +kernel
theorem dX9_house_23 : decode cX9_house 23 = .ok (.lconst 1, 1) := by decide +kernel
theorem dX9_house_24 : decode cX9_house 24 = .ok (.aload_n 0, 1) := by decide +kernel
theorem dX9_house_25 : decode cX9_house 25 = .ok (.getfield 99, 3) := by decide +kernel
theorem dX9_house_28 : decode cX9_house 28 = .ok (.i2l, 1) := by decide +kernel
theorem dX9_house_29 : decode cX9_house 29 = .ok (.invokestatic 102, 3) := by decide +kernel
theorem dX9_house_32 : decode cX9_house 32 = .ok (.ifCond .eq 16, 3) := by decide +kernel
theorem dX9_house_35 : decode cX9_house 35 = .ok (.iload 4, 2) := by decide +kernel
theorem dX9_house_37 : decode cX9_house 37 = .ok (.i2l, 1) := by decide +kernel
theorem dX9_house_38 : decode cX9_house 38 = .ok (.lconst 0, 1) := by decide +kernel
theorem dX9_house_39 : decode cX9_house 39 = .ok (.ldc2_w 289, 3) := by decide +kernel
theorem dX9_house_42 : decode cX9_house 42 = .ok (.invokestatic 102, 3) := by decide +kernel
theorem dX9_house_45 : decode cX9_house 45 = .ok (.ifCond .ne 7, 3) := by decide +kernel
theorem dX9_house_48 : decode cX9_house 48 = .ok (.ldc_w 291, 3) := by decide +kernel
theorem dX9_house_51 : decode cX9_house 51 = .ok (.ireturn, 1) := by decide +kernel
theorem dX9_house_52 : decode cX9_house 52 = .ok (.iconst 0, 1) := by decide +kernel
theorem dX9_house_53 : decode cX9_house 53 = .ok (.istore 5, 2) := by decide +kernel
theorem dX9_house_55 : decode cX9_house 55 = .ok (.iload_n 2, 1) := by decide +kernel
theorem dX9_house_56 : decode cX9_house 56 = .ok (.istore 6, 2) := by decide +kernel
theorem dX9_house_58 : decode cX9_house 58 = .ok (.iconst 0, 1) := by decide +kernel
theorem dX9_house_59 : decode cX9_house 59 = .ok (.istore 7, 2) := by decide +kernel
theorem dX9_house_61 : decode cX9_house 61 = .ok (.iload 7, 2) := by decide +kernel
theorem dX9_house_63 : decode cX9_house 63 = .ok (.aload_n 0, 1) := by decide +kernel
theorem dX9_house_64 : decode cX9_house 64 = .ok (.getfield 99, 3) := by decide +kernel
theorem dX9_house_67 : decode cX9_house 67 = .ok (.if_icmp .ge 44, 3) := by decide +kernel
theorem dX9_house_70 : decode cX9_house 70 = .ok (.iload_n 2, 1) := by decide +kernel
theorem dX9_house_71 : decode cX9_house 71 = .ok (.iload 7, 2) := by decide +kernel
theorem dX9_house_73 : decode cX9_house 73 = .ok (.ishr, 1) := by decide +kernel
theorem dX9_house_74 : decode cX9_house 74 = .ok (.iconst 1, 1) := by decide +kernel
theorem dX9_house_75 : decode cX9_house 75 = .ok (.iand, 1) := by decide +kernel
theorem dX9_house_76 : decode cX9_house 76 = .ok (.iconst 1, 1) := by decide +kernel
theorem dX9_house_77 : decode cX9_house 77 = .ok (.if_icmp .ne 28, 3) := by decide +kernel
theorem dX9_house_80 : decode cX9_house 80 = .ok (.aload_n 0, 1) := by decide +kernel
theorem dX9_house_81 : decode cX9_house 81 = .ok (.iload_n 1, 1) := by decide +kernel
theorem dX9_house_82 : decode cX9_house 82 = .ok (.iload 7, 2) := by decide +kernel
theorem dX9_house_84 : decode cX9_house 84 = .ok (.invokevirtual 194, 3) := by decide +kernel
theorem dX9_house_87 : decode cX9_house 87 = .ok (.iload_n 3, 1) := by decide +kernel
theorem dX9_house_88 : decode cX9_house 88 = .ok (.if_icmp .ge 17, 3) := by decide +kernel
theorem dX9_house_91 : decode cX9_house 91 = .ok (.iinc 5 1, 3) := by decide +kernel
theorem dX9_house_94 : decode cX9_house 94 = .ok (.iload 6, 2) := by decide +kernel
theorem dX9_house_96 : decode cX9_house 96 = .ok (.iconst 1, 1) := by decide +kernel
theorem dX9_house_97 : decode cX9_house 97 = .ok (.iload 7, 2) := by decide +kernel
theorem dX9_house_99 : decode cX9_house 99 = .ok (.ishl, 1) := by decide +kernel
theorem dX9_house_100 : decode cX9_house 100 = .ok (.iconst (-1), 1) := by decide +kernel
theorem dX9_house_101 : decode cX9_house 101 = .ok (.ixor, 1) := by decide +kernel
theorem dX9_house_102 : decode cX9_house 102 = .ok (.iand, 1) := by decide +kernel
theorem dX9_house_103 : decode cX9_house 103 = .ok (.istore 6, 2) := by decide +kernel
theorem dX9_house_105 : decode cX9_house 105 = .ok (.iinc 7 1, 3) := by decide +kernel
theorem dX9_house_108 : decode cX9_house 108 = .ok (.goto (-47), 3) := by decide +kernel
theorem dX9_house_111 : decode cX9_house 111 = .ok (.iload_n 2, 1) := by decide +kernel
theorem dX9_house_112 : decode cX9_house 112 = .ok (.invokestatic 292, 3) := by decide +kernel
theorem dX9_house_115 : decode cX9_house 115 = .ok (.iload_n 3, 1) := by decide +kernel
theorem dX9_house_116 : decode cX9_house 116 = .ok (.imul, 1) := by decide +kernel
theorem dX9_house_117 : decode cX9_house 117 = .ok (.sipush 1000, 3) := by decide +kernel
theorem dX9_house_120 : decode cX9_house 120 = .ok (.imul, 1) := by decide +kernel
theorem dX9_house_121 : decode cX9_house 121 = .ok (.aload_n 0, 1) := by decide +kernel
theorem dX9_house_122 : decode cX9_house 122 = .ok (.getfield 99, 3) := by decide +kernel
theorem dX9_house_125 : decode cX9_house 125 = .ok (.idiv, 1) := by decide +kernel
theorem dX9_house_126 : decode cX9_house 126 = .ok (.istore 7, 2) := by decide +kernel
theorem dX9_house_128 : decode cX9_house 128 = .ok (.iload 4, 2) := by decide +kernel
theorem dX9_house_130 : decode cX9_house 130 = .ok (.ifCond .ne 8, 3) := by decide +kernel
theorem dX9_house_133 : decode cX9_house 133 = .ok (.iload 5, 2) := by decide +kernel
theorem dX9_house_135 : decode cX9_house 135 = .ok (.goto 34, 3) := by decide +kernel
theorem dX9_house_138 : decode cX9_house 138 = .ok (.iload 4, 2) := by decide +kernel
theorem dX9_house_140 : decode cX9_house 140 = .ok (.iconst 1, 1) := by decide +kernel
theorem dX9_house_141 : decode cX9_house 141 = .ok (.if_icmp .ne 8, 3) := by decide +kernel
theorem dX9_house_144 : decode cX9_house 144 = .ok (.iload 7, 2) := by decide +kernel
theorem dX9_house_146 : decode cX9_house 146 = .ok (.goto 23, 3) := by decide +kernel
theorem dX9_house_149 : decode cX9_house 149 = .ok (.iload 4, 2) := by decide +kernel
theorem dX9_house_151 : decode cX9_house 151 = .ok (.iconst 2, 1) := by decide +kernel
theorem dX9_house_152 : decode cX9_house 152 = .ok (.if_icmp .ne 15, 3) := by decide +kernel
theorem dX9_house_155 : decode cX9_house 155 = .ok (.sipush 1000, 3) := by decide +kernel
theorem dX9_house_158 : decode cX9_house 158 = .ok (.iload 5, 2) := by decide +kernel
theorem dX9_house_160 : decode cX9_house 160 = .ok (.imul, 1) := by decide +kernel
theorem dX9_house_161 : decode cX9_house 161 = .ok (.iload 7, 2) := by decide +kernel
theorem dX9_house_163 : decode cX9_house 163 = .ok (.isub, 1) := by decide +kernel
theorem dX9_house_164 : decode cX9_house 164 = .ok (.goto 5, 3) := by decide +kernel
theorem dX9_house_167 : decode cX9_house 167 = .ok (.iload 6, 2) := by decide +kernel
theorem dX9_house_169 : decode cX9_house 169 = .ok (.ireturn, 1) := by decide +kernel
theorem dX9_trueFrom_0 : decode cX9_trueFrom 0 = .ok (.iload_n 1, 1) := by decide +kernel
theorem dX9_trueFrom_1 : decode cX9_trueFrom 1 = .ok (.aload_n 0, 1) := by decide +kernel
theorem dX9_trueFrom_2 : decode cX9_trueFrom 2 = .ok (.getfield 99, 3) := by decide +kernel
theorem dX9_trueFrom_5 : decode cX9_trueFrom 5 = .ok (.if_icmp .ne 5, 3) := by decide +kernel
theorem dX9_trueFrom_8 : decode cX9_trueFrom 8 = .ok (.iconst 1, 1) := by decide +kernel
theorem dX9_trueFrom_9 : decode cX9_trueFrom 9 = .ok (.ireturn, 1) := by decide +kernel
theorem dX9_trueFrom_10 : decode cX9_trueFrom 10 = .ok (.iconst 0, 1) := by decide +kernel
theorem dX9_trueFrom_11 : decode cX9_trueFrom 11 = .ok (.istore 4, 2) := by decide +kernel
theorem dX9_trueFrom_13 : decode cX9_trueFrom 13 = .ok (.iconst 0, 1) := by decide +kernel
theorem dX9_trueFrom_14 : decode cX9_trueFrom 14 = .ok (.istore 5, 2) := by decide +kernel
theorem dX9_trueFrom_16 : decode cX9_trueFrom 16 = .ok (.iload 5, 2) := by decide +kernel
theorem dX9_trueFrom_18 : decode cX9_trueFrom 18 = .ok (.aload_n 0, 1) := by decide +kernel
theorem dX9_trueFrom_19 : decode cX9_trueFrom 19 = .ok (.getfield 99, 3) := by decide +kernel
theorem dX9_trueFrom_22 : decode cX9_trueFrom 22 = .ok (.if_icmp .ge 64, 3) := by decide +kernel
theorem dX9_trueFrom_25 : decode cX9_trueFrom 25 = .ok (.iload_n 2, 1) := by decide +kernel
theorem dX9_trueFrom_26 : decode cX9_trueFrom 26 = .ok (.iload 5, 2) := by decide +kernel
theorem dX9_trueFrom_28 : decode cX9_trueFrom 28 = .ok (.ishr, 1) := by decide +kernel
theorem dX9_trueFrom_29 : decode cX9_trueFrom 29 = .ok (.iconst 1, 1) := by decide +kernel
theorem dX9_trueFrom_30 : decode cX9_trueFrom 30 = .ok (.iand, 1) := by decide +kernel
theorem dX9_trueFrom_31 : decode cX9_trueFrom 31 = .ok (.ifCond .ne 49, 3) := by decide +kernel
theorem dX9_trueFrom_34 : decode cX9_trueFrom 34 = .ok (.aload_n 0, 1) := by decide +kernel
theorem dX9_trueFrom_35 : decode cX9_trueFrom 35 = .ok (.getfield 67, 3) := by decide +kernel
theorem dX9_trueFrom_38 : decode cX9_trueFrom 38 = .ok (.bipush 6, 2) := by decide +kernel
theorem dX9_trueFrom_40 : decode cX9_trueFrom 40 = .ok (.iload 5, 2) := by decide +kernel
theorem dX9_trueFrom_42 : decode cX9_trueFrom 42 = .ok (.imul, 1) := by decide +kernel
theorem dX9_trueFrom_43 : decode cX9_trueFrom 43 = .ok (.iload_n 1, 1) := by decide +kernel
theorem dX9_trueFrom_44 : decode cX9_trueFrom 44 = .ok (.iadd, 1) := by decide +kernel
theorem dX9_trueFrom_45 : decode cX9_trueFrom 45 = .ok (.iaload, 1) := by decide +kernel
theorem dX9_trueFrom_46 : decode cX9_trueFrom 46 = .ok (.iload_n 3, 1) := by decide +kernel
theorem dX9_trueFrom_47 : decode cX9_trueFrom 47 = .ok (.if_icmp .gt 33, 3) := by decide +kernel
theorem dX9_trueFrom_50 : decode cX9_trueFrom 50 = .ok (.iload 4, 2) := by decide +kernel
theorem dX9_trueFrom_52 : decode cX9_trueFrom 52 = .ok (.aload_n 0, 1) := by decide +kernel
theorem dX9_trueFrom_53 : decode cX9_trueFrom 53 = .ok (.iload_n 1, 1) := by decide +kernel
theorem dX9_trueFrom_54 : decode cX9_trueFrom 54 = .ok (.iconst 1, 1) := by decide +kernel
theorem dX9_trueFrom_55 : decode cX9_trueFrom 55 = .ok (.iadd, 1) := by decide +kernel
theorem dX9_trueFrom_56 : decode cX9_trueFrom 56 = .ok (.iload_n 2, 1) := by decide +kernel
theorem dX9_trueFrom_57 : decode cX9_trueFrom 57 = .ok (.iconst 1, 1) := by decide +kernel
theorem dX9_trueFrom_58 : decode cX9_trueFrom 58 = .ok (.iload 5, 2) := by decide +kernel
theorem dX9_trueFrom_60 : decode cX9_trueFrom 60 = .ok (.ishl, 1) := by decide +kernel
theorem dX9_trueFrom_61 : decode cX9_trueFrom 61 = .ok (.ior, 1) := by decide +kernel
theorem dX9_trueFrom_62 : decode cX9_trueFrom 62 = .ok (.aload_n 0, 1) := by decide +kernel
theorem dX9_trueFrom_63 : decode cX9_trueFrom 63 = .ok (.getfield 67, 3) := by decide +kernel
theorem dX9_trueFrom_66 : decode cX9_trueFrom 66 = .ok (.bipush 6, 2) := by decide +kernel
theorem dX9_trueFrom_68 : decode cX9_trueFrom 68 = .ok (.iload 5, 2) := by decide +kernel
theorem dX9_trueFrom_70 : decode cX9_trueFrom 70 = .ok (.imul, 1) := by decide +kernel
theorem dX9_trueFrom_71 : decode cX9_trueFrom 71 = .ok (.iload_n 1, 1) := by decide +kernel
theorem dX9_trueFrom_72 : decode cX9_trueFrom 72 = .ok (.iadd, 1) := by decide +kernel
theorem dX9_trueFrom_73 : decode cX9_trueFrom 73 = .ok (.iaload, 1) := by decide +kernel
theorem dX9_trueFrom_74 : decode cX9_trueFrom 74 = .ok (.invokevirtual 295, 3) := by decide +kernel
theorem dX9_trueFrom_77 : decode cX9_trueFrom 77 = .ok (.iadd, 1) := by decide +kernel
theorem dX9_trueFrom_78 : decode cX9_trueFrom 78 = .ok (.istore 4, 2) := by decide +kernel
theorem dX9_trueFrom_80 : decode cX9_trueFrom 80 = .ok (.iinc 5 1, 3) := by decide +kernel
theorem dX9_trueFrom_83 : decode cX9_trueFrom 83 = .ok (.goto (-67), 3) := by decide +kernel
theorem dX9_trueFrom_86 : decode cX9_trueFrom 86 = .ok (.iload 4, 2) := by decide +kernel
theorem dX9_trueFrom_88 : decode cX9_trueFrom 88 = .ok (.ireturn, 1) := by decide +kernel
theorem dX9_isSaid_0 : decode cX9_isSaid 0 = .ok (.sipush 9999, 3) := by decide +kernel
theorem dX9_isSaid_3 : decode cX9_isSaid 3 = .ok (.istore_n 3, 1) := by decide +kernel
theorem dX9_isSaid_4 : decode cX9_isSaid 4 = .ok (.iconst 0, 1) := by decide +kernel
theorem dX9_isSaid_5 : decode cX9_isSaid 5 = .ok (.istore 4, 2) := by decide +kernel
theorem dX9_isSaid_7 : decode cX9_isSaid 7 = .ok (.iload 4, 2) := by decide +kernel
theorem dX9_isSaid_9 : decode cX9_isSaid 9 = .ok (.aload_n 0, 1) := by decide +kernel
theorem dX9_isSaid_10 : decode cX9_isSaid 10 = .ok (.getfield 99, 3) := by decide +kernel
theorem dX9_isSaid_13 : decode cX9_isSaid 13 = .ok (.if_icmp .ge 39, 3) := by decide +kernel
theorem dX9_isSaid_16 : decode cX9_isSaid 16 = .ok (.aload_n 0, 1) := by decide +kernel
theorem dX9_isSaid_17 : decode cX9_isSaid 17 = .ok (.iload_n 1, 1) := by decide +kernel
theorem dX9_isSaid_18 : decode cX9_isSaid 18 = .ok (.aload_n 0, 1) := by decide +kernel
theorem dX9_isSaid_19 : decode cX9_isSaid 19 = .ok (.iload_n 2, 1) := by decide +kernel
theorem dX9_isSaid_20 : decode cX9_isSaid 20 = .ok (.iload 4, 2) := by decide +kernel
theorem dX9_isSaid_22 : decode cX9_isSaid 22 = .ok (.invokevirtual 209, 3) := by decide +kernel
theorem dX9_isSaid_25 : decode cX9_isSaid 25 = .ok (.iconst 0, 1) := by decide +kernel
theorem dX9_isSaid_26 : decode cX9_isSaid 26 = .ok (.iload 4, 2) := by decide +kernel
theorem dX9_isSaid_28 : decode cX9_isSaid 28 = .ok (.iconst 0, 1) := by decide +kernel
theorem dX9_isSaid_29 : decode cX9_isSaid 29 = .ok (.iconst 0, 1) := by decide +kernel
theorem dX9_isSaid_30 : decode cX9_isSaid 30 = .ok (.invokevirtual 200, 3) := by decide +kernel
theorem dX9_isSaid_33 : decode cX9_isSaid 33 = .ok (.istore 5, 2) := by decide +kernel
theorem dX9_isSaid_35 : decode cX9_isSaid 35 = .ok (.iload 5, 2) := by decide +kernel
theorem dX9_isSaid_37 : decode cX9_isSaid 37 = .ok (.iload_n 3, 1) := by decide +kernel
theorem dX9_isSaid_38 : decode cX9_isSaid 38 = .ok (.if_icmp .le 5, 3) := by decide +kernel
theorem dX9_isSaid_41 : decode cX9_isSaid 41 = .ok (.iconst 0, 1) := by decide +kernel
theorem dX9_isSaid_42 : decode cX9_isSaid 42 = .ok (.ireturn, 1) := by decide +kernel
theorem dX9_isSaid_43 : decode cX9_isSaid 43 = .ok (.iload 5, 2) := by decide +kernel
theorem dX9_isSaid_45 : decode cX9_isSaid 45 = .ok (.istore_n 3, 1) := by decide +kernel
theorem dX9_isSaid_46 : decode cX9_isSaid 46 = .ok (.iinc 4 1, 3) := by decide +kernel
theorem dX9_isSaid_49 : decode cX9_isSaid 49 = .ok (.goto (-42), 3) := by decide +kernel
theorem dX9_isSaid_52 : decode cX9_isSaid 52 = .ok (.iconst 1, 1) := by decide +kernel
theorem dX9_isSaid_53 : decode cX9_isSaid 53 = .ok (.ireturn, 1) := by decide +kernel
theorem dX9_said_0 : decode cX9_said 0 = .ok (.aload_n 0, 1) := by decide +kernel
theorem dX9_said_1 : decode cX9_said 1 = .ok (.iload_n 1, 1) := by decide +kernel
theorem dX9_said_2 : decode cX9_said 2 = .ok (.invokevirtual 177, 3) := by decide +kernel
theorem dX9_said_5 : decode cX9_said 5 = .ok (.ifCond .eq 16, 3) := by decide +kernel
theorem dX9_said_8 : decode cX9_said 8 = .ok (.iload_n 2, 1) := by decide +kernel
theorem dX9_said_9 : decode cX9_said 9 = .ok (.iconst (-1), 1) := by decide +kernel
theorem dX9_said_10 : decode cX9_said 10 = .ok (.if_icmp .eq 13, 3) := by decide +kernel
theorem dX9_said_13 : decode cX9_said 13 = .ok (.aload_n 0, 1) := by decide +kernel
theorem dX9_said_14 : decode cX9_said 14 = .ok (.iload_n 2, 1) := by decide +kernel
theorem dX9_said_15 : decode cX9_said 15 = .ok (.invokevirtual 186, 3) := by decide +kernel
theorem dX9_said_18 : decode cX9_said 18 = .ok (.ifCond .ne 5, 3) := by decide +kernel
theorem dX9_said_21 : decode cX9_said 21 = .ok (.iconst (-1), 1) := by decide +kernel
theorem dX9_said_22 : decode cX9_said 22 = .ok (.ireturn, 1) := by decide +kernel
theorem dX9_said_23 : decode cX9_said 23 = .ok (.iload_n 2, 1) := by decide +kernel
theorem dX9_said_24 : decode cX9_said 24 = .ok (.iconst (-1), 1) := by decide +kernel
theorem dX9_said_25 : decode cX9_said 25 = .ok (.if_icmp .eq 18, 3) := by decide +kernel
theorem dX9_said_28 : decode cX9_said 28 = .ok (.aload_n 0, 1) := by decide +kernel
theorem dX9_said_29 : decode cX9_said 29 = .ok (.iload_n 1, 1) := by decide +kernel
theorem dX9_said_30 : decode cX9_said 30 = .ok (.iload_n 2, 1) := by decide +kernel
theorem dX9_said_31 : decode cX9_said 31 = .ok (.invokevirtual 299, 3) := by decide +kernel
theorem dX9_said_34 : decode cX9_said 34 = .ok (.ifCond .eq 7, 3) := by decide +kernel
theorem dX9_said_37 : decode cX9_said 37 = .ok (.iconst 1, 1) := by decide +kernel
theorem dX9_said_38 : decode cX9_said 38 = .ok (.goto 4, 3) := by decide +kernel
theorem dX9_said_41 : decode cX9_said 41 = .ok (.iconst 0, 1) := by decide +kernel
theorem dX9_said_42 : decode cX9_said 42 = .ok (.ireturn, 1) := by decide +kernel
theorem dX9_said_43 : decode cX9_said 43 = .ok (.aload_n 0, 1) := by decide +kernel
theorem dX9_said_44 : decode cX9_said 44 = .ok (.getfield 99, 3) := by decide +kernel
theorem dX9_said_47 : decode cX9_said 47 = .ok (.bipush 6, 2) := by decide +kernel
theorem dX9_said_49 : decode cX9_said 49 = .ok (.if_icmp .le 6, 3) := by decide +kernel
theorem dX9_said_52 : decode cX9_said 52 = .ok (.bipush (-4), 2) := by decide +kernel
theorem dX9_said_54 : decode cX9_said 54 = .ok (.ireturn, 1) := by decide +kernel
theorem dX9_said_55 : decode cX9_said 55 = .ok (.iconst 0, 1) := by decide +kernel
theorem dX9_said_56 : decode cX9_said 56 = .ok (.istore_n 3, 1) := by decide +kernel
theorem dX9_said_57 : decode cX9_said 57 = .ok (.iload_n 3, 1) := by decide +kernel
theorem dX9_said_58 : decode cX9_said 58 = .ok (.aload_n 0, 1) := by decide +kernel
theorem dX9_said_59 : decode cX9_said 59 = .ok (.getfield 99, 3) := by decide +kernel
theorem dX9_said_62 : decode cX9_said 62 = .ok (.if_icmp .ge 50, 3) := by decide +kernel
theorem dX9_said_65 : decode cX9_said 65 = .ok (.iconst 0, 1) := by decide +kernel
theorem dX9_said_66 : decode cX9_said 66 = .ok (.istore 4, 2) := by decide +kernel
theorem dX9_said_68 : decode cX9_said 68 = .ok (.iload 4, 2) := by decide +kernel
theorem dX9_said_70 : decode cX9_said 70 = .ok (.aload_n 0, 1) := by decide +kernel
theorem dX9_said_71 : decode cX9_said 71 = .ok (.getfield 99, 3) := by decide +kernel
theorem dX9_said_74 : decode cX9_said 74 = .ok (.if_icmp .ge 32, 3) := by decide +kernel
theorem dX9_said_77 : decode cX9_said 77 = .ok (.aload_n 0, 1) := by decide +kernel
theorem dX9_said_78 : decode cX9_said 78 = .ok (.getfield 67, 3) := by decide +kernel
theorem dX9_said_81 : decode cX9_said 81 = .ok (.bipush 6, 2) := by decide +kernel
theorem dX9_said_83 : decode cX9_said 83 = .ok (.iload_n 3, 1) := by decide +kernel
theorem dX9_said_84 : decode cX9_said 84 = .ok (.imul, 1) := by decide +kernel
theorem dX9_said_85 : decode cX9_said 85 = .ok (.iload 4, 2) := by decide +kernel
theorem dX9_said_87 : decode cX9_said 87 = .ok (.iadd, 1) := by decide +kernel
theorem dX9_said_88 : decode cX9_said 88 = .ok (.aload_n 0, 1) := by decide +kernel
theorem dX9_said_89 : decode cX9_said 89 = .ok (.iload_n 1, 1) := by decide +kernel
theorem dX9_said_90 : decode cX9_said 90 = .ok (.iload_n 3, 1) := by decide +kernel
theorem dX9_said_91 : decode cX9_said 91 = .ok (.iconst 0, 1) := by decide +kernel
theorem dX9_said_92 : decode cX9_said 92 = .ok (.iload 4, 2) := by decide +kernel
theorem dX9_said_94 : decode cX9_said 94 = .ok (.iconst 0, 1) := by decide +kernel
theorem dX9_said_95 : decode cX9_said 95 = .ok (.iconst 0, 1) := by decide +kernel
theorem dX9_said_96 : decode cX9_said 96 = .ok (.invokevirtual 200, 3) := by decide +kernel
theorem dX9_said_99 : decode cX9_said 99 = .ok (.iastore, 1) := by decide +kernel
theorem dX9_said_100 : decode cX9_said 100 = .ok (.iinc 4 1, 3) := by decide +kernel
theorem dX9_said_103 : decode cX9_said 103 = .ok (.goto (-35), 3) := by decide +kernel
theorem dX9_said_106 : decode cX9_said 106 = .ok (.iinc 3 1, 3) := by decide +kernel
theorem dX9_said_109 : decode cX9_said 109 = .ok (.goto (-52), 3) := by decide +kernel
theorem dX9_said_112 : decode cX9_said 112 = .ok (.aload_n 0, 1) := by decide +kernel
theorem dX9_said_113 : decode cX9_said 113 = .ok (.iconst 0, 1) := by decide +kernel
theorem dX9_said_114 : decode cX9_said 114 = .ok (.iconst 0, 1) := by decide +kernel
theorem dX9_said_115 : decode cX9_said 115 = .ok (.sipush 9999, 3) := by decide +kernel
theorem dX9_said_118 : decode cX9_said 118 = .ok (.invokevirtual 295, 3) := by decide +kernel
theorem dX9_said_121 : decode cX9_said 121 = .ok (.ireturn, 1) := by decide +kernel
theorem dX9_unlikeBy_0 : decode cX9_unlikeBy 0 = .ok (.iconst 0, 1) := by decide +kernel
theorem dX9_unlikeBy_1 : decode cX9_unlikeBy 1 = .ok (.istore 4, 2) := by decide +kernel
theorem dX9_unlikeBy_3 : decode cX9_unlikeBy 3 = .ok (.iload 4, 2) := by decide +kernel
theorem dX9_unlikeBy_5 : decode cX9_unlikeBy 5 = .ok (.iconst 2, 1) := by decide +kernel
theorem dX9_unlikeBy_6 : decode cX9_unlikeBy 6 = .ok (.if_icmp .ge 38, 3) := by decide +kernel
theorem dX9_unlikeBy_9 : decode cX9_unlikeBy 9 = .ok (.aload_n 0, 1) := by decide +kernel
theorem dX9_unlikeBy_10 : decode cX9_unlikeBy 10 = .ok (.bipush 9, 2) := by decide +kernel
theorem dX9_unlikeBy_12 : decode cX9_unlikeBy 12 = .ok (.iload 4, 2) := by decide +kernel
theorem dX9_unlikeBy_14 : decode cX9_unlikeBy 14 = .ok (.iadd, 1) := by decide +kernel
theorem dX9_unlikeBy_15 : decode cX9_unlikeBy 15 = .ok (.iload_n 1, 1) := by decide +kernel
theorem dX9_unlikeBy_16 : decode cX9_unlikeBy 16 = .ok (.iconst 1, 1) := by decide +kernel
theorem dX9_unlikeBy_17 : decode cX9_unlikeBy 17 = .ok (.iconst 0, 1) := by decide +kernel
theorem dX9_unlikeBy_18 : decode cX9_unlikeBy 18 = .ok (.iconst 0, 1) := by decide +kernel
theorem dX9_unlikeBy_19 : decode cX9_unlikeBy 19 = .ok (.iload_n 3, 1) := by decide +kernel
theorem dX9_unlikeBy_20 : decode cX9_unlikeBy 20 = .ok (.iload 4, 2) := by decide +kernel
theorem dX9_unlikeBy_22 : decode cX9_unlikeBy 22 = .ok (.iadd, 1) := by decide +kernel
theorem dX9_unlikeBy_23 : decode cX9_unlikeBy 23 = .ok (.invokevirtual 182, 3) := by decide +kernel
theorem dX9_unlikeBy_26 : decode cX9_unlikeBy 26 = .ok (.aload_n 0, 1) := by decide +kernel
theorem dX9_unlikeBy_27 : decode cX9_unlikeBy 27 = .ok (.bipush 9, 2) := by decide +kernel
theorem dX9_unlikeBy_29 : decode cX9_unlikeBy 29 = .ok (.iload 4, 2) := by decide +kernel
theorem dX9_unlikeBy_31 : decode cX9_unlikeBy 31 = .ok (.iadd, 1) := by decide +kernel
theorem dX9_unlikeBy_32 : decode cX9_unlikeBy 32 = .ok (.iload_n 2, 1) := by decide +kernel
theorem dX9_unlikeBy_33 : decode cX9_unlikeBy 33 = .ok (.invokevirtual 236, 3) := by decide +kernel
theorem dX9_unlikeBy_36 : decode cX9_unlikeBy 36 = .ok (.istore 5, 2) := by decide +kernel
theorem dX9_unlikeBy_38 : decode cX9_unlikeBy 38 = .ok (.iinc 4 1, 3) := by decide +kernel
theorem dX9_unlikeBy_41 : decode cX9_unlikeBy 41 = .ok (.goto (-38), 3) := by decide +kernel
theorem dX9_unlikeBy_44 : decode cX9_unlikeBy 44 = .ok (.aload_n 0, 1) := by decide +kernel
theorem dX9_unlikeBy_45 : decode cX9_unlikeBy 45 = .ok (.bipush 9, 2) := by decide +kernel
theorem dX9_unlikeBy_47 : decode cX9_unlikeBy 47 = .ok (.bipush 10, 2) := by decide +kernel
theorem dX9_unlikeBy_49 : decode cX9_unlikeBy 49 = .ok (.invokevirtual 254, 3) := by decide +kernel
theorem dX9_unlikeBy_52 : decode cX9_unlikeBy 52 = .ok (.ireturn, 1) := by decide +kernel
theorem dX9_strong_0 : decode cX9_strong 0 = .ok (.iload_n 1, 1) := by decide +kernel
theorem dX9_strong_1 : decode cX9_strong 1 = .ok (.ifCond .lt 48, 3) := by decide +kernel
theorem dX9_strong_4 : decode cX9_strong 4 = .ok (.aload_n 0, 1) := by decide +kernel
theorem dX9_strong_5 : decode cX9_strong 5 = .ok (.iload_n 1, 1) := by decide +kernel
theorem dX9_strong_6 : decode cX9_strong 6 = .ok (.bipush 10, 2) := by decide +kernel
theorem dX9_strong_8 : decode cX9_strong 8 = .ok (.idiv, 1) := by decide +kernel
theorem dX9_strong_9 : decode cX9_strong 9 = .ok (.invokevirtual 177, 3) := by decide +kernel
theorem dX9_strong_12 : decode cX9_strong 12 = .ok (.ifCond .eq 37, 3) := by decide +kernel
theorem dX9_strong_15 : decode cX9_strong 15 = .ok (.aload_n 0, 1) := by decide +kernel
theorem dX9_strong_16 : decode cX9_strong 16 = .ok (.iload_n 1, 1) := by decide +kernel
theorem dX9_strong_17 : decode cX9_strong 17 = .ok (.bipush 10, 2) := by decide +kernel
theorem dX9_strong_19 : decode cX9_strong 19 = .ok (.irem, 1) := by decide +kernel
end
section
theorem dX9_strong_20 : decode cX9_strong 20 = .ok (.invokevirtual 177, 3) := by decide +kernel
theorem dX9_strong_23 : decode cX9_strong 23 = .ok (.ifCond .eq 26, 3) := by decide +kernel
theorem dX9_strong_26 : decode cX9_strong 26 = .ok (.iload_n 1, 1) := by decide +kernel
theorem dX9_strong_27 : decode cX9_strong 27 = .ok (.bipush 10, 2) := by decide +kernel
theorem dX9_strong_29 : decode cX9_strong 29 = .ok (.idiv, 1) := by decide +kernel
theorem dX9_strong_30 : decode cX9_strong 30 = .ok (.iload_n 1, 1) := by decide +kernel
theorem dX9_strong_31 : decode cX9_strong 31 = .ok (.bipush 10, 2) := by decide +kernel
theorem dX9_strong_33 : decode cX9_strong 33 = .ok (.irem, 1) := by decide +kernel
theorem dX9_strong_34 : decode cX9_strong 34 = .ok (.if_icmp .eq 15, 3) := by decide +kernel
theorem dX9_strong_37 : decode cX9_strong 37 = .ok (.iload_n 2, 1) := by decide +kernel
theorem dX9_strong_38 : decode cX9_strong 38 = .ok (.i2l, 1) := by decide +kernel
theorem dX9_strong_39 : decode cX9_strong 39 = .ok (.lconst 1, 1) := by decide +kernel
theorem dX9_strong_40 : decode cX9_strong 40 = .ok (.ldc2_w 303, 3) := by decide +kernel
theorem dX9_strong_43 : decode cX9_strong 43 = .ok (.invokestatic 102, 3) := by decide +kernel
theorem dX9_strong_46 : decode cX9_strong 46 = .ok (.ifCond .ne 7, 3) := by decide +kernel
theorem dX9_strong_49 : decode cX9_strong 49 = .ok (.ldc_w 291, 3) := by decide +kernel
theorem dX9_strong_52 : decode cX9_strong 52 = .ok (.ireturn, 1) := by decide +kernel
theorem dX9_strong_53 : decode cX9_strong 53 = .ok (.aload_n 0, 1) := by decide +kernel
theorem dX9_strong_54 : decode cX9_strong 54 = .ok (.iload_n 1, 1) := by decide +kernel
theorem dX9_strong_55 : decode cX9_strong 55 = .ok (.bipush 10, 2) := by decide +kernel
theorem dX9_strong_57 : decode cX9_strong 57 = .ok (.idiv, 1) := by decide +kernel
theorem dX9_strong_58 : decode cX9_strong 58 = .ok (.iload_n 2, 1) := by decide +kernel
theorem dX9_strong_59 : decode cX9_strong 59 = .ok (.iload_n 3, 1) := by decide +kernel
theorem dX9_strong_60 : decode cX9_strong 60 = .ok (.invokevirtual 305, 3) := by decide +kernel
theorem dX9_strong_63 : decode cX9_strong 63 = .ok (.aload_n 0, 1) := by decide +kernel
theorem dX9_strong_64 : decode cX9_strong 64 = .ok (.iload_n 1, 1) := by decide +kernel
theorem dX9_strong_65 : decode cX9_strong 65 = .ok (.bipush 10, 2) := by decide +kernel
theorem dX9_strong_67 : decode cX9_strong 67 = .ok (.irem, 1) := by decide +kernel
theorem dX9_strong_68 : decode cX9_strong 68 = .ok (.iload_n 2, 1) := by decide +kernel
theorem dX9_strong_69 : decode cX9_strong 69 = .ok (.iload_n 3, 1) := by decide +kernel
theorem dX9_strong_70 : decode cX9_strong 70 = .ok (.invokevirtual 305, 3) := by decide +kernel
theorem dX9_strong_73 : decode cX9_strong 73 = .ok (.isub, 1) := by decide +kernel
theorem dX9_strong_74 : decode cX9_strong 74 = .ok (.ireturn, 1) := by decide +kernel
theorem dX9_lineBy_0 : decode cX9_lineBy 0 = .ok (.iconst 0, 1) := by decide +kernel
theorem dX9_lineBy_1 : decode cX9_lineBy 1 = .ok (.istore_n 2, 1) := by decide +kernel
theorem dX9_lineBy_2 : decode cX9_lineBy 2 = .ok (.iconst 0, 1) := by decide +kernel
theorem dX9_lineBy_3 : decode cX9_lineBy 3 = .ok (.istore_n 3, 1) := by decide +kernel
theorem dX9_lineBy_4 : decode cX9_lineBy 4 = .ok (.iload_n 3, 1) := by decide +kernel
theorem dX9_lineBy_5 : decode cX9_lineBy 5 = .ok (.aload_n 0, 1) := by decide +kernel
theorem dX9_lineBy_6 : decode cX9_lineBy 6 = .ok (.getfield 99, 3) := by decide +kernel
theorem dX9_lineBy_9 : decode cX9_lineBy 9 = .ok (.if_icmp .ge 28, 3) := by decide +kernel
theorem dX9_lineBy_12 : decode cX9_lineBy 12 = .ok (.iload_n 2, 1) := by decide +kernel
theorem dX9_lineBy_13 : decode cX9_lineBy 13 = .ok (.aload_n 0, 1) := by decide +kernel
theorem dX9_lineBy_14 : decode cX9_lineBy 14 = .ok (.iload_n 1, 1) := by decide +kernel
theorem dX9_lineBy_15 : decode cX9_lineBy 15 = .ok (.iload_n 3, 1) := by decide +kernel
theorem dX9_lineBy_16 : decode cX9_lineBy 16 = .ok (.invokevirtual 194, 3) := by decide +kernel
theorem dX9_lineBy_19 : decode cX9_lineBy 19 = .ok (.aload_n 0, 1) := by decide +kernel
theorem dX9_lineBy_20 : decode cX9_lineBy 20 = .ok (.getfield 70, 3) := by decide +kernel
theorem dX9_lineBy_23 : decode cX9_lineBy 23 = .ok (.iload_n 3, 1) := by decide +kernel
theorem dX9_lineBy_24 : decode cX9_lineBy 24 = .ok (.iaload, 1) := by decide +kernel
theorem dX9_lineBy_25 : decode cX9_lineBy 25 = .ok (.isub, 1) := by decide +kernel
theorem dX9_lineBy_26 : decode cX9_lineBy 26 = .ok (.invokestatic 248, 3) := by decide +kernel
theorem dX9_lineBy_29 : decode cX9_lineBy 29 = .ok (.iadd, 1) := by decide +kernel
theorem dX9_lineBy_30 : decode cX9_lineBy 30 = .ok (.istore_n 2, 1) := by decide +kernel
theorem dX9_lineBy_31 : decode cX9_lineBy 31 = .ok (.iinc 3 1, 3) := by decide +kernel
theorem dX9_lineBy_34 : decode cX9_lineBy 34 = .ok (.goto (-30), 3) := by decide +kernel
theorem dX9_lineBy_37 : decode cX9_lineBy 37 = .ok (.iload_n 2, 1) := by decide +kernel
theorem dX9_lineBy_38 : decode cX9_lineBy 38 = .ok (.ireturn, 1) := by decide +kernel
theorem dX9_lineOf_0 : decode cX9_lineOf 0 = .ok (.iconst 0, 1) := by decide +kernel
theorem dX9_lineOf_1 : decode cX9_lineOf 1 = .ok (.istore_n 2, 1) := by decide +kernel
theorem dX9_lineOf_2 : decode cX9_lineOf 2 = .ok (.iload_n 2, 1) := by decide +kernel
theorem dX9_lineOf_3 : decode cX9_lineOf 3 = .ok (.aload_n 0, 1) := by decide +kernel
theorem dX9_lineOf_4 : decode cX9_lineOf 4 = .ok (.getfield 99, 3) := by decide +kernel
theorem dX9_lineOf_7 : decode cX9_lineOf 7 = .ok (.if_icmp .ge 24, 3) := by decide +kernel
theorem dX9_lineOf_10 : decode cX9_lineOf 10 = .ok (.aload_n 0, 1) := by decide +kernel
theorem dX9_lineOf_11 : decode cX9_lineOf 11 = .ok (.getfield 70, 3) := by decide +kernel
theorem dX9_lineOf_14 : decode cX9_lineOf 14 = .ok (.iload_n 2, 1) := by decide +kernel
theorem dX9_lineOf_15 : decode cX9_lineOf 15 = .ok (.aload_n 0, 1) := by decide +kernel
theorem dX9_lineOf_16 : decode cX9_lineOf 16 = .ok (.iload_n 1, 1) := by decide +kernel
theorem dX9_lineOf_17 : decode cX9_lineOf 17 = .ok (.bipush 10, 2) := by decide +kernel
theorem dX9_lineOf_19 : decode cX9_lineOf 19 = .ok (.irem, 1) := by decide +kernel
theorem dX9_lineOf_20 : decode cX9_lineOf 20 = .ok (.iload_n 2, 1) := by decide +kernel
theorem dX9_lineOf_21 : decode cX9_lineOf 21 = .ok (.invokevirtual 194, 3) := by decide +kernel
theorem dX9_lineOf_24 : decode cX9_lineOf 24 = .ok (.iastore, 1) := by decide +kernel
theorem dX9_lineOf_25 : decode cX9_lineOf 25 = .ok (.iinc 2 1, 3) := by decide +kernel
theorem dX9_lineOf_28 : decode cX9_lineOf 28 = .ok (.goto (-26), 3) := by decide +kernel
theorem dX9_lineOf_31 : decode cX9_lineOf 31 = .ok (.aload_n 0, 1) := by decide +kernel
theorem dX9_lineOf_32 : decode cX9_lineOf 32 = .ok (.iload_n 1, 1) := by decide +kernel
theorem dX9_lineOf_33 : decode cX9_lineOf 33 = .ok (.bipush 10, 2) := by decide +kernel
theorem dX9_lineOf_35 : decode cX9_lineOf 35 = .ok (.idiv, 1) := by decide +kernel
theorem dX9_lineOf_36 : decode cX9_lineOf 36 = .ok (.invokevirtual 308, 3) := by decide +kernel
theorem dX9_lineOf_39 : decode cX9_lineOf 39 = .ok (.ireturn, 1) := by decide +kernel
theorem dX9_line_0 : decode cX9_line 0 = .ok (.aload_n 0, 1) := by decide +kernel
theorem dX9_line_1 : decode cX9_line 1 = .ok (.iload_n 1, 1) := by decide +kernel
theorem dX9_line_2 : decode cX9_line 2 = .ok (.invokevirtual 251, 3) := by decide +kernel
theorem dX9_line_5 : decode cX9_line 5 = .ok (.ifCond .eq 11, 3) := by decide +kernel
theorem dX9_line_8 : decode cX9_line 8 = .ok (.aload_n 0, 1) := by decide +kernel
theorem dX9_line_9 : decode cX9_line 9 = .ok (.iload_n 1, 1) := by decide +kernel
theorem dX9_line_10 : decode cX9_line 10 = .ok (.invokevirtual 311, 3) := by decide +kernel
theorem dX9_line_13 : decode cX9_line 13 = .ok (.goto 4, 3) := by decide +kernel
theorem dX9_line_16 : decode cX9_line 16 = .ok (.iconst (-1), 1) := by decide +kernel
theorem dX9_line_17 : decode cX9_line 17 = .ok (.ireturn, 1) := by decide +kernel
theorem dX9_against_0 : decode cX9_against 0 = .ok (.aload_n 0, 1) := by decide +kernel
theorem dX9_against_1 : decode cX9_against 1 = .ok (.iload_n 1, 1) := by decide +kernel
theorem dX9_against_2 : decode cX9_against 2 = .ok (.invokevirtual 251, 3) := by decide +kernel
theorem dX9_against_5 : decode cX9_against 5 = .ok (.ifCond .eq 15, 3) := by decide +kernel
theorem dX9_against_8 : decode cX9_against 8 = .ok (.iload_n 3, 1) := by decide +kernel
theorem dX9_against_9 : decode cX9_against 9 = .ok (.i2l, 1) := by decide +kernel
theorem dX9_against_10 : decode cX9_against 10 = .ok (.lconst 1, 1) := by decide +kernel
theorem dX9_against_11 : decode cX9_against 11 = .ok (.ldc2_w 314, 3) := by decide +kernel
theorem dX9_against_14 : decode cX9_against 14 = .ok (.invokestatic 102, 3) := by decide +kernel
theorem dX9_against_17 : decode cX9_against 17 = .ok (.ifCond .ne 5, 3) := by decide +kernel
theorem dX9_against_20 : decode cX9_against 20 = .ok (.iconst (-1), 1) := by decide +kernel
theorem dX9_against_21 : decode cX9_against 21 = .ok (.ireturn, 1) := by decide +kernel
theorem dX9_against_22 : decode cX9_against 22 = .ok (.aload_n 0, 1) := by decide +kernel
theorem dX9_against_23 : decode cX9_against 23 = .ok (.iload_n 1, 1) := by decide +kernel
theorem dX9_against_24 : decode cX9_against 24 = .ok (.invokevirtual 311, 3) := by decide +kernel
theorem dX9_against_27 : decode cX9_against 27 = .ok (.istore 4, 2) := by decide +kernel
theorem dX9_against_29 : decode cX9_against 29 = .ok (.iload_n 2, 1) := by decide +kernel
theorem dX9_against_30 : decode cX9_against 30 = .ok (.istore 5, 2) := by decide +kernel
theorem dX9_against_32 : decode cX9_against 32 = .ok (.iconst 0, 1) := by decide +kernel
theorem dX9_against_33 : decode cX9_against 33 = .ok (.istore 6, 2) := by decide +kernel
theorem dX9_against_35 : decode cX9_against 35 = .ok (.iconst 0, 1) := by decide +kernel
theorem dX9_against_36 : decode cX9_against 36 = .ok (.istore 7, 2) := by decide +kernel
theorem dX9_against_38 : decode cX9_against 38 = .ok (.iload 7, 2) := by decide +kernel
theorem dX9_against_40 : decode cX9_against 40 = .ok (.iload_n 3, 1) := by decide +kernel
theorem dX9_against_41 : decode cX9_against 41 = .ok (.if_icmp .ge 106, 3) := by decide +kernel
theorem dX9_against_44 : decode cX9_against 44 = .ok (.aload_n 0, 1) := by decide +kernel
theorem dX9_against_45 : decode cX9_against 45 = .ok (.getfield 99, 3) := by decide +kernel
theorem dX9_against_48 : decode cX9_against 48 = .ok (.iconst 1, 1) := by decide +kernel
theorem dX9_against_49 : decode cX9_against 49 = .ok (.isub, 1) := by decide +kernel
theorem dX9_against_50 : decode cX9_against 50 = .ok (.istore 8, 2) := by decide +kernel
theorem dX9_against_52 : decode cX9_against 52 = .ok (.iload 8, 2) := by decide +kernel
theorem dX9_against_54 : decode cX9_against 54 = .ok (.ifCond .le 64, 3) := by decide +kernel
theorem dX9_against_57 : decode cX9_against 57 = .ok (.iload 5, 2) := by decide +kernel
theorem dX9_against_59 : decode cX9_against 59 = .ok (.ldc 226, 2) := by decide +kernel
theorem dX9_against_61 : decode cX9_against 61 = .ok (.imul, 1) := by decide +kernel
theorem dX9_against_62 : decode cX9_against 62 = .ok (.sipush 12345, 3) := by decide +kernel
theorem dX9_against_65 : decode cX9_against 65 = .ok (.iadd, 1) := by decide +kernel
theorem dX9_against_66 : decode cX9_against 66 = .ok (.istore 5, 2) := by decide +kernel
theorem dX9_against_68 : decode cX9_against 68 = .ok (.iload 5, 2) := by decide +kernel
theorem dX9_against_70 : decode cX9_against 70 = .ok (.bipush 8, 2) := by decide +kernel
theorem dX9_against_72 : decode cX9_against 72 = .ok (.iushr, 1) := by decide +kernel
theorem dX9_against_73 : decode cX9_against 73 = .ok (.iload 8, 2) := by decide +kernel
theorem dX9_against_75 : decode cX9_against 75 = .ok (.iconst 1, 1) := by decide +kernel
theorem dX9_against_76 : decode cX9_against 76 = .ok (.iadd, 1) := by decide +kernel
theorem dX9_against_77 : decode cX9_against 77 = .ok (.irem, 1) := by decide +kernel
theorem dX9_against_78 : decode cX9_against 78 = .ok (.istore 9, 2) := by decide +kernel
theorem dX9_against_80 : decode cX9_against 80 = .ok (.aload_n 0, 1) := by decide +kernel
theorem dX9_against_81 : decode cX9_against 81 = .ok (.getfield 70, 3) := by decide +kernel
theorem dX9_against_84 : decode cX9_against 84 = .ok (.iload 8, 2) := by decide +kernel
theorem dX9_against_86 : decode cX9_against 86 = .ok (.iaload, 1) := by decide +kernel
theorem dX9_against_87 : decode cX9_against 87 = .ok (.istore 10, 2) := by decide +kernel
theorem dX9_against_89 : decode cX9_against 89 = .ok (.aload_n 0, 1) := by decide +kernel
theorem dX9_against_90 : decode cX9_against 90 = .ok (.getfield 70, 3) := by decide +kernel
theorem dX9_against_93 : decode cX9_against 93 = .ok (.iload 8, 2) := by decide +kernel
theorem dX9_against_95 : decode cX9_against 95 = .ok (.aload_n 0, 1) := by decide +kernel
theorem dX9_against_96 : decode cX9_against 96 = .ok (.getfield 70, 3) := by decide +kernel
theorem dX9_against_99 : decode cX9_against 99 = .ok (.iload 9, 2) := by decide +kernel
theorem dX9_against_101 : decode cX9_against 101 = .ok (.iaload, 1) := by decide +kernel
theorem dX9_against_102 : decode cX9_against 102 = .ok (.iastore, 1) := by decide +kernel
theorem dX9_against_103 : decode cX9_against 103 = .ok (.aload_n 0, 1) := by decide +kernel
theorem dX9_against_104 : decode cX9_against 104 = .ok (.getfield 70, 3) := by decide +kernel
theorem dX9_against_107 : decode cX9_against 107 = .ok (.iload 9, 2) := by decide +kernel
theorem dX9_against_109 : decode cX9_against 109 = .ok (.iload 10, 2) := by decide +kernel
theorem dX9_against_111 : decode cX9_against 111 = .ok (.iastore, 1) := by decide +kernel
theorem dX9_against_112 : decode cX9_against 112 = .ok (.iinc 8 (-1), 3) := by decide +kernel
theorem dX9_against_115 : decode cX9_against 115 = .ok (.goto (-63), 3) := by decide +kernel
theorem dX9_against_118 : decode cX9_against 118 = .ok (.iload 6, 2) := by decide +kernel
theorem dX9_against_120 : decode cX9_against 120 = .ok (.aload_n 0, 1) := by decide +kernel
theorem dX9_against_121 : decode cX9_against 121 = .ok (.iload_n 1, 1) := by decide +kernel
theorem dX9_against_122 : decode cX9_against 122 = .ok (.bipush 10, 2) := by decide +kernel
theorem dX9_against_124 : decode cX9_against 124 = .ok (.idiv, 1) := by decide +kernel
theorem dX9_against_125 : decode cX9_against 125 = .ok (.invokevirtual 308, 3) := by decide +kernel
theorem dX9_against_128 : decode cX9_against 128 = .ok (.iload 4, 2) := by decide +kernel
theorem dX9_against_130 : decode cX9_against 130 = .ok (.if_icmp .gt 7, 3) := by decide +kernel
theorem dX9_against_133 : decode cX9_against 133 = .ok (.iconst 1, 1) := by decide +kernel
theorem dX9_against_134 : decode cX9_against 134 = .ok (.goto 4, 3) := by decide +kernel
theorem dX9_against_137 : decode cX9_against 137 = .ok (.iconst 0, 1) := by decide +kernel
theorem dX9_against_138 : decode cX9_against 138 = .ok (.iadd, 1) := by decide +kernel
theorem dX9_against_139 : decode cX9_against 139 = .ok (.istore 6, 2) := by decide +kernel
theorem dX9_against_141 : decode cX9_against 141 = .ok (.iinc 7 1, 3) := by decide +kernel
theorem dX9_against_144 : decode cX9_against 144 = .ok (.goto (-106), 3) := by decide +kernel
theorem dX9_against_147 : decode cX9_against 147 = .ok (.iload 6, 2) := by decide +kernel
theorem dX9_against_149 : decode cX9_against 149 = .ok (.ireturn, 1) := by decide +kernel
theorem dX9_isBody_0 : decode cX9_isBody 0 = .ok (.iload_n 1, 1) := by decide +kernel
theorem dX9_isBody_1 : decode cX9_isBody 1 = .ok (.i2l, 1) := by decide +kernel
theorem dX9_isBody_2 : decode cX9_isBody 2 = .ok (.lconst 0, 1) := by decide +kernel
theorem dX9_isBody_3 : decode cX9_isBody 3 = .ok (.aload_n 0, 1) := by decide +kernel
theorem dX9_isBody_4 : decode cX9_isBody 4 = .ok (.getfield 316, 3) := by decide +kernel
theorem dX9_isBody_7 : decode cX9_isBody 7 = .ok (.iconst 1, 1) := by decide +kernel
theorem dX9_isBody_8 : decode cX9_isBody 8 = .ok (.isub, 1) := by decide +kernel
theorem dX9_isBody_9 : decode cX9_isBody 9 = .ok (.i2l, 1) := by decide +kernel
theorem dX9_isBody_10 : decode cX9_isBody 10 = .ok (.invokestatic 102, 3) := by decide +kernel
theorem dX9_isBody_13 : decode cX9_isBody 13 = .ok (.ireturn, 1) := by decide +kernel
theorem dX9_kindOf_0 : decode cX9_kindOf 0 = .ok (.aload_n 0, 1) := by decide +kernel
theorem dX9_kindOf_1 : decode cX9_kindOf 1 = .ok (.getfield 73, 3) := by decide +kernel
theorem dX9_kindOf_4 : decode cX9_kindOf 4 = .ok (.iload_n 1, 1) := by decide +kernel
theorem dX9_kindOf_5 : decode cX9_kindOf 5 = .ok (.iaload, 1) := by decide +kernel
theorem dX9_kindOf_6 : decode cX9_kindOf 6 = .ok (.ireturn, 1) := by decide +kernel
theorem dX9_body_0 : decode cX9_body 0 = .ok (.iload_n 1, 1) := by decide +kernel
theorem dX9_body_1 : decode cX9_body 1 = .ok (.i2l, 1) := by decide +kernel
theorem dX9_body_2 : decode cX9_body 2 = .ok (.lconst 0, 1) := by decide +kernel
theorem dX9_body_3 : decode cX9_body 3 = .ok (.ldc2_w 319, 3) := by decide +kernel
theorem dX9_body_6 : decode cX9_body 6 = .ok (.invokestatic 102, 3) := by decide +kernel
theorem dX9_body_9 : decode cX9_body 9 = .ok (.ifCond .ne 5, 3) := by decide +kernel
theorem dX9_body_12 : decode cX9_body 12 = .ok (.iconst (-1), 1) := by decide +kernel
theorem dX9_body_13 : decode cX9_body 13 = .ok (.ireturn, 1) := by decide +kernel
theorem dX9_body_14 : decode cX9_body 14 = .ok (.aload_n 0, 1) := by decide +kernel
theorem dX9_body_15 : decode cX9_body 15 = .ok (.getfield 316, 3) := by decide +kernel
theorem dX9_body_18 : decode cX9_body 18 = .ok (.bipush 50, 2) := by decide +kernel
theorem dX9_body_20 : decode cX9_body 20 = .ok (.if_icmp .ne 6, 3) := by decide +kernel
theorem dX9_body_23 : decode cX9_body 23 = .ok (.bipush (-3), 2) := by decide +kernel
theorem dX9_body_25 : decode cX9_body 25 = .ok (.ireturn, 1) := by decide +kernel
theorem dX9_body_26 : decode cX9_body 26 = .ok (.aload_n 0, 1) := by decide +kernel
theorem dX9_body_27 : decode cX9_body 27 = .ok (.getfield 73, 3) := by decide +kernel
theorem dX9_body_30 : decode cX9_body 30 = .ok (.aload_n 0, 1) := by decide +kernel
theorem dX9_body_31 : decode cX9_body 31 = .ok (.getfield 316, 3) := by decide +kernel
theorem dX9_body_34 : decode cX9_body 34 = .ok (.iload_n 1, 1) := by decide +kernel
theorem dX9_body_35 : decode cX9_body 35 = .ok (.iastore, 1) := by decide +kernel
theorem dX9_body_36 : decode cX9_body 36 = .ok (.aload_n 0, 1) := by decide +kernel
theorem dX9_body_37 : decode cX9_body 37 = .ok (.dup, 1) := by decide +kernel
theorem dX9_body_38 : decode cX9_body 38 = .ok (.getfield 316, 3) := by decide +kernel
theorem dX9_body_41 : decode cX9_body 41 = .ok (.iconst 1, 1) := by decide +kernel
theorem dX9_body_42 : decode cX9_body 42 = .ok (.iadd, 1) := by decide +kernel
theorem dX9_body_43 : decode cX9_body 43 = .ok (.putfield 316, 3) := by decide +kernel
theorem dX9_body_46 : decode cX9_body 46 = .ok (.aload_n 0, 1) := by decide +kernel
theorem dX9_body_47 : decode cX9_body 47 = .ok (.getfield 316, 3) := by decide +kernel
theorem dX9_body_50 : decode cX9_body 50 = .ok (.iconst 1, 1) := by decide +kernel
theorem dX9_body_51 : decode cX9_body 51 = .ok (.isub, 1) := by decide +kernel
theorem dX9_body_52 : decode cX9_body 52 = .ok (.ireturn, 1) := by decide +kernel
theorem dX9_above_0 : decode cX9_above 0 = .ok (.iload_n 0, 1) := by decide +kernel
theorem dX9_above_1 : decode cX9_above 1 = .ok (.iconst 3, 1) := by decide +kernel
theorem dX9_above_2 : decode cX9_above 2 = .ok (.if_icmp .eq 8, 3) := by decide +kernel
theorem dX9_above_5 : decode cX9_above 5 = .ok (.iload_n 0, 1) := by decide +kernel
theorem dX9_above_6 : decode cX9_above 6 = .ok (.iconst 5, 1) := by decide +kernel
theorem dX9_above_7 : decode cX9_above 7 = .ok (.if_icmp .ne 7, 3) := by decide +kernel
theorem dX9_above_10 : decode cX9_above 10 = .ok (.iconst 2, 1) := by decide +kernel
theorem dX9_above_11 : decode cX9_above 11 = .ok (.goto 14, 3) := by decide +kernel
theorem dX9_above_14 : decode cX9_above 14 = .ok (.iload_n 0, 1) := by decide +kernel
theorem dX9_above_15 : decode cX9_above 15 = .ok (.bipush 6, 2) := by decide +kernel
theorem dX9_above_17 : decode cX9_above 17 = .ok (.if_icmp .ne 7, 3) := by decide +kernel
theorem dX9_above_20 : decode cX9_above 20 = .ok (.iconst 1, 1) := by decide +kernel
theorem dX9_above_21 : decode cX9_above 21 = .ok (.goto 4, 3) := by decide +kernel
theorem dX9_above_24 : decode cX9_above 24 = .ok (.iconst 0, 1) := by decide +kernel
theorem dX9_above_25 : decode cX9_above 25 = .ok (.ireturn, 1) := by decide +kernel
theorem dX9_runs_0 : decode cX9_runs 0 = .ok (.aload_n 0, 1) := by decide +kernel
theorem dX9_runs_1 : decode cX9_runs 1 = .ok (.getfield 321, 3) := by decide +kernel
theorem dX9_runs_4 : decode cX9_runs 4 = .ok (.bipush 24, 2) := by decide +kernel
theorem dX9_runs_6 : decode cX9_runs 6 = .ok (.if_icmp .ge 13, 3) := by decide +kernel
theorem dX9_runs_9 : decode cX9_runs 9 = .ok (.aload_n 0, 1) := by decide +kernel
theorem dX9_runs_10 : decode cX9_runs 10 = .ok (.getfield 76, 3) := by decide +kernel
theorem dX9_runs_13 : decode cX9_runs 13 = .ok (.aload_n 0, 1) := by decide +kernel
theorem dX9_runs_14 : decode cX9_runs 14 = .ok (.getfield 321, 3) := by decide +kernel
theorem dX9_runs_17 : decode cX9_runs 17 = .ok (.iload_n 1, 1) := by decide +kernel
theorem dX9_runs_18 : decode cX9_runs 18 = .ok (.iastore, 1) := by decide +kernel
theorem dX9_runs_19 : decode cX9_runs 19 = .ok (.aload_n 0, 1) := by decide +kernel
theorem dX9_runs_20 : decode cX9_runs 20 = .ok (.dup, 1) := by decide +kernel
theorem dX9_runs_21 : decode cX9_runs 21 = .ok (.getfield 321, 3) := by decide +kernel
theorem dX9_runs_24 : decode cX9_runs 24 = .ok (.iconst 1, 1) := by decide +kernel
theorem dX9_runs_25 : decode cX9_runs 25 = .ok (.iadd, 1) := by decide +kernel
theorem dX9_runs_26 : decode cX9_runs 26 = .ok (.putfield 321, 3) := by decide +kernel
theorem dX9_runs_29 : decode cX9_runs 29 = .ok (.return_, 1) := by decide +kernel
theorem dX9_triesAs_0 : decode cX9_triesAs 0 = .ok (.iload_n 1, 1) := by decide +kernel
theorem dX9_triesAs_1 : decode cX9_triesAs 1 = .ok (.bipush 6, 2) := by decide +kernel
theorem dX9_triesAs_3 : decode cX9_triesAs 3 = .ok (.if_icmp .ne 18, 3) := by decide +kernel
theorem dX9_triesAs_6 : decode cX9_triesAs 6 = .ok (.aload_n 0, 1) := by decide +kernel
theorem dX9_triesAs_7 : decode cX9_triesAs 7 = .ok (.bipush 70, 2) := by decide +kernel
theorem dX9_triesAs_9 : decode cX9_triesAs 9 = .ok (.invokevirtual 324, 3) := by decide +kernel
theorem dX9_triesAs_12 : decode cX9_triesAs 12 = .ok (.aload_n 0, 1) := by decide +kernel
theorem dX9_triesAs_13 : decode cX9_triesAs 13 = .ok (.iconst 1, 1) := by decide +kernel
theorem dX9_triesAs_14 : decode cX9_triesAs 14 = .ok (.iload_n 2, 1) := by decide +kernel
theorem dX9_triesAs_15 : decode cX9_triesAs 15 = .ok (.invokevirtual 327, 3) := by decide +kernel
theorem dX9_triesAs_18 : decode cX9_triesAs 18 = .ok (.iconst 2, 1) := by decide +kernel
theorem dX9_triesAs_19 : decode cX9_triesAs 19 = .ok (.imul, 1) := by decide +kernel
theorem dX9_triesAs_20 : decode cX9_triesAs 20 = .ok (.ireturn, 1) := by decide +kernel
theorem dX9_triesAs_21 : decode cX9_triesAs 21 = .ok (.iload_n 1, 1) := by decide +kernel
theorem dX9_triesAs_22 : decode cX9_triesAs 22 = .ok (.iconst 1, 1) := by decide +kernel
theorem dX9_triesAs_23 : decode cX9_triesAs 23 = .ok (.if_icmp .ne 18, 3) := by decide +kernel
theorem dX9_triesAs_26 : decode cX9_triesAs 26 = .ok (.aload_n 0, 1) := by decide +kernel
theorem dX9_triesAs_27 : decode cX9_triesAs 27 = .ok (.bipush 20, 2) := by decide +kernel
theorem dX9_triesAs_29 : decode cX9_triesAs 29 = .ok (.invokevirtual 324, 3) := by decide +kernel
theorem dX9_triesAs_32 : decode cX9_triesAs 32 = .ok (.aload_n 0, 1) := by decide +kernel
theorem dX9_triesAs_33 : decode cX9_triesAs 33 = .ok (.iconst 0, 1) := by decide +kernel
theorem dX9_triesAs_34 : decode cX9_triesAs 34 = .ok (.iload_n 2, 1) := by decide +kernel
theorem dX9_triesAs_35 : decode cX9_triesAs 35 = .ok (.invokevirtual 327, 3) := by decide +kernel
theorem dX9_triesAs_38 : decode cX9_triesAs 38 = .ok (.iconst 3, 1) := by decide +kernel
theorem dX9_triesAs_39 : decode cX9_triesAs 39 = .ok (.iadd, 1) := by decide +kernel
theorem dX9_triesAs_40 : decode cX9_triesAs 40 = .ok (.ireturn, 1) := by decide +kernel
theorem dX9_triesAs_41 : decode cX9_triesAs 41 = .ok (.aload_n 0, 1) := by decide +kernel
theorem dX9_triesAs_42 : decode cX9_triesAs 42 = .ok (.iconst 1, 1) := by decide +kernel
theorem dX9_triesAs_43 : decode cX9_triesAs 43 = .ok (.invokevirtual 324, 3) := by decide +kernel
theorem dX9_triesAs_46 : decode cX9_triesAs 46 = .ok (.iload_n 2, 1) := by decide +kernel
theorem dX9_triesAs_47 : decode cX9_triesAs 47 = .ok (.aload_n 0, 1) := by decide +kernel
theorem dX9_triesAs_48 : decode cX9_triesAs 48 = .ok (.getfield 330, 3) := by decide +kernel
theorem dX9_triesAs_51 : decode cX9_triesAs 51 = .ok (.iadd, 1) := by decide +kernel
theorem dX9_triesAs_52 : decode cX9_triesAs 52 = .ok (.ireturn, 1) := by decide +kernel
theorem dX9_keepsAs_0 : decode cX9_keepsAs 0 = .ok (.iload_n 1, 1) := by decide +kernel
theorem dX9_keepsAs_1 : decode cX9_keepsAs 1 = .ok (.iconst 3, 1) := by decide +kernel
theorem dX9_keepsAs_2 : decode cX9_keepsAs 2 = .ok (.if_icmp .ne 18, 3) := by decide +kernel
theorem dX9_keepsAs_5 : decode cX9_keepsAs 5 = .ok (.aload_n 0, 1) := by decide +kernel
theorem dX9_keepsAs_6 : decode cX9_keepsAs 6 = .ok (.bipush 41, 2) := by decide +kernel
theorem dX9_keepsAs_8 : decode cX9_keepsAs 8 = .ok (.invokevirtual 324, 3) := by decide +kernel
theorem dX9_keepsAs_11 : decode cX9_keepsAs 11 = .ok (.aload_n 0, 1) := by decide +kernel
theorem dX9_keepsAs_12 : decode cX9_keepsAs 12 = .ok (.iconst 2, 1) := by decide +kernel
theorem dX9_keepsAs_13 : decode cX9_keepsAs 13 = .ok (.iload_n 2, 1) := by decide +kernel
theorem dX9_keepsAs_14 : decode cX9_keepsAs 14 = .ok (.iconst 1, 1) := by decide +kernel
theorem dX9_keepsAs_15 : decode cX9_keepsAs 15 = .ok (.iadd, 1) := by decide +kernel
theorem dX9_keepsAs_16 : decode cX9_keepsAs 16 = .ok (.invokevirtual 333, 3) := by decide +kernel
theorem dX9_keepsAs_19 : decode cX9_keepsAs 19 = .ok (.ireturn, 1) := by decide +kernel
theorem dX9_keepsAs_20 : decode cX9_keepsAs 20 = .ok (.iload_n 1, 1) := by decide +kernel
theorem dX9_keepsAs_21 : decode cX9_keepsAs 21 = .ok (.iconst 2, 1) := by decide +kernel
theorem dX9_keepsAs_22 : decode cX9_keepsAs 22 = .ok (.if_icmp .eq 8, 3) := by decide +kernel
theorem dX9_keepsAs_25 : decode cX9_keepsAs 25 = .ok (.iload_n 1, 1) := by decide +kernel
theorem dX9_keepsAs_26 : decode cX9_keepsAs 26 = .ok (.iconst 5, 1) := by decide +kernel
theorem dX9_keepsAs_27 : decode cX9_keepsAs 27 = .ok (.if_icmp .ne 17, 3) := by decide +kernel
theorem dX9_keepsAs_30 : decode cX9_keepsAs 30 = .ok (.aload_n 0, 1) := by decide +kernel
theorem dX9_keepsAs_31 : decode cX9_keepsAs 31 = .ok (.bipush 30, 2) := by decide +kernel
theorem dX9_keepsAs_33 : decode cX9_keepsAs 33 = .ok (.invokevirtual 324, 3) := by decide +kernel
theorem dX9_keepsAs_36 : decode cX9_keepsAs 36 = .ok (.aload_n 0, 1) := by decide +kernel
theorem dX9_keepsAs_37 : decode cX9_keepsAs 37 = .ok (.iconst 0, 1) := by decide +kernel
theorem dX9_keepsAs_38 : decode cX9_keepsAs 38 = .ok (.iload_n 2, 1) := by decide +kernel
theorem dX9_keepsAs_39 : decode cX9_keepsAs 39 = .ok (.invokevirtual 333, 3) := by decide +kernel
theorem dX9_keepsAs_42 : decode cX9_keepsAs 42 = .ok (.ineg, 1) := by decide +kernel
theorem dX9_keepsAs_43 : decode cX9_keepsAs 43 = .ok (.ireturn, 1) := by decide +kernel
theorem dX9_keepsAs_44 : decode cX9_keepsAs 44 = .ok (.iload_n 1, 1) := by decide +kernel
theorem dX9_keepsAs_45 : decode cX9_keepsAs 45 = .ok (.bipush 7, 2) := by decide +kernel
theorem dX9_keepsAs_47 : decode cX9_keepsAs 47 = .ok (.if_icmp .ne 28, 3) := by decide +kernel
theorem dX9_keepsAs_50 : decode cX9_keepsAs 50 = .ok (.aload_n 0, 1) := by decide +kernel
theorem dX9_keepsAs_51 : decode cX9_keepsAs 51 = .ok (.bipush 80, 2) := by decide +kernel
theorem dX9_keepsAs_53 : decode cX9_keepsAs 53 = .ok (.invokevirtual 324, 3) := by decide +kernel
theorem dX9_keepsAs_56 : decode cX9_keepsAs 56 = .ok (.aload_n 0, 1) := by decide +kernel
theorem dX9_keepsAs_57 : decode cX9_keepsAs 57 = .ok (.iconst 0, 1) := by decide +kernel
theorem dX9_keepsAs_58 : decode cX9_keepsAs 58 = .ok (.iload_n 2, 1) := by decide +kernel
theorem dX9_keepsAs_59 : decode cX9_keepsAs 59 = .ok (.invokevirtual 333, 3) := by decide +kernel
theorem dX9_keepsAs_62 : decode cX9_keepsAs 62 = .ok (.istore_n 3, 1) := by decide +kernel
theorem dX9_keepsAs_63 : decode cX9_keepsAs 63 = .ok (.iload_n 3, 1) := by decide +kernel
theorem dX9_keepsAs_64 : decode cX9_keepsAs 64 = .ok (.aload_n 0, 1) := by decide +kernel
theorem dX9_keepsAs_65 : decode cX9_keepsAs 65 = .ok (.aload_n 0, 1) := by decide +kernel
theorem dX9_keepsAs_66 : decode cX9_keepsAs 66 = .ok (.getfield 336, 3) := by decide +kernel
theorem dX9_keepsAs_69 : decode cX9_keepsAs 69 = .ok (.iconst 2, 1) := by decide +kernel
theorem dX9_keepsAs_70 : decode cX9_keepsAs 70 = .ok (.invokevirtual 339, 3) := by decide +kernel
theorem dX9_keepsAs_73 : decode cX9_keepsAs 73 = .ok (.iadd, 1) := by decide +kernel
theorem dX9_keepsAs_74 : decode cX9_keepsAs 74 = .ok (.ireturn, 1) := by decide +kernel
theorem dX9_keepsAs_75 : decode cX9_keepsAs 75 = .ok (.aload_n 0, 1) := by decide +kernel
theorem dX9_keepsAs_76 : decode cX9_keepsAs 76 = .ok (.bipush 10, 2) := by decide +kernel
theorem dX9_keepsAs_78 : decode cX9_keepsAs 78 = .ok (.invokevirtual 324, 3) := by decide +kernel
theorem dX9_keepsAs_81 : decode cX9_keepsAs 81 = .ok (.aload_n 0, 1) := by decide +kernel
theorem dX9_keepsAs_82 : decode cX9_keepsAs 82 = .ok (.aload_n 0, 1) := by decide +kernel
theorem dX9_keepsAs_83 : decode cX9_keepsAs 83 = .ok (.getfield 336, 3) := by decide +kernel
theorem dX9_keepsAs_86 : decode cX9_keepsAs 86 = .ok (.iload_n 2, 1) := by decide +kernel
theorem dX9_keepsAs_87 : decode cX9_keepsAs 87 = .ok (.invokevirtual 327, 3) := by decide +kernel
theorem dX9_keepsAs_90 : decode cX9_keepsAs 90 = .ok (.iconst 2, 1) := by decide +kernel
theorem dX9_keepsAs_91 : decode cX9_keepsAs 91 = .ok (.imul, 1) := by decide +kernel
theorem dX9_keepsAs_92 : decode cX9_keepsAs 92 = .ok (.ireturn, 1) := by decide +kernel
theorem dX9_countsAs_0 : decode cX9_countsAs 0 = .ok (.iload_n 1, 1) := by decide +kernel
theorem dX9_countsAs_1 : decode cX9_countsAs 1 = .ok (.iconst 3, 1) := by decide +kernel
theorem dX9_countsAs_2 : decode cX9_countsAs 2 = .ok (.if_icmp .ne 18, 3) := by decide +kernel
theorem dX9_countsAs_5 : decode cX9_countsAs 5 = .ok (.aload_n 0, 1) := by decide +kernel
theorem dX9_countsAs_6 : decode cX9_countsAs 6 = .ok (.bipush 40, 2) := by decide +kernel
theorem dX9_countsAs_8 : decode cX9_countsAs 8 = .ok (.invokevirtual 324, 3) := by decide +kernel
theorem dX9_countsAs_11 : decode cX9_countsAs 11 = .ok (.aload_n 0, 1) := by decide +kernel
theorem dX9_countsAs_12 : decode cX9_countsAs 12 = .ok (.iconst 2, 1) := by decide +kernel
theorem dX9_countsAs_13 : decode cX9_countsAs 13 = .ok (.iload_n 2, 1) := by decide +kernel
theorem dX9_countsAs_14 : decode cX9_countsAs 14 = .ok (.invokevirtual 339, 3) := by decide +kernel
theorem dX9_countsAs_17 : decode cX9_countsAs 17 = .ok (.iconst 3, 1) := by decide +kernel
theorem dX9_countsAs_18 : decode cX9_countsAs 18 = .ok (.imul, 1) := by decide +kernel
theorem dX9_countsAs_19 : decode cX9_countsAs 19 = .ok (.ireturn, 1) := by decide +kernel
theorem dX9_countsAs_20 : decode cX9_countsAs 20 = .ok (.iload_n 1, 1) := by decide +kernel
theorem dX9_countsAs_21 : decode cX9_countsAs 21 = .ok (.iconst 4, 1) := by decide +kernel
theorem dX9_countsAs_22 : decode cX9_countsAs 22 = .ok (.if_icmp .ne 28, 3) := by decide +kernel
theorem dX9_countsAs_25 : decode cX9_countsAs 25 = .ok (.aload_n 0, 1) := by decide +kernel
theorem dX9_countsAs_26 : decode cX9_countsAs 26 = .ok (.bipush 50, 2) := by decide +kernel
theorem dX9_countsAs_28 : decode cX9_countsAs 28 = .ok (.invokevirtual 324, 3) := by decide +kernel
theorem dX9_countsAs_31 : decode cX9_countsAs 31 = .ok (.aload_n 0, 1) := by decide +kernel
theorem dX9_countsAs_32 : decode cX9_countsAs 32 = .ok (.iconst 0, 1) := by decide +kernel
theorem dX9_countsAs_33 : decode cX9_countsAs 33 = .ok (.iload_n 2, 1) := by decide +kernel
theorem dX9_countsAs_34 : decode cX9_countsAs 34 = .ok (.invokevirtual 339, 3) := by decide +kernel
theorem dX9_countsAs_37 : decode cX9_countsAs 37 = .ok (.istore_n 3, 1) := by decide +kernel
theorem dX9_countsAs_38 : decode cX9_countsAs 38 = .ok (.iload_n 3, 1) := by decide +kernel
theorem dX9_countsAs_39 : decode cX9_countsAs 39 = .ok (.aload_n 0, 1) := by decide +kernel
theorem dX9_countsAs_40 : decode cX9_countsAs 40 = .ok (.aload_n 0, 1) := by decide +kernel
theorem dX9_countsAs_41 : decode cX9_countsAs 41 = .ok (.getfield 336, 3) := by decide +kernel
theorem dX9_countsAs_44 : decode cX9_countsAs 44 = .ok (.iconst 2, 1) := by decide +kernel
theorem dX9_countsAs_45 : decode cX9_countsAs 45 = .ok (.invokevirtual 327, 3) := by decide +kernel
theorem dX9_countsAs_48 : decode cX9_countsAs 48 = .ok (.isub, 1) := by decide +kernel
theorem dX9_countsAs_49 : decode cX9_countsAs 49 = .ok (.ireturn, 1) := by decide +kernel
theorem dX9_countsAs_50 : decode cX9_countsAs 50 = .ok (.aload_n 0, 1) := by decide +kernel
theorem dX9_countsAs_51 : decode cX9_countsAs 51 = .ok (.bipush 11, 2) := by decide +kernel
theorem dX9_countsAs_53 : decode cX9_countsAs 53 = .ok (.invokevirtual 324, 3) := by decide +kernel
theorem dX9_countsAs_56 : decode cX9_countsAs 56 = .ok (.iload_n 2, 1) := by decide +kernel
theorem dX9_countsAs_57 : decode cX9_countsAs 57 = .ok (.aload_n 0, 1) := by decide +kernel
theorem dX9_countsAs_58 : decode cX9_countsAs 58 = .ok (.getfield 330, 3) := by decide +kernel
theorem dX9_countsAs_61 : decode cX9_countsAs 61 = .ok (.ixor, 1) := by decide +kernel
theorem dX9_countsAs_62 : decode cX9_countsAs 62 = .ok (.ireturn, 1) := by decide +kernel
theorem dX9_tellsAs_0 : decode cX9_tellsAs 0 = .ok (.iload_n 1, 1) := by decide +kernel
theorem dX9_tellsAs_1 : decode cX9_tellsAs 1 = .ok (.iconst 5, 1) := by decide +kernel
theorem dX9_tellsAs_2 : decode cX9_tellsAs 2 = .ok (.if_icmp .ne 18, 3) := by decide +kernel
theorem dX9_tellsAs_5 : decode cX9_tellsAs 5 = .ok (.aload_n 0, 1) := by decide +kernel
theorem dX9_tellsAs_6 : decode cX9_tellsAs 6 = .ok (.bipush 60, 2) := by decide +kernel
theorem dX9_tellsAs_8 : decode cX9_tellsAs 8 = .ok (.invokevirtual 324, 3) := by decide +kernel
theorem dX9_tellsAs_11 : decode cX9_tellsAs 11 = .ok (.aload_n 0, 1) := by decide +kernel
theorem dX9_tellsAs_12 : decode cX9_tellsAs 12 = .ok (.iconst 2, 1) := by decide +kernel
theorem dX9_tellsAs_13 : decode cX9_tellsAs 13 = .ok (.iload_n 2, 1) := by decide +kernel
theorem dX9_tellsAs_14 : decode cX9_tellsAs 14 = .ok (.invokevirtual 342, 3) := by decide +kernel
theorem dX9_tellsAs_17 : decode cX9_tellsAs 17 = .ok (.iconst 5, 1) := by decide +kernel
theorem dX9_tellsAs_18 : decode cX9_tellsAs 18 = .ok (.ixor, 1) := by decide +kernel
theorem dX9_tellsAs_19 : decode cX9_tellsAs 19 = .ok (.ireturn, 1) := by decide +kernel
theorem dX9_tellsAs_20 : decode cX9_tellsAs 20 = .ok (.iload_n 1, 1) := by decide +kernel
theorem dX9_tellsAs_21 : decode cX9_tellsAs 21 = .ok (.bipush 7, 2) := by decide +kernel
theorem dX9_tellsAs_23 : decode cX9_tellsAs 23 = .ok (.if_icmp .ne 18, 3) := by decide +kernel
theorem dX9_tellsAs_26 : decode cX9_tellsAs 26 = .ok (.aload_n 0, 1) := by decide +kernel
theorem dX9_tellsAs_27 : decode cX9_tellsAs 27 = .ok (.bipush 81, 2) := by decide +kernel
theorem dX9_tellsAs_29 : decode cX9_tellsAs 29 = .ok (.invokevirtual 324, 3) := by decide +kernel
theorem dX9_tellsAs_32 : decode cX9_tellsAs 32 = .ok (.aload_n 0, 1) := by decide +kernel
theorem dX9_tellsAs_33 : decode cX9_tellsAs 33 = .ok (.iconst 0, 1) := by decide +kernel
theorem dX9_tellsAs_34 : decode cX9_tellsAs 34 = .ok (.iload_n 2, 1) := by decide +kernel
theorem dX9_tellsAs_35 : decode cX9_tellsAs 35 = .ok (.invokevirtual 342, 3) := by decide +kernel
theorem dX9_tellsAs_38 : decode cX9_tellsAs 38 = .ok (.iconst 1, 1) := by decide +kernel
theorem dX9_tellsAs_39 : decode cX9_tellsAs 39 = .ok (.isub, 1) := by decide +kernel
theorem dX9_tellsAs_40 : decode cX9_tellsAs 40 = .ok (.ireturn, 1) := by decide +kernel
theorem dX9_tellsAs_41 : decode cX9_tellsAs 41 = .ok (.aload_n 0, 1) := by decide +kernel
theorem dX9_tellsAs_42 : decode cX9_tellsAs 42 = .ok (.iconst 2, 1) := by decide +kernel
theorem dX9_tellsAs_43 : decode cX9_tellsAs 43 = .ok (.invokevirtual 324, 3) := by decide +kernel
theorem dX9_tellsAs_46 : decode cX9_tellsAs 46 = .ok (.aload_n 0, 1) := by decide +kernel
theorem dX9_tellsAs_47 : decode cX9_tellsAs 47 = .ok (.aload_n 0, 1) := by decide +kernel
theorem dX9_tellsAs_48 : decode cX9_tellsAs 48 = .ok (.getfield 336, 3) := by decide +kernel
theorem dX9_tellsAs_51 : decode cX9_tellsAs 51 = .ok (.iload_n 2, 1) := by decide +kernel
theorem dX9_tellsAs_52 : decode cX9_tellsAs 52 = .ok (.invokevirtual 333, 3) := by decide +kernel
theorem dX9_tellsAs_55 : decode cX9_tellsAs 55 = .ok (.istore_n 3, 1) := by decide +kernel
theorem dX9_tellsAs_56 : decode cX9_tellsAs 56 = .ok (.iload_n 3, 1) := by decide +kernel
theorem dX9_tellsAs_57 : decode cX9_tellsAs 57 = .ok (.aload_n 0, 1) := by decide +kernel
theorem dX9_tellsAs_58 : decode cX9_tellsAs 58 = .ok (.aload_n 0, 1) := by decide +kernel
theorem dX9_tellsAs_59 : decode cX9_tellsAs 59 = .ok (.getfield 336, 3) := by decide +kernel
theorem dX9_tellsAs_62 : decode cX9_tellsAs 62 = .ok (.iconst 1, 1) := by decide +kernel
theorem dX9_tellsAs_63 : decode cX9_tellsAs 63 = .ok (.invokevirtual 339, 3) := by decide +kernel
theorem dX9_tellsAs_66 : decode cX9_tellsAs 66 = .ok (.isub, 1) := by decide +kernel
theorem dX9_tellsAs_67 : decode cX9_tellsAs 67 = .ok (.ireturn, 1) := by decide +kernel
theorem dX9_act_0 : decode cX9_act 0 = .ok (.aload_n 0, 1) := by decide +kernel
theorem dX9_act_1 : decode cX9_act 1 = .ok (.iconst 0, 1) := by decide +kernel
theorem dX9_act_2 : decode cX9_act 2 = .ok (.putfield 321, 3) := by decide +kernel
theorem dX9_act_5 : decode cX9_act 5 = .ok (.aload_n 0, 1) := by decide +kernel
theorem dX9_act_6 : decode cX9_act 6 = .ok (.iload_n 1, 1) := by decide +kernel
theorem dX9_act_7 : decode cX9_act 7 = .ok (.invokevirtual 345, 3) := by decide +kernel
theorem dX9_act_10 : decode cX9_act 10 = .ok (.ifCond .ne 5, 3) := by decide +kernel
theorem dX9_act_13 : decode cX9_act 13 = .ok (.iconst 0, 1) := by decide +kernel
theorem dX9_act_14 : decode cX9_act 14 = .ok (.ireturn, 1) := by decide +kernel
theorem dX9_act_15 : decode cX9_act 15 = .ok (.aload_n 0, 1) := by decide +kernel
theorem dX9_act_16 : decode cX9_act 16 = .ok (.aload_n 0, 1) := by decide +kernel
theorem dX9_act_17 : decode cX9_act 17 = .ok (.getfield 73, 3) := by decide +kernel
theorem dX9_act_20 : decode cX9_act 20 = .ok (.iload_n 1, 1) := by decide +kernel
theorem dX9_act_21 : decode cX9_act 21 = .ok (.iaload, 1) := by decide +kernel
theorem dX9_act_22 : decode cX9_act 22 = .ok (.putfield 336, 3) := by decide +kernel
theorem dX9_act_25 : decode cX9_act 25 = .ok (.aload_n 0, 1) := by decide +kernel
theorem dX9_act_26 : decode cX9_act 26 = .ok (.iload_n 1, 1) := by decide +kernel
theorem dX9_act_27 : decode cX9_act 27 = .ok (.putfield 330, 3) := by decide +kernel
theorem dX9_act_30 : decode cX9_act 30 = .ok (.iload_n 2, 1) := by decide +kernel
theorem dX9_act_31 : decode cX9_act 31 = .ok (.tableswitch 69 0 3 #[29, 39, 49, 59], 29) := by decide +kernel
theorem dX9_act_60 : decode cX9_act 60 = .ok (.aload_n 0, 1) := by decide +kernel
theorem dX9_act_61 : decode cX9_act 61 = .ok (.aload_n 0, 1) := by decide +kernel
theorem dX9_act_62 : decode cX9_act 62 = .ok (.getfield 336, 3) := by decide +kernel
theorem dX9_act_65 : decode cX9_act 65 = .ok (.iload_n 3, 1) := by decide +kernel
theorem dX9_act_66 : decode cX9_act 66 = .ok (.invokevirtual 327, 3) := by decide +kernel
theorem dX9_act_69 : decode cX9_act 69 = .ok (.ireturn, 1) := by decide +kernel
theorem dX9_act_70 : decode cX9_act 70 = .ok (.aload_n 0, 1) := by decide +kernel
theorem dX9_act_71 : decode cX9_act 71 = .ok (.aload_n 0, 1) := by decide +kernel
theorem dX9_act_72 : decode cX9_act 72 = .ok (.getfield 336, 3) := by decide +kernel
theorem dX9_act_75 : decode cX9_act 75 = .ok (.iload_n 3, 1) := by decide +kernel
theorem dX9_act_76 : decode cX9_act 76 = .ok (.invokevirtual 333, 3) := by decide +kernel
theorem dX9_act_79 : decode cX9_act 79 = .ok (.ireturn, 1) := by decide +kernel
theorem dX9_act_80 : decode cX9_act 80 = .ok (.aload_n 0, 1) := by decide +kernel
theorem dX9_act_81 : decode cX9_act 81 = .ok (.aload_n 0, 1) := by decide +kernel
theorem dX9_act_82 : decode cX9_act 82 = .ok (.getfield 336, 3) := by decide +kernel
theorem dX9_act_85 : decode cX9_act 85 = .ok (.iload_n 3, 1) := by decide +kernel
theorem dX9_act_86 : decode cX9_act 86 = .ok (.invokevirtual 339, 3) := by decide +kernel
theorem dX9_act_89 : decode cX9_act 89 = .ok (.ireturn, 1) := by decide +kernel
theorem dX9_act_90 : decode cX9_act 90 = .ok (.aload_n 0, 1) := by decide +kernel
theorem dX9_act_91 : decode cX9_act 91 = .ok (.aload_n 0, 1) := by decide +kernel
theorem dX9_act_92 : decode cX9_act 92 = .ok (.getfield 336, 3) := by decide +kernel
theorem dX9_act_95 : decode cX9_act 95 = .ok (.iload_n 3, 1) := by decide +kernel
theorem dX9_act_96 : decode cX9_act 96 = .ok (.invokevirtual 342, 3) := by decide +kernel
theorem dX9_act_99 : decode cX9_act 99 = .ok (.ireturn, 1) := by decide +kernel
theorem dX9_act_100 : decode cX9_act 100 = .ok (.iconst 0, 1) := by decide +kernel
theorem dX9_act_101 : decode cX9_act 101 = .ok (.ireturn, 1) := by decide +kernel
theorem dX9_trace_0 : decode cX9_trace 0 = .ok (.iload_n 1, 1) := by decide +kernel
theorem dX9_trace_1 : decode cX9_trace 1 = .ok (.ifCond .lt 26, 3) := by decide +kernel
theorem dX9_trace_4 : decode cX9_trace 4 = .ok (.iload_n 1, 1) := by decide +kernel
theorem dX9_trace_5 : decode cX9_trace 5 = .ok (.aload_n 0, 1) := by decide +kernel
theorem dX9_trace_6 : decode cX9_trace 6 = .ok (.getfield 321, 3) := by decide +kernel
theorem dX9_trace_9 : decode cX9_trace 9 = .ok (.if_icmp .ge 18, 3) := by decide +kernel
theorem dX9_trace_12 : decode cX9_trace 12 = .ok (.iload_n 1, 1) := by decide +kernel
theorem dX9_trace_13 : decode cX9_trace 13 = .ok (.bipush 24, 2) := by decide +kernel
theorem dX9_trace_15 : decode cX9_trace 15 = .ok (.if_icmp .ge 12, 3) := by decide +kernel
theorem dX9_trace_18 : decode cX9_trace 18 = .ok (.aload_n 0, 1) := by decide +kernel
theorem dX9_trace_19 : decode cX9_trace 19 = .ok (.getfield 76, 3) := by decide +kernel
theorem dX9_trace_22 : decode cX9_trace 22 = .ok (.iload_n 1, 1) := by decide +kernel
theorem dX9_trace_23 : decode cX9_trace 23 = .ok (.iaload, 1) := by decide +kernel
theorem dX9_trace_24 : decode cX9_trace 24 = .ok (.goto 4, 3) := by decide +kernel
theorem dX9_trace_27 : decode cX9_trace 27 = .ok (.iconst (-1), 1) := by decide +kernel
theorem dX9_trace_28 : decode cX9_trace 28 = .ok (.ireturn, 1) := by decide +kernel
theorem dX9_isShelf_0 : decode cX9_isShelf 0 = .ok (.iload_n 0, 1) := by decide +kernel
theorem dX9_isShelf_1 : decode cX9_isShelf 1 = .ok (.i2l, 1) := by decide +kernel
theorem dX9_isShelf_2 : decode cX9_isShelf 2 = .ok (.lconst 0, 1) := by decide +kernel
theorem dX9_isShelf_3 : decode cX9_isShelf 3 = .ok (.ldc2_w 348, 3) := by decide +kernel
theorem dX9_isShelf_6 : decode cX9_isShelf 6 = .ok (.invokestatic 102, 3) := by decide +kernel
theorem dX9_isShelf_9 : decode cX9_isShelf 9 = .ok (.ireturn, 1) := by decide +kernel
theorem dX9_keep_0 : decode cX9_keep 0 = .ok (.iload_n 1, 1) := by decide +kernel
theorem dX9_keep_1 : decode cX9_keep 1 = .ok (.invokestatic 239, 3) := by decide +kernel
theorem dX9_keep_4 : decode cX9_keep 4 = .ok (.ifCond .eq 16, 3) := by decide +kernel
theorem dX9_keep_7 : decode cX9_keep 7 = .ok (.iload_n 2, 1) := by decide +kernel
theorem dX9_keep_8 : decode cX9_keep 8 = .ok (.iconst (-1), 1) := by decide +kernel
theorem dX9_keep_9 : decode cX9_keep 9 = .ok (.if_icmp .eq 13, 3) := by decide +kernel
theorem dX9_keep_12 : decode cX9_keep 12 = .ok (.aload_n 0, 1) := by decide +kernel
theorem dX9_keep_13 : decode cX9_keep 13 = .ok (.iload_n 2, 1) := by decide +kernel
theorem dX9_keep_14 : decode cX9_keep 14 = .ok (.invokevirtual 345, 3) := by decide +kernel
theorem dX9_keep_17 : decode cX9_keep 17 = .ok (.ifCond .ne 5, 3) := by decide +kernel
theorem dX9_keep_20 : decode cX9_keep 20 = .ok (.iconst (-1), 1) := by decide +kernel
theorem dX9_keep_21 : decode cX9_keep 21 = .ok (.ireturn, 1) := by decide +kernel
theorem dX9_keep_22 : decode cX9_keep 22 = .ok (.aload_n 0, 1) := by decide +kernel
theorem dX9_keep_23 : decode cX9_keep 23 = .ok (.getfield 79, 3) := by decide +kernel
theorem dX9_keep_26 : decode cX9_keep 26 = .ok (.iload_n 1, 1) := by decide +kernel
theorem dX9_keep_27 : decode cX9_keep 27 = .ok (.iload_n 2, 1) := by decide +kernel
theorem dX9_keep_28 : decode cX9_keep 28 = .ok (.iastore, 1) := by decide +kernel
theorem dX9_keep_29 : decode cX9_keep 29 = .ok (.aload_n 0, 1) := by decide +kernel
theorem dX9_keep_30 : decode cX9_keep 30 = .ok (.getfield 82, 3) := by decide +kernel
theorem dX9_keep_33 : decode cX9_keep 33 = .ok (.iload_n 1, 1) := by decide +kernel
theorem dX9_keep_34 : decode cX9_keep 34 = .ok (.iconst 0, 1) := by decide +kernel
theorem dX9_keep_35 : decode cX9_keep 35 = .ok (.iastore, 1) := by decide +kernel
theorem dX9_keep_36 : decode cX9_keep 36 = .ok (.iconst 1, 1) := by decide +kernel
theorem dX9_keep_37 : decode cX9_keep 37 = .ok (.ireturn, 1) := by decide +kernel
theorem dX9_row_0 : decode cX9_row 0 = .ok (.iload_n 1, 1) := by decide +kernel
theorem dX9_row_1 : decode cX9_row 1 = .ok (.invokestatic 239, 3) := by decide +kernel
theorem dX9_row_4 : decode cX9_row 4 = .ok (.ifCond .eq 21, 3) := by decide +kernel
theorem dX9_row_7 : decode cX9_row 7 = .ok (.iload_n 2, 1) := by decide +kernel
theorem dX9_row_8 : decode cX9_row 8 = .ok (.i2l, 1) := by decide +kernel
theorem dX9_row_9 : decode cX9_row 9 = .ok (.lconst 0, 1) := by decide +kernel
theorem dX9_row_10 : decode cX9_row 10 = .ok (.ldc2_w 119, 3) := by decide +kernel
theorem dX9_row_13 : decode cX9_row 13 = .ok (.invokestatic 102, 3) := by decide +kernel
theorem dX9_row_16 : decode cX9_row 16 = .ok (.ifCond .eq 9, 3) := by decide +kernel
theorem dX9_row_19 : decode cX9_row 19 = .ok (.iload_n 3, 1) := by decide +kernel
theorem dX9_row_20 : decode cX9_row 20 = .ok (.bipush 60, 2) := by decide +kernel
theorem dX9_row_22 : decode cX9_row 22 = .ok (.if_icmp .le 5, 3) := by decide +kernel
theorem dX9_row_25 : decode cX9_row 25 = .ok (.iconst (-1), 1) := by decide +kernel
theorem dX9_row_26 : decode cX9_row 26 = .ok (.ireturn, 1) := by decide +kernel
theorem dX9_row_27 : decode cX9_row 27 = .ok (.iload_n 3, 1) := by decide +kernel
theorem dX9_row_28 : decode cX9_row 28 = .ok (.ifCond .ge 6, 3) := by decide +kernel
theorem dX9_row_31 : decode cX9_row 31 = .ok (.bipush (-14), 2) := by decide +kernel
theorem dX9_row_33 : decode cX9_row 33 = .ok (.ireturn, 1) := by decide +kernel
theorem dX9_row_34 : decode cX9_row 34 = .ok (.aload_n 0, 1) := by decide +kernel
theorem dX9_row_35 : decode cX9_row 35 = .ok (.getfield 79, 3) := by decide +kernel
theorem dX9_row_38 : decode cX9_row 38 = .ok (.iload_n 1, 1) := by decide +kernel
theorem dX9_row_39 : decode cX9_row 39 = .ok (.bipush 50, 2) := by decide +kernel
theorem dX9_row_41 : decode cX9_row 41 = .ok (.iload_n 2, 1) := by decide +kernel
theorem dX9_row_42 : decode cX9_row 42 = .ok (.iadd, 1) := by decide +kernel
theorem dX9_row_43 : decode cX9_row 43 = .ok (.iastore, 1) := by decide +kernel
theorem dX9_row_44 : decode cX9_row 44 = .ok (.aload_n 0, 1) := by decide +kernel
theorem dX9_row_45 : decode cX9_row 45 = .ok (.getfield 82, 3) := by decide +kernel
theorem dX9_row_48 : decode cX9_row 48 = .ok (.iload_n 1, 1) := by decide +kernel
theorem dX9_row_49 : decode cX9_row 49 = .ok (.iload_n 3, 1) := by decide +kernel
theorem dX9_row_50 : decode cX9_row 50 = .ok (.iastore, 1) := by decide +kernel
theorem dX9_row_51 : decode cX9_row 51 = .ok (.bipush 60, 2) := by decide +kernel
theorem dX9_row_53 : decode cX9_row 53 = .ok (.iload_n 1, 1) := by decide +kernel
theorem dX9_row_54 : decode cX9_row 54 = .ok (.imul, 1) := by decide +kernel
theorem dX9_row_55 : decode cX9_row 55 = .ok (.istore 4, 2) := by decide +kernel
theorem dX9_row_57 : decode cX9_row 57 = .ok (.iload 4, 2) := by decide +kernel
theorem dX9_row_59 : decode cX9_row 59 = .ok (.bipush 60, 2) := by decide +kernel
theorem dX9_row_61 : decode cX9_row 61 = .ok (.iload_n 1, 1) := by decide +kernel
theorem dX9_row_62 : decode cX9_row 62 = .ok (.imul, 1) := by decide +kernel
theorem dX9_row_63 : decode cX9_row 63 = .ok (.bipush 60, 2) := by decide +kernel
theorem dX9_row_65 : decode cX9_row 65 = .ok (.iadd, 1) := by decide +kernel
theorem dX9_row_66 : decode cX9_row 66 = .ok (.if_icmp .ge 17, 3) := by decide +kernel
theorem dX9_row_69 : decode cX9_row 69 = .ok (.aload_n 0, 1) := by decide +kernel
theorem dX9_row_70 : decode cX9_row 70 = .ok (.getfield 85, 3) := by decide +kernel
theorem dX9_row_73 : decode cX9_row 73 = .ok (.iload 4, 2) := by decide +kernel
theorem dX9_row_75 : decode cX9_row 75 = .ok (.lconst 0, 1) := by decide +kernel
theorem dX9_row_76 : decode cX9_row 76 = .ok (.lastore, 1) := by decide +kernel
theorem dX9_row_77 : decode cX9_row 77 = .ok (.iinc 4 1, 3) := by decide +kernel
theorem dX9_row_80 : decode cX9_row 80 = .ok (.goto (-23), 3) := by decide +kernel
theorem dX9_row_83 : decode cX9_row 83 = .ok (.iconst 1, 1) := by decide +kernel
theorem dX9_row_84 : decode cX9_row 84 = .ok (.ireturn, 1) := by decide +kernel
theorem dX9_refusal_0 : decode cX9_refusal 0 = .ok (.iload_n 1, 1) := by decide +kernel
theorem dX9_refusal_1 : decode cX9_refusal 1 = .ok (.invokestatic 239, 3) := by decide +kernel
theorem dX9_refusal_4 : decode cX9_refusal 4 = .ok (.ifCond .ne 5, 3) := by decide +kernel
theorem dX9_refusal_7 : decode cX9_refusal 7 = .ok (.iconst (-1), 1) := by decide +kernel
theorem dX9_refusal_8 : decode cX9_refusal 8 = .ok (.ireturn, 1) := by decide +kernel
theorem dX9_refusal_9 : decode cX9_refusal 9 = .ok (.aload_n 0, 1) := by decide +kernel
theorem dX9_refusal_10 : decode cX9_refusal 10 = .ok (.getfield 79, 3) := by decide +kernel
theorem dX9_refusal_13 : decode cX9_refusal 13 = .ok (.iload_n 1, 1) := by decide +kernel
theorem dX9_refusal_14 : decode cX9_refusal 14 = .ok (.iaload, 1) := by decide +kernel
theorem dX9_refusal_15 : decode cX9_refusal 15 = .ok (.ifCond .ge 6, 3) := by decide +kernel
theorem dX9_refusal_18 : decode cX9_refusal 18 = .ok (.bipush (-11), 2) := by decide +kernel
theorem dX9_refusal_20 : decode cX9_refusal 20 = .ok (.ireturn, 1) := by decide +kernel
theorem dX9_refusal_21 : decode cX9_refusal 21 = .ok (.aload_n 0, 1) := by decide +kernel
theorem dX9_refusal_22 : decode cX9_refusal 22 = .ok (.getfield 79, 3) := by decide +kernel
theorem dX9_refusal_25 : decode cX9_refusal 25 = .ok (.iload_n 1, 1) := by decide +kernel
theorem dX9_refusal_26 : decode cX9_refusal 26 = .ok (.iaload, 1) := by decide +kernel
theorem dX9_refusal_27 : decode cX9_refusal 27 = .ok (.bipush 50, 2) := by decide +kernel
theorem dX9_refusal_29 : decode cX9_refusal 29 = .ok (.if_icmp .ge 6, 3) := by decide +kernel
theorem dX9_refusal_32 : decode cX9_refusal 32 = .ok (.bipush (-12), 2) := by decide +kernel
theorem dX9_refusal_34 : decode cX9_refusal 34 = .ok (.ireturn, 1) := by decide +kernel
theorem dX9_refusal_35 : decode cX9_refusal 35 = .ok (.iload_n 2, 1) := by decide +kernel
theorem dX9_refusal_36 : decode cX9_refusal 36 = .ok (.ifCond .lt 17, 3) := by decide +kernel
theorem dX9_refusal_39 : decode cX9_refusal 39 = .ok (.iload_n 2, 1) := by decide +kernel
theorem dX9_refusal_40 : decode cX9_refusal 40 = .ok (.aload_n 0, 1) := by decide +kernel
theorem dX9_refusal_41 : decode cX9_refusal 41 = .ok (.getfield 82, 3) := by decide +kernel
theorem dX9_refusal_44 : decode cX9_refusal 44 = .ok (.iload_n 1, 1) := by decide +kernel
theorem dX9_refusal_45 : decode cX9_refusal 45 = .ok (.iaload, 1) := by decide +kernel
theorem dX9_refusal_46 : decode cX9_refusal 46 = .ok (.if_icmp .ge 7, 3) := by decide +kernel
theorem dX9_refusal_49 : decode cX9_refusal 49 = .ok (.iconst 0, 1) := by decide +kernel
theorem dX9_refusal_50 : decode cX9_refusal 50 = .ok (.goto 5, 3) := by decide +kernel
theorem dX9_refusal_53 : decode cX9_refusal 53 = .ok (.bipush (-13), 2) := by decide +kernel
theorem dX9_refusal_55 : decode cX9_refusal 55 = .ok (.ireturn, 1) := by decide +kernel
theorem dX9_asSort_0 : decode cX9_asSort 0 = .ok (.iload_n 0, 1) := by decide +kernel
theorem dX9_asSort_1 : decode cX9_asSort 1 = .ok (.ifCond .ne 10, 3) := by decide +kernel
theorem dX9_asSort_4 : decode cX9_asSort 4 = .ok (.lload_n 1, 1) := by decide +kernel
theorem dX9_asSort_5 : decode cX9_asSort 5 = .ok (.l2i, 1) := by decide +kernel
theorem dX9_asSort_6 : decode cX9_asSort 6 = .ok (.i2b, 1) := by decide +kernel
theorem dX9_asSort_7 : decode cX9_asSort 7 = .ok (.i2l, 1) := by decide +kernel
theorem dX9_asSort_8 : decode cX9_asSort 8 = .ok (.goto 46, 3) := by decide +kernel
theorem dX9_asSort_11 : decode cX9_asSort 11 = .ok (.iload_n 0, 1) := by decide +kernel
theorem dX9_asSort_12 : decode cX9_asSort 12 = .ok (.iconst 1, 1) := by decide +kernel
theorem dX9_asSort_13 : decode cX9_asSort 13 = .ok (.if_icmp .ne 10, 3) := by decide +kernel
theorem dX9_asSort_16 : decode cX9_asSort 16 = .ok (.lload_n 1, 1) := by decide +kernel
theorem dX9_asSort_17 : decode cX9_asSort 17 = .ok (.l2i, 1) := by decide +kernel
theorem dX9_asSort_18 : decode cX9_asSort 18 = .ok (.i2s, 1) := by decide +kernel
theorem dX9_asSort_19 : decode cX9_asSort 19 = .ok (.i2l, 1) := by decide +kernel
theorem dX9_asSort_20 : decode cX9_asSort 20 = .ok (.goto 34, 3) := by decide +kernel
theorem dX9_asSort_23 : decode cX9_asSort 23 = .ok (.iload_n 0, 1) := by decide +kernel
theorem dX9_asSort_24 : decode cX9_asSort 24 = .ok (.iconst 2, 1) := by decide +kernel
theorem dX9_asSort_25 : decode cX9_asSort 25 = .ok (.if_icmp .ne 9, 3) := by decide +kernel
theorem dX9_asSort_28 : decode cX9_asSort 28 = .ok (.lload_n 1, 1) := by decide +kernel
theorem dX9_asSort_29 : decode cX9_asSort 29 = .ok (.l2i, 1) := by decide +kernel
theorem dX9_asSort_30 : decode cX9_asSort 30 = .ok (.i2l, 1) := by decide +kernel
theorem dX9_asSort_31 : decode cX9_asSort 31 = .ok (.goto 23, 3) := by decide +kernel
theorem dX9_asSort_34 : decode cX9_asSort 34 = .ok (.iload_n 0, 1) := by decide +kernel
theorem dX9_asSort_35 : decode cX9_asSort 35 = .ok (.iconst 4, 1) := by decide +kernel
theorem dX9_asSort_36 : decode cX9_asSort 36 = .ok (.if_icmp .ne 17, 3) := by decide +kernel
theorem dX9_asSort_39 : decode cX9_asSort 39 = .ok (.lload_n 1, 1) := by decide +kernel
theorem dX9_asSort_40 : decode cX9_asSort 40 = .ok (.lconst 0, 1) := by decide +kernel
theorem dX9_asSort_41 : decode cX9_asSort 41 = .ok (.lcmp, 1) := by decide +kernel
theorem dX9_asSort_42 : decode cX9_asSort 42 = .ok (.ifCond .eq 7, 3) := by decide +kernel
theorem dX9_asSort_45 : decode cX9_asSort 45 = .ok (.lconst 1, 1) := by decide +kernel
theorem dX9_asSort_46 : decode cX9_asSort 46 = .ok (.goto 8, 3) := by decide +kernel
theorem dX9_asSort_49 : decode cX9_asSort 49 = .ok (.lconst 0, 1) := by decide +kernel
theorem dX9_asSort_50 : decode cX9_asSort 50 = .ok (.goto 4, 3) := by decide +kernel
theorem dX9_asSort_53 : decode cX9_asSort 53 = .ok (.lload_n 1, 1) := by decide +kernel
theorem dX9_asSort_54 : decode cX9_asSort 54 = .ok (.lreturn, 1) := by decide +kernel
theorem dX9_put_0 : decode cX9_put 0 = .ok (.aload_n 0, 1) := by decide +kernel
theorem dX9_put_1 : decode cX9_put 1 = .ok (.iload_n 1, 1) := by decide +kernel
theorem dX9_put_2 : decode cX9_put 2 = .ok (.iload_n 2, 1) := by decide +kernel
theorem dX9_put_3 : decode cX9_put 3 = .ok (.invokevirtual 350, 3) := by decide +kernel
theorem dX9_put_6 : decode cX9_put 6 = .ok (.istore 5, 2) := by decide +kernel
theorem dX9_put_8 : decode cX9_put 8 = .ok (.iload 5, 2) := by decide +kernel
theorem dX9_put_10 : decode cX9_put 10 = .ok (.ifCond .ne 27, 3) := by decide +kernel
theorem dX9_put_13 : decode cX9_put 13 = .ok (.aload_n 0, 1) := by decide +kernel
theorem dX9_put_14 : decode cX9_put 14 = .ok (.getfield 85, 3) := by decide +kernel
theorem dX9_put_17 : decode cX9_put 17 = .ok (.bipush 60, 2) := by decide +kernel
theorem dX9_put_19 : decode cX9_put 19 = .ok (.iload_n 1, 1) := by decide +kernel
theorem dX9_put_20 : decode cX9_put 20 = .ok (.imul, 1) := by decide +kernel
theorem dX9_put_21 : decode cX9_put 21 = .ok (.iload_n 2, 1) := by decide +kernel
theorem dX9_put_22 : decode cX9_put 22 = .ok (.iadd, 1) := by decide +kernel
theorem dX9_put_23 : decode cX9_put 23 = .ok (.aload_n 0, 1) := by decide +kernel
theorem dX9_put_24 : decode cX9_put 24 = .ok (.getfield 79, 3) := by decide +kernel
theorem dX9_put_27 : decode cX9_put 27 = .ok (.iload_n 1, 1) := by decide +kernel
theorem dX9_put_28 : decode cX9_put 28 = .ok (.iaload, 1) := by decide +kernel
theorem dX9_put_29 : decode cX9_put 29 = .ok (.bipush 50, 2) := by decide +kernel
theorem dX9_put_31 : decode cX9_put 31 = .ok (.isub, 1) := by decide +kernel
theorem dX9_put_32 : decode cX9_put 32 = .ok (.lload_n 3, 1) := by decide +kernel
theorem dX9_put_33 : decode cX9_put 33 = .ok (.invokestatic 353, 3) := by decide +kernel
theorem dX9_put_36 : decode cX9_put 36 = .ok (.lastore, 1) := by decide +kernel
theorem dX9_put_37 : decode cX9_put 37 = .ok (.iload 5, 2) := by decide +kernel
theorem dX9_put_39 : decode cX9_put 39 = .ok (.ifCond .ne 7, 3) := by decide +kernel
theorem dX9_put_42 : decode cX9_put 42 = .ok (.iconst 1, 1) := by decide +kernel
theorem dX9_put_43 : decode cX9_put 43 = .ok (.goto 5, 3) := by decide +kernel
theorem dX9_put_46 : decode cX9_put 46 = .ok (.iload 5, 2) := by decide +kernel
theorem dX9_put_48 : decode cX9_put 48 = .ok (.ireturn, 1) := by decide +kernel
theorem dX9_element_0 : decode cX9_element 0 = .ok (.aload_n 0, 1) := by decide +kernel
theorem dX9_element_1 : decode cX9_element 1 = .ok (.iload_n 1, 1) := by decide +kernel
theorem dX9_element_2 : decode cX9_element 2 = .ok (.iload_n 2, 1) := by decide +kernel
theorem dX9_element_3 : decode cX9_element 3 = .ok (.invokevirtual 350, 3) := by decide +kernel
theorem dX9_element_6 : decode cX9_element 6 = .ok (.ifCond .eq 9, 3) := by decide +kernel
theorem dX9_element_9 : decode cX9_element 9 = .ok (.ldc2_w 359, 3) := by decide +kernel
theorem dX9_element_12 : decode cX9_element 12 = .ok (.goto 14, 3) := by decide +kernel
theorem dX9_element_15 : decode cX9_element 15 = .ok (.aload_n 0, 1) := by decide +kernel
theorem dX9_element_16 : decode cX9_element 16 = .ok (.getfield 85, 3) := by decide +kernel
theorem dX9_element_19 : decode cX9_element 19 = .ok (.bipush 60, 2) := by decide +kernel
theorem dX9_element_21 : decode cX9_element 21 = .ok (.iload_n 1, 1) := by decide +kernel
theorem dX9_element_22 : decode cX9_element 22 = .ok (.imul, 1) := by decide +kernel
theorem dX9_element_23 : decode cX9_element 23 = .ok (.iload_n 2, 1) := by decide +kernel
theorem dX9_element_24 : decode cX9_element 24 = .ok (.iadd, 1) := by decide +kernel
theorem dX9_element_25 : decode cX9_element 25 = .ok (.laload, 1) := by decide +kernel
theorem dX9_element_26 : decode cX9_element 26 = .ok (.lreturn, 1) := by decide +kernel
theorem dX9_shift_0 : decode cX9_shift 0 = .ok (.iload_n 1, 1) := by decide +kernel
theorem dX9_shift_1 : decode cX9_shift 1 = .ok (.invokestatic 239, 3) := by decide +kernel
theorem dX9_shift_4 : decode cX9_shift 4 = .ok (.ifCond .eq 10, 3) := by decide +kernel
theorem dX9_shift_7 : decode cX9_shift 7 = .ok (.iload_n 3, 1) := by decide +kernel
theorem dX9_shift_8 : decode cX9_shift 8 = .ok (.invokestatic 239, 3) := by decide +kernel
theorem dX9_shift_11 : decode cX9_shift 11 = .ok (.ifCond .ne 5, 3) := by decide +kernel
theorem dX9_shift_14 : decode cX9_shift 14 = .ok (.iconst (-1), 1) := by decide +kernel
theorem dX9_shift_15 : decode cX9_shift 15 = .ok (.ireturn, 1) := by decide +kernel
theorem dX9_shift_16 : decode cX9_shift 16 = .ok (.aload_n 0, 1) := by decide +kernel
theorem dX9_shift_17 : decode cX9_shift 17 = .ok (.getfield 79, 3) := by decide +kernel
theorem dX9_shift_20 : decode cX9_shift 20 = .ok (.iload_n 1, 1) := by decide +kernel
theorem dX9_shift_21 : decode cX9_shift 21 = .ok (.iaload, 1) := by decide +kernel
theorem dX9_shift_22 : decode cX9_shift 22 = .ok (.ifCond .lt 12, 3) := by decide +kernel
theorem dX9_shift_25 : decode cX9_shift 25 = .ok (.aload_n 0, 1) := by decide +kernel
theorem dX9_shift_26 : decode cX9_shift 26 = .ok (.getfield 79, 3) := by decide +kernel
theorem dX9_shift_29 : decode cX9_shift 29 = .ok (.iload_n 3, 1) := by decide +kernel
theorem dX9_shift_30 : decode cX9_shift 30 = .ok (.iaload, 1) := by decide +kernel
theorem dX9_shift_31 : decode cX9_shift 31 = .ok (.ifCond .ge 6, 3) := by decide +kernel
theorem dX9_shift_34 : decode cX9_shift 34 = .ok (.bipush (-11), 2) := by decide +kernel
theorem dX9_shift_36 : decode cX9_shift 36 = .ok (.ireturn, 1) := by decide +kernel
theorem dX9_shift_37 : decode cX9_shift 37 = .ok (.aload_n 0, 1) := by decide +kernel
theorem dX9_shift_38 : decode cX9_shift 38 = .ok (.getfield 79, 3) := by decide +kernel
theorem dX9_shift_41 : decode cX9_shift 41 = .ok (.iload_n 1, 1) := by decide +kernel
theorem dX9_shift_42 : decode cX9_shift 42 = .ok (.iaload, 1) := by decide +kernel
theorem dX9_shift_43 : decode cX9_shift 43 = .ok (.bipush 50, 2) := by decide +kernel
theorem dX9_shift_45 : decode cX9_shift 45 = .ok (.if_icmp .lt 18, 3) := by decide +kernel
theorem dX9_shift_48 : decode cX9_shift 48 = .ok (.aload_n 0, 1) := by decide +kernel
theorem dX9_shift_49 : decode cX9_shift 49 = .ok (.getfield 79, 3) := by decide +kernel
theorem dX9_shift_52 : decode cX9_shift 52 = .ok (.iload_n 1, 1) := by decide +kernel
theorem dX9_shift_53 : decode cX9_shift 53 = .ok (.iaload, 1) := by decide +kernel
theorem dX9_shift_54 : decode cX9_shift 54 = .ok (.aload_n 0, 1) := by decide +kernel
theorem dX9_shift_55 : decode cX9_shift 55 = .ok (.getfield 79, 3) := by decide +kernel
theorem dX9_shift_58 : decode cX9_shift 58 = .ok (.iload_n 3, 1) := by decide +kernel
theorem dX9_shift_59 : decode cX9_shift 59 = .ok (.iaload, 1) := by decide +kernel
theorem dX9_shift_60 : decode cX9_shift 60 = .ok (.if_icmp .eq 6, 3) := by decide +kernel
theorem dX9_shift_63 : decode cX9_shift 63 = .ok (.bipush (-12), 2) := by decide +kernel
theorem dX9_shift_65 : decode cX9_shift 65 = .ok (.ireturn, 1) := by decide +kernel
theorem dX9_shift_66 : decode cX9_shift 66 = .ok (.iload 5, 2) := by decide +kernel
theorem dX9_shift_68 : decode cX9_shift 68 = .ok (.ifCond .lt 39, 3) := by decide +kernel
theorem dX9_shift_71 : decode cX9_shift 71 = .ok (.iload_n 2, 1) := by decide +kernel
theorem dX9_shift_72 : decode cX9_shift 72 = .ok (.ifCond .lt 35, 3) := by decide +kernel
theorem dX9_shift_75 : decode cX9_shift 75 = .ok (.iload 4, 2) := by decide +kernel
theorem dX9_shift_77 : decode cX9_shift 77 = .ok (.ifCond .lt 30, 3) := by decide +kernel
theorem dX9_shift_80 : decode cX9_shift 80 = .ok (.iload_n 2, 1) := by decide +kernel
theorem dX9_shift_81 : decode cX9_shift 81 = .ok (.aload_n 0, 1) := by decide +kernel
theorem dX9_shift_82 : decode cX9_shift 82 = .ok (.getfield 82, 3) := by decide +kernel
theorem dX9_shift_85 : decode cX9_shift 85 = .ok (.iload_n 1, 1) := by decide +kernel
theorem dX9_shift_86 : decode cX9_shift 86 = .ok (.iaload, 1) := by decide +kernel
theorem dX9_shift_87 : decode cX9_shift 87 = .ok (.iload 5, 2) := by decide +kernel
theorem dX9_shift_89 : decode cX9_shift 89 = .ok (.isub, 1) := by decide +kernel
theorem dX9_shift_90 : decode cX9_shift 90 = .ok (.if_icmp .gt 17, 3) := by decide +kernel
theorem dX9_shift_93 : decode cX9_shift 93 = .ok (.iload 4, 2) := by decide +kernel
theorem dX9_shift_95 : decode cX9_shift 95 = .ok (.aload_n 0, 1) := by decide +kernel
theorem dX9_shift_96 : decode cX9_shift 96 = .ok (.getfield 82, 3) := by decide +kernel
theorem dX9_shift_99 : decode cX9_shift 99 = .ok (.iload_n 3, 1) := by decide +kernel
theorem dX9_shift_100 : decode cX9_shift 100 = .ok (.iaload, 1) := by decide +kernel
theorem dX9_shift_101 : decode cX9_shift 101 = .ok (.iload 5, 2) := by decide +kernel
theorem dX9_shift_103 : decode cX9_shift 103 = .ok (.isub, 1) := by decide +kernel
theorem dX9_shift_104 : decode cX9_shift 104 = .ok (.if_icmp .le 6, 3) := by decide +kernel
theorem dX9_shift_107 : decode cX9_shift 107 = .ok (.bipush (-13), 2) := by decide +kernel
theorem dX9_shift_109 : decode cX9_shift 109 = .ok (.ireturn, 1) := by decide +kernel
theorem dX9_shift_110 : decode cX9_shift 110 = .ok (.iconst 0, 1) := by decide +kernel
theorem dX9_shift_111 : decode cX9_shift 111 = .ok (.istore 6, 2) := by decide +kernel
theorem dX9_shift_113 : decode cX9_shift 113 = .ok (.iload 6, 2) := by decide +kernel
theorem dX9_shift_115 : decode cX9_shift 115 = .ok (.iload 5, 2) := by decide +kernel
theorem dX9_shift_117 : decode cX9_shift 117 = .ok (.if_icmp .ge 30, 3) := by decide +kernel
theorem dX9_shift_120 : decode cX9_shift 120 = .ok (.aload_n 0, 1) := by decide +kernel
theorem dX9_shift_121 : decode cX9_shift 121 = .ok (.getfield 89, 3) := by decide +kernel
theorem dX9_shift_124 : decode cX9_shift 124 = .ok (.iload 6, 2) := by decide +kernel
theorem dX9_shift_126 : decode cX9_shift 126 = .ok (.aload_n 0, 1) := by decide +kernel
theorem dX9_shift_127 : decode cX9_shift 127 = .ok (.getfield 85, 3) := by decide +kernel
theorem dX9_shift_130 : decode cX9_shift 130 = .ok (.bipush 60, 2) := by decide +kernel
theorem dX9_shift_132 : decode cX9_shift 132 = .ok (.iload_n 1, 1) := by decide +kernel
theorem dX9_shift_133 : decode cX9_shift 133 = .ok (.imul, 1) := by decide +kernel
theorem dX9_shift_134 : decode cX9_shift 134 = .ok (.iload_n 2, 1) := by decide +kernel
theorem dX9_shift_135 : decode cX9_shift 135 = .ok (.iadd, 1) := by decide +kernel
theorem dX9_shift_136 : decode cX9_shift 136 = .ok (.iload 6, 2) := by decide +kernel
theorem dX9_shift_138 : decode cX9_shift 138 = .ok (.iadd, 1) := by decide +kernel
theorem dX9_shift_139 : decode cX9_shift 139 = .ok (.laload, 1) := by decide +kernel
theorem dX9_shift_140 : decode cX9_shift 140 = .ok (.lastore, 1) := by decide +kernel
theorem dX9_shift_141 : decode cX9_shift 141 = .ok (.iinc 6 1, 3) := by decide +kernel
theorem dX9_shift_144 : decode cX9_shift 144 = .ok (.goto (-31), 3) := by decide +kernel
theorem dX9_shift_147 : decode cX9_shift 147 = .ok (.iconst 0, 1) := by decide +kernel
theorem dX9_shift_148 : decode cX9_shift 148 = .ok (.istore 6, 2) := by decide +kernel
theorem dX9_shift_150 : decode cX9_shift 150 = .ok (.iload 6, 2) := by decide +kernel
theorem dX9_shift_152 : decode cX9_shift 152 = .ok (.iload 5, 2) := by decide +kernel
theorem dX9_shift_154 : decode cX9_shift 154 = .ok (.if_icmp .ge 31, 3) := by decide +kernel
theorem dX9_shift_157 : decode cX9_shift 157 = .ok (.aload_n 0, 1) := by decide +kernel
theorem dX9_shift_158 : decode cX9_shift 158 = .ok (.getfield 85, 3) := by decide +kernel
theorem dX9_shift_161 : decode cX9_shift 161 = .ok (.bipush 60, 2) := by decide +kernel
theorem dX9_shift_163 : decode cX9_shift 163 = .ok (.iload_n 3, 1) := by decide +kernel
theorem dX9_shift_164 : decode cX9_shift 164 = .ok (.imul, 1) := by decide +kernel
theorem dX9_shift_165 : decode cX9_shift 165 = .ok (.iload 4, 2) := by decide +kernel
theorem dX9_shift_167 : decode cX9_shift 167 = .ok (.iadd, 1) := by decide +kernel
theorem dX9_shift_168 : decode cX9_shift 168 = .ok (.iload 6, 2) := by decide +kernel
theorem dX9_shift_170 : decode cX9_shift 170 = .ok (.iadd, 1) := by decide +kernel
theorem dX9_shift_171 : decode cX9_shift 171 = .ok (.aload_n 0, 1) := by decide +kernel
theorem dX9_shift_172 : decode cX9_shift 172 = .ok (.getfield 89, 3) := by decide +kernel
theorem dX9_shift_175 : decode cX9_shift 175 = .ok (.iload 6, 2) := by decide +kernel
theorem dX9_shift_177 : decode cX9_shift 177 = .ok (.laload, 1) := by decide +kernel
theorem dX9_shift_178 : decode cX9_shift 178 = .ok (.lastore, 1) := by decide +kernel
theorem dX9_shift_179 : decode cX9_shift 179 = .ok (.iinc 6 1, 3) := by decide +kernel
theorem dX9_shift_182 : decode cX9_shift 182 = .ok (.goto (-32), 3) := by decide +kernel
theorem dX9_shift_185 : decode cX9_shift 185 = .ok (.iload 5, 2) := by decide +kernel
theorem dX9_shift_187 : decode cX9_shift 187 = .ok (.ireturn, 1) := by decide +kernel
theorem dX9_taken_0 : decode cX9_taken 0 = .ok (.iload_n 1, 1) := by decide +kernel
theorem dX9_taken_1 : decode cX9_taken 1 = .ok (.invokestatic 239, 3) := by decide +kernel
theorem dX9_taken_4 : decode cX9_taken 4 = .ok (.ifCond .eq 15, 3) := by decide +kernel
theorem dX9_taken_7 : decode cX9_taken 7 = .ok (.iload_n 2, 1) := by decide +kernel
theorem dX9_taken_8 : decode cX9_taken 8 = .ok (.i2l, 1) := by decide +kernel
theorem dX9_taken_9 : decode cX9_taken 9 = .ok (.lconst 0, 1) := by decide +kernel
theorem dX9_taken_10 : decode cX9_taken 10 = .ok (.ldc2_w 319, 3) := by decide +kernel
theorem dX9_taken_13 : decode cX9_taken 13 = .ok (.invokestatic 102, 3) := by decide +kernel
theorem dX9_taken_16 : decode cX9_taken 16 = .ok (.ifCond .ne 5, 3) := by decide +kernel
theorem dX9_taken_19 : decode cX9_taken 19 = .ok (.iconst (-1), 1) := by decide +kernel
theorem dX9_taken_20 : decode cX9_taken 20 = .ok (.ireturn, 1) := by decide +kernel
theorem dX9_taken_21 : decode cX9_taken 21 = .ok (.aload_n 0, 1) := by decide +kernel
theorem dX9_taken_22 : decode cX9_taken 22 = .ok (.getfield 79, 3) := by decide +kernel
theorem dX9_taken_25 : decode cX9_taken 25 = .ok (.iload_n 1, 1) := by decide +kernel
theorem dX9_taken_26 : decode cX9_taken 26 = .ok (.iaload, 1) := by decide +kernel
theorem dX9_taken_27 : decode cX9_taken 27 = .ok (.ifCond .ge 6, 3) := by decide +kernel
theorem dX9_taken_30 : decode cX9_taken 30 = .ok (.bipush (-11), 2) := by decide +kernel
theorem dX9_taken_32 : decode cX9_taken 32 = .ok (.ireturn, 1) := by decide +kernel
theorem dX9_taken_33 : decode cX9_taken 33 = .ok (.aload_n 0, 1) := by decide +kernel
theorem dX9_taken_34 : decode cX9_taken 34 = .ok (.getfield 79, 3) := by decide +kernel
theorem dX9_taken_37 : decode cX9_taken 37 = .ok (.iload_n 1, 1) := by decide +kernel
theorem dX9_taken_38 : decode cX9_taken 38 = .ok (.iaload, 1) := by decide +kernel
theorem dX9_taken_39 : decode cX9_taken 39 = .ok (.bipush 50, 2) := by decide +kernel
theorem dX9_taken_41 : decode cX9_taken 41 = .ok (.if_icmp .lt 6, 3) := by decide +kernel
theorem dX9_taken_44 : decode cX9_taken 44 = .ok (.bipush (-12), 2) := by decide +kernel
theorem dX9_taken_46 : decode cX9_taken 46 = .ok (.ireturn, 1) := by decide +kernel
theorem dX9_taken_47 : decode cX9_taken 47 = .ok (.aload_n 0, 1) := by decide +kernel
theorem dX9_taken_48 : decode cX9_taken 48 = .ok (.aload_n 0, 1) := by decide +kernel
theorem dX9_taken_49 : decode cX9_taken 49 = .ok (.getfield 79, 3) := by decide +kernel
theorem dX9_taken_52 : decode cX9_taken 52 = .ok (.iload_n 1, 1) := by decide +kernel
theorem dX9_taken_53 : decode cX9_taken 53 = .ok (.iaload, 1) := by decide +kernel
theorem dX9_taken_54 : decode cX9_taken 54 = .ok (.invokevirtual 361, 3) := by decide +kernel
theorem dX9_taken_57 : decode cX9_taken 57 = .ok (.istore_n 3, 1) := by decide +kernel
theorem dX9_taken_58 : decode cX9_taken 58 = .ok (.iload_n 3, 1) := by decide +kernel
theorem dX9_taken_59 : decode cX9_taken 59 = .ok (.iload_n 2, 1) := by decide +kernel
theorem dX9_taken_60 : decode cX9_taken 60 = .ok (.if_icmp .eq 15, 3) := by decide +kernel
theorem dX9_taken_63 : decode cX9_taken 63 = .ok (.iload_n 3, 1) := by decide +kernel
theorem dX9_taken_64 : decode cX9_taken 64 = .ok (.ifCond .le 11, 3) := by decide +kernel
theorem dX9_taken_67 : decode cX9_taken 67 = .ok (.iload_n 3, 1) := by decide +kernel
theorem dX9_taken_68 : decode cX9_taken 68 = .ok (.invokestatic 364, 3) := by decide +kernel
theorem dX9_taken_71 : decode cX9_taken 71 = .ok (.istore_n 3, 1) := by decide +kernel
theorem dX9_taken_72 : decode cX9_taken 72 = .ok (.goto (-14), 3) := by decide +kernel
theorem dX9_taken_75 : decode cX9_taken 75 = .ok (.iload_n 3, 1) := by decide +kernel
theorem dX9_taken_76 : decode cX9_taken 76 = .ok (.iload_n 2, 1) := by decide +kernel
theorem dX9_taken_77 : decode cX9_taken 77 = .ok (.if_icmp .ne 16, 3) := by decide +kernel
theorem dX9_taken_80 : decode cX9_taken 80 = .ok (.aload_n 0, 1) := by decide +kernel
theorem dX9_taken_81 : decode cX9_taken 81 = .ok (.aload_n 0, 1) := by decide +kernel
theorem dX9_taken_82 : decode cX9_taken 82 = .ok (.getfield 79, 3) := by decide +kernel
theorem dX9_taken_85 : decode cX9_taken 85 = .ok (.iload_n 1, 1) := by decide +kernel
theorem dX9_taken_86 : decode cX9_taken 86 = .ok (.iaload, 1) := by decide +kernel
theorem dX9_taken_87 : decode cX9_taken 87 = .ok (.invokevirtual 361, 3) := by decide +kernel
theorem dX9_taken_90 : decode cX9_taken 90 = .ok (.goto 5, 3) := by decide +kernel
theorem dX9_taken_93 : decode cX9_taken 93 = .ok (.bipush (-12), 2) := by decide +kernel
theorem dX9_taken_95 : decode cX9_taken 95 = .ok (.ireturn, 1) := by decide +kernel
theorem dX9_count_0 : decode cX9_count 0 = .ok (.iload_n 1, 1) := by decide +kernel
theorem dX9_count_1 : decode cX9_count 1 = .ok (.tableswitch 78 0 6 #[43, 48, 53, 58, 63, 68, 73], 43) := by decide +kernel
theorem dX9_count_44 : decode cX9_count 44 = .ok (.aload_n 0, 1) := by decide +kernel
theorem dX9_count_45 : decode cX9_count 45 = .ok (.getfield 99, 3) := by decide +kernel
theorem dX9_count_48 : decode cX9_count 48 = .ok (.ireturn, 1) := by decide +kernel
theorem dX9_count_49 : decode cX9_count 49 = .ok (.aload_n 0, 1) := by decide +kernel
theorem dX9_count_50 : decode cX9_count 50 = .ok (.getfield 106, 3) := by decide +kernel
theorem dX9_count_53 : decode cX9_count 53 = .ok (.ireturn, 1) := by decide +kernel
theorem dX9_count_54 : decode cX9_count 54 = .ok (.aload_n 0, 1) := by decide +kernel
theorem dX9_count_55 : decode cX9_count 55 = .ok (.getfield 174, 3) := by decide +kernel
theorem dX9_count_58 : decode cX9_count 58 = .ok (.ireturn, 1) := by decide +kernel
theorem dX9_count_59 : decode cX9_count 59 = .ok (.aload_n 0, 1) := by decide +kernel
theorem dX9_count_60 : decode cX9_count 60 = .ok (.getfield 121, 3) := by decide +kernel
theorem dX9_count_63 : decode cX9_count 63 = .ok (.ireturn, 1) := by decide +kernel
theorem dX9_count_64 : decode cX9_count 64 = .ok (.aload_n 0, 1) := by decide +kernel
theorem dX9_count_65 : decode cX9_count 65 = .ok (.getfield 92, 3) := by decide +kernel
theorem dX9_count_68 : decode cX9_count 68 = .ok (.ireturn, 1) := by decide +kernel
theorem dX9_count_69 : decode cX9_count 69 = .ok (.aload_n 0, 1) := by decide +kernel
theorem dX9_count_70 : decode cX9_count 70 = .ok (.getfield 316, 3) := by decide +kernel
theorem dX9_count_73 : decode cX9_count 73 = .ok (.ireturn, 1) := by decide +kernel
theorem dX9_count_74 : decode cX9_count 74 = .ok (.aload_n 0, 1) := by decide +kernel
theorem dX9_count_75 : decode cX9_count 75 = .ok (.getfield 321, 3) := by decide +kernel
theorem dX9_count_78 : decode cX9_count 78 = .ok (.ireturn, 1) := by decide +kernel
theorem dX9_count_79 : decode cX9_count 79 = .ok (.iconst (-1), 1) := by decide +kernel
theorem dX9_count_80 : decode cX9_count 80 = .ok (.ireturn, 1) := by decide +kernel
end
section
/-! the layer over the kit's W: a heap of tokens -/
abbrev Tok : Type := Nat × Nat
abbrev PV : Type := Int32 ⊕ (Int64 ⊕ Option Tok)
abbrev Shp : Type := Tok → Nat × Nat
abbrev MI : Type := Tok → Nat → Int32
abbrev ML : Type := Tok → Nat → Int64
abbrev MR : Type := Tok → Nat → Option Tok
abbrev MInf : Type := MethodName × ByteArray × Nat × Option FieldType
def cv (ad : Tok → Nat) (v : PV) : Value := match v with
  | .inl x => .int x
  | .inr (.inl x) => .long x
  | .inr (.inr r) => va_rf (r.map ad)
def CN (c : Nat) : String := match c with
  | 0 => RX0 | 1 => RX1 | 2 => RX2 | 3 => RX3 | 4 => RX4 | 5 => RX5 | 6 => RX6 | 7 => RX7 | 8 => RX8 | _ => RX9
def TC (c : Nat) : u_T := match c with
  | 0 => TX0 | 1 => TX1 | 2 => TX2 | 3 => TX3 | 4 => TX4 | 5 => TX5 | 6 => TX6 | 7 => TX7 | 8 => TX8 | _ => TX9
def tyC (c : Nat) : Nat → FieldType := match c with
  | 0 => tyX0 | 1 => tyX1 | 2 => tyX2 | 3 => tyX3 | 4 => tyX4 | 5 => tyX5 | 6 => tyX6 | 7 => tyX7 | 8 => tyX8 | _ => tyX9
def nF (c : Nat) : Nat := match c with
  | 0 => 5 | 1 => 6 | 2 => 2 | 3 => 6 | 4 => 5 | 5 => 2 | 6 => 6 | 7 => 16 | 8 => 16 | _ => 45
def isI (t : FieldType) : Bool := match t with
  | .int => true
  | _ => false
theorem c10 {P : Nat → Prop} (h0 : P 0) (h1 : P 1) (h2 : P 2) (h3 : P 3) (h4 : P 4) (h5 : P 5) (h6 : P 6) (h7 : P 7) (h8 : P 8) (h9 : P 9) {c : Nat} (h : c < 10) : P c := by
  rcases (show c = 0 ∨ c = 1 ∨ c = 2 ∨ c = 3 ∨ c = 4 ∨ c = 5 ∨ c = 6 ∨ c = 7 ∨ c = 8 ∨ c = 9 by omega) with rfl | rfl | rfl | rfl | rfl | rfl | rfl | rfl | rfl | rfl <;> assumption
theorem cl_at {c : Nat} (h : c < 10) : vwCl[c]? = some (CN c, TC c, nF c) := c10 (P := fun c => vwCl[c]? = some (CN c, TC c, nF c)) rfl rfl rfl rfl rfl rfl rfl rfl rfl rfl h
theorem cl_jn0 : ∀ w ∈ u_ws RX0 TX0 5, w ∈ lw_tbl := by decide +kernel
theorem cl_kn0 : (u_ws RX0 TX0 5).all goodWord = true := by decide +kernel
theorem cl_jn1 : ∀ w ∈ u_ws RX1 TX1 6, w ∈ lw_tbl := by decide +kernel
theorem cl_kn1 : (u_ws RX1 TX1 6).all goodWord = true := by decide +kernel
theorem cl_jn2 : ∀ w ∈ u_ws RX2 TX2 2, w ∈ lw_tbl := by decide +kernel
theorem cl_kn2 : (u_ws RX2 TX2 2).all goodWord = true := by decide +kernel
theorem cl_jn3 : ∀ w ∈ u_ws RX3 TX3 6, w ∈ lw_tbl := by decide +kernel
theorem cl_kn3 : (u_ws RX3 TX3 6).all goodWord = true := by decide +kernel
theorem cl_jn4 : ∀ w ∈ u_ws RX4 TX4 5, w ∈ lw_tbl := by decide +kernel
theorem cl_kn4 : (u_ws RX4 TX4 5).all goodWord = true := by decide +kernel
theorem cl_jn5 : ∀ w ∈ u_ws RX5 TX5 2, w ∈ lw_tbl := by decide +kernel
theorem cl_kn5 : (u_ws RX5 TX5 2).all goodWord = true := by decide +kernel
theorem cl_jn6 : ∀ w ∈ u_ws RX6 TX6 6, w ∈ lw_tbl := by decide +kernel
theorem cl_kn6 : (u_ws RX6 TX6 6).all goodWord = true := by decide +kernel
theorem cl_jn7 : ∀ w ∈ u_ws RX7 TX7 16, w ∈ lw_tbl := by decide +kernel
theorem cl_kn7 : (u_ws RX7 TX7 16).all goodWord = true := by decide +kernel
theorem cl_jn8 : ∀ w ∈ u_ws RX8 TX8 16, w ∈ lw_tbl := by decide +kernel
theorem cl_kn8 : (u_ws RX8 TX8 16).all goodWord = true := by decide +kernel
theorem cl_jn9 : ∀ w ∈ u_ws RX9 TX9 45, w ∈ lw_tbl := by decide +kernel
theorem cl_kn9 : (u_ws RX9 TX9 45).all goodWord = true := by decide +kernel
/-- the words that go with every method -/
def GW : List Cond := lw_tbl.filter goodWord
theorem mg {w : Cond} (h : w ∈ lw_tbl) (g : goodWord w = true) : w ∈ GW := List.mem_filter.mpr ⟨h, g⟩
theorem tbl_gi (ws : List Cond) (h : ∀ w ∈ ws, w ∈ GW) : GoodIn GW ws := fun w hw => ⟨h w hw, good_of_word (List.mem_filter.mp (h w hw)).2⟩
/-- the words that go by themselves -/
def XW (U : State) : Prop := (va_Nw (.methodLinkNest RX8 9 yX5_init RX8) U ∧ va_Nw (.methodLinkNest RX8 18 yX6_init RX8) U ∧ va_Nw (.methodLinkNest RX8 37 yX1_init RX8) U ∧ va_Nw (.methodLinkNest RX8 44 yX0_init RX8) U ∧ va_Nw (.methodLinkNest RX8 87 yX4_init RX8) U) ∧ (va_AO "EightWorlds$Law" U ∧ va_AO "EightWorlds$World" U ∧ va_AO "EightWorlds$Shelf" U) ∧ va_Nw (.castable "[I" "java/lang/Cloneable") U
theorem XW.warm {s U : State} (hW : s.WarmedH U.vm) (h : XW s) : XW U := by
  obtain ⟨⟨h1, h2, h3, h4, h5⟩, ⟨h6, h7, h8⟩, h9⟩ := h
  exact ⟨⟨va_Nw.warmM hW h1, va_Nw.warmM hW h2, va_Nw.warmM hW h3, va_Nw.warmM hW h4, va_Nw.warmM hW h5⟩, ⟨h6.moved hW.alike, h7.moved hW.alike, h8.moved hW.alike⟩, va_Nw.warmC hW h9⟩
theorem XW.same {u U : State} (e : u.vm = U.vm) (h : XW u) : XW U := by
  obtain ⟨⟨h1, h2, h3, h4, h5⟩, ⟨h6, h7, h8⟩, h9⟩ := h
  have ha : u.vm.Alike U.vm := by rw [e]; exact Vm.Alike.refl U.vm
  exact ⟨⟨h1.same rfl e, h2.same rfl e, h3.same rfl e, h4.same rfl e, h5.same rfl e⟩, ⟨h6.moved ha, h7.moved ha, h8.moved ha⟩, h9.same rfl e⟩
theorem cl_in {c : Nat} (h : c < 10) : ∀ w ∈ u_ws (CN c) (TC c) (nF c), w ∈ GW := c10 (P := fun c => ∀ w ∈ u_ws (CN c) (TC c) (nF c), w ∈ GW) (fun w h => mg (cl_jn0 w h) (List.all_eq_true.mp cl_kn0 w h)) (fun w h => mg (cl_jn1 w h) (List.all_eq_true.mp cl_kn1 w h)) (fun w h => mg (cl_jn2 w h) (List.all_eq_true.mp cl_kn2 w h)) (fun w h => mg (cl_jn3 w h) (List.all_eq_true.mp cl_kn3 w h)) (fun w h => mg (cl_jn4 w h) (List.all_eq_true.mp cl_kn4 w h)) (fun w h => mg (cl_jn5 w h) (List.all_eq_true.mp cl_kn5 w h)) (fun w h => mg (cl_jn6 w h) (List.all_eq_true.mp cl_kn6 w h)) (fun w h => mg (cl_jn7 w h) (List.all_eq_true.mp cl_kn7 w h)) (fun w h => mg (cl_jn8 w h) (List.all_eq_true.mp cl_kn8 w h)) (fun w h => mg (cl_jn9 w h) (List.all_eq_true.mp cl_kn9 w h)) h
theorem cl_ty {c : Nat} (h : c < 10) : ∀ k, k < nF c → parseFieldDescriptor (TC c k).2.2.1 = some (tyC c k) := c10 (P := fun c => ∀ k, k < nF c → parseFieldDescriptor (TC c k).2.2.1 = some (tyC c k)) tyX0_ok tyX1_ok tyX2_ok tyX3_ok tyX4_ok tyX5_ok tyX6_ok tyX7_ok tyX8_ok tyX9_ok h
theorem cl_nm {c : Nat} (h : c < 10) : ∀ a, a < nF c → ∀ b, b < nF c → a ≠ b → (TC c a).2.1 ≠ (TC c b).2.1 := c10 (P := fun c => ∀ a, a < nF c → ∀ b, b < nF c → a ≠ b → (TC c a).2.1 ≠ (TC c b).2.1) nmX0 nmX1 nmX2 nmX3 nmX4 nmX5 nmX6 nmX7 nmX8 nmX9 h
def fsOf (ad : Tok → Nat) (c : Nat) (i : Nat → Int32) (r : Nat → Option Tok) : List Value := (List.range (nF c)).map (fun k => if isI (tyC c k) = true then .int (i k) else va_rf ((r k).map ad))
theorem fs_at {ad : Tok → Nat} {c : Nat} {i : Nat → Int32} {r : Nat → Option Tok} {k : Nat} (hk : k < nF c) : (fsOf ad c i r)[k]? = some (if isI (tyC c k) = true then .int (i k) else va_rf ((r k).map ad)) := by
  unfold fsOf
  rw [List.getElem?_map, List.getElem?_range hk]
  rfl
theorem fs_len {ad : Tok → Nat} {c : Nat} {i : Nat → Int32} {r : Nat → Option Tok} : (fsOf ad c i r).length = nF c := by
  unfold fsOf
  rw [List.length_map, List.length_range]
def cellOf (cA : Nat → ClassId) (ad : Tok → Nat) (sh : Nat × Nat) (i : Nat → Int32) (l : Nat → Int64) (r : Nat → Option Tok) : va_E := match sh.1 with
  | 1 => .inl (cA 0, sh.2, .inl i)
  | 2 => .inl (cA 1, sh.2, .inl i)
  | 3 => .inl (cA 2, sh.2, .inr (.inl l))
  | 4 => .inl (cA 3, sh.2, .inr (.inr (.inr (.inr (fun j => (r j).map ad)))))
  | 5 => .inl (cA 4, sh.2, .inr (.inr (.inr (.inr (fun j => (r j).map ad)))))
  | 6 => .inl (cA 5, sh.2, .inr (.inr (.inr (.inr (fun j => (r j).map ad)))))
  | n + 10 => .inr (n, fsOf ad n i r)
  | _ => .inr (0, [])
theorem cellOf_obj {cA : Nat → ClassId} {ad : Tok → Nat} {c n : Nat} {i : Nat → Int32} {l : Nat → Int64} {r : Nat → Option Tok} : cellOf cA ad (c + 10, n) i l r = .inr (c, fsOf ad c i r) := rfl
def tysOf (cA : Nat → ClassId) : List (ClassId × FieldType) := [(cA 0, .int), (cA 1, .byte), (cA 2, .long), (cA 3, .object "EightWorlds$Law"), (cA 4, .object "EightWorlds$Shelf"), (cA 5, .object "EightWorlds$World")]
def wsOf (cA : Nat → ClassId) (ad : Tok → Nat) (tk : List Tok) (S : Shp) (I : MI) (L : ML) (R : MR) : va_W := tk.map (fun t => (ad t, cellOf cA ad (S t) (I t) (L t) (R t)))
def wr (sh : Nat × Nat) : Prop := sh.1 ≠ 0 ∧ sh.1 ≠ 7
def upT {α : Type} (f : Tok → α) (t : Tok) (v : α) : Tok → α := fun t' => if t' = t then v else f t'
theorem upT_s {α : Type} (f : Tok → α) (t : Tok) (v : α) : upT f t v t = v := if_pos rfl
theorem upT_n {α : Type} (f : Tok → α) {t t' : Tok} (h : t' ≠ t) (v : α) : upT f t v t' = f t' := if_neg h
def upM {α : Type} (I : Tok → Nat → α) (t : Tok) (k : Nat) (v : α) : Tok → Nat → α := fun t' j => if t' = t ∧ j = k then v else I t' j
theorem upM_s {α : Type} (I : Tok → Nat → α) (t : Tok) (k : Nat) (v : α) : upM I t k v t k = v := if_pos ⟨rfl, rfl⟩
theorem upM_n {α : Type} (I : Tok → Nat → α) {t t' : Tok} (h : t' ≠ t) (k : Nat) (v : α) : upM I t k v t' = I t' := funext fun _ => if_neg fun q => h q.1
theorem upM_k {α : Type} (I : Tok → Nat → α) (t : Tok) {j k : Nat} (h : j ≠ k) (v : α) : upM I t k v t j = I t j := if_neg fun q => h q.2
theorem upM_r {α : Type} (I : Tok → Nat → α) (t : Tok) (k : Nat) (v : α) : upM I t k v t = fun j => if j = k then v else I t j := funext fun j => by
  by_cases h : j = k
  · subst h; simp [upM]
  · simp [upM, h]
def RO (B : Nat) (ad : Tok → Nat) (S : Shp) (I : MI) (U : State) (H : Heap) : Prop :=
  (va_Z "EightWorlds$Odds" "STEPS" "[I" (.ref (ad (36, 0))) (fun q => B ≤ q) U H ∧ va_Z "EightWorlds$Acts" "ABOVE" "[I" (.ref (ad (37, 0))) (fun q => B ≤ q) U H ∧ va_Z "EightWorlds$Acts" "BODIES" "[I" (.ref (ad (38, 0))) (fun q => B ≤ q) U H) ∧ ((S (36, 0)).1 = 7 ∧ (S (37, 0)).1 = 7 ∧ (S (38, 0)).1 = 7) ∧ ∀ t, (S t).1 = 7 → ad t < B ∧ va_X (ad t) (S t).2 (I t) U H
def REL (D : va_G) (cA : Nat → ClassId) (B : Nat) (ad : Tok → Nat) (tk : List Tok) (S : Shp) (I : MI) (L : ML) (R : MR) (U : State) (H : Heap) : Prop :=
  va_P D vwCl (wsOf cA ad tk S I L R) H ∧ va_D (fun q => B ≤ q) (wsOf cA ad tk S I L R) ∧ va_K D vwCl (tysOf cA) U ∧ B ≤ H.size ∧ tk.Nodup ∧ (∀ t, t ∈ tk ↔ wr (S t)) ∧ RO B ad S I U H ∧ ∀ t k t', (S t).1 ≠ 0 → R t k = some t' → (S t').1 ≠ 0
theorem RO.moved {B : Nat} {ad : Tok → Nat} {S : Shp} {I : MI} {u U : State} {H : Heap} (hvm : u.vm.Alike U.vm) (h : RO B ad S I u H) : RO B ad S I U H := by
  obtain ⟨⟨h1, h2, h3⟩, h4, h5⟩ := h
  exact ⟨⟨h1.moved hvm, h2.moved hvm, h3.moved hvm⟩, h4, fun t ht => ⟨(h5 t ht).1, (h5 t ht).2.moved hvm⟩⟩
theorem RO.kept {B : Nat} {ad : Tok → Nat} {S : Shp} {I : MI} {U : State} {H H1 : Heap} (hB : B ≤ H.size) (h : RO B ad S I U H) (hq : ∀ a : Nat, a < B → H1[a]? = H[a]?) : RO B ad S I U H1 := by
  obtain ⟨⟨h1, h2, h3⟩, h4, h5⟩ := h
  have hq' : ∀ a : Nat, a < H.size → ¬ B ≤ a → H1[a]? = H[a]? := fun a _ hn => hq a (Nat.not_le.mp hn)
  exact ⟨⟨h1.kept hq', h2.kept hq', h3.kept hq'⟩, h4, fun t ht => ⟨(h5 t ht).1, (h5 t ht).2.kept (hq _ (h5 t ht).1)⟩⟩
theorem REL.moved {D : va_G} {cA : Nat → ClassId} {B : Nat} {ad : Tok → Nat} {tk : List Tok} {S : Shp} {I : MI} {L : ML} {R : MR} {u U : State} {H : Heap} (hvm : u.vm.Alike U.vm) (h : REL D cA B ad tk S I L R u H) : REL D cA B ad tk S I L R U H := by
  obtain ⟨h1, h2, h3, h4, h5, h6, h7, h8⟩ := h
  exact ⟨h1, h2, va_K.moved hvm h3, h4, h5, h6, h7.moved hvm, h8⟩
/-- a list of cells, one changed -/
theorem map_set {α β : Type} {tk : List α} (hn : tk.Nodup) {q0 : Nat} {t : α} (hq : tk[q0]? = some t) {f g : α → β} (h : ∀ t', t' ≠ t → g t' = f t') : (tk.map f).set q0 (g t) = tk.map g := by
  apply List.ext_getElem?
  intro i
  have hl := (List.getElem?_eq_some_iff.mp hq).1
  by_cases hi : q0 = i
  · subst hi
    rw [List.getElem?_set_self (by rw [List.length_map]; exact hl), List.getElem?_map, hq]
    rfl
  · rw [List.getElem?_set_ne hi, List.getElem?_map, List.getElem?_map]
    cases h' : tk[i]? with
    | none => rfl
    | some t' =>
      have hne : t' ≠ t := by
        intro e
        subst e
        exact hi ((List.getElem?_inj hl hn).mp (hq.trans h'.symm))
      show some (f t') = some (g t')
      rw [h t' hne]
theorem ws_at {cA : Nat → ClassId} {ad : Tok → Nat} {tk : List Tok} {S : Shp} {I : MI} {L : ML} {R : MR} {t : Tok} (h : t ∈ tk) : ∃ q0 : Nat, tk[q0]? = some t ∧ (wsOf cA ad tk S I L R)[q0]? = some (ad t, cellOf cA ad (S t) (I t) (L t) (R t)) := by
  obtain ⟨q0, hq⟩ := List.getElem?_of_mem h
  exact ⟨q0, hq, by unfold wsOf; rw [List.getElem?_map, hq]; rfl⟩
/-- a write to one cell of the heap's own -/
theorem REL.put {D : va_G} {cA : Nat → ClassId} {B : Nat} {ad : Tok → Nat} {tk : List Tok} {S : Shp} {I I' : MI} {L L' : ML} {R R' : MR} {U : State} {H H1 H0 : Heap} {locs locs1 : List Loc} (h : REL D cA B ad tk S I L R U H) {t : Tok} {q0 : Nat} (hq : tk[q0]? = some t)
    (hI : ∀ t', t' ≠ t → I' t' = I t') (hL : ∀ t', t' ≠ t → L' t' = L t') (hR : ∀ t', t' ≠ t → R' t' = R t') (hcl : ∀ k t', R' t k = some t' → (S t').1 ≠ 0)
    (hP : va_P D vwCl ((wsOf cA ad tk S I L R).set q0 (ad t, cellOf cA ad (S t) (I' t) (L' t) (R' t))) H1) (hD : va_D (fun q => B ≤ q) ((wsOf cA ad tk S I L R).set q0 (ad t, cellOf cA ad (S t) (I' t) (L' t) (R' t))))
    (hS : va_S (fun q => B ≤ q) H0 H locs) (hS1 : va_S (fun q => B ≤ q) H0 H1 locs1) (hB : B ≤ H0.size) : REL D cA B ad tk S I' L' R' U H1 := by
  obtain ⟨-, -, h3, h4, h5, h6, h7, h8⟩ := h
  have e : (wsOf cA ad tk S I L R).set q0 (ad t, cellOf cA ad (S t) (I' t) (L' t) (R' t)) = wsOf cA ad tk S I' L' R' :=
    map_set h5 hq (f := fun t => (ad t, cellOf cA ad (S t) (I t) (L t) (R t))) (g := fun t => (ad t, cellOf cA ad (S t) (I' t) (L' t) (R' t))) (fun t' hne => by show (ad t', _) = (ad t', _); rw [hI t' hne, hL t' hne, hR t' hne])
  rw [e] at hP hD
  have ht := (h6 t).mp (List.mem_of_getElem? hq)
  refine ⟨hP, hD, h3, Nat.le_trans hB hS1.1, h5, h6, ?_, ?_⟩
  · have h9 := h7.kept h4 (H1 := H1) (fun a ha => (hS1.2.1 a (Nat.lt_of_lt_of_le ha hB) (Nat.not_le.mpr ha)).trans (hS.2.1 a (Nat.lt_of_lt_of_le ha hB) (Nat.not_le.mpr ha)).symm)
    refine ⟨h9.1, h9.2.1, fun t' ht' => ?_⟩
    rw [hI t' (fun e => ht.2 (e ▸ ht'))]
    exact h9.2.2 t' ht'
  · intro t' k t'' hs hr
    by_cases e : t' = t
    · subst e; exact hcl k t'' hr
    · rw [hR t' e] at hr; exact h8 t' k t'' hs hr
/-- a new cell -/
theorem REL.push {D : va_G} {cA : Nat → ClassId} {B : Nat} {ad : Tok → Nat} {tk : List Tok} {S : Shp} {I I' : MI} {L L' : ML} {R R' : MR} {U : State} {H H1 H0 : Heap} {locs locs1 : List Loc} (h : REL D cA B ad tk S I L R U H) {t : Tok} {q : Nat} {sh : Nat × Nat} (ht : (S t).1 = 0) (hsh : wr sh)
    (hI : ∀ t', t' ≠ t → I' t' = I t') (hL : ∀ t', t' ≠ t → L' t' = L t') (hR : ∀ t', t' ≠ t → R' t' = R t') (hcl : ∀ k, R' t k = none)
    (hP : va_P D vwCl (wsOf cA ad tk S I L R ++ [(q, cellOf cA (upT ad t q) sh (I' t) (L' t) (R' t))]) H1) (hD : va_D (fun q => B ≤ q) (wsOf cA ad tk S I L R ++ [(q, cellOf cA (upT ad t q) sh (I' t) (L' t) (R' t))]))
    (hS : va_S (fun q => B ≤ q) H0 H locs) (hS1 : va_S (fun q => B ≤ q) H0 H1 locs1) (hB : B ≤ H0.size) : REL D cA B (upT ad t q) (tk ++ [t]) (upT S t sh) I' L' R' U H1 := by
  obtain ⟨-, -, h3, h4, h5, h6, h7, h8⟩ := h
  have hnt : t ∉ tk := fun hm => ((h6 t).mp hm).1 ht
  have hmap : ∀ (r : Nat → Option Tok), (∀ k t', r k = some t' → (S t').1 ≠ 0) → (fun j => (r j).map (upT ad t q)) = fun j => (r j).map ad := by
    intro r hr
    funext j
    cases e : r j with
    | none => rfl
    | some t' =>
      have hne : t' ≠ t := fun e2 => hr j t' e (e2 ▸ ht)
      show some (upT ad t q t') = some (ad t')
      rw [upT_n _ hne]
  have hcell : ∀ (x : Nat × Nat) (i : Nat → Int32) (l : Nat → Int64) (r : Nat → Option Tok), (∀ k t', r k = some t' → (S t').1 ≠ 0) → cellOf cA (upT ad t q) x i l r = cellOf cA ad x i l r := by
    intro x i l r hr
    have e := hmap r hr
    have e2 : ∀ c, fsOf (upT ad t q) c i r = fsOf ad c i r := by
      intro c
      unfold fsOf
      apply List.map_congr_left
      intro k _
      rw [show (r k).map (upT ad t q) = (r k).map ad from congrFun e k]
    unfold cellOf
    split <;> first | rfl | rw [e] | rw [e2]
  have e : wsOf cA ad tk S I L R ++ [(q, cellOf cA (upT ad t q) sh (I' t) (L' t) (R' t))] = wsOf cA (upT ad t q) (tk ++ [t]) (upT S t sh) I' L' R' := by
    unfold wsOf
    rw [List.map_append]
    congr 1
    · apply List.map_congr_left
      intro t' hm
      have hne : t' ≠ t := fun e2 => hnt (e2 ▸ hm)
      rw [upT_n _ hne, upT_n _ hne, hI t' hne, hL t' hne, hR t' hne, hcell _ _ _ _ (fun k t'' hk => h8 t' k t'' ((h6 t').mp hm).1 hk)]
    · simp [upT_s]
  rw [e] at hP hD
  refine ⟨hP, hD, h3, Nat.le_trans hB hS1.1, ?_, ?_, ?_, ?_⟩
  · rw [List.nodup_append]
    refine ⟨h5, by simp, ?_⟩
    intro a ha b hb e2
    rw [List.mem_singleton.mp hb] at e2
    exact hnt (e2 ▸ ha)
  · intro t'
    by_cases e2 : t' = t
    · subst e2
      rw [upT_s]
      exact ⟨fun _ => hsh, fun _ => by simp⟩
    · rw [upT_n _ e2, ← h6 t']
      simp [e2]
  · have h9 := h7.kept h4 (H1 := H1) (fun a ha => (hS1.2.1 a (Nat.lt_of_lt_of_le ha hB) (Nat.not_le.mpr ha)).trans (hS.2.1 a (Nat.lt_of_lt_of_le ha hB) (Nat.not_le.mpr ha)).symm)
    have key : ∀ t', (S t').1 ≠ 0 → upT ad t q t' = ad t' ∧ upT S t sh t' = S t' ∧ t' ≠ t := by
      intro t' h'
      have hne : t' ≠ t := fun e2 => h' (e2 ▸ ht)
      exact ⟨upT_n _ hne _, upT_n _ hne _, hne⟩
    have n7 : ∀ t', (S t').1 = 7 → (S t').1 ≠ 0 := fun t' h' => by rw [h']; decide
    obtain ⟨⟨z1, z2, z3⟩, ⟨s1, s2, s3⟩, z4⟩ := h9
    refine ⟨⟨?_, ?_, ?_⟩, ⟨?_, ?_, ?_⟩, ?_⟩
    · rw [(key _ (n7 _ s1)).1]; exact z1
    · rw [(key _ (n7 _ s2)).1]; exact z2
    · rw [(key _ (n7 _ s3)).1]; exact z3
    · rw [(key _ (n7 _ s1)).2.1]; exact s1
    · rw [(key _ (n7 _ s2)).2.1]; exact s2
    · rw [(key _ (n7 _ s3)).2.1]; exact s3
    · intro t' ht'
      have hne : t' ≠ t := by
        intro e2
        subst e2
        rw [upT_s] at ht'
        exact hsh.2 ht'
      rw [upT_n _ hne] at ht' ⊢
      rw [upT_n _ hne, hI t' hne]
      exact z4 t' ht'
  · intro t' k t'' hs hr
    by_cases e2 : t' = t
    · subst e2
      rw [hcl k] at hr
      cases hr
    · rw [upT_n _ e2] at hs
      rw [hR t' e2] at hr
      have hs2 := h8 t' k t'' hs hr
      have hne : t'' ≠ t := fun e3 => hs2 (e3 ▸ ht)
      rw [upT_n _ hne]
      exact hs2

/-! the judgement -/
def nl (x : Option PV) : Bool := match x with
  | some (.inr (.inl _)) => false
  | _ => true
def lvl (ad : Tok → Nat) : Nat → List (Option PV) → List (Nat × Value)
  | _, [] => []
  | i, none :: r => lvl ad (i + 1) r
  | i, some v :: r => (i, cv ad v) :: lvl ad (i + 1) r
theorem lvl_mem {ad : Tok → Nat} : ∀ {lv : List (Option PV)} {b i : Nat} {q : Value}, (i, q) ∈ lvl ad b lv ↔ ∃ j v, i = b + j ∧ lv[j]? = some (some v) ∧ q = cv ad v
  | [], b, i, q => by
    constructor
    · intro h; cases h
    · rintro ⟨j, v, -, h, -⟩; simp at h
  | none :: r, b, i, q => by
    rw [show lvl ad b (none :: r) = lvl ad (b + 1) r from rfl, lvl_mem]
    constructor
    · rintro ⟨j, v, h1, h2, h3⟩
      exact ⟨j + 1, v, by omega, by simpa using h2, h3⟩
    · rintro ⟨j, v, h1, h2, h3⟩
      cases j with
      | zero => simp at h2
      | succ j => exact ⟨j, v, by omega, by simpa using h2, h3⟩
  | some x :: r, b, i, q => by
    rw [show lvl ad b (some x :: r) = (b, cv ad x) :: lvl ad (b + 1) r from rfl, List.mem_cons, lvl_mem]
    constructor
    · rintro (h | ⟨j, v, h1, h2, h3⟩)
      · cases h
        exact ⟨0, x, by omega, by simp, rfl⟩
      · exact ⟨j + 1, v, by omega, by simpa using h2, h3⟩
    · rintro ⟨j, v, h1, h2, h3⟩
      cases j with
      | zero =>
        simp at h2
        subst h2
        exact Or.inl (by rw [h1, h3]; rfl)
      | succ j => exact Or.inr ⟨j, v, by omega, by simpa using h2, h3⟩
theorem lvl_get {ad : Tok → Nat} {ls : Array Slot} {nL : Nat} {lv : List (Option PV)} (h : lv_has ls nL (lvl ad 0 lv)) {j : Nat} {v : PV} (hj : lv[j]? = some (some v)) : ls[j]? = some (.val (cv ad v)) :=
  h.2.2 (j, cv ad v) (lvl_mem.mpr ⟨j, v, (Nat.zero_add j).symm, hj, rfl⟩)
theorem cv_cat {ad : Tok → Nat} {v : PV} (h : (cv ad v).category = 2) : nl (some v) = false := by
  rcases v with x | x | r
  · simp [cv, Value.category] at h
  · rfl
  · cases r <;> simp [cv, va_rf, Value.category] at h
theorem lvl_sub {ad : Tok → Nat} {ls : Array Slot} {nL : Nat} {lv lv' : List (Option PV)} (h : lv_has ls nL (lvl ad 0 lv)) (hs : ∀ (j : Nat) (v : PV), lv'[j]? = some (some v) → lv[j]? = some (some v)) : lv_has ls nL (lvl ad 0 lv') := by
  refine ⟨h.1, h.2.1, fun q hq => ?_⟩
  obtain ⟨i, x⟩ := q
  obtain ⟨j, v, h1, h2, h3⟩ := lvl_mem.mp hq
  exact h.2.2 _ (lvl_mem.mpr ⟨j, v, h1, hs j v h2, h3⟩)
/-- one slot stored -/
theorem lvl_st1 {ad : Tok → Nat} {ls' : Array Slot} {nL i : Nat} {lv : List (Option PV)} {v : PV} {V : Value} (hV : V = cv ad v) (h : lv_has ls' nL ((i, V) :: (lvl ad 0 lv).filter (fun q => !(q.1 == i) && !(q.1 + 1 == i && q.2.category == 2)))) (hp : ∀ j x, j + 1 = i → lv[j]? = some x → nl x = true) : lv_has ls' nL (lvl ad 0 (lv.set i (some v))) := by
  refine ⟨h.1, h.2.1, fun q hq => ?_⟩
  obtain ⟨k, x⟩ := q
  obtain ⟨j, w, h1, h2, h3⟩ := lvl_mem.mp hq
  rw [Nat.zero_add] at h1
  subst h1
  refine h.2.2 _ ?_
  by_cases e : i = k
  · subst e
    rw [List.getElem?_set_self'] at h2
    cases hh : lv[i]? with
    | none => rw [hh] at h2; simp at h2
    | some y =>
      rw [hh] at h2
      simp at h2
      subst h2
      rw [h3, ← hV]
      exact List.mem_cons_self
  · rw [List.getElem?_set_ne e] at h2
    refine List.mem_cons_of_mem _ (List.mem_filter.mpr ⟨lvl_mem.mpr ⟨k, w, (Nat.zero_add k).symm, h2, h3⟩, ?_⟩)
    have a1 : (k == i) = false := by simp; exact fun q => e q.symm
    have a2 : (k + 1 == i && x.category == 2) = false := by
      by_cases e2 : k + 1 = i
      · have hn := hp k (some w) e2 h2
        have : ¬ x.category = 2 := fun hc => by
          rw [h3] at hc
          rw [cv_cat hc] at hn
          cases hn
        simp [this]
      · simp [e2]
    simp only [a1, a2]
    rfl
/-- two slots stored -/
theorem lvl_st2 {ad : Tok → Nat} {ls' : Array Slot} {nL i : Nat} {lv : List (Option PV)} {v : PV} {V : Value} (hV : V = cv ad v) (h : lv_has ls' nL ((i, V) :: (lvl ad 0 lv).filter (fun q => !(q.1 == i) && (!(q.1 == i + 1) && !(q.1 + 1 == i && q.2.category == 2))))) (hp : ∀ j x, j + 1 = i → lv[j]? = some x → nl x = true) : lv_has ls' nL (lvl ad 0 ((lv.set i (some v)).set (i + 1) none)) := by
  refine ⟨h.1, h.2.1, fun q hq => ?_⟩
  obtain ⟨k, x⟩ := q
  obtain ⟨j, w, h1, h2, h3⟩ := lvl_mem.mp hq
  rw [Nat.zero_add] at h1
  subst h1
  refine h.2.2 _ ?_
  by_cases e0 : i + 1 = k
  · subst e0
    rw [List.getElem?_set_self'] at h2
    cases hh : (lv.set i (some v))[i + 1]? with
    | none => rw [hh] at h2; simp at h2
    | some y => rw [hh] at h2; simp at h2
  · rw [List.getElem?_set_ne e0] at h2
    by_cases e : i = k
    · subst e
      rw [List.getElem?_set_self'] at h2
      cases hh : lv[i]? with
      | none => rw [hh] at h2; simp at h2
      | some y =>
        rw [hh] at h2
        simp at h2
        subst h2
        rw [h3, ← hV]
        exact List.mem_cons_self
    · rw [List.getElem?_set_ne e] at h2
      refine List.mem_cons_of_mem _ (List.mem_filter.mpr ⟨lvl_mem.mpr ⟨k, w, (Nat.zero_add k).symm, h2, h3⟩, ?_⟩)
      have a1 : (k == i) = false := by simp; exact fun q => e q.symm
      have a0 : (k == i + 1) = false := by simp; exact fun q => e0 q.symm
      have a2 : (k + 1 == i && x.category == 2) = false := by
        by_cases e2 : k + 1 = i
        · have hn := hp k (some w) e2 h2
          have : ¬ x.category = 2 := fun hc => by
            rw [h3] at hc
            rw [cv_cat hc] at hn
            cases hn
          simp [this]
        · simp [e2]
      simp only [a0, a1, a2]
      rfl
def wfv (S : Shp) (v : PV) : Prop := match v with
  | .inr (.inr (some t)) => (S t).1 ≠ 0
  | _ => True
def wfl (S : Shp) (lv : List (Option PV)) : Prop := ∀ v, some v ∈ lv → wfv S v
def wfs (S : Shp) (st : List PV) : Prop := ∀ v, v ∈ st → wfv S v
def Cx (mi : MInf) (p : Program) (s : State) (m : MethodId) (args : Array Value) (meth : Method) (c : Code) : Prop :=
  p.tables.exec = Jvm.exec ∧ c.code = mi.2.1 ∧ c.maxLocals = mi.2.2.1 ∧ meth.sig.returnType = mi.2.2.2 ∧ s.vm.findClass mi.1.cls = some m.cls ∧ (∀ w ∈ GW, w.before args s = true) ∧ meth.locks = false ∧ meth.name = mi.1.name ∧ XW s
abbrev QF : Type := State → Array Value → List Frame → va_G → (Nat → ClassId) → Nat → (Tok → Nat) → Shp → State → Prop
abbrev PO : Type := Option PV → Shp → MI → ML → MR → Prop
def G (l : Launch) (mi : MInf) (Rm : Room) (Qf : QF) (k n pc : Nat) (lv : List (Option PV)) (st : List PV) (S : Shp) (I : MI) (L : ML) (R : MR) : Prop :=
  ∀ (D : va_G) (cA : Nat → ClassId) (B : Nat) (ad0 : Tok → Nat) (S0 : Shp) (p : Program) (e : Env) (s : State) (m : MethodId) (args : Array Value) (below : List Frame) (meth : Method) (c : Code) (ad : Tok → Nat) (tk : List Tok) (H : Heap) (locs : List Loc) (ls : Array Slot),
    Cx mi p s m args meth c → (∀ t, (S0 t).1 ≠ 0 → S t = S0 t ∧ ad t = ad0 t) → REL D cA B ad tk S I L R s H → va_S (fun q => B ≤ q) s.heap H locs → B ≤ s.heap.size → lv_has ls mi.2.2.1 (lvl ad 0 lv) → wfl S lv → wfs S st →
    W p l e Rm s m args below meth c H locs k n (Qf s args below D cA B ad0 S0) (F0 m pc ls (st.map (cv ad)))
def QC (D : va_G) (cA : Nat → ClassId) (B : Nat) (ad0 : Tok → Nat) (S0 : Shp) (post : PO) : Array Value → State → Outcome → State → Prop := fun _ st oc t =>
  (∃ (r : Option PV) (S' : Shp) (I' : MI) (L' : ML) (R' : MR) (ad' : Tok → Nat) (tk' : List Tok), oc = .returned (r.map (cv ad')) ∧ post r S' I' L' R' ∧ REL D cA B ad' tk' S' I' L' R' t t.heap ∧ (∀ t, (S0 t).1 ≠ 0 → S' t = S0 t ∧ ad' t = ad0 t) ∧ ∀ v, r = some v → wfv S' v) ∧ va_F (fun q => B ≤ q) st t
def QM (post : PO) (mc ms : Nat) : QF := fun s args below D cA B ad0 S0 => MQ below (QC D cA B ad0 S0 post) args s mc ms (fun q => B ≤ q)
def rmd (d mc ms : Nat) : Room := { frames := d, cells := mc, slots := ms, locals := 64 * d + 40 }
def Ct (l : Launch) (mi : MInf) (d mc ms : Nat) (av : List PV) (S : Shp) (I : MI) (L : ML) (R : MR) (post : PO) : Prop :=
  ∀ (D : va_G) (cA : Nat → ClassId) (B : Nat) (ad : Tok → Nat) (tk : List Tok), Met l mi.1 (Cond.code mi.1 mi.2.1 mi.2.2.1 mi.2.2.2 :: GW) (rmd d mc ms) (va_Pc (av.map (cv ad)) (fun U => REL D cA B ad tk S I L R U U.heap ∧ wfs S av ∧ XW U)) (QC D cA B ad S post) mc ms (fun q => B ≤ q)
/-- the locals at the entry -/
def lvE : List PV → List (Option PV)
  | [] => []
  | .inr (.inl x) :: r => some (.inr (.inl x)) :: none :: lvE r
  | v :: r => some v :: lvE r
theorem lvE_mem {ad : Tok → Nat} : ∀ (av : List PV) (b j : Nat) (v : PV), (lvE av)[j]? = some (some v) → (b + j, cv ad v) ∈ lv_args b (av.map (cv ad))
  | [], b, j, v, h => by simp [lvE] at h
  | .inl x :: r, b, j, v, h => by
    cases j with
    | zero =>
      simp [lvE] at h
      subst h
      simp [lv_args]
    | succ j =>
      have ih := lvE_mem (ad := ad) r (b + 1) j v (by simpa [lvE] using h)
      rw [show b + (j + 1) = b + 1 + j by omega]
      refine List.mem_cons_of_mem _ ?_
      simpa [lv_args, cv, Value.category] using ih
  | .inr (.inl x) :: r, b, j, v, h => by
    match j with
    | 0 =>
      simp [lvE] at h
      subst h
      simp [lv_args]
    | 1 => simp [lvE] at h
    | j + 2 =>
      have ih := lvE_mem (ad := ad) r (b + 2) j v (by simpa [lvE] using h)
      rw [show b + (j + 2) = b + 2 + j by omega]
      refine List.mem_cons_of_mem _ ?_
      simpa [lv_args, cv, Value.category] using ih
  | .inr (.inr x) :: r, b, j, v, h => by
    cases j with
    | zero =>
      simp [lvE] at h
      subst h
      simp [lv_args]
    | succ j =>
      have ih := lvE_mem (ad := ad) r (b + 1) j v (by simpa [lvE] using h)
      rw [show b + (j + 1) = b + 1 + j by omega]
      refine List.mem_cons_of_mem _ ?_
      cases x <;> simpa [lv_args, cv, va_rf, Value.category] using ih
theorem lvE_len {ad : Tok → Nat} : ∀ (av : List PV), (lg_sl (av.map (cv ad))).length = (lvE av).length
  | [] => rfl
  | .inl x :: r => by
    have ih := lvE_len (ad := ad) r
    simpa [lg_sl, lvE, cv, Value.category] using ih
  | .inr (.inl x) :: r => by
    have ih := lvE_len (ad := ad) r
    simpa [lg_sl, lvE, cv, Value.category] using ih
  | .inr (.inr x) :: r => by
    have ih := lvE_len (ad := ad) r
    cases x <;> simpa [lg_sl, lvE, cv, va_rf, Value.category] using ih
theorem lvE_wf {S : Shp} : ∀ (av : List PV), wfs S av → wfl S (lvE av)
  | [], _ => fun v h => by cases h
  | x :: r, h => by
    have ih := lvE_wf (S := S) r (fun v hv => h v (List.mem_cons_of_mem _ hv))
    have hx := h x List.mem_cons_self
    intro v hv
    rcases x with x | x | x <;> simp [lvE] at hv
    · rcases hv with rfl | hv
      · exact hx
      · exact ih v hv
    · rcases hv with rfl | hv
      · exact hx
      · exact ih v hv
    · rcases hv with rfl | hv
      · exact hx
      · exact ih v hv
/-- a contract out of a walk of the body -/
theorem Ct.of {l : Launch} {y : MethodName} {cc : ByteArray} {nL : Nat} {ret : Option FieldType} {d mc ms : Nat} {av : List PV} {S : Shp} {I : MI} {L : ML} {R : MR} {post : PO} (lv : List (Option PV)) (hy : plainName y.cls = true) (hlv : lvE av ++ List.replicate (nL - (lvE av).length) none = lv) (hle : (lvE av).length ≤ nL)
    (body : G l (y, cc, nL, ret) (rmd d mc ms) (QM post mc ms) 0 0 0 lv [] S I L R) : Ct l (y, cc, nL, ret) d mc ms av S I L R post := by
  intro D cA B ad tk
  refine Met.ofW (cc := cc) (maxL := nL) (ret := ret) hy rfl ?_
  intro p e s m args below meth c s₁ Bd hml hv
  obtain ⟨rfl, hrel, hwf, hxw⟩ := hv
  have hts := atoms_spec (ws := Cond.code y cc nL ret :: GW) Bd.pre
  have hl := lv_entry (av.map (cv ad)) (n := nL) (by rw [lvE_len]; exact hle)
  rw [lg_entry_eq]
  refine body D cA B ad S p e s m _ below meth c ad tk s.heap [] _ ⟨Bd.exec, Bd.bytes, hml, Bd.returns, findClass_of_methodNamed Bd.named, fun w hw => hts w (List.mem_cons_of_mem _ hw), Bd.notSynchronized, (name_of_methodNamed Bd.named Bd.method).1, hxw⟩ (fun t _ => ⟨rfl, rfl⟩) hrel va_S.rf hrel.2.2.2.1 ?_ ?_ (fun v hv => by cases hv)
  · refine ⟨hl.1, hl.2.1, fun q hq => hl.2.2 q ?_⟩
    obtain ⟨i, x⟩ := q
    obtain ⟨j, v, h1, h2, h3⟩ := lvl_mem.mp hq
    rw [Nat.zero_add] at h1
    subst h1
    rw [h3]
    have h4 : (lvE av)[i]? = some (some v) := by
      rw [← hlv] at h2
      by_cases hi : i < (lvE av).length
      · rwa [List.getElem?_append_left hi] at h2
      · rw [List.getElem?_append_right (Nat.not_lt.mp hi)] at h2
        have := List.mem_of_getElem? h2
        simp at this
    have := lvE_mem (ad := ad) av 0 i v h4
    rwa [Nat.zero_add] at this
  · intro v hv
    rw [← hlv] at hv
    rcases List.mem_append.mp hv with hv | hv
    · exact lvE_wf av hwf v hv
    · simp at hv
end
