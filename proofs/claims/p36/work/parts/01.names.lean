-- ===== PART A: goes FIRST, ahead of the names: the tables' words, and 'selects' of the private methods out of them =====
/-- a private method of a class that the tables say can be made, by its rows of tables_1 -/
def lw_okq (q : MethodName × Nat) : Prop := (q.1.cls ≠ "java/lang/invoke/MethodHandle" ∧ q.1.cls ≠ "java/lang/invoke/VarHandle") ∧ Cond.instantiable q.1.cls q.2 ∈ tables_1 ∧ Cond.privateMethod q.1 ∈ tables_1 ∧ Cond.instanceMethod q.1 ∈ tables_1
theorem lw_p0 : lw_okq (⟨"BlameIsFurniture$Text", "add", "(I)I"⟩, 2) := ⟨⟨by decide +kernel, by decide +kernel⟩, List.mem_of_getElem? (i := 79) (by decide +kernel), List.mem_of_getElem? (i := 198) (by decide +kernel), List.mem_of_getElem? (i := 199) (by decide +kernel)⟩
theorem lw_p1 : lw_okq (⟨"BlameIsFurniture", "answer", "(I)I"⟩, 9) := ⟨⟨by decide +kernel, by decide +kernel⟩, List.mem_of_getElem? (i := 16) (by decide +kernel), List.mem_of_getElem? (i := 202) (by decide +kernel), List.mem_of_getElem? (i := 203) (by decide +kernel)⟩
theorem lw_p2 : lw_okq (⟨"BlameIsFurniture", "thoughtOfNow", "()LBlameIsFurniture$House;"⟩, 9) := ⟨⟨by decide +kernel, by decide +kernel⟩, List.mem_of_getElem? (i := 16) (by decide +kernel), List.mem_of_getElem? (i := 210) (by decide +kernel), List.mem_of_getElem? (i := 211) (by decide +kernel)⟩
theorem lw_p3 : lw_okq (⟨"BlameIsFurniture$House", "copyFrom", "(LBlameIsFurniture$House;)V"⟩, 10) := ⟨⟨by decide +kernel, by decide +kernel⟩, List.mem_of_getElem? (i := 24) (by decide +kernel), List.mem_of_getElem? (i := 214) (by decide +kernel), List.mem_of_getElem? (i := 215) (by decide +kernel)⟩
theorem lw_p4 : lw_okq (⟨"BlameIsFurniture$Text", "tellInto", "(LBlameIsFurniture$House;)I"⟩, 2) := ⟨⟨by decide +kernel, by decide +kernel⟩, List.mem_of_getElem? (i := 79) (by decide +kernel), List.mem_of_getElem? (i := 221) (by decide +kernel), List.mem_of_getElem? (i := 222) (by decide +kernel)⟩
theorem lw_p5 : lw_okq (⟨"BlameIsFurniture$Text", "firstBadPlace", "()I"⟩, 2) := ⟨⟨by decide +kernel, by decide +kernel⟩, List.mem_of_getElem? (i := 79) (by decide +kernel), List.mem_of_getElem? (i := 225) (by decide +kernel), List.mem_of_getElem? (i := 226) (by decide +kernel)⟩
theorem lw_p6 : lw_okq (⟨"BlameIsFurniture$Text", "letterAt", "(I)I"⟩, 2) := ⟨⟨by decide +kernel, by decide +kernel⟩, List.mem_of_getElem? (i := 79) (by decide +kernel), List.mem_of_getElem? (i := 229) (by decide +kernel), List.mem_of_getElem? (i := 230) (by decide +kernel)⟩
theorem lw_p7 : lw_okq (⟨"BlameIsFurniture$Text", "tellStatement", "(LBlameIsFurniture$House;I)I"⟩, 2) := ⟨⟨by decide +kernel, by decide +kernel⟩, List.mem_of_getElem? (i := 79) (by decide +kernel), List.mem_of_getElem? (i := 300) (by decide +kernel), List.mem_of_getElem? (i := 301) (by decide +kernel)⟩
theorem lw_p8 : lw_okq (⟨"BlameIsFurniture$Text", "digitAt", "(I)I"⟩, 2) := ⟨⟨by decide +kernel, by decide +kernel⟩, List.mem_of_getElem? (i := 79) (by decide +kernel), List.mem_of_getElem? (i := 304) (by decide +kernel), List.mem_of_getElem? (i := 305) (by decide +kernel)⟩
theorem lw_p9 : lw_okq (⟨"BlameIsFurniture$Text", "numberAt", "(I)I"⟩, 2) := ⟨⟨by decide +kernel, by decide +kernel⟩, List.mem_of_getElem? (i := 79) (by decide +kernel), List.mem_of_getElem? (i := 308) (by decide +kernel), List.mem_of_getElem? (i := 309) (by decide +kernel)⟩
theorem lw_p10 : lw_okq (⟨"BlameIsFurniture$House", "addPiece", "(IIII)I"⟩, 10) := ⟨⟨by decide +kernel, by decide +kernel⟩, List.mem_of_getElem? (i := 24) (by decide +kernel), List.mem_of_getElem? (i := 312) (by decide +kernel), List.mem_of_getElem? (i := 313) (by decide +kernel)⟩
theorem lw_p11 : lw_okq (⟨"BlameIsFurniture$House", "carryTo", "(II)I"⟩, 10) := ⟨⟨by decide +kernel, by decide +kernel⟩, List.mem_of_getElem? (i := 24) (by decide +kernel), List.mem_of_getElem? (i := 316) (by decide +kernel), List.mem_of_getElem? (i := 317) (by decide +kernel)⟩
theorem lw_p12 : lw_okq (⟨"BlameIsFurniture$House", "hasPiece", "(I)Z"⟩, 10) := ⟨⟨by decide +kernel, by decide +kernel⟩, List.mem_of_getElem? (i := 24) (by decide +kernel), List.mem_of_getElem? (i := 320) (by decide +kernel), List.mem_of_getElem? (i := 321) (by decide +kernel)⟩
theorem lw_p13 : lw_okq (⟨"BlameIsFurniture$House", "canBeCarried", "(II)Z"⟩, 10) := ⟨⟨by decide +kernel, by decide +kernel⟩, List.mem_of_getElem? (i := 24) (by decide +kernel), List.mem_of_getElem? (i := 330) (by decide +kernel), List.mem_of_getElem? (i := 331) (by decide +kernel)⟩
theorem lw_p14 : lw_okq (⟨"BlameIsFurniture$House", "hasSpace", "(II)Z"⟩, 10) := ⟨⟨by decide +kernel, by decide +kernel⟩, List.mem_of_getElem? (i := 24) (by decide +kernel), List.mem_of_getElem? (i := 334) (by decide +kernel), List.mem_of_getElem? (i := 335) (by decide +kernel)⟩
theorem lw_p15 : lw_okq (⟨"BlameIsFurniture$House", "bulkIn", "(I)I"⟩, 10) := ⟨⟨by decide +kernel, by decide +kernel⟩, List.mem_of_getElem? (i := 24) (by decide +kernel), List.mem_of_getElem? (i := 339) (by decide +kernel), List.mem_of_getElem? (i := 340) (by decide +kernel)⟩
def lw_privs_1 : List (MethodName × Nat) := [(⟨"BlameIsFurniture$Text", "add", "(I)I"⟩, 2), (⟨"BlameIsFurniture", "answer", "(I)I"⟩, 9), (⟨"BlameIsFurniture", "thoughtOfNow", "()LBlameIsFurniture$House;"⟩, 9), (⟨"BlameIsFurniture$House", "copyFrom", "(LBlameIsFurniture$House;)V"⟩, 10), (⟨"BlameIsFurniture$Text", "tellInto", "(LBlameIsFurniture$House;)I"⟩, 2), (⟨"BlameIsFurniture$Text", "firstBadPlace", "()I"⟩, 2), (⟨"BlameIsFurniture$Text", "letterAt", "(I)I"⟩, 2), (⟨"BlameIsFurniture$Text", "tellStatement", "(LBlameIsFurniture$House;I)I"⟩, 2), (⟨"BlameIsFurniture$Text", "digitAt", "(I)I"⟩, 2), (⟨"BlameIsFurniture$Text", "numberAt", "(I)I"⟩, 2), (⟨"BlameIsFurniture$House", "addPiece", "(IIII)I"⟩, 10), (⟨"BlameIsFurniture$House", "carryTo", "(II)I"⟩, 10), (⟨"BlameIsFurniture$House", "hasPiece", "(I)Z"⟩, 10), (⟨"BlameIsFurniture$House", "canBeCarried", "(II)Z"⟩, 10), (⟨"BlameIsFurniture$House", "hasSpace", "(II)Z"⟩, 10), (⟨"BlameIsFurniture$House", "bulkIn", "(I)I"⟩, 10)]
theorem lw_r1 : ∀ q ∈ lw_privs_1, lw_okq q := List.forall_mem_cons.mpr ⟨lw_p0, List.forall_mem_cons.mpr ⟨lw_p1, List.forall_mem_cons.mpr ⟨lw_p2, List.forall_mem_cons.mpr ⟨lw_p3, List.forall_mem_cons.mpr ⟨lw_p4, List.forall_mem_cons.mpr ⟨lw_p5, List.forall_mem_cons.mpr ⟨lw_p6, List.forall_mem_cons.mpr ⟨lw_p7, List.forall_mem_cons.mpr ⟨lw_p8, List.forall_mem_cons.mpr ⟨lw_p9, List.forall_mem_cons.mpr ⟨lw_p10, List.forall_mem_cons.mpr ⟨lw_p11, List.forall_mem_cons.mpr ⟨lw_p12, List.forall_mem_cons.mpr ⟨lw_p13, List.forall_mem_cons.mpr ⟨lw_p14, List.forall_mem_cons.mpr ⟨lw_p15, fun _ h => absurd h List.not_mem_nil⟩⟩⟩⟩⟩⟩⟩⟩⟩⟩⟩⟩⟩⟩⟩⟩
theorem lw_p16 : lw_okq (⟨"BlameIsFurniture$House", "passesStairs", "(II)Z"⟩, 10) := ⟨⟨by decide +kernel, by decide +kernel⟩, List.mem_of_getElem? (i := 24) (by decide +kernel), List.mem_of_getElem? (i := 343) (by decide +kernel), List.mem_of_getElem? (i := 344) (by decide +kernel)⟩
theorem lw_p17 : lw_okq (⟨"BlameIsFurniture$House", "wideOfPiece", "(I)I"⟩, 10) := ⟨⟨by decide +kernel, by decide +kernel⟩, List.mem_of_getElem? (i := 24) (by decide +kernel), List.mem_of_getElem? (i := 347) (by decide +kernel), List.mem_of_getElem? (i := 348) (by decide +kernel)⟩
theorem lw_p18 : lw_okq (⟨"BlameIsFurniture$House", "resize", "(II)I"⟩, 10) := ⟨⟨by decide +kernel, by decide +kernel⟩, List.mem_of_getElem? (i := 24) (by decide +kernel), List.mem_of_getElem? (i := 357) (by decide +kernel), List.mem_of_getElem? (i := 358) (by decide +kernel)⟩
theorem lw_p19 : lw_okq (⟨"BlameIsFurniture$House", "widen", "(II)I"⟩, 10) := ⟨⟨by decide +kernel, by decide +kernel⟩, List.mem_of_getElem? (i := 24) (by decide +kernel), List.mem_of_getElem? (i := 364) (by decide +kernel), List.mem_of_getElem? (i := 365) (by decide +kernel)⟩
theorem lw_p20 : lw_okq (⟨"BlameIsFurniture$House", "nameHeirs", "(I)I"⟩, 10) := ⟨⟨by decide +kernel, by decide +kernel⟩, List.mem_of_getElem? (i := 24) (by decide +kernel), List.mem_of_getElem? (i := 371) (by decide +kernel), List.mem_of_getElem? (i := 372) (by decide +kernel)⟩
theorem lw_p21 : lw_okq (⟨"BlameIsFurniture$House", "letYearsGoBy", "(I)I"⟩, 10) := ⟨⟨by decide +kernel, by decide +kernel⟩, List.mem_of_getElem? (i := 24) (by decide +kernel), List.mem_of_getElem? (i := 375) (by decide +kernel), List.mem_of_getElem? (i := 376) (by decide +kernel)⟩
theorem lw_p22 : lw_okq (⟨"BlameIsFurniture$House", "passYear", "()V"⟩, 10) := ⟨⟨by decide +kernel, by decide +kernel⟩, List.mem_of_getElem? (i := 24) (by decide +kernel), List.mem_of_getElem? (i := 379) (by decide +kernel), List.mem_of_getElem? (i := 380) (by decide +kernel)⟩
theorem lw_p23 : lw_okq (⟨"BlameIsFurniture$House", "polishPiece", "(I)I"⟩, 10) := ⟨⟨by decide +kernel, by decide +kernel⟩, List.mem_of_getElem? (i := 24) (by decide +kernel), List.mem_of_getElem? (i := 383) (by decide +kernel), List.mem_of_getElem? (i := 384) (by decide +kernel)⟩
theorem lw_p24 : lw_okq (⟨"BlameIsFurniture$Text", "clear", "()V"⟩, 2) := ⟨⟨by decide +kernel, by decide +kernel⟩, List.mem_of_getElem? (i := 79) (by decide +kernel), List.mem_of_getElem? (i := 387) (by decide +kernel), List.mem_of_getElem? (i := 388) (by decide +kernel)⟩
theorem lw_p25 : lw_okq (⟨"BlameIsFurniture$House", "told", "(II)I"⟩, 10) := ⟨⟨by decide +kernel, by decide +kernel⟩, List.mem_of_getElem? (i := 24) (by decide +kernel), List.mem_of_getElem? (i := 396) (by decide +kernel), List.mem_of_getElem? (i := 397) (by decide +kernel)⟩
theorem lw_p26 : lw_okq (⟨"BlameIsFurniture$House", "blameOfPiece", "(I)I"⟩, 10) := ⟨⟨by decide +kernel, by decide +kernel⟩, List.mem_of_getElem? (i := 24) (by decide +kernel), List.mem_of_getElem? (i := 400) (by decide +kernel), List.mem_of_getElem? (i := 401) (by decide +kernel)⟩
theorem lw_p27 : lw_okq (⟨"BlameIsFurniture$House", "blameOfSuite", "(I)I"⟩, 10) := ⟨⟨by decide +kernel, by decide +kernel⟩, List.mem_of_getElem? (i := 24) (by decide +kernel), List.mem_of_getElem? (i := 404) (by decide +kernel), List.mem_of_getElem? (i := 405) (by decide +kernel)⟩
theorem lw_p28 : lw_okq (⟨"BlameIsFurniture$House", "companyOf", "(I)I"⟩, 10) := ⟨⟨by decide +kernel, by decide +kernel⟩, List.mem_of_getElem? (i := 24) (by decide +kernel), List.mem_of_getElem? (i := 408) (by decide +kernel), List.mem_of_getElem? (i := 409) (by decide +kernel)⟩
theorem lw_p29 : lw_okq (⟨"BlameIsFurniture$House", "blameOfVeneer", "(I)I"⟩, 10) := ⟨⟨by decide +kernel, by decide +kernel⟩, List.mem_of_getElem? (i := 24) (by decide +kernel), List.mem_of_getElem? (i := 412) (by decide +kernel), List.mem_of_getElem? (i := 413) (by decide +kernel)⟩
theorem lw_p30 : lw_okq (⟨"BlameIsFurniture$House", "blameOfAll", "()I"⟩, 10) := ⟨⟨by decide +kernel, by decide +kernel⟩, List.mem_of_getElem? (i := 24) (by decide +kernel), List.mem_of_getElem? (i := 457) (by decide +kernel), List.mem_of_getElem? (i := 458) (by decide +kernel)⟩
theorem lw_p31 : lw_okq (⟨"BlameIsFurniture$House", "blameIn", "(I)I"⟩, 10) := ⟨⟨by decide +kernel, by decide +kernel⟩, List.mem_of_getElem? (i := 24) (by decide +kernel), List.mem_of_getElem? (i := 461) (by decide +kernel), List.mem_of_getElem? (i := 462) (by decide +kernel)⟩
def lw_privs_2 : List (MethodName × Nat) := [(⟨"BlameIsFurniture$House", "passesStairs", "(II)Z"⟩, 10), (⟨"BlameIsFurniture$House", "wideOfPiece", "(I)I"⟩, 10), (⟨"BlameIsFurniture$House", "resize", "(II)I"⟩, 10), (⟨"BlameIsFurniture$House", "widen", "(II)I"⟩, 10), (⟨"BlameIsFurniture$House", "nameHeirs", "(I)I"⟩, 10), (⟨"BlameIsFurniture$House", "letYearsGoBy", "(I)I"⟩, 10), (⟨"BlameIsFurniture$House", "passYear", "()V"⟩, 10), (⟨"BlameIsFurniture$House", "polishPiece", "(I)I"⟩, 10), (⟨"BlameIsFurniture$Text", "clear", "()V"⟩, 2), (⟨"BlameIsFurniture$House", "told", "(II)I"⟩, 10), (⟨"BlameIsFurniture$House", "blameOfPiece", "(I)I"⟩, 10), (⟨"BlameIsFurniture$House", "blameOfSuite", "(I)I"⟩, 10), (⟨"BlameIsFurniture$House", "companyOf", "(I)I"⟩, 10), (⟨"BlameIsFurniture$House", "blameOfVeneer", "(I)I"⟩, 10), (⟨"BlameIsFurniture$House", "blameOfAll", "()I"⟩, 10), (⟨"BlameIsFurniture$House", "blameIn", "(I)I"⟩, 10)]
theorem lw_r2 : ∀ q ∈ lw_privs_2, lw_okq q := List.forall_mem_cons.mpr ⟨lw_p16, List.forall_mem_cons.mpr ⟨lw_p17, List.forall_mem_cons.mpr ⟨lw_p18, List.forall_mem_cons.mpr ⟨lw_p19, List.forall_mem_cons.mpr ⟨lw_p20, List.forall_mem_cons.mpr ⟨lw_p21, List.forall_mem_cons.mpr ⟨lw_p22, List.forall_mem_cons.mpr ⟨lw_p23, List.forall_mem_cons.mpr ⟨lw_p24, List.forall_mem_cons.mpr ⟨lw_p25, List.forall_mem_cons.mpr ⟨lw_p26, List.forall_mem_cons.mpr ⟨lw_p27, List.forall_mem_cons.mpr ⟨lw_p28, List.forall_mem_cons.mpr ⟨lw_p29, List.forall_mem_cons.mpr ⟨lw_p30, List.forall_mem_cons.mpr ⟨lw_p31, fun _ h => absurd h List.not_mem_nil⟩⟩⟩⟩⟩⟩⟩⟩⟩⟩⟩⟩⟩⟩⟩⟩
theorem lw_p32 : lw_okq (⟨"BlameIsFurniture$House", "worstRoom", "()I"⟩, 10) := ⟨⟨by decide +kernel, by decide +kernel⟩, List.mem_of_getElem? (i := 24) (by decide +kernel), List.mem_of_getElem? (i := 469) (by decide +kernel), List.mem_of_getElem? (i := 470) (by decide +kernel)⟩
theorem lw_p33 : lw_okq (⟨"BlameIsFurniture$Placing", "search", "(IZ)I"⟩, 5) := ⟨⟨by decide +kernel, by decide +kernel⟩, List.mem_of_getElem? (i := 107) (by decide +kernel), List.mem_of_getElem? (i := 483) (by decide +kernel), List.mem_of_getElem? (i := 484) (by decide +kernel)⟩
theorem lw_p34 : lw_okq (⟨"BlameIsFurniture$House", "emptyRooms", "()V"⟩, 10) := ⟨⟨by decide +kernel, by decide +kernel⟩, List.mem_of_getElem? (i := 24) (by decide +kernel), List.mem_of_getElem? (i := 487) (by decide +kernel), List.mem_of_getElem? (i := 488) (by decide +kernel)⟩
theorem lw_p35 : lw_okq (⟨"BlameIsFurniture$Placing", "keep", "(I)V"⟩, 5) := ⟨⟨by decide +kernel, by decide +kernel⟩, List.mem_of_getElem? (i := 107) (by decide +kernel), List.mem_of_getElem? (i := 494) (by decide +kernel), List.mem_of_getElem? (i := 495) (by decide +kernel)⟩
theorem lw_p36 : lw_okq (⟨"BlameIsFurniture$Placing", "mayStand", "(II)Z"⟩, 5) := ⟨⟨by decide +kernel, by decide +kernel⟩, List.mem_of_getElem? (i := 107) (by decide +kernel), List.mem_of_getElem? (i := 499) (by decide +kernel), List.mem_of_getElem? (i := 500) (by decide +kernel)⟩
theorem lw_p37 : lw_okq (⟨"BlameIsFurniture$Placing", "costWith", "(II)I"⟩, 5) := ⟨⟨by decide +kernel, by decide +kernel⟩, List.mem_of_getElem? (i := 107) (by decide +kernel), List.mem_of_getElem? (i := 504) (by decide +kernel), List.mem_of_getElem? (i := 505) (by decide +kernel)⟩
theorem lw_p38 : lw_okq (⟨"BlameIsFurniture$House", "piecesIn", "(I)I"⟩, 10) := ⟨⟨by decide +kernel, by decide +kernel⟩, List.mem_of_getElem? (i := 24) (by decide +kernel), List.mem_of_getElem? (i := 508) (by decide +kernel), List.mem_of_getElem? (i := 509) (by decide +kernel)⟩
theorem lw_p39 : lw_okq (⟨"BlameIsFurniture$Placing", "roomOf", "(I)I"⟩, 5) := ⟨⟨by decide +kernel, by decide +kernel⟩, List.mem_of_getElem? (i := 107) (by decide +kernel), List.mem_of_getElem? (i := 514) (by decide +kernel), List.mem_of_getElem? (i := 515) (by decide +kernel)⟩
theorem lw_p40 : lw_okq (⟨"BlameIsFurniture$Sharing", "shareFairly", "(LBlameIsFurniture$House;)V"⟩, 9) := ⟨⟨by decide +kernel, by decide +kernel⟩, List.mem_of_getElem? (i := 130) (by decide +kernel), List.mem_of_getElem? (i := 533) (by decide +kernel), List.mem_of_getElem? (i := 534) (by decide +kernel)⟩
theorem lw_p41 : lw_okq (⟨"BlameIsFurniture$Sharing", "begin", "(LBlameIsFurniture$House;)V"⟩, 9) := ⟨⟨by decide +kernel, by decide +kernel⟩, List.mem_of_getElem? (i := 130) (by decide +kernel), List.mem_of_getElem? (i := 537) (by decide +kernel), List.mem_of_getElem? (i := 538) (by decide +kernel)⟩
theorem lw_p42 : lw_okq (⟨"BlameIsFurniture$Sharing", "keepIfFairer", "()V"⟩, 9) := ⟨⟨by decide +kernel, by decide +kernel⟩, List.mem_of_getElem? (i := 130) (by decide +kernel), List.mem_of_getElem? (i := 550) (by decide +kernel), List.mem_of_getElem? (i := 551) (by decide +kernel)⟩
theorem lw_p43 : lw_okq (⟨"BlameIsFurniture$Sharing", "spread", "()I"⟩, 9) := ⟨⟨by decide +kernel, by decide +kernel⟩, List.mem_of_getElem? (i := 130) (by decide +kernel), List.mem_of_getElem? (i := 554) (by decide +kernel), List.mem_of_getElem? (i := 555) (by decide +kernel)⟩
theorem lw_p44 : lw_okq (⟨"BlameIsFurniture$Sharing", "richest", "()I"⟩, 9) := ⟨⟨by decide +kernel, by decide +kernel⟩, List.mem_of_getElem? (i := 130) (by decide +kernel), List.mem_of_getElem? (i := 558) (by decide +kernel), List.mem_of_getElem? (i := 559) (by decide +kernel)⟩
theorem lw_p45 : lw_okq (⟨"BlameIsFurniture$Sharing", "poorest", "()I"⟩, 9) := ⟨⟨by decide +kernel, by decide +kernel⟩, List.mem_of_getElem? (i := 130) (by decide +kernel), List.mem_of_getElem? (i := 562) (by decide +kernel), List.mem_of_getElem? (i := 563) (by decide +kernel)⟩
theorem lw_p46 : lw_okq (⟨"BlameIsFurniture$Sharing", "give", "(II)V"⟩, 9) := ⟨⟨by decide +kernel, by decide +kernel⟩, List.mem_of_getElem? (i := 130) (by decide +kernel), List.mem_of_getElem? (i := 567) (by decide +kernel), List.mem_of_getElem? (i := 568) (by decide +kernel)⟩
theorem lw_p47 : lw_okq (⟨"BlameIsFurniture$Sharing", "canBeFairer", "(I)Z"⟩, 9) := ⟨⟨by decide +kernel, by decide +kernel⟩, List.mem_of_getElem? (i := 130) (by decide +kernel), List.mem_of_getElem? (i := 571) (by decide +kernel), List.mem_of_getElem? (i := 572) (by decide +kernel)⟩
def lw_privs_3 : List (MethodName × Nat) := [(⟨"BlameIsFurniture$House", "worstRoom", "()I"⟩, 10), (⟨"BlameIsFurniture$Placing", "search", "(IZ)I"⟩, 5), (⟨"BlameIsFurniture$House", "emptyRooms", "()V"⟩, 10), (⟨"BlameIsFurniture$Placing", "keep", "(I)V"⟩, 5), (⟨"BlameIsFurniture$Placing", "mayStand", "(II)Z"⟩, 5), (⟨"BlameIsFurniture$Placing", "costWith", "(II)I"⟩, 5), (⟨"BlameIsFurniture$House", "piecesIn", "(I)I"⟩, 10), (⟨"BlameIsFurniture$Placing", "roomOf", "(I)I"⟩, 5), (⟨"BlameIsFurniture$Sharing", "shareFairly", "(LBlameIsFurniture$House;)V"⟩, 9), (⟨"BlameIsFurniture$Sharing", "begin", "(LBlameIsFurniture$House;)V"⟩, 9), (⟨"BlameIsFurniture$Sharing", "keepIfFairer", "()V"⟩, 9), (⟨"BlameIsFurniture$Sharing", "spread", "()I"⟩, 9), (⟨"BlameIsFurniture$Sharing", "richest", "()I"⟩, 9), (⟨"BlameIsFurniture$Sharing", "poorest", "()I"⟩, 9), (⟨"BlameIsFurniture$Sharing", "give", "(II)V"⟩, 9), (⟨"BlameIsFurniture$Sharing", "canBeFairer", "(I)Z"⟩, 9)]
theorem lw_r3 : ∀ q ∈ lw_privs_3, lw_okq q := List.forall_mem_cons.mpr ⟨lw_p32, List.forall_mem_cons.mpr ⟨lw_p33, List.forall_mem_cons.mpr ⟨lw_p34, List.forall_mem_cons.mpr ⟨lw_p35, List.forall_mem_cons.mpr ⟨lw_p36, List.forall_mem_cons.mpr ⟨lw_p37, List.forall_mem_cons.mpr ⟨lw_p38, List.forall_mem_cons.mpr ⟨lw_p39, List.forall_mem_cons.mpr ⟨lw_p40, List.forall_mem_cons.mpr ⟨lw_p41, List.forall_mem_cons.mpr ⟨lw_p42, List.forall_mem_cons.mpr ⟨lw_p43, List.forall_mem_cons.mpr ⟨lw_p44, List.forall_mem_cons.mpr ⟨lw_p45, List.forall_mem_cons.mpr ⟨lw_p46, List.forall_mem_cons.mpr ⟨lw_p47, fun _ h => absurd h List.not_mem_nil⟩⟩⟩⟩⟩⟩⟩⟩⟩⟩⟩⟩⟩⟩⟩⟩
theorem lw_p48 : lw_okq (⟨"BlameIsFurniture$Sharing", "takeBack", "(II)V"⟩, 9) := ⟨⟨by decide +kernel, by decide +kernel⟩, List.mem_of_getElem? (i := 130) (by decide +kernel), List.mem_of_getElem? (i := 575) (by decide +kernel), List.mem_of_getElem? (i := 576) (by decide +kernel)⟩
theorem lw_p49 : lw_okq (⟨"BlameIsFurniture$Sharing", "spreadOrHeirOf", "(I)I"⟩, 9) := ⟨⟨by decide +kernel, by decide +kernel⟩, List.mem_of_getElem? (i := 130) (by decide +kernel), List.mem_of_getElem? (i := 579) (by decide +kernel), List.mem_of_getElem? (i := 580) (by decide +kernel)⟩
theorem lw_p50 : lw_okq (⟨"BlameIsFurniture$Sharing", "dealOut", "(LBlameIsFurniture$House;)V"⟩, 9) := ⟨⟨by decide +kernel, by decide +kernel⟩, List.mem_of_getElem? (i := 130) (by decide +kernel), List.mem_of_getElem? (i := 587) (by decide +kernel), List.mem_of_getElem? (i := 588) (by decide +kernel)⟩
theorem lw_p51 : lw_okq (⟨"BlameIsFurniture$Sharing", "envied", "()I"⟩, 9) := ⟨⟨by decide +kernel, by decide +kernel⟩, List.mem_of_getElem? (i := 130) (by decide +kernel), List.mem_of_getElem? (i := 595) (by decide +kernel), List.mem_of_getElem? (i := 596) (by decide +kernel)⟩
theorem lw_p52 : lw_okq (⟨"BlameIsFurniture$Sharing", "chooseInTurn", "(LBlameIsFurniture$House;)V"⟩, 9) := ⟨⟨by decide +kernel, by decide +kernel⟩, List.mem_of_getElem? (i := 130) (by decide +kernel), List.mem_of_getElem? (i := 603) (by decide +kernel), List.mem_of_getElem? (i := 604) (by decide +kernel)⟩
theorem lw_p53 : lw_okq (⟨"BlameIsFurniture$Sharing", "leastOfLeft", "()I"⟩, 9) := ⟨⟨by decide +kernel, by decide +kernel⟩, List.mem_of_getElem? (i := 130) (by decide +kernel), List.mem_of_getElem? (i := 607) (by decide +kernel), List.mem_of_getElem? (i := 608) (by decide +kernel)⟩
theorem lw_p54 : lw_okq (⟨"BlameIsFurniture$Sharing", "shareOf", "(I)I"⟩, 9) := ⟨⟨by decide +kernel, by decide +kernel⟩, List.mem_of_getElem? (i := 130) (by decide +kernel), List.mem_of_getElem? (i := 611) (by decide +kernel), List.mem_of_getElem? (i := 612) (by decide +kernel)⟩
theorem lw_p55 : lw_okq (⟨"BlameIsFurniture", "blameWithout", "(I)I"⟩, 9) := ⟨⟨by decide +kernel, by decide +kernel⟩, List.mem_of_getElem? (i := 16) (by decide +kernel), List.mem_of_getElem? (i := 619) (by decide +kernel), List.mem_of_getElem? (i := 620) (by decide +kernel)⟩
theorem lw_p56 : lw_okq (⟨"BlameIsFurniture$House", "removePiece", "(I)V"⟩, 10) := ⟨⟨by decide +kernel, by decide +kernel⟩, List.mem_of_getElem? (i := 24) (by decide +kernel), List.mem_of_getElem? (i := 623) (by decide +kernel), List.mem_of_getElem? (i := 624) (by decide +kernel)⟩
theorem lw_p57 : lw_okq (⟨"BlameIsFurniture", "blameWithoutBoth", "(II)I"⟩, 9) := ⟨⟨by decide +kernel, by decide +kernel⟩, List.mem_of_getElem? (i := 16) (by decide +kernel), List.mem_of_getElem? (i := 631) (by decide +kernel), List.mem_of_getElem? (i := 632) (by decide +kernel)⟩
theorem lw_p58 : lw_okq (⟨"BlameIsFurniture", "blameWithFault", "(II)I"⟩, 9) := ⟨⟨by decide +kernel, by decide +kernel⟩, List.mem_of_getElem? (i := 16) (by decide +kernel), List.mem_of_getElem? (i := 639) (by decide +kernel), List.mem_of_getElem? (i := 640) (by decide +kernel)⟩
theorem lw_p59 : lw_okq (⟨"BlameIsFurniture", "anotherFaultMakes", "(II)Z"⟩, 9) := ⟨⟨by decide +kernel, by decide +kernel⟩, List.mem_of_getElem? (i := 16) (by decide +kernel), List.mem_of_getElem? (i := 657) (by decide +kernel), List.mem_of_getElem? (i := 658) (by decide +kernel)⟩
theorem lw_p60 : lw_okq (⟨"BlameIsFurniture", "lesserOfBothFaults", "(II)I"⟩, 9) := ⟨⟨by decide +kernel, by decide +kernel⟩, List.mem_of_getElem? (i := 16) (by decide +kernel), List.mem_of_getElem? (i := 665) (by decide +kernel), List.mem_of_getElem? (i := 666) (by decide +kernel)⟩
theorem lw_p61 : lw_okq (⟨"BlameIsFurniture$Row", "add", "(I)I"⟩, 2) := ⟨⟨by decide +kernel, by decide +kernel⟩, List.mem_of_getElem? (i := 93) (by decide +kernel), List.mem_of_getElem? (i := 688) (by decide +kernel), List.mem_of_getElem? (i := 689) (by decide +kernel)⟩
theorem lw_p62 : lw_okq (⟨"BlameIsFurniture$Row", "firstWrong", "(LBlameIsFurniture$House;)I"⟩, 2) := ⟨⟨by decide +kernel, by decide +kernel⟩, List.mem_of_getElem? (i := 93) (by decide +kernel), List.mem_of_getElem? (i := 696) (by decide +kernel), List.mem_of_getElem? (i := 697) (by decide +kernel)⟩
theorem lw_p63 : lw_okq (⟨"BlameIsFurniture$Row", "clear", "()V"⟩, 2) := ⟨⟨by decide +kernel, by decide +kernel⟩, List.mem_of_getElem? (i := 93) (by decide +kernel), List.mem_of_getElem? (i := 707) (by decide +kernel), List.mem_of_getElem? (i := 708) (by decide +kernel)⟩
def lw_privs_4 : List (MethodName × Nat) := [(⟨"BlameIsFurniture$Sharing", "takeBack", "(II)V"⟩, 9), (⟨"BlameIsFurniture$Sharing", "spreadOrHeirOf", "(I)I"⟩, 9), (⟨"BlameIsFurniture$Sharing", "dealOut", "(LBlameIsFurniture$House;)V"⟩, 9), (⟨"BlameIsFurniture$Sharing", "envied", "()I"⟩, 9), (⟨"BlameIsFurniture$Sharing", "chooseInTurn", "(LBlameIsFurniture$House;)V"⟩, 9), (⟨"BlameIsFurniture$Sharing", "leastOfLeft", "()I"⟩, 9), (⟨"BlameIsFurniture$Sharing", "shareOf", "(I)I"⟩, 9), (⟨"BlameIsFurniture", "blameWithout", "(I)I"⟩, 9), (⟨"BlameIsFurniture$House", "removePiece", "(I)V"⟩, 10), (⟨"BlameIsFurniture", "blameWithoutBoth", "(II)I"⟩, 9), (⟨"BlameIsFurniture", "blameWithFault", "(II)I"⟩, 9), (⟨"BlameIsFurniture", "anotherFaultMakes", "(II)Z"⟩, 9), (⟨"BlameIsFurniture", "lesserOfBothFaults", "(II)I"⟩, 9), (⟨"BlameIsFurniture$Row", "add", "(I)I"⟩, 2), (⟨"BlameIsFurniture$Row", "firstWrong", "(LBlameIsFurniture$House;)I"⟩, 2), (⟨"BlameIsFurniture$Row", "clear", "()V"⟩, 2)]
theorem lw_r4 : ∀ q ∈ lw_privs_4, lw_okq q := List.forall_mem_cons.mpr ⟨lw_p48, List.forall_mem_cons.mpr ⟨lw_p49, List.forall_mem_cons.mpr ⟨lw_p50, List.forall_mem_cons.mpr ⟨lw_p51, List.forall_mem_cons.mpr ⟨lw_p52, List.forall_mem_cons.mpr ⟨lw_p53, List.forall_mem_cons.mpr ⟨lw_p54, List.forall_mem_cons.mpr ⟨lw_p55, List.forall_mem_cons.mpr ⟨lw_p56, List.forall_mem_cons.mpr ⟨lw_p57, List.forall_mem_cons.mpr ⟨lw_p58, List.forall_mem_cons.mpr ⟨lw_p59, List.forall_mem_cons.mpr ⟨lw_p60, List.forall_mem_cons.mpr ⟨lw_p61, List.forall_mem_cons.mpr ⟨lw_p62, List.forall_mem_cons.mpr ⟨lw_p63, fun _ h => absurd h List.not_mem_nil⟩⟩⟩⟩⟩⟩⟩⟩⟩⟩⟩⟩⟩⟩⟩⟩
theorem lw_p64 : lw_okq (⟨"BlameIsFurnitureModel", "no", "(I)I"⟩, 28) := ⟨⟨by decide +kernel, by decide +kernel⟩, List.mem_of_getElem? (i := 738) (by decide +kernel), List.mem_of_getElem? (i := 836) (by decide +kernel), List.mem_of_getElem? (i := 837) (by decide +kernel)⟩
theorem lw_p65 : lw_okq (⟨"BlameIsFurnitureModel", "statement", "()Z"⟩, 28) := ⟨⟨by decide +kernel, by decide +kernel⟩, List.mem_of_getElem? (i := 738) (by decide +kernel), List.mem_of_getElem? (i := 844) (by decide +kernel), List.mem_of_getElem? (i := 845) (by decide +kernel)⟩
theorem lw_p66 : lw_okq (⟨"BlameIsFurnitureModel", "next", "()I"⟩, 28) := ⟨⟨by decide +kernel, by decide +kernel⟩, List.mem_of_getElem? (i := 738) (by decide +kernel), List.mem_of_getElem? (i := 848) (by decide +kernel), List.mem_of_getElem? (i := 849) (by decide +kernel)⟩
theorem lw_p67 : lw_okq (⟨"BlameIsFurnitureModel", "readsAll", "(II)Z"⟩, 28) := ⟨⟨by decide +kernel, by decide +kernel⟩, List.mem_of_getElem? (i := 738) (by decide +kernel), List.mem_of_getElem? (i := 855) (by decide +kernel), List.mem_of_getElem? (i := 856) (by decide +kernel)⟩
theorem lw_p68 : lw_okq (⟨"BlameIsFurnitureModel", "readsPiece", "(I)Z"⟩, 28) := ⟨⟨by decide +kernel, by decide +kernel⟩, List.mem_of_getElem? (i := 738) (by decide +kernel), List.mem_of_getElem? (i := 859) (by decide +kernel), List.mem_of_getElem? (i := 860) (by decide +kernel)⟩
theorem lw_p69 : lw_okq (⟨"BlameIsFurnitureModel", "readsDigits", "(II)Z"⟩, 28) := ⟨⟨by decide +kernel, by decide +kernel⟩, List.mem_of_getElem? (i := 738) (by decide +kernel), List.mem_of_getElem? (i := 866) (by decide +kernel), List.mem_of_getElem? (i := 867) (by decide +kernel)⟩
theorem lw_p70 : lw_okq (⟨"BlameIsFurnitureModel", "passesAll", "(IZ)V"⟩, 28) := ⟨⟨by decide +kernel, by decide +kernel⟩, List.mem_of_getElem? (i := 738) (by decide +kernel), List.mem_of_getElem? (i := 873) (by decide +kernel), List.mem_of_getElem? (i := 874) (by decide +kernel)⟩
theorem lw_p71 : lw_okq (⟨"BlameIsFurnitureModel", "passes", "([I)V"⟩, 28) := ⟨⟨by decide +kernel, by decide +kernel⟩, List.mem_of_getElem? (i := 738) (by decide +kernel), List.mem_of_getElem? (i := 877) (by decide +kernel), List.mem_of_getElem? (i := 878) (by decide +kernel)⟩
theorem lw_p72 : lw_okq (⟨"BlameIsFurnitureModel", "passOne", "(I)I"⟩, 28) := ⟨⟨by decide +kernel, by decide +kernel⟩, List.mem_of_getElem? (i := 738) (by decide +kernel), List.mem_of_getElem? (i := 881) (by decide +kernel), List.mem_of_getElem? (i := 882) (by decide +kernel)⟩
theorem lw_p73 : lw_okq (⟨"BlameIsFurnitureModel", "comes", "(I)Z"⟩, 28) := ⟨⟨by decide +kernel, by decide +kernel⟩, List.mem_of_getElem? (i := 738) (by decide +kernel), List.mem_of_getElem? (i := 885) (by decide +kernel), List.mem_of_getElem? (i := 886) (by decide +kernel)⟩
theorem lw_p74 : lw_okq (⟨"BlameIsFurnitureModel", "comesPiece", "(I)Z"⟩, 28) := ⟨⟨by decide +kernel, by decide +kernel⟩, List.mem_of_getElem? (i := 738) (by decide +kernel), List.mem_of_getElem? (i := 889) (by decide +kernel), List.mem_of_getElem? (i := 890) (by decide +kernel)⟩
theorem lw_p75 : lw_okq (⟨"BlameIsFurnitureModel", "isPiece", "(I)Z"⟩, 28) := ⟨⟨by decide +kernel, by decide +kernel⟩, List.mem_of_getElem? (i := 738) (by decide +kernel), List.mem_of_getElem? (i := 893) (by decide +kernel), List.mem_of_getElem? (i := 894) (by decide +kernel)⟩
theorem lw_p76 : lw_okq (⟨"BlameIsFurnitureModel", "canCarry", "(II)Z"⟩, 28) := ⟨⟨by decide +kernel, by decide +kernel⟩, List.mem_of_getElem? (i := 738) (by decide +kernel), List.mem_of_getElem? (i := 903) (by decide +kernel), List.mem_of_getElem? (i := 904) (by decide +kernel)⟩
theorem lw_p77 : lw_okq (⟨"BlameIsFurnitureModel", "bulkIn", "(I)I"⟩, 28) := ⟨⟨by decide +kernel, by decide +kernel⟩, List.mem_of_getElem? (i := 738) (by decide +kernel), List.mem_of_getElem? (i := 907) (by decide +kernel), List.mem_of_getElem? (i := 908) (by decide +kernel)⟩
theorem lw_p78 : lw_okq (⟨"BlameIsFurnitureModel", "wideOf", "(I)I"⟩, 28) := ⟨⟨by decide +kernel, by decide +kernel⟩, List.mem_of_getElem? (i := 738) (by decide +kernel), List.mem_of_getElem? (i := 911) (by decide +kernel), List.mem_of_getElem? (i := 912) (by decide +kernel)⟩
theorem lw_p79 : lw_okq (⟨"BlameIsFurnitureModel", "goes", "(I)V"⟩, 28) := ⟨⟨by decide +kernel, by decide +kernel⟩, List.mem_of_getElem? (i := 738) (by decide +kernel), List.mem_of_getElem? (i := 915) (by decide +kernel), List.mem_of_getElem? (i := 916) (by decide +kernel)⟩
def lw_privs_5 : List (MethodName × Nat) := [(⟨"BlameIsFurnitureModel", "no", "(I)I"⟩, 28), (⟨"BlameIsFurnitureModel", "statement", "()Z"⟩, 28), (⟨"BlameIsFurnitureModel", "next", "()I"⟩, 28), (⟨"BlameIsFurnitureModel", "readsAll", "(II)Z"⟩, 28), (⟨"BlameIsFurnitureModel", "readsPiece", "(I)Z"⟩, 28), (⟨"BlameIsFurnitureModel", "readsDigits", "(II)Z"⟩, 28), (⟨"BlameIsFurnitureModel", "passesAll", "(IZ)V"⟩, 28), (⟨"BlameIsFurnitureModel", "passes", "([I)V"⟩, 28), (⟨"BlameIsFurnitureModel", "passOne", "(I)I"⟩, 28), (⟨"BlameIsFurnitureModel", "comes", "(I)Z"⟩, 28), (⟨"BlameIsFurnitureModel", "comesPiece", "(I)Z"⟩, 28), (⟨"BlameIsFurnitureModel", "isPiece", "(I)Z"⟩, 28), (⟨"BlameIsFurnitureModel", "canCarry", "(II)Z"⟩, 28), (⟨"BlameIsFurnitureModel", "bulkIn", "(I)I"⟩, 28), (⟨"BlameIsFurnitureModel", "wideOf", "(I)I"⟩, 28), (⟨"BlameIsFurnitureModel", "goes", "(I)V"⟩, 28)]
theorem lw_r5 : ∀ q ∈ lw_privs_5, lw_okq q := List.forall_mem_cons.mpr ⟨lw_p64, List.forall_mem_cons.mpr ⟨lw_p65, List.forall_mem_cons.mpr ⟨lw_p66, List.forall_mem_cons.mpr ⟨lw_p67, List.forall_mem_cons.mpr ⟨lw_p68, List.forall_mem_cons.mpr ⟨lw_p69, List.forall_mem_cons.mpr ⟨lw_p70, List.forall_mem_cons.mpr ⟨lw_p71, List.forall_mem_cons.mpr ⟨lw_p72, List.forall_mem_cons.mpr ⟨lw_p73, List.forall_mem_cons.mpr ⟨lw_p74, List.forall_mem_cons.mpr ⟨lw_p75, List.forall_mem_cons.mpr ⟨lw_p76, List.forall_mem_cons.mpr ⟨lw_p77, List.forall_mem_cons.mpr ⟨lw_p78, List.forall_mem_cons.mpr ⟨lw_p79, fun _ h => absurd h List.not_mem_nil⟩⟩⟩⟩⟩⟩⟩⟩⟩⟩⟩⟩⟩⟩⟩⟩
theorem lw_p80 : lw_okq (⟨"BlameIsFurnitureModel", "blameOf", "(I)I"⟩, 28) := ⟨⟨by decide +kernel, by decide +kernel⟩, List.mem_of_getElem? (i := 738) (by decide +kernel), List.mem_of_getElem? (i := 931) (by decide +kernel), List.mem_of_getElem? (i := 932) (by decide +kernel)⟩
theorem lw_p81 : lw_okq (⟨"BlameIsFurnitureModel", "suiteOf", "(I)I"⟩, 28) := ⟨⟨by decide +kernel, by decide +kernel⟩, List.mem_of_getElem? (i := 738) (by decide +kernel), List.mem_of_getElem? (i := 935) (by decide +kernel), List.mem_of_getElem? (i := 936) (by decide +kernel)⟩
theorem lw_p82 : lw_okq (⟨"BlameIsFurnitureModel", "veneerOf", "(I)I"⟩, 28) := ⟨⟨by decide +kernel, by decide +kernel⟩, List.mem_of_getElem? (i := 738) (by decide +kernel), List.mem_of_getElem? (i := 939) (by decide +kernel), List.mem_of_getElem? (i := 940) (by decide +kernel)⟩
theorem lw_p83 : lw_okq (⟨"BlameIsFurnitureModel", "blameIn", "(I)I"⟩, 28) := ⟨⟨by decide +kernel, by decide +kernel⟩, List.mem_of_getElem? (i := 738) (by decide +kernel), List.mem_of_getElem? (i := 978) (by decide +kernel), List.mem_of_getElem? (i := 979) (by decide +kernel)⟩
theorem lw_p84 : lw_okq (⟨"BlameIsFurnitureModel", "findPlacing", "(II)V"⟩, 28) := ⟨⟨by decide +kernel, by decide +kernel⟩, List.mem_of_getElem? (i := 738) (by decide +kernel), List.mem_of_getElem? (i := 994) (by decide +kernel), List.mem_of_getElem? (i := 995) (by decide +kernel)⟩
theorem lw_p85 : lw_okq (⟨"BlameIsFurnitureModel", "isPlaced", "(II)Z"⟩, 28) := ⟨⟨by decide +kernel, by decide +kernel⟩, List.mem_of_getElem? (i := 738) (by decide +kernel), List.mem_of_getElem? (i := 1001) (by decide +kernel), List.mem_of_getElem? (i := 1002) (by decide +kernel)⟩
theorem lw_p86 : lw_okq (⟨"BlameIsFurnitureModel", "roomsUsed", "()I"⟩, 28) := ⟨⟨by decide +kernel, by decide +kernel⟩, List.mem_of_getElem? (i := 738) (by decide +kernel), List.mem_of_getElem? (i := 1009) (by decide +kernel), List.mem_of_getElem? (i := 1010) (by decide +kernel)⟩
theorem lw_p87 : lw_okq (⟨"BlameIsFurnitureModel", "notShare", "(I)I"⟩, 28) := ⟨⟨by decide +kernel, by decide +kernel⟩, List.mem_of_getElem? (i := 738) (by decide +kernel), List.mem_of_getElem? (i := 1024) (by decide +kernel), List.mem_of_getElem? (i := 1025) (by decide +kernel)⟩
theorem lw_p88 : lw_okq (⟨"BlameIsFurnitureModel", "findShares", "()I"⟩, 28) := ⟨⟨by decide +kernel, by decide +kernel⟩, List.mem_of_getElem? (i := 738) (by decide +kernel), List.mem_of_getElem? (i := 1028) (by decide +kernel), List.mem_of_getElem? (i := 1029) (by decide +kernel)⟩
theorem lw_p89 : lw_okq (⟨"BlameIsFurnitureModel", "sharesBy", "(I)V"⟩, 28) := ⟨⟨by decide +kernel, by decide +kernel⟩, List.mem_of_getElem? (i := 738) (by decide +kernel), List.mem_of_getElem? (i := 1032) (by decide +kernel), List.mem_of_getElem? (i := 1033) (by decide +kernel)⟩
theorem lw_p90 : lw_okq (⟨"BlameIsFurnitureModel", "givesAll", "()V"⟩, 28) := ⟨⟨by decide +kernel, by decide +kernel⟩, List.mem_of_getElem? (i := 738) (by decide +kernel), List.mem_of_getElem? (i := 1036) (by decide +kernel), List.mem_of_getElem? (i := 1037) (by decide +kernel)⟩
theorem lw_p91 : lw_okq (⟨"BlameIsFurnitureModel", "apart", "()I"⟩, 28) := ⟨⟨by decide +kernel, by decide +kernel⟩, List.mem_of_getElem? (i := 738) (by decide +kernel), List.mem_of_getElem? (i := 1040) (by decide +kernel), List.mem_of_getElem? (i := 1041) (by decide +kernel)⟩
theorem lw_p92 : lw_okq (⟨"BlameIsFurnitureModel", "deals", "()V"⟩, 28) := ⟨⟨by decide +kernel, by decide +kernel⟩, List.mem_of_getElem? (i := 738) (by decide +kernel), List.mem_of_getElem? (i := 1048) (by decide +kernel), List.mem_of_getElem? (i := 1049) (by decide +kernel)⟩
theorem lw_p93 : lw_okq (⟨"BlameIsFurnitureModel", "poorest", "()I"⟩, 28) := ⟨⟨by decide +kernel, by decide +kernel⟩, List.mem_of_getElem? (i := 738) (by decide +kernel), List.mem_of_getElem? (i := 1052) (by decide +kernel), List.mem_of_getElem? (i := 1053) (by decide +kernel)⟩
theorem lw_p94 : lw_okq (⟨"BlameIsFurnitureModel", "mildest", "(I)I"⟩, 28) := ⟨⟨by decide +kernel, by decide +kernel⟩, List.mem_of_getElem? (i := 738) (by decide +kernel), List.mem_of_getElem? (i := 1064) (by decide +kernel), List.mem_of_getElem? (i := 1065) (by decide +kernel)⟩
theorem lw_p95 : lw_okq (⟨"BlameIsFurnitureModel", "blameWithout", "(II)I"⟩, 28) := ⟨⟨by decide +kernel, by decide +kernel⟩, List.mem_of_getElem? (i := 738) (by decide +kernel), List.mem_of_getElem? (i := 1072) (by decide +kernel), List.mem_of_getElem? (i := 1073) (by decide +kernel)⟩
def lw_privs_6 : List (MethodName × Nat) := [(⟨"BlameIsFurnitureModel", "blameOf", "(I)I"⟩, 28), (⟨"BlameIsFurnitureModel", "suiteOf", "(I)I"⟩, 28), (⟨"BlameIsFurnitureModel", "veneerOf", "(I)I"⟩, 28), (⟨"BlameIsFurnitureModel", "blameIn", "(I)I"⟩, 28), (⟨"BlameIsFurnitureModel", "findPlacing", "(II)V"⟩, 28), (⟨"BlameIsFurnitureModel", "isPlaced", "(II)Z"⟩, 28), (⟨"BlameIsFurnitureModel", "roomsUsed", "()I"⟩, 28), (⟨"BlameIsFurnitureModel", "notShare", "(I)I"⟩, 28), (⟨"BlameIsFurnitureModel", "findShares", "()I"⟩, 28), (⟨"BlameIsFurnitureModel", "sharesBy", "(I)V"⟩, 28), (⟨"BlameIsFurnitureModel", "givesAll", "()V"⟩, 28), (⟨"BlameIsFurnitureModel", "apart", "()I"⟩, 28), (⟨"BlameIsFurnitureModel", "deals", "()V"⟩, 28), (⟨"BlameIsFurnitureModel", "poorest", "()I"⟩, 28), (⟨"BlameIsFurnitureModel", "mildest", "(I)I"⟩, 28), (⟨"BlameIsFurnitureModel", "blameWithout", "(II)I"⟩, 28)]
theorem lw_r6 : ∀ q ∈ lw_privs_6, lw_okq q := List.forall_mem_cons.mpr ⟨lw_p80, List.forall_mem_cons.mpr ⟨lw_p81, List.forall_mem_cons.mpr ⟨lw_p82, List.forall_mem_cons.mpr ⟨lw_p83, List.forall_mem_cons.mpr ⟨lw_p84, List.forall_mem_cons.mpr ⟨lw_p85, List.forall_mem_cons.mpr ⟨lw_p86, List.forall_mem_cons.mpr ⟨lw_p87, List.forall_mem_cons.mpr ⟨lw_p88, List.forall_mem_cons.mpr ⟨lw_p89, List.forall_mem_cons.mpr ⟨lw_p90, List.forall_mem_cons.mpr ⟨lw_p91, List.forall_mem_cons.mpr ⟨lw_p92, List.forall_mem_cons.mpr ⟨lw_p93, List.forall_mem_cons.mpr ⟨lw_p94, List.forall_mem_cons.mpr ⟨lw_p95, fun _ h => absurd h List.not_mem_nil⟩⟩⟩⟩⟩⟩⟩⟩⟩⟩⟩⟩⟩⟩⟩⟩
theorem lw_p96 : lw_okq (⟨"BlameIsFurnitureModel", "leaves", "(I)V"⟩, 28) := ⟨⟨by decide +kernel, by decide +kernel⟩, List.mem_of_getElem? (i := 738) (by decide +kernel), List.mem_of_getElem? (i := 1076) (by decide +kernel), List.mem_of_getElem? (i := 1077) (by decide +kernel)⟩
theorem lw_p97 : lw_okq (⟨"BlameIsFurnitureModel", "blameWith", "(II)I"⟩, 28) := ⟨⟨by decide +kernel, by decide +kernel⟩, List.mem_of_getElem? (i := 738) (by decide +kernel), List.mem_of_getElem? (i := 1088) (by decide +kernel), List.mem_of_getElem? (i := 1089) (by decide +kernel)⟩
theorem lw_p98 : lw_okq (⟨"BlameIsFurnitureModel", "blameBehind", "(I)I"⟩, 28) := ⟨⟨by decide +kernel, by decide +kernel⟩, List.mem_of_getElem? (i := 738) (by decide +kernel), List.mem_of_getElem? (i := 1096) (by decide +kernel), List.mem_of_getElem? (i := 1097) (by decide +kernel)⟩
theorem lw_p99 : lw_okq (⟨"BlameIsFurnitureModel", "makes", "(II)Z"⟩, 28) := ⟨⟨by decide +kernel, by decide +kernel⟩, List.mem_of_getElem? (i := 738) (by decide +kernel), List.mem_of_getElem? (i := 1108) (by decide +kernel), List.mem_of_getElem? (i := 1109) (by decide +kernel)⟩
theorem lw_p100 : lw_okq (⟨"BlameIsFurnitureModel", "evenBy", "(II)I"⟩, 28) := ⟨⟨by decide +kernel, by decide +kernel⟩, List.mem_of_getElem? (i := 738) (by decide +kernel), List.mem_of_getElem? (i := 1116) (by decide +kernel), List.mem_of_getElem? (i := 1117) (by decide +kernel)⟩
theorem lw_p101 : lw_okq (⟨"BlameIsFurnitureModel", "firstOther", "()I"⟩, 28) := ⟨⟨by decide +kernel, by decide +kernel⟩, List.mem_of_getElem? (i := 738) (by decide +kernel), List.mem_of_getElem? (i := 1140) (by decide +kernel), List.mem_of_getElem? (i := 1141) (by decide +kernel)⟩
def lw_privs_7 : List (MethodName × Nat) := [(⟨"BlameIsFurnitureModel", "leaves", "(I)V"⟩, 28), (⟨"BlameIsFurnitureModel", "blameWith", "(II)I"⟩, 28), (⟨"BlameIsFurnitureModel", "blameBehind", "(I)I"⟩, 28), (⟨"BlameIsFurnitureModel", "makes", "(II)Z"⟩, 28), (⟨"BlameIsFurnitureModel", "evenBy", "(II)I"⟩, 28), (⟨"BlameIsFurnitureModel", "firstOther", "()I"⟩, 28)]
theorem lw_r7 : ∀ q ∈ lw_privs_7, lw_okq q := List.forall_mem_cons.mpr ⟨lw_p96, List.forall_mem_cons.mpr ⟨lw_p97, List.forall_mem_cons.mpr ⟨lw_p98, List.forall_mem_cons.mpr ⟨lw_p99, List.forall_mem_cons.mpr ⟨lw_p100, List.forall_mem_cons.mpr ⟨lw_p101, fun _ h => absurd h List.not_mem_nil⟩⟩⟩⟩⟩⟩
def lw_privs : List (MethodName × Nat) := lw_privs_1 ++ (lw_privs_2 ++ (lw_privs_3 ++ (lw_privs_4 ++ (lw_privs_5 ++ (lw_privs_6 ++ (lw_privs_7))))))
def lw_tbl : List Cond := k2_sels lw_privs ++ tables_1
theorem lw_privs_ok : ∀ q ∈ lw_privs, lw_okq q := by
  show ∀ q ∈ lw_privs_1 ++ (lw_privs_2 ++ (lw_privs_3 ++ (lw_privs_4 ++ (lw_privs_5 ++ (lw_privs_6 ++ (lw_privs_7)))))), lw_okq q
  exact List.forall_mem_append.mpr ⟨lw_r1, List.forall_mem_append.mpr ⟨lw_r2, List.forall_mem_append.mpr ⟨lw_r3, List.forall_mem_append.mpr ⟨lw_r4, List.forall_mem_append.mpr ⟨lw_r5, List.forall_mem_append.mpr ⟨lw_r6, lw_r7⟩⟩⟩⟩⟩⟩
/-! ===== BEGIN printed: names, fields, word lists, decode rows ===== -/
def RX0 : String := "BlameIsFurniture$House"
def TX0 : u_T := fun k => match k with
  | 0 => ("BlameIsFurniture$House", "kind", "[I", true)
  | 1 => ("BlameIsFurniture$House", "bulk", "[I", true)
  | 2 => ("BlameIsFurniture$House", "fault", "[I", true)
  | 3 => ("BlameIsFurniture$House", "age", "[I", true)
  | 4 => ("BlameIsFurniture$House", "placeOf", "[I", true)
  | 5 => ("BlameIsFurniture$House", "sizeOfRoom", "[I", true)
  | 6 => ("BlameIsFurniture$House", "wideOfStairs", "[I", true)
  | 7 => ("BlameIsFurniture$House", "pieces", "I", false)
  | 8 => ("BlameIsFurniture$House", "heirs", "I", false)
  | _ => ("BlameIsFurniture$House", "year", "I", false)
def tyX0 : Nat → FieldType := fun k => match k with
  | 0 => .array .int
  | 1 => .array .int
  | 2 => .array .int
  | 3 => .array .int
  | 4 => .array .int
  | 5 => .array .int
  | 6 => .array .int
  | 7 => .int
  | 8 => .int
  | _ => .int
abbrev wsX00 : List Cond := u_ws RX0 TX0 10
theorem nmX0 : ∀ a, a < 10 → ∀ b, b < 10 → a ≠ b → (TX0 a).2.1 ≠ (TX0 b).2.1 := by decide +kernel
theorem tyX0_ok : ∀ k, k < 10 → parseFieldDescriptor (TX0 k).2.2.1 = some (tyX0 k) := by decide +kernel
abbrev cX0_init : ByteArray := prog_2_method_1_code
def yX0_init : MethodName := ⟨RX0, "<init>", "()V"⟩
abbrev cX0_copyFrom : ByteArray := prog_2_method_2_code
def yX0_copyFrom : MethodName := ⟨RX0, "copyFrom", "(LBlameIsFurniture$House;)V"⟩
abbrev cX0_hasPiece : ByteArray := prog_2_method_3_code
def yX0_hasPiece : MethodName := ⟨RX0, "hasPiece", "(I)Z"⟩
abbrev cX0_told : ByteArray := prog_2_method_4_code
def yX0_told : MethodName := ⟨RX0, "told", "(II)I"⟩
abbrev cX0_addPiece : ByteArray := prog_2_method_5_code
def yX0_addPiece : MethodName := ⟨RX0, "addPiece", "(IIII)I"⟩
abbrev cX0_removePiece : ByteArray := prog_2_method_6_code
def yX0_removePiece : MethodName := ⟨RX0, "removePiece", "(I)V"⟩
abbrev cX0_emptyRooms : ByteArray := prog_2_method_7_code
def yX0_emptyRooms : MethodName := ⟨RX0, "emptyRooms", "()V"⟩
abbrev cX0_blameOfPiece : ByteArray := prog_2_method_8_code
def yX0_blameOfPiece : MethodName := ⟨RX0, "blameOfPiece", "(I)I"⟩
abbrev cX0_blameOfSuite : ByteArray := prog_2_method_9_code
def yX0_blameOfSuite : MethodName := ⟨RX0, "blameOfSuite", "(I)I"⟩
abbrev cX0_companyOf : ByteArray := prog_2_method_10_code
def yX0_companyOf : MethodName := ⟨RX0, "companyOf", "(I)I"⟩
abbrev cX0_blameOfVeneer : ByteArray := prog_2_method_11_code
def yX0_blameOfVeneer : MethodName := ⟨RX0, "blameOfVeneer", "(I)I"⟩
abbrev cX0_blameIn : ByteArray := prog_2_method_12_code
def yX0_blameIn : MethodName := ⟨RX0, "blameIn", "(I)I"⟩
abbrev cX0_blameOfAll : ByteArray := prog_2_method_13_code
def yX0_blameOfAll : MethodName := ⟨RX0, "blameOfAll", "()I"⟩
abbrev cX0_worstRoom : ByteArray := prog_2_method_14_code
def yX0_worstRoom : MethodName := ⟨RX0, "worstRoom", "()I"⟩
abbrev cX0_piecesIn : ByteArray := prog_2_method_15_code
def yX0_piecesIn : MethodName := ⟨RX0, "piecesIn", "(I)I"⟩
abbrev cX0_bulkIn : ByteArray := prog_2_method_16_code
def yX0_bulkIn : MethodName := ⟨RX0, "bulkIn", "(I)I"⟩
abbrev cX0_hasSpace : ByteArray := prog_2_method_17_code
def yX0_hasSpace : MethodName := ⟨RX0, "hasSpace", "(II)Z"⟩
abbrev cX0_wideOfPiece : ByteArray := prog_2_method_18_code
def yX0_wideOfPiece : MethodName := ⟨RX0, "wideOfPiece", "(I)I"⟩
abbrev cX0_canBeCarried : ByteArray := prog_2_method_19_code
def yX0_canBeCarried : MethodName := ⟨RX0, "canBeCarried", "(II)Z"⟩
abbrev cX0_passesStairs : ByteArray := prog_2_method_20_code
def yX0_passesStairs : MethodName := ⟨RX0, "passesStairs", "(II)Z"⟩
abbrev cX0_carryTo : ByteArray := prog_2_method_21_code
def yX0_carryTo : MethodName := ⟨RX0, "carryTo", "(II)I"⟩
abbrev cX0_polishPiece : ByteArray := prog_2_method_22_code
def yX0_polishPiece : MethodName := ⟨RX0, "polishPiece", "(I)I"⟩
abbrev cX0_resize : ByteArray := prog_2_method_23_code
def yX0_resize : MethodName := ⟨RX0, "resize", "(II)I"⟩
abbrev cX0_widen : ByteArray := prog_2_method_24_code
def yX0_widen : MethodName := ⟨RX0, "widen", "(II)I"⟩
abbrev cX0_nameHeirs : ByteArray := prog_2_method_25_code
def yX0_nameHeirs : MethodName := ⟨RX0, "nameHeirs", "(I)I"⟩
abbrev cX0_letYearsGoBy : ByteArray := prog_2_method_26_code
def yX0_letYearsGoBy : MethodName := ⟨RX0, "letYearsGoBy", "(I)I"⟩
abbrev cX0_passYear : ByteArray := prog_2_method_27_code
def yX0_passYear : MethodName := ⟨RX0, "passYear", "()V"⟩
def RX1 : String := "BlameIsFurniture$Placing"
def TX1 : u_T := fun k => match k with
  | 0 => ("BlameIsFurniture$Placing", "house", "LBlameIsFurniture$House;", true)
  | 1 => ("BlameIsFurniture$Placing", "bestRooms", "[I", true)
  | 2 => ("BlameIsFurniture$Placing", "rooms", "I", false)
  | 3 => ("BlameIsFurniture$Placing", "isForFew", "Z", false)
  | _ => ("BlameIsFurniture$Placing", "least", "I", false)
def tyX1 : Nat → FieldType := fun k => match k with
  | 0 => .object "BlameIsFurniture$House"
  | 1 => .array .int
  | 2 => .int
  | 3 => .boolean
  | _ => .int
abbrev wsX10 : List Cond := u_ws RX1 TX1 5
theorem nmX1 : ∀ a, a < 5 → ∀ b, b < 5 → a ≠ b → (TX1 a).2.1 ≠ (TX1 b).2.1 := by decide +kernel
theorem tyX1_ok : ∀ k, k < 5 → parseFieldDescriptor (TX1 k).2.2.1 = some (tyX1 k) := by decide +kernel
abbrev cX1_init : ByteArray := prog_3_method_1_code
def yX1_init : MethodName := ⟨RX1, "<init>", "(LBlameIsFurniture$House;)V"⟩
abbrev cX1_search : ByteArray := prog_3_method_2_code
def yX1_search : MethodName := ⟨RX1, "search", "(IZ)I"⟩
abbrev cX1_roomOf : ByteArray := prog_3_method_3_code
def yX1_roomOf : MethodName := ⟨RX1, "roomOf", "(I)I"⟩
abbrev cX1_placeFrom : ByteArray := prog_3_method_4_code
def yX1_placeFrom : MethodName := ⟨RX1, "placeFrom", "(LBlameIsFurniture$Placing;II)V"⟩
abbrev cX1_keep : ByteArray := prog_3_method_5_code
def yX1_keep : MethodName := ⟨RX1, "keep", "(I)V"⟩
abbrev cX1_mayStand : ByteArray := prog_3_method_6_code
def yX1_mayStand : MethodName := ⟨RX1, "mayStand", "(II)Z"⟩
abbrev cX1_costWith : ByteArray := prog_3_method_7_code
def yX1_costWith : MethodName := ⟨RX1, "costWith", "(II)I"⟩
def RX2 : String := "BlameIsFurniture$Row"
def TX2 : u_T := fun k => match k with
  | 0 => ("BlameIsFurniture$Row", "numbers", "[I", true)
  | _ => ("BlameIsFurniture$Row", "length", "I", false)
def tyX2 : Nat → FieldType := fun k => match k with
  | 0 => .array .int
  | _ => .int
abbrev wsX20 : List Cond := u_ws RX2 TX2 2
theorem nmX2 : ∀ a, a < 2 → ∀ b, b < 2 → a ≠ b → (TX2 a).2.1 ≠ (TX2 b).2.1 := by decide +kernel
theorem tyX2_ok : ∀ k, k < 2 → parseFieldDescriptor (TX2 k).2.2.1 = some (tyX2 k) := by decide +kernel
abbrev cX2_init : ByteArray := prog_4_method_1_code
def yX2_init : MethodName := ⟨RX2, "<init>", "()V"⟩
abbrev cX2_add : ByteArray := prog_4_method_2_code
def yX2_add : MethodName := ⟨RX2, "add", "(I)I"⟩
abbrev cX2_clear : ByteArray := prog_4_method_3_code
def yX2_clear : MethodName := ⟨RX2, "clear", "()V"⟩
abbrev cX2_firstWrong : ByteArray := prog_4_method_4_code
def yX2_firstWrong : MethodName := ⟨RX2, "firstWrong", "(LBlameIsFurniture$House;)I"⟩
def RX3 : String := "BlameIsFurniture$Sharing"
def TX3 : u_T := fun k => match k with
  | 0 => ("BlameIsFurniture$Sharing", "blames", "[I", true)
  | 1 => ("BlameIsFurniture$Sharing", "goesTo", "[I", true)
  | 2 => ("BlameIsFurniture$Sharing", "fairest", "[I", true)
  | 3 => ("BlameIsFurniture$Sharing", "share", "[I", true)
  | 4 => ("BlameIsFurniture$Sharing", "pieces", "I", false)
  | 5 => ("BlameIsFurniture$Sharing", "heirs", "I", false)
  | 6 => ("BlameIsFurniture$Sharing", "evenShare", "I", false)
  | 7 => ("BlameIsFurniture$Sharing", "least", "I", false)
  | _ => ("BlameIsFurniture$Sharing", "lastHeir", "I", false)
def tyX3 : Nat → FieldType := fun k => match k with
  | 0 => .array .int
  | 1 => .array .int
  | 2 => .array .int
  | 3 => .array .int
  | 4 => .int
  | 5 => .int
  | 6 => .int
  | 7 => .int
  | _ => .int
abbrev wsX30 : List Cond := u_ws RX3 TX3 9
theorem nmX3 : ∀ a, a < 9 → ∀ b, b < 9 → a ≠ b → (TX3 a).2.1 ≠ (TX3 b).2.1 := by decide +kernel
theorem tyX3_ok : ∀ k, k < 9 → parseFieldDescriptor (TX3 k).2.2.1 = some (tyX3 k) := by decide +kernel
abbrev cX3_init : ByteArray := prog_5_method_1_code
def yX3_init : MethodName := ⟨RX3, "<init>", "()V"⟩
abbrev cX3_begin : ByteArray := prog_5_method_2_code
def yX3_begin : MethodName := ⟨RX3, "begin", "(LBlameIsFurniture$House;)V"⟩
abbrev cX3_shareFairly : ByteArray := prog_5_method_3_code
def yX3_shareFairly : MethodName := ⟨RX3, "shareFairly", "(LBlameIsFurniture$House;)V"⟩
abbrev cX3_giveFrom : ByteArray := prog_5_method_4_code
def yX3_giveFrom : MethodName := ⟨RX3, "giveFrom", "(LBlameIsFurniture$Sharing;I)V"⟩
abbrev cX3_canBeFairer : ByteArray := prog_5_method_5_code
def yX3_canBeFairer : MethodName := ⟨RX3, "canBeFairer", "(I)Z"⟩
abbrev cX3_keepIfFairer : ByteArray := prog_5_method_6_code
def yX3_keepIfFairer : MethodName := ⟨RX3, "keepIfFairer", "()V"⟩
abbrev cX3_dealOut : ByteArray := prog_5_method_7_code
def yX3_dealOut : MethodName := ⟨RX3, "dealOut", "(LBlameIsFurniture$House;)V"⟩
abbrev cX3_chooseInTurn : ByteArray := prog_5_method_8_code
def yX3_chooseInTurn : MethodName := ⟨RX3, "chooseInTurn", "(LBlameIsFurniture$House;)V"⟩
abbrev cX3_leastOfLeft : ByteArray := prog_5_method_9_code
def yX3_leastOfLeft : MethodName := ⟨RX3, "leastOfLeft", "()I"⟩
abbrev cX3_give : ByteArray := prog_5_method_10_code
def yX3_give : MethodName := ⟨RX3, "give", "(II)V"⟩
abbrev cX3_takeBack : ByteArray := prog_5_method_11_code
def yX3_takeBack : MethodName := ⟨RX3, "takeBack", "(II)V"⟩
abbrev cX3_poorest : ByteArray := prog_5_method_12_code
def yX3_poorest : MethodName := ⟨RX3, "poorest", "()I"⟩
abbrev cX3_richest : ByteArray := prog_5_method_13_code
def yX3_richest : MethodName := ⟨RX3, "richest", "()I"⟩
abbrev cX3_spread : ByteArray := prog_5_method_14_code
def yX3_spread : MethodName := ⟨RX3, "spread", "()I"⟩
abbrev cX3_envied : ByteArray := prog_5_method_15_code
def yX3_envied : MethodName := ⟨RX3, "envied", "()I"⟩
abbrev cX3_shareOf : ByteArray := prog_5_method_16_code
def yX3_shareOf : MethodName := ⟨RX3, "shareOf", "(I)I"⟩
abbrev cX3_spreadOrHeirOf : ByteArray := prog_5_method_17_code
def yX3_spreadOrHeirOf : MethodName := ⟨RX3, "spreadOrHeirOf", "(I)I"⟩
def RX4 : String := "BlameIsFurniture$Text"
def TX4 : u_T := fun k => match k with
  | 0 => ("BlameIsFurniture$Text", "letters", "[I", true)
  | _ => ("BlameIsFurniture$Text", "length", "I", false)
def tyX4 : Nat → FieldType := fun k => match k with
  | 0 => .array .int
  | _ => .int
abbrev wsX40 : List Cond := u_ws RX4 TX4 2
theorem nmX4 : ∀ a, a < 2 → ∀ b, b < 2 → a ≠ b → (TX4 a).2.1 ≠ (TX4 b).2.1 := by decide +kernel
theorem tyX4_ok : ∀ k, k < 2 → parseFieldDescriptor (TX4 k).2.2.1 = some (tyX4 k) := by decide +kernel
abbrev cX4_init : ByteArray := prog_6_method_1_code
def yX4_init : MethodName := ⟨RX4, "<init>", "()V"⟩
abbrev cX4_add : ByteArray := prog_6_method_2_code
def yX4_add : MethodName := ⟨RX4, "add", "(I)I"⟩
abbrev cX4_clear : ByteArray := prog_6_method_3_code
def yX4_clear : MethodName := ⟨RX4, "clear", "()V"⟩
abbrev cX4_tellInto : ByteArray := prog_6_method_4_code
def yX4_tellInto : MethodName := ⟨RX4, "tellInto", "(LBlameIsFurniture$House;)I"⟩
abbrev cX4_firstBadPlace : ByteArray := prog_6_method_5_code
def yX4_firstBadPlace : MethodName := ⟨RX4, "firstBadPlace", "()I"⟩
abbrev cX4_formBehind : ByteArray := prog_6_method_6_code
def yX4_formBehind : MethodName := ⟨RX4, "formBehind", "(I)Ljava/lang/String;"⟩
abbrev cX4_isAsAsked : ByteArray := prog_6_method_7_code
def yX4_isAsAsked : MethodName := ⟨RX4, "isAsAsked", "(CI)Z"⟩
abbrev cX4_tellStatement : ByteArray := prog_6_method_8_code
def yX4_tellStatement : MethodName := ⟨RX4, "tellStatement", "(LBlameIsFurniture$House;I)I"⟩
abbrev cX4_letterAt : ByteArray := prog_6_method_9_code
def yX4_letterAt : MethodName := ⟨RX4, "letterAt", "(I)I"⟩
abbrev cX4_kindOfLetter : ByteArray := prog_6_method_10_code
def yX4_kindOfLetter : MethodName := ⟨RX4, "kindOfLetter", "(I)I"⟩
abbrev cX4_digitAt : ByteArray := prog_6_method_11_code
def yX4_digitAt : MethodName := ⟨RX4, "digitAt", "(I)I"⟩
abbrev cX4_numberAt : ByteArray := prog_6_method_12_code
def yX4_numberAt : MethodName := ⟨RX4, "numberAt", "(I)I"⟩
def RX5 : String := "BlameIsFurniture"
def TX5 : u_T := fun k => match k with
  | 0 => ("BlameIsFurniture", "now", "LBlameIsFurniture$House;", true)
  | 1 => ("BlameIsFurniture", "thought", "LBlameIsFurniture$House;", true)
  | 2 => ("BlameIsFurniture", "kept", "LBlameIsFurniture$House;", true)
  | 3 => ("BlameIsFurniture", "isKept", "Z", false)
  | 4 => ("BlameIsFurniture", "text", "LBlameIsFurniture$Text;", true)
  | 5 => ("BlameIsFurniture", "told", "LBlameIsFurniture$Row;", true)
  | 6 => ("BlameIsFurniture", "placings", "LBlameIsFurniture$Placing;", true)
  | 7 => ("BlameIsFurniture", "sharing", "LBlameIsFurniture$Sharing;", true)
  | _ => ("BlameIsFurniture", "refusals", "[I", true)
def tyX5 : Nat → FieldType := fun k => match k with
  | 0 => .object "BlameIsFurniture$House"
  | 1 => .object "BlameIsFurniture$House"
  | 2 => .object "BlameIsFurniture$House"
  | 3 => .boolean
  | 4 => .object "BlameIsFurniture$Text"
  | 5 => .object "BlameIsFurniture$Row"
  | 6 => .object "BlameIsFurniture$Placing"
  | 7 => .object "BlameIsFurniture$Sharing"
  | _ => .array .int
abbrev wsX50 : List Cond := u_ws RX5 TX5 9
theorem nmX5 : ∀ a, a < 9 → ∀ b, b < 9 → a ≠ b → (TX5 a).2.1 ≠ (TX5 b).2.1 := by decide +kernel
theorem tyX5_ok : ∀ k, k < 9 → parseFieldDescriptor (TX5 k).2.2.1 = some (tyX5 k) := by decide +kernel
abbrev cX5_init : ByteArray := prog_1_method_1_code
def yX5_init : MethodName := ⟨RX5, "<init>", "()V"⟩
abbrev cX5_letter : ByteArray := prog_1_method_2_code
def yX5_letter : MethodName := ⟨RX5, "letter", "(I)I"⟩
abbrev cX5_house : ByteArray := prog_1_method_3_code
def yX5_house : MethodName := ⟨RX5, "house", "()I"⟩
abbrev cX5_piece : ByteArray := prog_1_method_4_code
def yX5_piece : MethodName := ⟨RX5, "piece", "(II)I"⟩
abbrev cX5_carry : ByteArray := prog_1_method_5_code
def yX5_carry : MethodName := ⟨RX5, "carry", "(II)I"⟩
abbrev cX5_stands : ByteArray := prog_1_method_6_code
def yX5_stands : MethodName := ⟨RX5, "stands", "(II)I"⟩
abbrev cX5_polish : ByteArray := prog_1_method_7_code
def yX5_polish : MethodName := ⟨RX5, "polish", "(I)I"⟩
abbrev cX5_size : ByteArray := prog_1_method_8_code
def yX5_size : MethodName := ⟨RX5, "size", "(II)I"⟩
abbrev cX5_wide : ByteArray := prog_1_method_9_code
def yX5_wide : MethodName := ⟨RX5, "wide", "(II)I"⟩
abbrev cX5_heirs : ByteArray := prog_1_method_10_code
def yX5_heirs : MethodName := ⟨RX5, "heirs", "(I)I"⟩
abbrev cX5_years : ByteArray := prog_1_method_11_code
def yX5_years : MethodName := ⟨RX5, "years", "(I)I"⟩
abbrev cX5_blame : ByteArray := prog_1_method_12_code
def yX5_blame : MethodName := ⟨RX5, "blame", "(I)I"⟩
abbrev cX5_worst : ByteArray := prog_1_method_13_code
def yX5_worst : MethodName := ⟨RX5, "worst", "()I"⟩
abbrev cX5_crowded : ByteArray := prog_1_method_14_code
def yX5_crowded : MethodName := ⟨RX5, "crowded", "()I"⟩
abbrev cX5_placing : ByteArray := prog_1_method_15_code
def yX5_placing : MethodName := ⟨RX5, "placing", "(III)I"⟩
abbrev cX5_innocent : ByteArray := prog_1_method_16_code
def yX5_innocent : MethodName := ⟨RX5, "innocent", "()I"⟩
abbrev cX5_shares : ByteArray := prog_1_method_17_code
def yX5_shares : MethodName := ⟨RX5, "shares", "(I)I"⟩
abbrev cX5_dealt : ByteArray := prog_1_method_18_code
def yX5_dealt : MethodName := ⟨RX5, "dealt", "(I)I"⟩
abbrev cX5_envy : ByteArray := prog_1_method_19_code
def yX5_envy : MethodName := ⟨RX5, "envy", "()I"⟩
abbrev cX5_choice : ByteArray := prog_1_method_20_code
def yX5_choice : MethodName := ⟨RX5, "choice", "(I)I"⟩
abbrev cX5_sell : ByteArray := prog_1_method_21_code
def yX5_sell : MethodName := ⟨RX5, "sell", "(I)I"⟩
abbrev cX5_burn : ByteArray := prog_1_method_22_code
def yX5_burn : MethodName := ⟨RX5, "burn", "()I"⟩
abbrev cX5_heavier : ByteArray := prog_1_method_23_code
def yX5_heavier : MethodName := ⟨RX5, "heavier", "()I"⟩
abbrev cX5_later : ByteArray := prog_1_method_24_code
def yX5_later : MethodName := ⟨RX5, "later", "(I)I"⟩
abbrev cX5_gone : ByteArray := prog_1_method_25_code
def yX5_gone : MethodName := ⟨RX5, "gone", "(I)I"⟩
abbrev cX5_whose : ByteArray := prog_1_method_26_code
def yX5_whose : MethodName := ⟨RX5, "whose", "(I)I"⟩
abbrev cX5_ask : ByteArray := prog_1_method_27_code
def yX5_ask : MethodName := ⟨RX5, "ask", "(I)I"⟩
abbrev cX5_wider : ByteArray := prog_1_method_28_code
def yX5_wider : MethodName := ⟨RX5, "wider", "(III)I"⟩
abbrev cX5_bigger : ByteArray := prog_1_method_29_code
def yX5_bigger : MethodName := ⟨RX5, "bigger", "(II)I"⟩
abbrev cX5_guest : ByteArray := prog_1_method_30_code
def yX5_guest : MethodName := ⟨RX5, "guest", "(I)I"⟩
abbrev cX5_row : ByteArray := prog_1_method_31_code
def yX5_row : MethodName := ⟨RX5, "row", "(I)I"⟩
abbrev cX5_fits : ByteArray := prog_1_method_32_code
def yX5_fits : MethodName := ⟨RX5, "fits", "(I)I"⟩
abbrev cX5_judge : ByteArray := prog_1_method_33_code
def yX5_judge : MethodName := ⟨RX5, "judge", "()I"⟩
abbrev cX5_lots : ByteArray := prog_1_method_34_code
def yX5_lots : MethodName := ⟨RX5, "lots", "(II)I"⟩
abbrev cX5_image : ByteArray := prog_1_method_35_code
def yX5_image : MethodName := ⟨RX5, "image", "()I"⟩
abbrev cX5_on : ByteArray := prog_1_method_36_code
def yX5_on : MethodName := ⟨RX5, "on", "()I"⟩
abbrev cX5_count : ByteArray := prog_1_method_37_code
def yX5_count : MethodName := ⟨RX5, "count", "(I)I"⟩
abbrev cX5_answer : ByteArray := prog_1_method_38_code
def yX5_answer : MethodName := ⟨RX5, "answer", "(I)I"⟩
abbrev cX5_thoughtOfNow : ByteArray := prog_1_method_39_code
def yX5_thoughtOfNow : MethodName := ⟨RX5, "thoughtOfNow", "()LBlameIsFurniture$House;"⟩
abbrev cX5_refusalOutside : ByteArray := prog_1_method_40_code
def yX5_refusalOutside : MethodName := ⟨RX5, "refusalOutside", "(III)I"⟩
abbrev cX5_isAllOrOneOf : ByteArray := prog_1_method_41_code
def yX5_isAllOrOneOf : MethodName := ⟨RX5, "isAllOrOneOf", "(II)Z"⟩
abbrev cX5_refusalOf : ByteArray := prog_1_method_42_code
def yX5_refusalOf : MethodName := ⟨RX5, "refusalOf", "(I)I"⟩
abbrev cX5_blameWithout : ByteArray := prog_1_method_43_code
def yX5_blameWithout : MethodName := ⟨RX5, "blameWithout", "(I)I"⟩
abbrev cX5_blameWithoutBoth : ByteArray := prog_1_method_44_code
def yX5_blameWithoutBoth : MethodName := ⟨RX5, "blameWithoutBoth", "(II)I"⟩
abbrev cX5_blameWithFault : ByteArray := prog_1_method_45_code
def yX5_blameWithFault : MethodName := ⟨RX5, "blameWithFault", "(II)I"⟩
abbrev cX5_anotherFaultMakes : ByteArray := prog_1_method_46_code
def yX5_anotherFaultMakes : MethodName := ⟨RX5, "anotherFaultMakes", "(II)Z"⟩
abbrev cX5_lesserOfBothFaults : ByteArray := prog_1_method_47_code
def yX5_lesserOfBothFaults : MethodName := ⟨RX5, "lesserOfBothFaults", "(II)I"⟩
abbrev cX5_sumOfFirst : ByteArray := prog_1_method_48_code
def yX5_sumOfFirst : MethodName := ⟨RX5, "sumOfFirst", "([II)I"⟩
abbrev cX5_nextSeed : ByteArray := prog_1_method_49_code
def yX5_nextSeed : MethodName := ⟨RX5, "nextSeed", "(I)I"⟩
abbrev cX5_drawnBelow : ByteArray := prog_1_method_50_code
def yX5_drawnBelow : MethodName := ⟨RX5, "drawnBelow", "(II)I"⟩
abbrev cX5_isRoom : ByteArray := prog_1_method_51_code
def yX5_isRoom : MethodName := ⟨RX5, "isRoom", "(I)Z"⟩
abbrev cX5_isPlace : ByteArray := prog_1_method_52_code
def yX5_isPlace : MethodName := ⟨RX5, "isPlace", "(I)Z"⟩
abbrev cX5_hasStairs : ByteArray := prog_1_method_53_code
def yX5_hasStairs : MethodName := ⟨RX5, "hasStairs", "(I)Z"⟩
def RX6 : String := "BlameIsFurnitureModel"
def TX6 : u_T := fun k => match k with
  | 0 => ("BlameIsFurnitureModel", "refused", "[I", true)
  | 1 => ("BlameIsFurnitureModel", "sizes", "[I", true)
  | 2 => ("BlameIsFurnitureModel", "stairs", "[I", true)
  | 3 => ("BlameIsFurnitureModel", "kind", "[I", true)
  | 4 => ("BlameIsFurnitureModel", "bulk", "[I", true)
  | 5 => ("BlameIsFurnitureModel", "fault", "[I", true)
  | 6 => ("BlameIsFurnitureModel", "age", "[I", true)
  | 7 => ("BlameIsFurnitureModel", "stands", "[I", true)
  | 8 => ("BlameIsFurnitureModel", "pieces", "I", false)
  | 9 => ("BlameIsFurnitureModel", "heirs", "I", false)
  | 10 => ("BlameIsFurnitureModel", "year", "I", false)
  | 11 => ("BlameIsFurnitureModel", "tape", "[I", true)
  | 12 => ("BlameIsFurnitureModel", "letter", "[I", true)
  | 13 => ("BlameIsFurnitureModel", "letterAt", "[I", true)
  | 14 => ("BlameIsFurnitureModel", "told", "[I", true)
  | 15 => ("BlameIsFurnitureModel", "taped", "I", false)
  | 16 => ("BlameIsFurnitureModel", "at", "I", false)
  | 17 => ("BlameIsFurnitureModel", "statements", "I", false)
  | 18 => ("BlameIsFurnitureModel", "kept", "[I", true)
  | 19 => ("BlameIsFurnitureModel", "hasImage", "Z", false)
  | 20 => ("BlameIsFurnitureModel", "isKeeping", "Z", false)
  | 21 => ("BlameIsFurnitureModel", "cursor", "I", false)
  | 22 => ("BlameIsFurnitureModel", "found", "[I", true)
  | 23 => ("BlameIsFurnitureModel", "foundValue", "I", false)
  | 24 => ("BlameIsFurnitureModel", "goesTo", "[I", true)
  | 25 => ("BlameIsFurnitureModel", "share", "[I", true)
  | 26 => ("BlameIsFurnitureModel", "row", "[I", true)
  | _ => ("BlameIsFurnitureModel", "rowMany", "I", false)
def tyX6 : Nat → FieldType := fun k => match k with
  | 0 => .array .int
  | 1 => .array .int
  | 2 => .array .int
  | 3 => .array .int
  | 4 => .array .int
  | 5 => .array .int
  | 6 => .array .int
  | 7 => .array .int
  | 8 => .int
  | 9 => .int
  | 10 => .int
  | 11 => .array .int
  | 12 => .array .int
  | 13 => .array .int
  | 14 => .array .int
  | 15 => .int
  | 16 => .int
  | 17 => .int
  | 18 => .array .int
  | 19 => .boolean
  | 20 => .boolean
  | 21 => .int
  | 22 => .array .int
  | 23 => .int
  | 24 => .array .int
  | 25 => .array .int
  | 26 => .array .int
  | _ => .int
abbrev wsX60 : List Cond := u_ws RX6 TX6 28
theorem nmX6 : ∀ a, a < 28 → ∀ b, b < 28 → a ≠ b → (TX6 a).2.1 ≠ (TX6 b).2.1 := by decide +kernel
theorem tyX6_ok : ∀ k, k < 28 → parseFieldDescriptor (TX6 k).2.2.1 = some (tyX6 k) := by decide +kernel
abbrev cX6_init : ByteArray := prog_8_method_1_code
def yX6_init : MethodName := ⟨RX6, "<init>", "()V"⟩
abbrev cX6_no : ByteArray := prog_8_method_2_code
def yX6_no : MethodName := ⟨RX6, "no", "(I)I"⟩
abbrev cX6_isIn : ByteArray := prog_8_method_3_code
def yX6_isIn : MethodName := ⟨RX6, "isIn", "(III)Z"⟩
abbrev cX6_bound : ByteArray := prog_8_method_4_code
def yX6_bound : MethodName := ⟨RX6, "bound", "(III)I"⟩
abbrev cX6_has : ByteArray := prog_8_method_5_code
def yX6_has : MethodName := ⟨RX6, "has", "(II)Z"⟩
abbrev cX6_bits : ByteArray := prog_8_method_6_code
def yX6_bits : MethodName := ⟨RX6, "bits", "(I)I"⟩
abbrev cX6_isPiece : ByteArray := prog_8_method_7_code
def yX6_isPiece : MethodName := ⟨RX6, "isPiece", "(I)Z"⟩
abbrev cX6_isRoom : ByteArray := prog_8_method_8_code
def yX6_isRoom : MethodName := ⟨RX6, "isRoom", "(I)Z"⟩
abbrev cX6_isPlace : ByteArray := prog_8_method_9_code
def yX6_isPlace : MethodName := ⟨RX6, "isPlace", "(I)Z"⟩
abbrev cX6_letter : ByteArray := prog_8_method_10_code
def yX6_letter : MethodName := ⟨RX6, "letter", "(I)I"⟩
abbrev cX6_next : ByteArray := prog_8_method_11_code
def yX6_next : MethodName := ⟨RX6, "next", "()I"⟩
abbrev cX6_readsDigits : ByteArray := prog_8_method_12_code
def yX6_readsDigits : MethodName := ⟨RX6, "readsDigits", "(II)Z"⟩
abbrev cX6_kindOf : ByteArray := prog_8_method_13_code
def yX6_kindOf : MethodName := ⟨RX6, "kindOf", "(I)I"⟩
abbrev cX6_readsPiece : ByteArray := prog_8_method_14_code
def yX6_readsPiece : MethodName := ⟨RX6, "readsPiece", "(I)Z"⟩
abbrev cX6_readsAll : ByteArray := prog_8_method_15_code
def yX6_readsAll : MethodName := ⟨RX6, "readsAll", "(II)Z"⟩
abbrev cX6_isLetter : ByteArray := prog_8_method_16_code
def yX6_isLetter : MethodName := ⟨RX6, "isLetter", "(I)Z"⟩
abbrev cX6_statement : ByteArray := prog_8_method_17_code
def yX6_statement : MethodName := ⟨RX6, "statement", "()Z"⟩
abbrev cX6_comesPiece : ByteArray := prog_8_method_18_code
def yX6_comesPiece : MethodName := ⟨RX6, "comesPiece", "(I)Z"⟩
abbrev cX6_comes : ByteArray := prog_8_method_19_code
def yX6_comes : MethodName := ⟨RX6, "comes", "(I)Z"⟩
abbrev cX6_house : ByteArray := prog_8_method_20_code
def yX6_house : MethodName := ⟨RX6, "house", "()I"⟩
abbrev cX6_passes : ByteArray := prog_8_method_21_code
def yX6_passes : MethodName := ⟨RX6, "passes", "([I)V"⟩
abbrev cX6_passOne : ByteArray := prog_8_method_22_code
def yX6_passOne : MethodName := ⟨RX6, "passOne", "(I)I"⟩
abbrev cX6_passesAll : ByteArray := prog_8_method_23_code
def yX6_passesAll : MethodName := ⟨RX6, "passesAll", "(IZ)V"⟩
abbrev cX6_image : ByteArray := prog_8_method_24_code
def yX6_image : MethodName := ⟨RX6, "image", "()I"⟩
abbrev cX6_on : ByteArray := prog_8_method_25_code
def yX6_on : MethodName := ⟨RX6, "on", "()I"⟩
abbrev cX6_suiteOf : ByteArray := prog_8_method_26_code
def yX6_suiteOf : MethodName := ⟨RX6, "suiteOf", "(I)I"⟩
abbrev cX6_veneerOf : ByteArray := prog_8_method_27_code
def yX6_veneerOf : MethodName := ⟨RX6, "veneerOf", "(I)I"⟩
abbrev cX6_blameOf : ByteArray := prog_8_method_28_code
def yX6_blameOf : MethodName := ⟨RX6, "blameOf", "(I)I"⟩
abbrev cX6_wideOf : ByteArray := prog_8_method_29_code
def yX6_wideOf : MethodName := ⟨RX6, "wideOf", "(I)I"⟩
abbrev cX6_blameIn : ByteArray := prog_8_method_30_code
def yX6_blameIn : MethodName := ⟨RX6, "blameIn", "(I)I"⟩
abbrev cX6_bulkIn : ByteArray := prog_8_method_31_code
def yX6_bulkIn : MethodName := ⟨RX6, "bulkIn", "(I)I"⟩
abbrev cX6_canCarry : ByteArray := prog_8_method_32_code
def yX6_canCarry : MethodName := ⟨RX6, "canCarry", "(II)Z"⟩
abbrev cX6_goes : ByteArray := prog_8_method_33_code
def yX6_goes : MethodName := ⟨RX6, "goes", "(I)V"⟩
abbrev cX6_piece : ByteArray := prog_8_method_34_code
def yX6_piece : MethodName := ⟨RX6, "piece", "(II)I"⟩
abbrev cX6_carry : ByteArray := prog_8_method_35_code
def yX6_carry : MethodName := ⟨RX6, "carry", "(II)I"⟩
abbrev cX6_stands : ByteArray := prog_8_method_36_code
def yX6_stands : MethodName := ⟨RX6, "stands", "(II)I"⟩
abbrev cX6_polish : ByteArray := prog_8_method_37_code
def yX6_polish : MethodName := ⟨RX6, "polish", "(I)I"⟩
abbrev cX6_size : ByteArray := prog_8_method_38_code
def yX6_size : MethodName := ⟨RX6, "size", "(II)I"⟩
abbrev cX6_isFloor : ByteArray := prog_8_method_39_code
def yX6_isFloor : MethodName := ⟨RX6, "isFloor", "(I)Z"⟩
abbrev cX6_wide : ByteArray := prog_8_method_40_code
def yX6_wide : MethodName := ⟨RX6, "wide", "(II)I"⟩
abbrev cX6_heirs : ByteArray := prog_8_method_41_code
def yX6_heirs : MethodName := ⟨RX6, "heirs", "(I)I"⟩
abbrev cX6_years : ByteArray := prog_8_method_42_code
def yX6_years : MethodName := ⟨RX6, "years", "(I)I"⟩
abbrev cX6_blame : ByteArray := prog_8_method_43_code
def yX6_blame : MethodName := ⟨RX6, "blame", "(I)I"⟩
abbrev cX6_worst : ByteArray := prog_8_method_44_code
def yX6_worst : MethodName := ⟨RX6, "worst", "()I"⟩
abbrev cX6_crowded : ByteArray := prog_8_method_45_code
def yX6_crowded : MethodName := ⟨RX6, "crowded", "()I"⟩
abbrev cX6_isPlaced : ByteArray := prog_8_method_46_code
def yX6_isPlaced : MethodName := ⟨RX6, "isPlaced", "(II)Z"⟩
abbrev cX6_roomsUsed : ByteArray := prog_8_method_47_code
def yX6_roomsUsed : MethodName := ⟨RX6, "roomsUsed", "()I"⟩
abbrev cX6_power : ByteArray := prog_8_method_48_code
def yX6_power : MethodName := ⟨RX6, "power", "(II)I"⟩
abbrev cX6_findPlacing : ByteArray := prog_8_method_49_code
def yX6_findPlacing : MethodName := ⟨RX6, "findPlacing", "(II)V"⟩
abbrev cX6_placing : ByteArray := prog_8_method_50_code
def yX6_placing : MethodName := ⟨RX6, "placing", "(III)I"⟩
abbrev cX6_innocent : ByteArray := prog_8_method_51_code
def yX6_innocent : MethodName := ⟨RX6, "innocent", "()I"⟩
abbrev cX6_givesAll : ByteArray := prog_8_method_52_code
def yX6_givesAll : MethodName := ⟨RX6, "givesAll", "()V"⟩
abbrev cX6_apart : ByteArray := prog_8_method_53_code
def yX6_apart : MethodName := ⟨RX6, "apart", "()I"⟩
abbrev cX6_sharesBy : ByteArray := prog_8_method_54_code
def yX6_sharesBy : MethodName := ⟨RX6, "sharesBy", "(I)V"⟩
abbrev cX6_findShares : ByteArray := prog_8_method_55_code
def yX6_findShares : MethodName := ⟨RX6, "findShares", "()I"⟩
abbrev cX6_notShare : ByteArray := prog_8_method_56_code
def yX6_notShare : MethodName := ⟨RX6, "notShare", "(I)I"⟩
abbrev cX6_shares : ByteArray := prog_8_method_57_code
def yX6_shares : MethodName := ⟨RX6, "shares", "(I)I"⟩
abbrev cX6_poorest : ByteArray := prog_8_method_58_code
def yX6_poorest : MethodName := ⟨RX6, "poorest", "()I"⟩
abbrev cX6_deals : ByteArray := prog_8_method_59_code
def yX6_deals : MethodName := ⟨RX6, "deals", "()V"⟩
abbrev cX6_dealt : ByteArray := prog_8_method_60_code
def yX6_dealt : MethodName := ⟨RX6, "dealt", "(I)I"⟩
abbrev cX6_envy : ByteArray := prog_8_method_61_code
def yX6_envy : MethodName := ⟨RX6, "envy", "()I"⟩
abbrev cX6_mildest : ByteArray := prog_8_method_62_code
def yX6_mildest : MethodName := ⟨RX6, "mildest", "(I)I"⟩
abbrev cX6_choice : ByteArray := prog_8_method_63_code
def yX6_choice : MethodName := ⟨RX6, "choice", "(I)I"⟩
abbrev cX6_leaves : ByteArray := prog_8_method_64_code
def yX6_leaves : MethodName := ⟨RX6, "leaves", "(I)V"⟩
abbrev cX6_blameWithout : ByteArray := prog_8_method_65_code
def yX6_blameWithout : MethodName := ⟨RX6, "blameWithout", "(II)I"⟩
abbrev cX6_sell : ByteArray := prog_8_method_66_code
def yX6_sell : MethodName := ⟨RX6, "sell", "(I)I"⟩
abbrev cX6_burn : ByteArray := prog_8_method_67_code
def yX6_burn : MethodName := ⟨RX6, "burn", "()I"⟩
abbrev cX6_blameWith : ByteArray := prog_8_method_68_code
def yX6_blameWith : MethodName := ⟨RX6, "blameWith", "(II)I"⟩
abbrev cX6_heavier : ByteArray := prog_8_method_69_code
def yX6_heavier : MethodName := ⟨RX6, "heavier", "()I"⟩
abbrev cX6_blameBehind : ByteArray := prog_8_method_70_code
def yX6_blameBehind : MethodName := ⟨RX6, "blameBehind", "(I)I"⟩
abbrev cX6_later : ByteArray := prog_8_method_71_code
def yX6_later : MethodName := ⟨RX6, "later", "(I)I"⟩
abbrev cX6_gone : ByteArray := prog_8_method_72_code
def yX6_gone : MethodName := ⟨RX6, "gone", "(I)I"⟩
abbrev cX6_makes : ByteArray := prog_8_method_73_code
def yX6_makes : MethodName := ⟨RX6, "makes", "(II)Z"⟩
abbrev cX6_whose : ByteArray := prog_8_method_74_code
def yX6_whose : MethodName := ⟨RX6, "whose", "(I)I"⟩
abbrev cX6_evenBy : ByteArray := prog_8_method_75_code
def yX6_evenBy : MethodName := ⟨RX6, "evenBy", "(II)I"⟩
abbrev cX6_ask : ByteArray := prog_8_method_76_code
def yX6_ask : MethodName := ⟨RX6, "ask", "(I)I"⟩
abbrev cX6_wider : ByteArray := prog_8_method_77_code
def yX6_wider : MethodName := ⟨RX6, "wider", "(III)I"⟩
abbrev cX6_bigger : ByteArray := prog_8_method_78_code
def yX6_bigger : MethodName := ⟨RX6, "bigger", "(II)I"⟩
abbrev cX6_guest : ByteArray := prog_8_method_79_code
def yX6_guest : MethodName := ⟨RX6, "guest", "(I)I"⟩
abbrev cX6_row : ByteArray := prog_8_method_80_code
def yX6_row : MethodName := ⟨RX6, "row", "(I)I"⟩
abbrev cX6_firstOther : ByteArray := prog_8_method_81_code
def yX6_firstOther : MethodName := ⟨RX6, "firstOther", "()I"⟩
abbrev cX6_fits : ByteArray := prog_8_method_82_code
def yX6_fits : MethodName := ⟨RX6, "fits", "(I)I"⟩
abbrev cX6_judge : ByteArray := prog_8_method_83_code
def yX6_judge : MethodName := ⟨RX6, "judge", "()I"⟩
abbrev cX6_lots : ByteArray := prog_8_method_84_code
def yX6_lots : MethodName := ⟨RX6, "lots", "(II)I"⟩
abbrev cX6_count : ByteArray := prog_8_method_85_code
def yX6_count : MethodName := ⟨RX6, "count", "(I)I"⟩
def RJx145de : String := "java/io/Serializable"
def TJx145de : u_T := fun k => match k with
  | _ => ("", "", "", false)
def tyJx145de : Nat → FieldType := fun k => match k with
  | _ => .int
abbrev wsJx145de0 : List Cond := u_ws RJx145de TJx145de 0
theorem nmJx145de : ∀ a, a < 0 → ∀ b, b < 0 → a ≠ b → (TJx145de a).2.1 ≠ (TJx145de b).2.1 := by decide +kernel
theorem tyJx145de_ok : ∀ k, k < 0 → parseFieldDescriptor (TJx145de k).2.2.1 = some (tyJx145de k) := by decide +kernel
def RJx9f9b0 : String := "java/lang/CharSequence"
def TJx9f9b0 : u_T := fun k => match k with
  | _ => ("", "", "", false)
def tyJx9f9b0 : Nat → FieldType := fun k => match k with
  | _ => .int
abbrev wsJx9f9b00 : List Cond := u_ws RJx9f9b0 TJx9f9b0 0
theorem nmJx9f9b0 : ∀ a, a < 0 → ∀ b, b < 0 → a ≠ b → (TJx9f9b0 a).2.1 ≠ (TJx9f9b0 b).2.1 := by decide +kernel
theorem tyJx9f9b0_ok : ∀ k, k < 0 → parseFieldDescriptor (TJx9f9b0 k).2.2.1 = some (tyJx9f9b0 k) := by decide +kernel
def RJxb160c : String := "java/lang/Comparable"
def TJxb160c : u_T := fun k => match k with
  | _ => ("", "", "", false)
def tyJxb160c : Nat → FieldType := fun k => match k with
  | _ => .int
abbrev wsJxb160c0 : List Cond := u_ws RJxb160c TJxb160c 0
theorem nmJxb160c : ∀ a, a < 0 → ∀ b, b < 0 → a ≠ b → (TJxb160c a).2.1 ≠ (TJxb160c b).2.1 := by decide +kernel
theorem tyJxb160c_ok : ∀ k, k < 0 → parseFieldDescriptor (TJxb160c k).2.2.1 = some (tyJxb160c k) := by decide +kernel
def RJ9 : String := "java/lang/Math"
def TJ9 : u_T := fun k => match k with
  | _ => ("", "", "", false)
def tyJ9 : Nat → FieldType := fun k => match k with
  | _ => .int
abbrev wsJ90 : List Cond := u_ws RJ9 TJ9 0
theorem nmJ9 : ∀ a, a < 0 → ∀ b, b < 0 → a ≠ b → (TJ9 a).2.1 ≠ (TJ9 b).2.1 := by decide +kernel
theorem tyJ9_ok : ∀ k, k < 0 → parseFieldDescriptor (TJ9 k).2.2.1 = some (tyJ9 k) := by decide +kernel
abbrev cJ9_max_7cf53 : ByteArray := prog_9_method_65_code
def yJ9_max_7cf53 : MethodName := ⟨RJ9, "max", "(II)I"⟩
abbrev cJ9_min_7cf53 : ByteArray := prog_9_method_69_code
def yJ9_min_7cf53 : MethodName := ⟨RJ9, "min", "(II)I"⟩
def RJ0 : String := "java/lang/String"
def TJ0 : u_T := fun k => match k with
  | _ => ("", "", "", false)
def tyJ0 : Nat → FieldType := fun k => match k with
  | _ => .int
abbrev wsJ00 : List Cond := u_ws RJ0 TJ0 0
theorem nmJ0 : ∀ a, a < 0 → ∀ b, b < 0 → a ≠ b → (TJ0 a).2.1 ≠ (TJ0 b).2.1 := by decide +kernel
theorem tyJ0_ok : ∀ k, k < 0 → parseFieldDescriptor (TJ0 k).2.2.1 = some (tyJ0 k) := by decide +kernel
abbrev cJ0_length_8abf5 : ByteArray := prog_10_method_54_code
def yJ0_length_8abf5 : MethodName := ⟨RJ0, "length", "()I"⟩
abbrev cJ0_isEmpty_aae02 : ByteArray := prog_10_method_55_code
def yJ0_isEmpty_aae02 : MethodName := ⟨RJ0, "isEmpty", "()Z"⟩
abbrev cJ0_charAt_5068e : ByteArray := prog_10_method_56_code
def yJ0_charAt_5068e : MethodName := ⟨RJ0, "charAt", "(I)C"⟩
abbrev cJ0_coder_7d493 : ByteArray := prog_10_method_152_code
def yJ0_coder_7d493 : MethodName := ⟨RJ0, "coder", "()B"⟩
abbrev cJ0_isLatin1_aae02 : ByteArray := prog_10_method_154_code
def yJ0_isLatin1_aae02 : MethodName := ⟨RJ0, "isLatin1", "()Z"⟩
abbrev cJ0_checkIndex_df160 : ByteArray := prog_10_method_155_code
def yJ0_checkIndex_df160 : MethodName := ⟨RJ0, "checkIndex", "(II)V"⟩
def RJ1 : String := "java/lang/StringLatin1"
def TJ1 : u_T := fun k => match k with
  | _ => ("", "", "", false)
def tyJ1 : Nat → FieldType := fun k => match k with
  | _ => .int
abbrev wsJ10 : List Cond := u_ws RJ1 TJ1 0
theorem nmJ1 : ∀ a, a < 0 → ∀ b, b < 0 → a ≠ b → (TJ1 a).2.1 ≠ (TJ1 b).2.1 := by decide +kernel
theorem tyJ1_ok : ∀ k, k < 0 → parseFieldDescriptor (TJ1 k).2.2.1 = some (tyJ1 k) := by decide +kernel
abbrev cJ1_charAt_3b067 : ByteArray := prog_11_method_2_code
def yJ1_charAt_3b067 : MethodName := ⟨RJ1, "charAt", "([BI)C"⟩
def RJ2 : String := "java/lang/StringUTF16"
def TJ2 : u_T := fun k => match k with
  | _ => ("", "", "", false)
def tyJ2 : Nat → FieldType := fun k => match k with
  | _ => .int
abbrev wsJ20 : List Cond := u_ws RJ2 TJ2 0
theorem nmJ2 : ∀ a, a < 0 → ∀ b, b < 0 → a ≠ b → (TJ2 a).2.1 ≠ (TJ2 b).2.1 := by decide +kernel
theorem tyJ2_ok : ∀ k, k < 0 → parseFieldDescriptor (TJ2 k).2.2.1 = some (tyJ2 k) := by decide +kernel
abbrev cJ2_getChar_3b067 : ByteArray := prog_12_method_5_code
def yJ2_getChar_3b067 : MethodName := ⟨RJ2, "getChar", "([BI)C"⟩
abbrev cJ2_length_9d52b : ByteArray := prog_12_method_6_code
def yJ2_length_9d52b : MethodName := ⟨RJ2, "length", "([B)I"⟩
abbrev cJ2_charAt_3b067 : ByteArray := prog_12_method_83_code
def yJ2_charAt_3b067 : MethodName := ⟨RJ2, "charAt", "([BI)C"⟩
abbrev cJ2_checkIndex_2214a : ByteArray := prog_12_method_91_code
def yJ2_checkIndex_2214a : MethodName := ⟨RJ2, "checkIndex", "(I[B)V"⟩
def RJ10 : String := "java/lang/System"
def TJ10 : u_T := fun k => match k with
  | _ => ("", "", "", false)
def tyJ10 : Nat → FieldType := fun k => match k with
  | _ => .int
abbrev wsJ100 : List Cond := u_ws RJ10 TJ10 0
theorem nmJ10 : ∀ a, a < 0 → ∀ b, b < 0 → a ≠ b → (TJ10 a).2.1 ≠ (TJ10 b).2.1 := by decide +kernel
theorem tyJ10_ok : ∀ k, k < 0 → parseFieldDescriptor (TJ10 k).2.2.1 = some (tyJ10 k) := by decide +kernel
def RJxfd54e : String := "java/lang/constant/Constable"
def TJxfd54e : u_T := fun k => match k with
  | _ => ("", "", "", false)
def tyJxfd54e : Nat → FieldType := fun k => match k with
  | _ => .int
abbrev wsJxfd54e0 : List Cond := u_ws RJxfd54e TJxfd54e 0
theorem nmJxfd54e : ∀ a, a < 0 → ∀ b, b < 0 → a ≠ b → (TJxfd54e a).2.1 ≠ (TJxfd54e b).2.1 := by decide +kernel
theorem tyJxfd54e_ok : ∀ k, k < 0 → parseFieldDescriptor (TJxfd54e k).2.2.1 = some (tyJxfd54e k) := by decide +kernel
def RJx3cf43 : String := "java/lang/constant/ConstantDesc"
def TJx3cf43 : u_T := fun k => match k with
  | _ => ("", "", "", false)
def tyJx3cf43 : Nat → FieldType := fun k => match k with
  | _ => .int
abbrev wsJx3cf430 : List Cond := u_ws RJx3cf43 TJx3cf43 0
theorem nmJx3cf43 : ∀ a, a < 0 → ∀ b, b < 0 → a ≠ b → (TJx3cf43 a).2.1 ≠ (TJx3cf43 b).2.1 := by decide +kernel
theorem tyJx3cf43_ok : ∀ k, k < 0 → parseFieldDescriptor (TJx3cf43 k).2.2.1 = some (tyJx3cf43 k) := by decide +kernel
def RJ7 : String := "java/util/Arrays"
def TJ7 : u_T := fun k => match k with
  | _ => ("", "", "", false)
def tyJ7 : Nat → FieldType := fun k => match k with
  | _ => .int
abbrev wsJ70 : List Cond := u_ws RJ7 TJ7 0
theorem nmJ7 : ∀ a, a < 0 → ∀ b, b < 0 → a ≠ b → (TJ7 a).2.1 ≠ (TJ7 b).2.1 := by decide +kernel
theorem tyJ7_ok : ∀ k, k < 0 → parseFieldDescriptor (TJ7 k).2.2.1 = some (tyJ7 k) := by decide +kernel
abbrev cJ7_fill_53178 : ByteArray := prog_14_method_103_code
def yJ7_fill_53178 : MethodName := ⟨RJ7, "fill", "([II)V"⟩
def RJ3 : String := "jdk/internal/util/Preconditions"
def TJ3 : u_T := fun k => match k with
  | _ => ("", "", "", false)
def tyJ3 : Nat → FieldType := fun k => match k with
  | _ => .int
abbrev wsJ30 : List Cond := u_ws RJ3 TJ3 0
theorem nmJ3 : ∀ a, a < 0 → ∀ b, b < 0 → a ≠ b → (TJ3 a).2.1 ≠ (TJ3 b).2.1 := by decide +kernel
theorem tyJ3_ok : ∀ k, k < 0 → parseFieldDescriptor (TJ3 k).2.2.1 = some (tyJ3 k) := by decide +kernel
abbrev cJ3_checkIndex_8e157 : ByteArray := prog_15_method_11_code
def yJ3_checkIndex_8e157 : MethodName := ⟨RJ3, "checkIndex", "(IILjava/util/function/BiFunction;)I"⟩
def RL : String := "BlameIsFurnitureLaw"
abbrev cL_law : ByteArray := code
def yL_law : MethodName := ⟨RL, "law", "([I)Z"⟩
