section
-- ===== PART A: goes FIRST, ahead of the names: the tables' words, and 'selects' of the private methods out of them =====
/-- a private method of a class that the tables say can be made, by its rows of tables_1 -/
def lw_okq (q : MethodName × Nat) : Prop := (q.1.cls ≠ "java/lang/invoke/MethodHandle" ∧ q.1.cls ≠ "java/lang/invoke/VarHandle") ∧ Cond.instantiable q.1.cls q.2 ∈ tables_1 ∧ Cond.privateMethod q.1 ∈ tables_1 ∧ Cond.instanceMethod q.1 ∈ tables_1
theorem lw_p0 : lw_okq (⟨"BlameIsFurniture$Text", "add", "(I)I"⟩, 2) := ⟨⟨by decide +kernel, by decide +kernel⟩, List.mem_of_getElem? (i := 79) (by decide +kernel), List.mem_of_getElem? (i := 198) (by decide +kernel), List.mem_of_getElem? (i := 199) (by decide +kernel)⟩
theorem lw_p1 : lw_okq (⟨"BlameIsFurniture", "answer", "(I)I"⟩, 9) := ⟨⟨by decide +kernel, by decide +kernel⟩, List.mem_of_getElem? (i := 16) (by decide +kernel), List.mem_of_getElem? (i := 202) (by decide +kernel), List.mem_of_getElem? (i := 203) (by decide +kernel)⟩
theorem lw_p2 : lw_okq (⟨"BlameIsFurniture", "thoughtOfNow", "()LBlameIsFurniture$House;"⟩, 9) := ⟨⟨by decide +kernel, by decide +kernel⟩, List.mem_of_getElem? (i := 16) (by decide +kernel), List.mem_of_getElem? (i := 210) (by decide +kernel), List.mem_of_getElem? (i := 211) (by decide +kernel)⟩
theorem lw_p3 : lw_okq (⟨"BlameIsFurniture$House", "copyFrom", "(LBlameIsFurniture$House;)V"⟩, 10) := ⟨⟨by decide +kernel, by decide +kernel⟩, List.mem_of_getElem? (i := 24) (by decide +kernel), List.mem_of_getElem? (i := 214) (by decide +kernel), List.mem_of_getElem? (i := 215) (by decide +kernel)⟩
theorem lw_p4 : lw_okq (⟨"BlameIsFurniture$Text", "tellInto", "(LBlameIsFurniture$House;)I"⟩, 2) := ⟨⟨by decide +kernel, by decide +kernel⟩, List.mem_of_getElem? (i := 79) (by decide +kernel), List.mem_of_getElem? (i := 221) (by decide +kernel), List.mem_of_getElem? (i := 222) (by decide +kernel)⟩
theorem lw_p5 : lw_okq (⟨"BlameIsFurniture$Text", "firstBadPlace", "()I"⟩, 2) := ⟨⟨by decide +kernel, by decide +kernel⟩, List.mem_of_getElem? (i := 79) (by decide +kernel), List.mem_of_getElem? (i := 225) (by decide +kernel), List.mem_of_getElem? (i := 226) (by decide +kernel)⟩
theorem lw_p6 : lw_okq (⟨"BlameIsFurniture$Text", "letterAt", "(I)I"⟩, 2) := ⟨⟨by decide +kernel, by decide +kernel⟩, List.mem_of_getElem? (i := 79) (by decide +kernel), List.mem_of_getElem? (i := 229) (by decide +kernel), List.mem_of_getElem? (i := 230) (by decide +kernel)⟩
theorem lw_p7 : lw_okq (⟨"BlameIsFurniture$Text", "tellStatement", "(LBlameIsFurniture$House;I)I"⟩, 2) := ⟨⟨by decide +kernel, by decide +kernel⟩, List.mem_of_getElem? (i := 79) (by decide +kernel), List.mem_of_getElem? (i := 300) (by decide +kernel), List.mem_of_getElem? (i := 301) (by decide +kernel)⟩
theorem lw_p8 : lw_okq (⟨"BlameIsFurniture$Text", "digitAt", "(I)I"⟩, 2) := ⟨⟨by decide +kernel, by decide +kernel⟩, List.mem_of_getElem? (i := 79) (by decide +kernel), List.mem_of_getElem? (i := 304) (by decide +kernel), List.mem_of_getElem? (i := 305) (by decide +kernel)⟩
theorem lw_p9 : lw_okq (⟨"BlameIsFurniture$Text", "numberAt", "(I)I"⟩, 2) := ⟨⟨by decide +kernel, by decide +kernel⟩, List.mem_of_getElem? (i := 79) (by decide +kernel), List.mem_of_getElem? (i := 308) (by decide +kernel), List.mem_of_getElem? (i := 309) (by decide +kernel)⟩
theorem lw_p10 : lw_okq (⟨"BlameIsFurniture$House", "addPiece", "(IIII)I"⟩, 10) := ⟨⟨by decide +kernel, by decide +kernel⟩, List.mem_of_getElem? (i := 24) (by decide +kernel), List.mem_of_getElem? (i := 312) (by decide +kernel), List.mem_of_getElem? (i := 313) (by decide +kernel)⟩
theorem lw_p11 : lw_okq (⟨"BlameIsFurniture$House", "carryTo", "(II)I"⟩, 10) := ⟨⟨by decide +kernel, by decide +kernel⟩, List.mem_of_getElem? (i := 24) (by decide +kernel), List.mem_of_getElem? (i := 316) (by decide +kernel), List.mem_of_getElem? (i := 317) (by decide +kernel)⟩
theorem lw_p12 : lw_okq (⟨"BlameIsFurniture$House", "hasPiece", "(I)Z"⟩, 10) := ⟨⟨by decide +kernel, by decide +kernel⟩, List.mem_of_getElem? (i := 24) (by decide +kernel), List.mem_of_getElem? (i := 320) (by decide +kernel), List.mem_of_getElem? (i := 321) (by decide +kernel)⟩
theorem lw_p13 : lw_okq (⟨"BlameIsFurniture$House", "canBeCarried", "(II)Z"⟩, 10) := ⟨⟨by decide +kernel, by decide +kernel⟩, List.mem_of_getElem? (i := 24) (by decide +kernel), List.mem_of_getElem? (i := 330) (by decide +kernel), List.mem_of_getElem? (i := 331) (by decide +kernel)⟩
theorem lw_p14 : lw_okq (⟨"BlameIsFurniture$House", "hasSpace", "(II)Z"⟩, 10) := ⟨⟨by decide +kernel, by decide +kernel⟩, List.mem_of_getElem? (i := 24) (by decide +kernel), List.mem_of_getElem? (i := 334) (by decide +kernel), List.mem_of_getElem? (i := 335) (by decide +kernel)⟩
theorem lw_p15 : lw_okq (⟨"BlameIsFurniture$House", "bulkIn", "(I)I"⟩, 10) := ⟨⟨by decide +kernel, by decide +kernel⟩, List.mem_of_getElem? (i := 24) (by decide +kernel), List.mem_of_getElem? (i := 339) (by decide +kernel), List.mem_of_getElem? (i := 340) (by decide +kernel)⟩
def lw_privs_1 : List (MethodName × Nat) := [(⟨"BlameIsFurniture$Text", "add", "(I)I"⟩, 2), (⟨"BlameIsFurniture", "answer", "(I)I"⟩, 9), (⟨"BlameIsFurniture", "thoughtOfNow", "()LBlameIsFurniture$House;"⟩, 9), (⟨"BlameIsFurniture$House", "copyFrom", "(LBlameIsFurniture$House;)V"⟩, 10), (⟨"BlameIsFurniture$Text", "tellInto", "(LBlameIsFurniture$House;)I"⟩, 2), (⟨"BlameIsFurniture$Text", "firstBadPlace", "()I"⟩, 2), (⟨"BlameIsFurniture$Text", "letterAt", "(I)I"⟩, 2), (⟨"BlameIsFurniture$Text", "tellStatement", "(LBlameIsFurniture$House;I)I"⟩, 2), (⟨"BlameIsFurniture$Text", "digitAt", "(I)I"⟩, 2), (⟨"BlameIsFurniture$Text", "numberAt", "(I)I"⟩, 2), (⟨"BlameIsFurniture$House", "addPiece", "(IIII)I"⟩, 10), (⟨"BlameIsFurniture$House", "carryTo", "(II)I"⟩, 10), (⟨"BlameIsFurniture$House", "hasPiece", "(I)Z"⟩, 10), (⟨"BlameIsFurniture$House", "canBeCarried", "(II)Z"⟩, 10), (⟨"BlameIsFurniture$House", "hasSpace", "(II)Z"⟩, 10), (⟨"BlameIsFurniture$House", "bulkIn", "(I)I"⟩, 10)]
theorem lw_r1 : ∀ q ∈ lw_privs_1, lw_okq q := List.forall_mem_cons.mpr ⟨lw_p0, List.forall_mem_cons.mpr ⟨lw_p1, List.forall_mem_cons.mpr ⟨lw_p2, List.forall_mem_cons.mpr ⟨lw_p3, List.forall_mem_cons.mpr ⟨lw_p4, List.forall_mem_cons.mpr ⟨lw_p5, List.forall_mem_cons.mpr ⟨lw_p6, List.forall_mem_cons.mpr ⟨lw_p7, List.forall_mem_cons.mpr ⟨lw_p8, List.forall_mem_cons.mpr ⟨lw_p9, List.forall_mem_cons.mpr ⟨lw_p10, List.forall_mem_cons.mpr ⟨lw_p11, List.forall_mem_cons.mpr ⟨lw_p12, List.forall_mem_cons.mpr ⟨lw_p13, List.forall_mem_cons.mpr ⟨lw_p14, List.forall_mem_cons.mpr ⟨lw_p15, fun _ h => absurd h List.not_mem_nil⟩⟩⟩⟩⟩⟩⟩⟩⟩⟩⟩⟩⟩⟩⟩⟩
theorem lw_p16 : lw_okq (⟨"BlameIsFurniture$House", "passesStairs", "(II)Z"⟩, 10) := ⟨⟨by decide +kernel, by decide +kernel⟩, List.mem_of_getElem? (i := 24) (by decide +kernel), List.mem_of_getElem? (i := 343) (by decide +kernel), List.mem_of_getElem? (i := 344) (by decide +kernel)⟩
theorem lw_p17 : lw_okq (⟨"BlameIsFurniture$House", "wideOfPiece", "(I)I"⟩, 10) := ⟨⟨by decide +kernel, by decide +kernel⟩, List.mem_of_getElem? (i := 24) (by decide +kernel), List.mem_of_getElem? (i := 347) (by decide +kernel), List.mem_of_getElem? (i := 348) (by decide +kernel)⟩
theorem lw_p18 : lw_okq (⟨"BlameIsFurniture$House", "resize", "(II)I"⟩, 10) := ⟨⟨by decide +kernel, by decide +kernel⟩, List.mem_of_getElem? (i := 24) (by decide +kernel), List.mem_of_getElem? (i := 357) (by decide +kernel), List.mem_of_getElem? (i := 358) (by decide +kernel)⟩
theorem lw_p19 : lw_okq (⟨"BlameIsFurniture$House", "widen", "(II)I"⟩, 10) := ⟨⟨by decide +kernel, by decide +kernel⟩, List.mem_of_getElem? (i := 24) (by decide +kernel), List.mem_of_getElem? (i := 364) (by decide +kernel), List.mem_of_getElem? (i := 365) (by decide +kernel)⟩
theorem lw_p20 : lw_okq (⟨"BlameIsFurniture$House", "nameHeirs", "(I)I"⟩, 10) := ⟨⟨by decide +kernel, by decide +kernel⟩, List.mem_of_getElem? (i := 24) (by decide +kernel), List.mem_of_getElem? (i := 371) (by decide +kernel), List.mem_of_getElem? (i := 372) (by decide +kernel)⟩
theorem lw_p21 : lw_okq (⟨"BlameIsFurniture$House", "letYearsGoBy", "(I)I"⟩, 10) := ⟨⟨by decide +kernel, by decide +kernel⟩, List.mem_of_getElem? (i := 24) (by decide +kernel), List.mem_of_getElem? (i := 375) (by decide +kernel), List.mem_of_getElem? (i := 376) (by decide +kernel)⟩
theorem lw_p22 : lw_okq (⟨"BlameIsFurniture$House", "passYear", "()V"⟩, 10) := ⟨⟨by decide +kernel, by decide +kernel⟩, List.mem_of_getElem? (i := 24) (by decide +kernel), List.mem_of_getElem? (i := 379) (by decide +kernel), List.mem_of_getElem? (i := 380) (by decide +kernel)⟩
theorem lw_p23 : lw_okq (⟨"BlameIsFurniture$House", "polishPiece", "(I)I"⟩, 10) := ⟨⟨by decide +kernel, by decide +kernel⟩, List.mem_of_getElem? (i := 24) (by decide +kernel), List.mem_of_getElem? (i := 383) (by decide +kernel), List.mem_of_getElem? (i := 384) (by decide +kernel)⟩
theorem lw_p24 : lw_okq (⟨"BlameIsFurniture$Text", "clear", "()V"⟩, 2) := ⟨⟨by decide +kernel, by decide +kernel⟩, List.mem_of_getElem? (i := 79) (by decide +kernel), List.mem_of_getElem? (i := 387) (by decide +kernel), List.mem_of_getElem? (i := 388) (by decide +kernel)⟩
theorem lw_p25 : lw_okq (⟨"BlameIsFurniture$House", "told", "(II)I"⟩, 10) := ⟨⟨by decide +kernel, by decide +kernel⟩, List.mem_of_getElem? (i := 24) (by decide +kernel), List.mem_of_getElem? (i := 396) (by decide +kernel), List.mem_of_getElem? (i := 397) (by decide +kernel)⟩
theorem lw_p26 : lw_okq (⟨"BlameIsFurniture$House", "blameOfPiece", "(I)I"⟩, 10) := ⟨⟨by decide +kernel, by decide +kernel⟩, List.mem_of_getElem? (i := 24) (by decide +kernel), List.mem_of_getElem? (i := 400) (by decide +kernel), List.mem_of_getElem? (i := 401) (by decide +kernel)⟩
theorem lw_p27 : lw_okq (⟨"BlameIsFurniture$House", "blameOfSuite", "(I)I"⟩, 10) := ⟨⟨by decide +kernel, by decide +kernel⟩, List.mem_of_getElem? (i := 24) (by decide +kernel), List.mem_of_getElem? (i := 404) (by decide +kernel), List.mem_of_getElem? (i := 405) (by decide +kernel)⟩
theorem lw_p28 : lw_okq (⟨"BlameIsFurniture$House", "companyOf", "(I)I"⟩, 10) := ⟨⟨by decide +kernel, by decide +kernel⟩, List.mem_of_getElem? (i := 24) (by decide +kernel), List.mem_of_getElem? (i := 408) (by decide +kernel), List.mem_of_getElem? (i := 409) (by decide +kernel)⟩
theorem lw_p29 : lw_okq (⟨"BlameIsFurniture$House", "blameOfVeneer", "(I)I"⟩, 10) := ⟨⟨by decide +kernel, by decide +kernel⟩, List.mem_of_getElem? (i := 24) (by decide +kernel), List.mem_of_getElem? (i := 412) (by decide +kernel), List.mem_of_getElem? (i := 413) (by decide +kernel)⟩
theorem lw_p30 : lw_okq (⟨"BlameIsFurniture$House", "blameOfAll", "()I"⟩, 10) := ⟨⟨by decide +kernel, by decide +kernel⟩, List.mem_of_getElem? (i := 24) (by decide +kernel), List.mem_of_getElem? (i := 457) (by decide +kernel), List.mem_of_getElem? (i := 458) (by decide +kernel)⟩
theorem lw_p31 : lw_okq (⟨"BlameIsFurniture$House", "blameIn", "(I)I"⟩, 10) := ⟨⟨by decide +kernel, by decide +kernel⟩, List.mem_of_getElem? (i := 24) (by decide +kernel), List.mem_of_getElem? (i := 461) (by decide +kernel), List.mem_of_getElem? (i := 462) (by decide +kernel)⟩
def lw_privs_2 : List (MethodName × Nat) := [(⟨"BlameIsFurniture$House", "passesStairs", "(II)Z"⟩, 10), (⟨"BlameIsFurniture$House", "wideOfPiece", "(I)I"⟩, 10), (⟨"BlameIsFurniture$House", "resize", "(II)I"⟩, 10), (⟨"BlameIsFurniture$House", "widen", "(II)I"⟩, 10), (⟨"BlameIsFurniture$House", "nameHeirs", "(I)I"⟩, 10), (⟨"BlameIsFurniture$House", "letYearsGoBy", "(I)I"⟩, 10), (⟨"BlameIsFurniture$House", "passYear", "()V"⟩, 10), (⟨"BlameIsFurniture$House", "polishPiece", "(I)I"⟩, 10), (⟨"BlameIsFurniture$Text", "clear", "()V"⟩, 2), (⟨"BlameIsFurniture$House", "told", "(II)I"⟩, 10), (⟨"BlameIsFurniture$House", "blameOfPiece", "(I)I"⟩, 10), (⟨"BlameIsFurniture$House", "blameOfSuite", "(I)I"⟩, 10), (⟨"BlameIsFurniture$House", "companyOf", "(I)I"⟩, 10), (⟨"BlameIsFurniture$House", "blameOfVeneer", "(I)I"⟩, 10), (⟨"BlameIsFurniture$House", "blameOfAll", "()I"⟩, 10), (⟨"BlameIsFurniture$House", "blameIn", "(I)I"⟩, 10)]
theorem lw_r2 : ∀ q ∈ lw_privs_2, lw_okq q := List.forall_mem_cons.mpr ⟨lw_p16, List.forall_mem_cons.mpr ⟨lw_p17, List.forall_mem_cons.mpr ⟨lw_p18, List.forall_mem_cons.mpr ⟨lw_p19, List.forall_mem_cons.mpr ⟨lw_p20, List.forall_mem_cons.mpr ⟨lw_p21, List.forall_mem_cons.mpr ⟨lw_p22, List.forall_mem_cons.mpr ⟨lw_p23, List.forall_mem_cons.mpr ⟨lw_p24, List.forall_mem_cons.mpr ⟨lw_p25, List.forall_mem_cons.mpr ⟨lw_p26, List.forall_mem_cons.mpr ⟨lw_p27, List.forall_mem_cons.mpr ⟨lw_p28, List.forall_mem_cons.mpr ⟨lw_p29, List.forall_mem_cons.mpr ⟨lw_p30, List.forall_mem_cons.mpr ⟨lw_p31, fun _ h => absurd h List.not_mem_nil⟩⟩⟩⟩⟩⟩⟩⟩⟩⟩⟩⟩⟩⟩⟩⟩
theorem lw_p32 : lw_okq (⟨"BlameIsFurniture$House", "worstRoom", "()I"⟩, 10) := ⟨⟨by decide +kernel, by decide +kernel⟩, List.mem_of_getElem? (i := 24) (by decide +kernel), List.mem_of_getElem? (i := 469) (by decide +kernel), List.mem_of_getElem? (i := 470) (by decide +kernel)⟩
theorem lw_p33 : lw_okq (⟨"BlameIsFurniture$Placing", "search", "(IZ)I"⟩, 5) := ⟨⟨by decide +kernel, by decide +kernel⟩, List.mem_of_getElem? (i := 107) (by decide +kernel), List.mem_of_getElem? (i := 483) (by decide +kernel), List.mem_of_getElem? (i := 484) (by decide +kernel)⟩
theorem lw_p34 : lw_okq (⟨"BlameIsFurniture$House", "emptyRooms", "()V"⟩, 10) := ⟨⟨by decide +kernel, by decide +kernel⟩, List.mem_of_getElem? (i := 24) (by decide +kernel), List.mem_of_getElem? (i := 487) (by decide +kernel), List.mem_of_getElem? (i := 488) (by decide +kernel)⟩
theorem lw_p35 : lw_okq (⟨"BlameIsFurniture$Placing", "keep", "(I)V"⟩, 5) := ⟨⟨by decide +kernel, by decide +kernel⟩, List.mem_of_getElem? (i := 107) (by decide +kernel), List.mem_of_getElem? (i := 494) (by decide +kernel), List.mem_of_getElem? (i := 495) (by decide +kernel)⟩
theorem lw_p36 : lw_okq (⟨"BlameIsFurniture$Placing", "mayStand", "(II)Z"⟩, 5) := ⟨⟨by decide +kernel, by decide +kernel⟩, List.mem_of_getElem? (i := 107) (by decide +kernel), List.mem_of_getElem? (i := 499) (by decide +kernel), List.mem_of_getElem? (i := 500) (by decide +kernel)⟩
theorem lw_p37 : lw_okq (⟨"BlameIsFurniture$Placing", "costWith", "(II)I"⟩, 5) := ⟨⟨by decide +kernel, by decide +kernel⟩, List.mem_of_getElem? (i := 107) (by decide +kernel), List.mem_of_getElem? (i := 504) (by decide +kernel), List.mem_of_getElem? (i := 505) (by decide +kernel)⟩
theorem lw_p38 : lw_okq (⟨"BlameIsFurniture$House", "piecesIn", "(I)I"⟩, 10) := ⟨⟨by decide +kernel, by decide +kernel⟩, List.mem_of_getElem? (i := 24) (by decide +kernel), List.mem_of_getElem? (i := 508) (by decide +kernel), List.mem_of_getElem? (i := 509) (by decide +kernel)⟩
theorem lw_p39 : lw_okq (⟨"BlameIsFurniture$Placing", "roomOf", "(I)I"⟩, 5) := ⟨⟨by decide +kernel, by decide +kernel⟩, List.mem_of_getElem? (i := 107) (by decide +kernel), List.mem_of_getElem? (i := 514) (by decide +kernel), List.mem_of_getElem? (i := 515) (by decide +kernel)⟩
theorem lw_p40 : lw_okq (⟨"BlameIsFurniture$Sharing", "shareFairly", "(LBlameIsFurniture$House;)V"⟩, 9) := ⟨⟨by decide +kernel, by decide +kernel⟩, List.mem_of_getElem? (i := 130) (by decide +kernel), List.mem_of_getElem? (i := 533) (by decide +kernel), List.mem_of_getElem? (i := 534) (by decide +kernel)⟩
theorem lw_p41 : lw_okq (⟨"BlameIsFurniture$Sharing", "begin", "(LBlameIsFurniture$House;)V"⟩, 9) := ⟨⟨by decide +kernel, by decide +kernel⟩, List.mem_of_getElem? (i := 130) (by decide +kernel), List.mem_of_getElem? (i := 537) (by decide +kernel), List.mem_of_getElem? (i := 538) (by decide +kernel)⟩
theorem lw_p42 : lw_okq (⟨"BlameIsFurniture$Sharing", "keepIfFairer", "()V"⟩, 9) := ⟨⟨by decide +kernel, by decide +kernel⟩, List.mem_of_getElem? (i := 130) (by decide +kernel), List.mem_of_getElem? (i := 550) (by decide +kernel), List.mem_of_getElem? (i := 551) (by decide +kernel)⟩
theorem lw_p43 : lw_okq (⟨"BlameIsFurniture$Sharing", "spread", "()I"⟩, 9) := ⟨⟨by decide +kernel, by decide +kernel⟩, List.mem_of_getElem? (i := 130) (by decide +kernel), List.mem_of_getElem? (i := 554) (by decide +kernel), List.mem_of_getElem? (i := 555) (by decide +kernel)⟩
theorem lw_p44 : lw_okq (⟨"BlameIsFurniture$Sharing", "richest", "()I"⟩, 9) := ⟨⟨by decide +kernel, by decide +kernel⟩, List.mem_of_getElem? (i := 130) (by decide +kernel), List.mem_of_getElem? (i := 558) (by decide +kernel), List.mem_of_getElem? (i := 559) (by decide +kernel)⟩
theorem lw_p45 : lw_okq (⟨"BlameIsFurniture$Sharing", "poorest", "()I"⟩, 9) := ⟨⟨by decide +kernel, by decide +kernel⟩, List.mem_of_getElem? (i := 130) (by decide +kernel), List.mem_of_getElem? (i := 562) (by decide +kernel), List.mem_of_getElem? (i := 563) (by decide +kernel)⟩
theorem lw_p46 : lw_okq (⟨"BlameIsFurniture$Sharing", "give", "(II)V"⟩, 9) := ⟨⟨by decide +kernel, by decide +kernel⟩, List.mem_of_getElem? (i := 130) (by decide +kernel), List.mem_of_getElem? (i := 567) (by decide +kernel), List.mem_of_getElem? (i := 568) (by decide +kernel)⟩
theorem lw_p47 : lw_okq (⟨"BlameIsFurniture$Sharing", "canBeFairer", "(I)Z"⟩, 9) := ⟨⟨by decide +kernel, by decide +kernel⟩, List.mem_of_getElem? (i := 130) (by decide +kernel), List.mem_of_getElem? (i := 571) (by decide +kernel), List.mem_of_getElem? (i := 572) (by decide +kernel)⟩
def lw_privs_3 : List (MethodName × Nat) := [(⟨"BlameIsFurniture$House", "worstRoom", "()I"⟩, 10), (⟨"BlameIsFurniture$Placing", "search", "(IZ)I"⟩, 5), (⟨"BlameIsFurniture$House", "emptyRooms", "()V"⟩, 10), (⟨"BlameIsFurniture$Placing", "keep", "(I)V"⟩, 5), (⟨"BlameIsFurniture$Placing", "mayStand", "(II)Z"⟩, 5), (⟨"BlameIsFurniture$Placing", "costWith", "(II)I"⟩, 5), (⟨"BlameIsFurniture$House", "piecesIn", "(I)I"⟩, 10), (⟨"BlameIsFurniture$Placing", "roomOf", "(I)I"⟩, 5), (⟨"BlameIsFurniture$Sharing", "shareFairly", "(LBlameIsFurniture$House;)V"⟩, 9), (⟨"BlameIsFurniture$Sharing", "begin", "(LBlameIsFurniture$House;)V"⟩, 9), (⟨"BlameIsFurniture$Sharing", "keepIfFairer", "()V"⟩, 9), (⟨"BlameIsFurniture$Sharing", "spread", "()I"⟩, 9), (⟨"BlameIsFurniture$Sharing", "richest", "()I"⟩, 9), (⟨"BlameIsFurniture$Sharing", "poorest", "()I"⟩, 9), (⟨"BlameIsFurniture$Sharing", "give", "(II)V"⟩, 9), (⟨"BlameIsFurniture$Sharing", "canBeFairer", "(I)Z"⟩, 9)]
theorem lw_r3 : ∀ q ∈ lw_privs_3, lw_okq q := List.forall_mem_cons.mpr ⟨lw_p32, List.forall_mem_cons.mpr ⟨lw_p33, List.forall_mem_cons.mpr ⟨lw_p34, List.forall_mem_cons.mpr ⟨lw_p35, List.forall_mem_cons.mpr ⟨lw_p36, List.forall_mem_cons.mpr ⟨lw_p37, List.forall_mem_cons.mpr ⟨lw_p38, List.forall_mem_cons.mpr ⟨lw_p39, List.forall_mem_cons.mpr ⟨lw_p40, List.forall_mem_cons.mpr ⟨lw_p41, List.forall_mem_cons.mpr ⟨lw_p42, List.forall_mem_cons.mpr ⟨lw_p43, List.forall_mem_cons.mpr ⟨lw_p44, List.forall_mem_cons.mpr ⟨lw_p45, List.forall_mem_cons.mpr ⟨lw_p46, List.forall_mem_cons.mpr ⟨lw_p47, fun _ h => absurd h List.not_mem_nil⟩⟩⟩⟩⟩⟩⟩⟩⟩⟩⟩⟩⟩⟩⟩⟩
theorem lw_p48 : lw_okq (⟨"BlameIsFurniture$Sharing", "takeBack", "(II)V"⟩, 9) := ⟨⟨by decide +kernel, by decide +kernel⟩, List.mem_of_getElem? (i := 130) (by decide +kernel), List.mem_of_getElem? (i := 575) (by decide +kernel), List.mem_of_getElem? (i := 576) (by decide +kernel)⟩
theorem lw_p49 : lw_okq (⟨"BlameIsFurniture$Sharing", "spreadOrHeirOf", "(I)I"⟩, 9) := ⟨⟨by decide +kernel, by decide +kernel⟩, List.mem_of_getElem? (i := 130) (by decide +kernel), List.mem_of_getElem? (i := 579) (by decide +kernel), List.mem_of_getElem? (i := 580) (by decide +kernel)⟩
theorem lw_p50 : lw_okq (⟨"BlameIsFurniture$Sharing", "dealOut", "(LBlameIsFurniture$House;)V"⟩, 9) := ⟨⟨by decide +kernel, by decide +kernel⟩, List.mem_of_getElem? (i := 130) (by decide +kernel), List.mem_of_getElem? (i := 587) (by decide +kernel), List.mem_of_getElem? (i := 588) (by decide +kernel)⟩
theorem lw_p51 : lw_okq (⟨"BlameIsFurniture$Sharing", "envied", "()I"⟩, 9) := ⟨⟨by decide +kernel, by decide +kernel⟩, List.mem_of_getElem? (i := 130) (by decide +kernel), List.mem_of_getElem? (i := 595) (by decide +kernel), List.mem_of_getElem? (i := 596) (by decide +kernel)⟩
theorem lw_p52 : lw_okq (⟨"BlameIsFurniture$Sharing", "chooseInTurn", "(LBlameIsFurniture$House;)V"⟩, 9) := ⟨⟨by decide +kernel, by decide +kernel⟩, List.mem_of_getElem? (i := 130) (by decide +kernel), List.mem_of_getElem? (i := 603) (by decide +kernel), List.mem_of_getElem? (i := 604) (by decide +kernel)⟩
theorem lw_p53 : lw_okq (⟨"BlameIsFurniture$Sharing", "leastOfLeft", "()I"⟩, 9) := ⟨⟨by decide +kernel, by decide +kernel⟩, List.mem_of_getElem? (i := 130) (by decide +kernel), List.mem_of_getElem? (i := 607) (by decide +kernel), List.mem_of_getElem? (i := 608) (by decide +kernel)⟩
theorem lw_p54 : lw_okq (⟨"BlameIsFurniture$Sharing", "shareOf", "(I)I"⟩, 9) := ⟨⟨by decide +kernel, by decide +kernel⟩, List.mem_of_getElem? (i := 130) (by decide +kernel), List.mem_of_getElem? (i := 611) (by decide +kernel), List.mem_of_getElem? (i := 612) (by decide +kernel)⟩
theorem lw_p55 : lw_okq (⟨"BlameIsFurniture", "blameWithout", "(I)I"⟩, 9) := ⟨⟨by decide +kernel, by decide +kernel⟩, List.mem_of_getElem? (i := 16) (by decide +kernel), List.mem_of_getElem? (i := 619) (by decide +kernel), List.mem_of_getElem? (i := 620) (by decide +kernel)⟩
theorem lw_p56 : lw_okq (⟨"BlameIsFurniture$House", "removePiece", "(I)V"⟩, 10) := ⟨⟨by decide +kernel, by decide +kernel⟩, List.mem_of_getElem? (i := 24) (by decide +kernel), List.mem_of_getElem? (i := 623) (by decide +kernel), List.mem_of_getElem? (i := 624) (by decide +kernel)⟩
theorem lw_p57 : lw_okq (⟨"BlameIsFurniture", "blameWithoutBoth", "(II)I"⟩, 9) := ⟨⟨by decide +kernel, by decide +kernel⟩, List.mem_of_getElem? (i := 16) (by decide +kernel), List.mem_of_getElem? (i := 631) (by decide +kernel), List.mem_of_getElem? (i := 632) (by decide +kernel)⟩
theorem lw_p58 : lw_okq (⟨"BlameIsFurniture", "blameWithFault", "(II)I"⟩, 9) := ⟨⟨by decide +kernel, by decide +kernel⟩, List.mem_of_getElem? (i := 16) (by decide +kernel), List.mem_of_getElem? (i := 639) (by decide +kernel), List.mem_of_getElem? (i := 640) (by decide +kernel)⟩
theorem lw_p59 : lw_okq (⟨"BlameIsFurniture", "anotherFaultMakes", "(II)Z"⟩, 9) := ⟨⟨by decide +kernel, by decide +kernel⟩, List.mem_of_getElem? (i := 16) (by decide +kernel), List.mem_of_getElem? (i := 657) (by decide +kernel), List.mem_of_getElem? (i := 658) (by decide +kernel)⟩
theorem lw_p60 : lw_okq (⟨"BlameIsFurniture", "lesserOfBothFaults", "(II)I"⟩, 9) := ⟨⟨by decide +kernel, by decide +kernel⟩, List.mem_of_getElem? (i := 16) (by decide +kernel), List.mem_of_getElem? (i := 665) (by decide +kernel), List.mem_of_getElem? (i := 666) (by decide +kernel)⟩
theorem lw_p61 : lw_okq (⟨"BlameIsFurniture$Row", "add", "(I)I"⟩, 2) := ⟨⟨by decide +kernel, by decide +kernel⟩, List.mem_of_getElem? (i := 93) (by decide +kernel), List.mem_of_getElem? (i := 688) (by decide +kernel), List.mem_of_getElem? (i := 689) (by decide +kernel)⟩
theorem lw_p62 : lw_okq (⟨"BlameIsFurniture$Row", "firstWrong", "(LBlameIsFurniture$House;)I"⟩, 2) := ⟨⟨by decide +kernel, by decide +kernel⟩, List.mem_of_getElem? (i := 93) (by decide +kernel), List.mem_of_getElem? (i := 696) (by decide +kernel), List.mem_of_getElem? (i := 697) (by decide +kernel)⟩
theorem lw_p63 : lw_okq (⟨"BlameIsFurniture$Row", "clear", "()V"⟩, 2) := ⟨⟨by decide +kernel, by decide +kernel⟩, List.mem_of_getElem? (i := 93) (by decide +kernel), List.mem_of_getElem? (i := 707) (by decide +kernel), List.mem_of_getElem? (i := 708) (by decide +kernel)⟩
def lw_privs_4 : List (MethodName × Nat) := [(⟨"BlameIsFurniture$Sharing", "takeBack", "(II)V"⟩, 9), (⟨"BlameIsFurniture$Sharing", "spreadOrHeirOf", "(I)I"⟩, 9), (⟨"BlameIsFurniture$Sharing", "dealOut", "(LBlameIsFurniture$House;)V"⟩, 9), (⟨"BlameIsFurniture$Sharing", "envied", "()I"⟩, 9), (⟨"BlameIsFurniture$Sharing", "chooseInTurn", "(LBlameIsFurniture$House;)V"⟩, 9), (⟨"BlameIsFurniture$Sharing", "leastOfLeft", "()I"⟩, 9), (⟨"BlameIsFurniture$Sharing", "shareOf", "(I)I"⟩, 9), (⟨"BlameIsFurniture", "blameWithout", "(I)I"⟩, 9), (⟨"BlameIsFurniture$House", "removePiece", "(I)V"⟩, 10), (⟨"BlameIsFurniture", "blameWithoutBoth", "(II)I"⟩, 9), (⟨"BlameIsFurniture", "blameWithFault", "(II)I"⟩, 9), (⟨"BlameIsFurniture", "anotherFaultMakes", "(II)Z"⟩, 9), (⟨"BlameIsFurniture", "lesserOfBothFaults", "(II)I"⟩, 9), (⟨"BlameIsFurniture$Row", "add", "(I)I"⟩, 2), (⟨"BlameIsFurniture$Row", "firstWrong", "(LBlameIsFurniture$House;)I"⟩, 2), (⟨"BlameIsFurniture$Row", "clear", "()V"⟩, 2)]
theorem lw_r4 : ∀ q ∈ lw_privs_4, lw_okq q := List.forall_mem_cons.mpr ⟨lw_p48, List.forall_mem_cons.mpr ⟨lw_p49, List.forall_mem_cons.mpr ⟨lw_p50, List.forall_mem_cons.mpr ⟨lw_p51, List.forall_mem_cons.mpr ⟨lw_p52, List.forall_mem_cons.mpr ⟨lw_p53, List.forall_mem_cons.mpr ⟨lw_p54, List.forall_mem_cons.mpr ⟨lw_p55, List.forall_mem_cons.mpr ⟨lw_p56, List.forall_mem_cons.mpr ⟨lw_p57, List.forall_mem_cons.mpr ⟨lw_p58, List.forall_mem_cons.mpr ⟨lw_p59, List.forall_mem_cons.mpr ⟨lw_p60, List.forall_mem_cons.mpr ⟨lw_p61, List.forall_mem_cons.mpr ⟨lw_p62, List.forall_mem_cons.mpr ⟨lw_p63, fun _ h => absurd h List.not_mem_nil⟩⟩⟩⟩⟩⟩⟩⟩⟩⟩⟩⟩⟩⟩⟩⟩
theorem lw_p64 : lw_okq (⟨"BlameIsFurnitureModel", "no", "(I)I"⟩, 28) := ⟨⟨by decide +kernel, by decide +kernel⟩, List.mem_of_getElem? (i := 738) (by decide +kernel), List.mem_of_getElem? (i := 836) (by decide +kernel), List.mem_of_getElem? (i := 837) (by decide +kernel)⟩
theorem lw_p65 : lw_okq (⟨"BlameIsFurnitureModel", "statement", "()Z"⟩, 28) := ⟨⟨by decide +kernel, by decide +kernel⟩, List.mem_of_getElem? (i := 738) (by decide +kernel), List.mem_of_getElem? (i := 844) (by decide +kernel), List.mem_of_getElem? (i := 845) (by decide +kernel)⟩
theorem lw_p66 : lw_okq (⟨"BlameIsFurnitureModel", "next", "()I"⟩, 28) := ⟨⟨by decide +kernel, by decide +kernel⟩, List.mem_of_getElem? (i := 738) (by decide +kernel), List.mem_of_getElem? (i := 848) (by decide +kernel), List.mem_of_getElem? (i := 849) (by decide +kernel)⟩
theorem lw_p67 : lw_okq (⟨"BlameIsFurnitureModel", "readsAll", "(II)Z"⟩, 28) := ⟨⟨by decide +kernel, by decide +kernel⟩, List.mem_of_getElem? (i := 738) (by decide +kernel), List.mem_of_getElem? (i := 855) (by decide +kernel), List.mem_of_getElem? (i := 856) (by decide +kernel)⟩
theorem lw_p68 : lw_okq (⟨"BlameIsFurnitureModel", "readsPiece", "(I)Z"⟩, 28) := ⟨⟨by decide +kernel, by decide +kernel⟩, List.mem_of_getElem? (i := 738) (by decide +kernel), List.mem_of_getElem? (i := 859) (by decide +kernel), List.mem_of_getElem? (i := 860) (by decide +kernel)⟩
theorem lw_p69 : lw_okq (⟨"BlameIsFurnitureModel", "readsDigits", "(II)Z"⟩, 28) := ⟨⟨by decide +kernel, by decide +kernel⟩, List.mem_of_getElem? (i := 738) (by decide +kernel), List.mem_of_getElem? (i := 866) (by decide +kernel), List.mem_of_getElem? (i := 867) (by decide +kernel)⟩
theorem lw_p70 : lw_okq (⟨"BlameIsFurnitureModel", "passesAll", "(IZ)V"⟩, 28) := ⟨⟨by decide +kernel, by decide +kernel⟩, List.mem_of_getElem? (i := 738) (by decide +kernel), List.mem_of_getElem? (i := 873) (by decide +kernel), List.mem_of_getElem? (i := 874) (by decide +kernel)⟩
theorem lw_p71 : lw_okq (⟨"BlameIsFurnitureModel", "passes", "([I)V"⟩, 28) := ⟨⟨by decide +kernel, by decide +kernel⟩, List.mem_of_getElem? (i := 738) (by decide +kernel), List.mem_of_getElem? (i := 877) (by decide +kernel), List.mem_of_getElem? (i := 878) (by decide +kernel)⟩
theorem lw_p72 : lw_okq (⟨"BlameIsFurnitureModel", "passOne", "(I)I"⟩, 28) := ⟨⟨by decide +kernel, by decide +kernel⟩, List.mem_of_getElem? (i := 738) (by decide +kernel), List.mem_of_getElem? (i := 881) (by decide +kernel), List.mem_of_getElem? (i := 882) (by decide +kernel)⟩
theorem lw_p73 : lw_okq (⟨"BlameIsFurnitureModel", "comes", "(I)Z"⟩, 28) := ⟨⟨by decide +kernel, by decide +kernel⟩, List.mem_of_getElem? (i := 738) (by decide +kernel), List.mem_of_getElem? (i := 885) (by decide +kernel), List.mem_of_getElem? (i := 886) (by decide +kernel)⟩
theorem lw_p74 : lw_okq (⟨"BlameIsFurnitureModel", "comesPiece", "(I)Z"⟩, 28) := ⟨⟨by decide +kernel, by decide +kernel⟩, List.mem_of_getElem? (i := 738) (by decide +kernel), List.mem_of_getElem? (i := 889) (by decide +kernel), List.mem_of_getElem? (i := 890) (by decide +kernel)⟩
theorem lw_p75 : lw_okq (⟨"BlameIsFurnitureModel", "isPiece", "(I)Z"⟩, 28) := ⟨⟨by decide +kernel, by decide +kernel⟩, List.mem_of_getElem? (i := 738) (by decide +kernel), List.mem_of_getElem? (i := 893) (by decide +kernel), List.mem_of_getElem? (i := 894) (by decide +kernel)⟩
theorem lw_p76 : lw_okq (⟨"BlameIsFurnitureModel", "canCarry", "(II)Z"⟩, 28) := ⟨⟨by decide +kernel, by decide +kernel⟩, List.mem_of_getElem? (i := 738) (by decide +kernel), List.mem_of_getElem? (i := 903) (by decide +kernel), List.mem_of_getElem? (i := 904) (by decide +kernel)⟩
theorem lw_p77 : lw_okq (⟨"BlameIsFurnitureModel", "bulkIn", "(I)I"⟩, 28) := ⟨⟨by decide +kernel, by decide +kernel⟩, List.mem_of_getElem? (i := 738) (by decide +kernel), List.mem_of_getElem? (i := 907) (by decide +kernel), List.mem_of_getElem? (i := 908) (by decide +kernel)⟩
theorem lw_p78 : lw_okq (⟨"BlameIsFurnitureModel", "wideOf", "(I)I"⟩, 28) := ⟨⟨by decide +kernel, by decide +kernel⟩, List.mem_of_getElem? (i := 738) (by decide +kernel), List.mem_of_getElem? (i := 911) (by decide +kernel), List.mem_of_getElem? (i := 912) (by decide +kernel)⟩
theorem lw_p79 : lw_okq (⟨"BlameIsFurnitureModel", "goes", "(I)V"⟩, 28) := ⟨⟨by decide +kernel, by decide +kernel⟩, List.mem_of_getElem? (i := 738) (by decide +kernel), List.mem_of_getElem? (i := 915) (by decide +kernel), List.mem_of_getElem? (i := 916) (by decide +kernel)⟩
def lw_privs_5 : List (MethodName × Nat) := [(⟨"BlameIsFurnitureModel", "no", "(I)I"⟩, 28), (⟨"BlameIsFurnitureModel", "statement", "()Z"⟩, 28), (⟨"BlameIsFurnitureModel", "next", "()I"⟩, 28), (⟨"BlameIsFurnitureModel", "readsAll", "(II)Z"⟩, 28), (⟨"BlameIsFurnitureModel", "readsPiece", "(I)Z"⟩, 28), (⟨"BlameIsFurnitureModel", "readsDigits", "(II)Z"⟩, 28), (⟨"BlameIsFurnitureModel", "passesAll", "(IZ)V"⟩, 28), (⟨"BlameIsFurnitureModel", "passes", "([I)V"⟩, 28), (⟨"BlameIsFurnitureModel", "passOne", "(I)I"⟩, 28), (⟨"BlameIsFurnitureModel", "comes", "(I)Z"⟩, 28), (⟨"BlameIsFurnitureModel", "comesPiece", "(I)Z"⟩, 28), (⟨"BlameIsFurnitureModel", "isPiece", "(I)Z"⟩, 28), (⟨"BlameIsFurnitureModel", "canCarry", "(II)Z"⟩, 28), (⟨"BlameIsFurnitureModel", "bulkIn", "(I)I"⟩, 28), (⟨"BlameIsFurnitureModel", "wideOf", "(I)I"⟩, 28), (⟨"BlameIsFurnitureModel", "goes", "(I)V"⟩, 28)]
theorem lw_r5 : ∀ q ∈ lw_privs_5, lw_okq q := List.forall_mem_cons.mpr ⟨lw_p64, List.forall_mem_cons.mpr ⟨lw_p65, List.forall_mem_cons.mpr ⟨lw_p66, List.forall_mem_cons.mpr ⟨lw_p67, List.forall_mem_cons.mpr ⟨lw_p68, List.forall_mem_cons.mpr ⟨lw_p69, List.forall_mem_cons.mpr ⟨lw_p70, List.forall_mem_cons.mpr ⟨lw_p71, List.forall_mem_cons.mpr ⟨lw_p72, List.forall_mem_cons.mpr ⟨lw_p73, List.forall_mem_cons.mpr ⟨lw_p74, List.forall_mem_cons.mpr ⟨lw_p75, List.forall_mem_cons.mpr ⟨lw_p76, List.forall_mem_cons.mpr ⟨lw_p77, List.forall_mem_cons.mpr ⟨lw_p78, List.forall_mem_cons.mpr ⟨lw_p79, fun _ h => absurd h List.not_mem_nil⟩⟩⟩⟩⟩⟩⟩⟩⟩⟩⟩⟩⟩⟩⟩⟩
theorem lw_p80 : lw_okq (⟨"BlameIsFurnitureModel", "blameOf", "(I)I"⟩, 28) := ⟨⟨by decide +kernel, by decide +kernel⟩, List.mem_of_getElem? (i := 738) (by decide +kernel), List.mem_of_getElem? (i := 931) (by decide +kernel), List.mem_of_getElem? (i := 932) (by decide +kernel)⟩
theorem lw_p81 : lw_okq (⟨"BlameIsFurnitureModel", "suiteOf", "(I)I"⟩, 28) := ⟨⟨by decide +kernel, by decide +kernel⟩, List.mem_of_getElem? (i := 738) (by decide +kernel), List.mem_of_getElem? (i := 935) (by decide +kernel), List.mem_of_getElem? (i := 936) (by decide +kernel)⟩
theorem lw_p82 : lw_okq (⟨"BlameIsFurnitureModel", "veneerOf", "(I)I"⟩, 28) := ⟨⟨by decide +kernel, by decide +kernel⟩, List.mem_of_getElem? (i := 738) (by decide +kernel), List.mem_of_getElem? (i := 939) (by decide +kernel), List.mem_of_getElem? (i := 940) (by decide +kernel)⟩
theorem lw_p83 : lw_okq (⟨"BlameIsFurnitureModel", "blameIn", "(I)I"⟩, 28) := ⟨⟨by decide +kernel, by decide +kernel⟩, List.mem_of_getElem? (i := 738) (by decide +kernel), List.mem_of_getElem? (i := 978) (by decide +kernel), List.mem_of_getElem? (i := 979) (by decide +kernel)⟩
theorem lw_p84 : lw_okq (⟨"BlameIsFurnitureModel", "findPlacing", "(II)V"⟩, 28) := ⟨⟨by decide +kernel, by decide +kernel⟩, List.mem_of_getElem? (i := 738) (by decide +kernel), List.mem_of_getElem? (i := 994) (by decide +kernel), List.mem_of_getElem? (i := 995) (by decide +kernel)⟩
theorem lw_p85 : lw_okq (⟨"BlameIsFurnitureModel", "isPlaced", "(II)Z"⟩, 28) := ⟨⟨by decide +kernel, by decide +kernel⟩, List.mem_of_getElem? (i := 738) (by decide +kernel), List.mem_of_getElem? (i := 1001) (by decide +kernel), List.mem_of_getElem? (i := 1002) (by decide +kernel)⟩
theorem lw_p86 : lw_okq (⟨"BlameIsFurnitureModel", "roomsUsed", "()I"⟩, 28) := ⟨⟨by decide +kernel, by decide +kernel⟩, List.mem_of_getElem? (i := 738) (by decide +kernel), List.mem_of_getElem? (i := 1009) (by decide +kernel), List.mem_of_getElem? (i := 1010) (by decide +kernel)⟩
theorem lw_p87 : lw_okq (⟨"BlameIsFurnitureModel", "notShare", "(I)I"⟩, 28) := ⟨⟨by decide +kernel, by decide +kernel⟩, List.mem_of_getElem? (i := 738) (by decide +kernel), List.mem_of_getElem? (i := 1024) (by decide +kernel), List.mem_of_getElem? (i := 1025) (by decide +kernel)⟩
theorem lw_p88 : lw_okq (⟨"BlameIsFurnitureModel", "findShares", "()I"⟩, 28) := ⟨⟨by decide +kernel, by decide +kernel⟩, List.mem_of_getElem? (i := 738) (by decide +kernel), List.mem_of_getElem? (i := 1028) (by decide +kernel), List.mem_of_getElem? (i := 1029) (by decide +kernel)⟩
theorem lw_p89 : lw_okq (⟨"BlameIsFurnitureModel", "sharesBy", "(I)V"⟩, 28) := ⟨⟨by decide +kernel, by decide +kernel⟩, List.mem_of_getElem? (i := 738) (by decide +kernel), List.mem_of_getElem? (i := 1032) (by decide +kernel), List.mem_of_getElem? (i := 1033) (by decide +kernel)⟩
theorem lw_p90 : lw_okq (⟨"BlameIsFurnitureModel", "givesAll", "()V"⟩, 28) := ⟨⟨by decide +kernel, by decide +kernel⟩, List.mem_of_getElem? (i := 738) (by decide +kernel), List.mem_of_getElem? (i := 1036) (by decide +kernel), List.mem_of_getElem? (i := 1037) (by decide +kernel)⟩
theorem lw_p91 : lw_okq (⟨"BlameIsFurnitureModel", "apart", "()I"⟩, 28) := ⟨⟨by decide +kernel, by decide +kernel⟩, List.mem_of_getElem? (i := 738) (by decide +kernel), List.mem_of_getElem? (i := 1040) (by decide +kernel), List.mem_of_getElem? (i := 1041) (by decide +kernel)⟩
theorem lw_p92 : lw_okq (⟨"BlameIsFurnitureModel", "deals", "()V"⟩, 28) := ⟨⟨by decide +kernel, by decide +kernel⟩, List.mem_of_getElem? (i := 738) (by decide +kernel), List.mem_of_getElem? (i := 1048) (by decide +kernel), List.mem_of_getElem? (i := 1049) (by decide +kernel)⟩
theorem lw_p93 : lw_okq (⟨"BlameIsFurnitureModel", "poorest", "()I"⟩, 28) := ⟨⟨by decide +kernel, by decide +kernel⟩, List.mem_of_getElem? (i := 738) (by decide +kernel), List.mem_of_getElem? (i := 1052) (by decide +kernel), List.mem_of_getElem? (i := 1053) (by decide +kernel)⟩
theorem lw_p94 : lw_okq (⟨"BlameIsFurnitureModel", "mildest", "(I)I"⟩, 28) := ⟨⟨by decide +kernel, by decide +kernel⟩, List.mem_of_getElem? (i := 738) (by decide +kernel), List.mem_of_getElem? (i := 1064) (by decide +kernel), List.mem_of_getElem? (i := 1065) (by decide +kernel)⟩
theorem lw_p95 : lw_okq (⟨"BlameIsFurnitureModel", "blameWithout", "(II)I"⟩, 28) := ⟨⟨by decide +kernel, by decide +kernel⟩, List.mem_of_getElem? (i := 738) (by decide +kernel), List.mem_of_getElem? (i := 1072) (by decide +kernel), List.mem_of_getElem? (i := 1073) (by decide +kernel)⟩
def lw_privs_6 : List (MethodName × Nat) := [(⟨"BlameIsFurnitureModel", "blameOf", "(I)I"⟩, 28), (⟨"BlameIsFurnitureModel", "suiteOf", "(I)I"⟩, 28), (⟨"BlameIsFurnitureModel", "veneerOf", "(I)I"⟩, 28), (⟨"BlameIsFurnitureModel", "blameIn", "(I)I"⟩, 28), (⟨"BlameIsFurnitureModel", "findPlacing", "(II)V"⟩, 28), (⟨"BlameIsFurnitureModel", "isPlaced", "(II)Z"⟩, 28), (⟨"BlameIsFurnitureModel", "roomsUsed", "()I"⟩, 28), (⟨"BlameIsFurnitureModel", "notShare", "(I)I"⟩, 28), (⟨"BlameIsFurnitureModel", "findShares", "()I"⟩, 28), (⟨"BlameIsFurnitureModel", "sharesBy", "(I)V"⟩, 28), (⟨"BlameIsFurnitureModel", "givesAll", "()V"⟩, 28), (⟨"BlameIsFurnitureModel", "apart", "()I"⟩, 28), (⟨"BlameIsFurnitureModel", "deals", "()V"⟩, 28), (⟨"BlameIsFurnitureModel", "poorest", "()I"⟩, 28), (⟨"BlameIsFurnitureModel", "mildest", "(I)I"⟩, 28), (⟨"BlameIsFurnitureModel", "blameWithout", "(II)I"⟩, 28)]
theorem lw_r6 : ∀ q ∈ lw_privs_6, lw_okq q := List.forall_mem_cons.mpr ⟨lw_p80, List.forall_mem_cons.mpr ⟨lw_p81, List.forall_mem_cons.mpr ⟨lw_p82, List.forall_mem_cons.mpr ⟨lw_p83, List.forall_mem_cons.mpr ⟨lw_p84, List.forall_mem_cons.mpr ⟨lw_p85, List.forall_mem_cons.mpr ⟨lw_p86, List.forall_mem_cons.mpr ⟨lw_p87, List.forall_mem_cons.mpr ⟨lw_p88, List.forall_mem_cons.mpr ⟨lw_p89, List.forall_mem_cons.mpr ⟨lw_p90, List.forall_mem_cons.mpr ⟨lw_p91, List.forall_mem_cons.mpr ⟨lw_p92, List.forall_mem_cons.mpr ⟨lw_p93, List.forall_mem_cons.mpr ⟨lw_p94, List.forall_mem_cons.mpr ⟨lw_p95, fun _ h => absurd h List.not_mem_nil⟩⟩⟩⟩⟩⟩⟩⟩⟩⟩⟩⟩⟩⟩⟩⟩
theorem lw_p96 : lw_okq (⟨"BlameIsFurnitureModel", "leaves", "(I)V"⟩, 28) := ⟨⟨by decide +kernel, by decide +kernel⟩, List.mem_of_getElem? (i := 738) (by decide +kernel), List.mem_of_getElem? (i := 1076) (by decide +kernel), List.mem_of_getElem? (i := 1077) (by decide +kernel)⟩
theorem lw_p97 : lw_okq (⟨"BlameIsFurnitureModel", "blameWith", "(II)I"⟩, 28) := ⟨⟨by decide +kernel, by decide +kernel⟩, List.mem_of_getElem? (i := 738) (by decide +kernel), List.mem_of_getElem? (i := 1088) (by decide +kernel), List.mem_of_getElem? (i := 1089) (by decide +kernel)⟩
theorem lw_p98 : lw_okq (⟨"BlameIsFurnitureModel", "blameBehind", "(I)I"⟩, 28) := ⟨⟨by decide +kernel, by decide +kernel⟩, List.mem_of_getElem? (i := 738) (by decide +kernel), List.mem_of_getElem? (i := 1096) (by decide +kernel), List.mem_of_getElem? (i := 1097) (by decide +kernel)⟩
theorem lw_p99 : lw_okq (⟨"BlameIsFurnitureModel", "makes", "(II)Z"⟩, 28) := ⟨⟨by decide +kernel, by decide +kernel⟩, List.mem_of_getElem? (i := 738) (by decide +kernel), List.mem_of_getElem? (i := 1108) (by decide +kernel), List.mem_of_getElem? (i := 1109) (by decide +kernel)⟩
theorem lw_p100 : lw_okq (⟨"BlameIsFurnitureModel", "evenBy", "(II)I"⟩, 28) := ⟨⟨by decide +kernel, by decide +kernel⟩, List.mem_of_getElem? (i := 738) (by decide +kernel), List.mem_of_getElem? (i := 1116) (by decide +kernel), List.mem_of_getElem? (i := 1117) (by decide +kernel)⟩
theorem lw_p101 : lw_okq (⟨"BlameIsFurnitureModel", "firstOther", "()I"⟩, 28) := ⟨⟨by decide +kernel, by decide +kernel⟩, List.mem_of_getElem? (i := 738) (by decide +kernel), List.mem_of_getElem? (i := 1140) (by decide +kernel), List.mem_of_getElem? (i := 1141) (by decide +kernel)⟩
def lw_privs_7 : List (MethodName × Nat) := [(⟨"BlameIsFurnitureModel", "leaves", "(I)V"⟩, 28), (⟨"BlameIsFurnitureModel", "blameWith", "(II)I"⟩, 28), (⟨"BlameIsFurnitureModel", "blameBehind", "(I)I"⟩, 28), (⟨"BlameIsFurnitureModel", "makes", "(II)Z"⟩, 28), (⟨"BlameIsFurnitureModel", "evenBy", "(II)I"⟩, 28), (⟨"BlameIsFurnitureModel", "firstOther", "()I"⟩, 28)]
theorem lw_r7 : ∀ q ∈ lw_privs_7, lw_okq q := List.forall_mem_cons.mpr ⟨lw_p96, List.forall_mem_cons.mpr ⟨lw_p97, List.forall_mem_cons.mpr ⟨lw_p98, List.forall_mem_cons.mpr ⟨lw_p99, List.forall_mem_cons.mpr ⟨lw_p100, List.forall_mem_cons.mpr ⟨lw_p101, fun _ h => absurd h List.not_mem_nil⟩⟩⟩⟩⟩⟩
def lw_privs : List (MethodName × Nat) := lw_privs_1 ++ (lw_privs_2 ++ (lw_privs_3 ++ (lw_privs_4 ++ (lw_privs_5 ++ (lw_privs_6 ++ (lw_privs_7))))))
def lw_tbl : List Cond := k2_sels lw_privs ++ tables_1
theorem lw_privs_ok : ∀ q ∈ lw_privs, lw_okq q := by
  show ∀ q ∈ lw_privs_1 ++ (lw_privs_2 ++ (lw_privs_3 ++ (lw_privs_4 ++ (lw_privs_5 ++ (lw_privs_6 ++ (lw_privs_7)))))), lw_okq q
  exact List.forall_mem_append.mpr ⟨lw_r1, List.forall_mem_append.mpr ⟨lw_r2, List.forall_mem_append.mpr ⟨lw_r3, List.forall_mem_append.mpr ⟨lw_r4, List.forall_mem_append.mpr ⟨lw_r5, List.forall_mem_append.mpr ⟨lw_r6, lw_r7⟩⟩⟩⟩⟩⟩
/-! ===== BEGIN printed: names, fields, word lists, decode rows ===== -/
def RX0 : String := "BlameIsFurniture$House"
def TX0 : u_T := fun k => match k with
  | 0 => ("BlameIsFurniture$House", "kind", "[I", true)
  | 1 => ("BlameIsFurniture$House", "bulk", "[I", true)
  | 2 => ("BlameIsFurniture$House", "fault", "[I", true)
  | 3 => ("BlameIsFurniture$House", "age", "[I", true)
  | 4 => ("BlameIsFurniture$House", "placeOf", "[I", true)
  | 5 => ("BlameIsFurniture$House", "sizeOfRoom", "[I", true)
  | 6 => ("BlameIsFurniture$House", "wideOfStairs", "[I", true)
  | 7 => ("BlameIsFurniture$House", "pieces", "I", false)
  | 8 => ("BlameIsFurniture$House", "heirs", "I", false)
  | _ => ("BlameIsFurniture$House", "year", "I", false)
def tyX0 : Nat → FieldType := fun k => match k with
  | 0 => .array .int
  | 1 => .array .int
  | 2 => .array .int
  | 3 => .array .int
  | 4 => .array .int
  | 5 => .array .int
  | 6 => .array .int
  | 7 => .int
  | 8 => .int
  | _ => .int
abbrev wsX00 : List Cond := u_ws RX0 TX0 10
theorem nmX0 : ∀ a, a < 10 → ∀ b, b < 10 → a ≠ b → (TX0 a).2.1 ≠ (TX0 b).2.1 := by decide +kernel
theorem tyX0_ok : ∀ k, k < 10 → parseFieldDescriptor (TX0 k).2.2.1 = some (tyX0 k) := by decide +kernel
abbrev cX0_init : ByteArray := prog_2_method_1_code
def yX0_init : MethodName := ⟨RX0, "<init>", "()V"⟩
abbrev cX0_copyFrom : ByteArray := prog_2_method_2_code
def yX0_copyFrom : MethodName := ⟨RX0, "copyFrom", "(LBlameIsFurniture$House;)V"⟩
abbrev cX0_hasPiece : ByteArray := prog_2_method_3_code
def yX0_hasPiece : MethodName := ⟨RX0, "hasPiece", "(I)Z"⟩
abbrev cX0_told : ByteArray := prog_2_method_4_code
def yX0_told : MethodName := ⟨RX0, "told", "(II)I"⟩
abbrev cX0_addPiece : ByteArray := prog_2_method_5_code
def yX0_addPiece : MethodName := ⟨RX0, "addPiece", "(IIII)I"⟩
abbrev cX0_removePiece : ByteArray := prog_2_method_6_code
def yX0_removePiece : MethodName := ⟨RX0, "removePiece", "(I)V"⟩
abbrev cX0_emptyRooms : ByteArray := prog_2_method_7_code
def yX0_emptyRooms : MethodName := ⟨RX0, "emptyRooms", "()V"⟩
abbrev cX0_blameOfPiece : ByteArray := prog_2_method_8_code
def yX0_blameOfPiece : MethodName := ⟨RX0, "blameOfPiece", "(I)I"⟩
abbrev cX0_blameOfSuite : ByteArray := prog_2_method_9_code
def yX0_blameOfSuite : MethodName := ⟨RX0, "blameOfSuite", "(I)I"⟩
abbrev cX0_companyOf : ByteArray := prog_2_method_10_code
def yX0_companyOf : MethodName := ⟨RX0, "companyOf", "(I)I"⟩
abbrev cX0_blameOfVeneer : ByteArray := prog_2_method_11_code
def yX0_blameOfVeneer : MethodName := ⟨RX0, "blameOfVeneer", "(I)I"⟩
abbrev cX0_blameIn : ByteArray := prog_2_method_12_code
def yX0_blameIn : MethodName := ⟨RX0, "blameIn", "(I)I"⟩
abbrev cX0_blameOfAll : ByteArray := prog_2_method_13_code
def yX0_blameOfAll : MethodName := ⟨RX0, "blameOfAll", "()I"⟩
abbrev cX0_worstRoom : ByteArray := prog_2_method_14_code
def yX0_worstRoom : MethodName := ⟨RX0, "worstRoom", "()I"⟩
abbrev cX0_piecesIn : ByteArray := prog_2_method_15_code
def yX0_piecesIn : MethodName := ⟨RX0, "piecesIn", "(I)I"⟩
abbrev cX0_bulkIn : ByteArray := prog_2_method_16_code
def yX0_bulkIn : MethodName := ⟨RX0, "bulkIn", "(I)I"⟩
abbrev cX0_hasSpace : ByteArray := prog_2_method_17_code
def yX0_hasSpace : MethodName := ⟨RX0, "hasSpace", "(II)Z"⟩
abbrev cX0_wideOfPiece : ByteArray := prog_2_method_18_code
def yX0_wideOfPiece : MethodName := ⟨RX0, "wideOfPiece", "(I)I"⟩
abbrev cX0_canBeCarried : ByteArray := prog_2_method_19_code
def yX0_canBeCarried : MethodName := ⟨RX0, "canBeCarried", "(II)Z"⟩
abbrev cX0_passesStairs : ByteArray := prog_2_method_20_code
def yX0_passesStairs : MethodName := ⟨RX0, "passesStairs", "(II)Z"⟩
abbrev cX0_carryTo : ByteArray := prog_2_method_21_code
def yX0_carryTo : MethodName := ⟨RX0, "carryTo", "(II)I"⟩
abbrev cX0_polishPiece : ByteArray := prog_2_method_22_code
def yX0_polishPiece : MethodName := ⟨RX0, "polishPiece", "(I)I"⟩
abbrev cX0_resize : ByteArray := prog_2_method_23_code
def yX0_resize : MethodName := ⟨RX0, "resize", "(II)I"⟩
abbrev cX0_widen : ByteArray := prog_2_method_24_code
def yX0_widen : MethodName := ⟨RX0, "widen", "(II)I"⟩
abbrev cX0_nameHeirs : ByteArray := prog_2_method_25_code
def yX0_nameHeirs : MethodName := ⟨RX0, "nameHeirs", "(I)I"⟩
abbrev cX0_letYearsGoBy : ByteArray := prog_2_method_26_code
def yX0_letYearsGoBy : MethodName := ⟨RX0, "letYearsGoBy", "(I)I"⟩
abbrev cX0_passYear : ByteArray := prog_2_method_27_code
def yX0_passYear : MethodName := ⟨RX0, "passYear", "()V"⟩
def RX1 : String := "BlameIsFurniture$Placing"
def TX1 : u_T := fun k => match k with
  | 0 => ("BlameIsFurniture$Placing", "house", "LBlameIsFurniture$House;", true)
  | 1 => ("BlameIsFurniture$Placing", "bestRooms", "[I", true)
  | 2 => ("BlameIsFurniture$Placing", "rooms", "I", false)
  | 3 => ("BlameIsFurniture$Placing", "isForFew", "Z", false)
  | _ => ("BlameIsFurniture$Placing", "least", "I", false)
def tyX1 : Nat → FieldType := fun k => match k with
  | 0 => .object "BlameIsFurniture$House"
  | 1 => .array .int
  | 2 => .int
  | 3 => .boolean
  | _ => .int
abbrev wsX10 : List Cond := u_ws RX1 TX1 5
theorem nmX1 : ∀ a, a < 5 → ∀ b, b < 5 → a ≠ b → (TX1 a).2.1 ≠ (TX1 b).2.1 := by decide +kernel
theorem tyX1_ok : ∀ k, k < 5 → parseFieldDescriptor (TX1 k).2.2.1 = some (tyX1 k) := by decide +kernel
abbrev cX1_init : ByteArray := prog_3_method_1_code
def yX1_init : MethodName := ⟨RX1, "<init>", "(LBlameIsFurniture$House;)V"⟩
abbrev cX1_search : ByteArray := prog_3_method_2_code
def yX1_search : MethodName := ⟨RX1, "search", "(IZ)I"⟩
abbrev cX1_roomOf : ByteArray := prog_3_method_3_code
def yX1_roomOf : MethodName := ⟨RX1, "roomOf", "(I)I"⟩
abbrev cX1_placeFrom : ByteArray := prog_3_method_4_code
def yX1_placeFrom : MethodName := ⟨RX1, "placeFrom", "(LBlameIsFurniture$Placing;II)V"⟩
abbrev cX1_keep : ByteArray := prog_3_method_5_code
def yX1_keep : MethodName := ⟨RX1, "keep", "(I)V"⟩
abbrev cX1_mayStand : ByteArray := prog_3_method_6_code
def yX1_mayStand : MethodName := ⟨RX1, "mayStand", "(II)Z"⟩
abbrev cX1_costWith : ByteArray := prog_3_method_7_code
def yX1_costWith : MethodName := ⟨RX1, "costWith", "(II)I"⟩
def RX2 : String := "BlameIsFurniture$Row"
def TX2 : u_T := fun k => match k with
  | 0 => ("BlameIsFurniture$Row", "numbers", "[I", true)
  | _ => ("BlameIsFurniture$Row", "length", "I", false)
def tyX2 : Nat → FieldType := fun k => match k with
  | 0 => .array .int
  | _ => .int
abbrev wsX20 : List Cond := u_ws RX2 TX2 2
theorem nmX2 : ∀ a, a < 2 → ∀ b, b < 2 → a ≠ b → (TX2 a).2.1 ≠ (TX2 b).2.1 := by decide +kernel
theorem tyX2_ok : ∀ k, k < 2 → parseFieldDescriptor (TX2 k).2.2.1 = some (tyX2 k) := by decide +kernel
abbrev cX2_init : ByteArray := prog_4_method_1_code
def yX2_init : MethodName := ⟨RX2, "<init>", "()V"⟩
abbrev cX2_add : ByteArray := prog_4_method_2_code
def yX2_add : MethodName := ⟨RX2, "add", "(I)I"⟩
abbrev cX2_clear : ByteArray := prog_4_method_3_code
def yX2_clear : MethodName := ⟨RX2, "clear", "()V"⟩
abbrev cX2_firstWrong : ByteArray := prog_4_method_4_code
def yX2_firstWrong : MethodName := ⟨RX2, "firstWrong", "(LBlameIsFurniture$House;)I"⟩
def RX3 : String := "BlameIsFurniture$Sharing"
def TX3 : u_T := fun k => match k with
  | 0 => ("BlameIsFurniture$Sharing", "blames", "[I", true)
  | 1 => ("BlameIsFurniture$Sharing", "goesTo", "[I", true)
  | 2 => ("BlameIsFurniture$Sharing", "fairest", "[I", true)
  | 3 => ("BlameIsFurniture$Sharing", "share", "[I", true)
  | 4 => ("BlameIsFurniture$Sharing", "pieces", "I", false)
  | 5 => ("BlameIsFurniture$Sharing", "heirs", "I", false)
  | 6 => ("BlameIsFurniture$Sharing", "evenShare", "I", false)
  | 7 => ("BlameIsFurniture$Sharing", "least", "I", false)
  | _ => ("BlameIsFurniture$Sharing", "lastHeir", "I", false)
def tyX3 : Nat → FieldType := fun k => match k with
  | 0 => .array .int
  | 1 => .array .int
  | 2 => .array .int
  | 3 => .array .int
  | 4 => .int
  | 5 => .int
  | 6 => .int
  | 7 => .int
  | _ => .int
abbrev wsX30 : List Cond := u_ws RX3 TX3 9
theorem nmX3 : ∀ a, a < 9 → ∀ b, b < 9 → a ≠ b → (TX3 a).2.1 ≠ (TX3 b).2.1 := by decide +kernel
theorem tyX3_ok : ∀ k, k < 9 → parseFieldDescriptor (TX3 k).2.2.1 = some (tyX3 k) := by decide +kernel
abbrev cX3_init : ByteArray := prog_5_method_1_code
def yX3_init : MethodName := ⟨RX3, "<init>", "()V"⟩
abbrev cX3_begin : ByteArray := prog_5_method_2_code
def yX3_begin : MethodName := ⟨RX3, "begin", "(LBlameIsFurniture$House;)V"⟩
abbrev cX3_shareFairly : ByteArray := prog_5_method_3_code
def yX3_shareFairly : MethodName := ⟨RX3, "shareFairly", "(LBlameIsFurniture$House;)V"⟩
abbrev cX3_giveFrom : ByteArray := prog_5_method_4_code
def yX3_giveFrom : MethodName := ⟨RX3, "giveFrom", "(LBlameIsFurniture$Sharing;I)V"⟩
abbrev cX3_canBeFairer : ByteArray := prog_5_method_5_code
def yX3_canBeFairer : MethodName := ⟨RX3, "canBeFairer", "(I)Z"⟩
abbrev cX3_keepIfFairer : ByteArray := prog_5_method_6_code
def yX3_keepIfFairer : MethodName := ⟨RX3, "keepIfFairer", "()V"⟩
abbrev cX3_dealOut : ByteArray := prog_5_method_7_code
def yX3_dealOut : MethodName := ⟨RX3, "dealOut", "(LBlameIsFurniture$House;)V"⟩
abbrev cX3_chooseInTurn : ByteArray := prog_5_method_8_code
def yX3_chooseInTurn : MethodName := ⟨RX3, "chooseInTurn", "(LBlameIsFurniture$House;)V"⟩
abbrev cX3_leastOfLeft : ByteArray := prog_5_method_9_code
def yX3_leastOfLeft : MethodName := ⟨RX3, "leastOfLeft", "()I"⟩
abbrev cX3_give : ByteArray := prog_5_method_10_code
def yX3_give : MethodName := ⟨RX3, "give", "(II)V"⟩
abbrev cX3_takeBack : ByteArray := prog_5_method_11_code
def yX3_takeBack : MethodName := ⟨RX3, "takeBack", "(II)V"⟩
abbrev cX3_poorest : ByteArray := prog_5_method_12_code
def yX3_poorest : MethodName := ⟨RX3, "poorest", "()I"⟩
abbrev cX3_richest : ByteArray := prog_5_method_13_code
def yX3_richest : MethodName := ⟨RX3, "richest", "()I"⟩
abbrev cX3_spread : ByteArray := prog_5_method_14_code
def yX3_spread : MethodName := ⟨RX3, "spread", "()I"⟩
abbrev cX3_envied : ByteArray := prog_5_method_15_code
def yX3_envied : MethodName := ⟨RX3, "envied", "()I"⟩
abbrev cX3_shareOf : ByteArray := prog_5_method_16_code
def yX3_shareOf : MethodName := ⟨RX3, "shareOf", "(I)I"⟩
abbrev cX3_spreadOrHeirOf : ByteArray := prog_5_method_17_code
def yX3_spreadOrHeirOf : MethodName := ⟨RX3, "spreadOrHeirOf", "(I)I"⟩
def RX4 : String := "BlameIsFurniture$Text"
def TX4 : u_T := fun k => match k with
  | 0 => ("BlameIsFurniture$Text", "letters", "[I", true)
  | _ => ("BlameIsFurniture$Text", "length", "I", false)
def tyX4 : Nat → FieldType := fun k => match k with
  | 0 => .array .int
  | _ => .int
abbrev wsX40 : List Cond := u_ws RX4 TX4 2
theorem nmX4 : ∀ a, a < 2 → ∀ b, b < 2 → a ≠ b → (TX4 a).2.1 ≠ (TX4 b).2.1 := by decide +kernel
theorem tyX4_ok : ∀ k, k < 2 → parseFieldDescriptor (TX4 k).2.2.1 = some (tyX4 k) := by decide +kernel
abbrev cX4_init : ByteArray := prog_6_method_1_code
def yX4_init : MethodName := ⟨RX4, "<init>", "()V"⟩
abbrev cX4_add : ByteArray := prog_6_method_2_code
def yX4_add : MethodName := ⟨RX4, "add", "(I)I"⟩
abbrev cX4_clear : ByteArray := prog_6_method_3_code
def yX4_clear : MethodName := ⟨RX4, "clear", "()V"⟩
abbrev cX4_tellInto : ByteArray := prog_6_method_4_code
def yX4_tellInto : MethodName := ⟨RX4, "tellInto", "(LBlameIsFurniture$House;)I"⟩
abbrev cX4_firstBadPlace : ByteArray := prog_6_method_5_code
def yX4_firstBadPlace : MethodName := ⟨RX4, "firstBadPlace", "()I"⟩
abbrev cX4_formBehind : ByteArray := prog_6_method_6_code
def yX4_formBehind : MethodName := ⟨RX4, "formBehind", "(I)Ljava/lang/String;"⟩
abbrev cX4_isAsAsked : ByteArray := prog_6_method_7_code
def yX4_isAsAsked : MethodName := ⟨RX4, "isAsAsked", "(CI)Z"⟩
abbrev cX4_tellStatement : ByteArray := prog_6_method_8_code
def yX4_tellStatement : MethodName := ⟨RX4, "tellStatement", "(LBlameIsFurniture$House;I)I"⟩
abbrev cX4_letterAt : ByteArray := prog_6_method_9_code
def yX4_letterAt : MethodName := ⟨RX4, "letterAt", "(I)I"⟩
abbrev cX4_kindOfLetter : ByteArray := prog_6_method_10_code
def yX4_kindOfLetter : MethodName := ⟨RX4, "kindOfLetter", "(I)I"⟩
abbrev cX4_digitAt : ByteArray := prog_6_method_11_code
def yX4_digitAt : MethodName := ⟨RX4, "digitAt", "(I)I"⟩
abbrev cX4_numberAt : ByteArray := prog_6_method_12_code
def yX4_numberAt : MethodName := ⟨RX4, "numberAt", "(I)I"⟩
def RX5 : String := "BlameIsFurniture"
def TX5 : u_T := fun k => match k with
  | 0 => ("BlameIsFurniture", "now", "LBlameIsFurniture$House;", true)
  | 1 => ("BlameIsFurniture", "thought", "LBlameIsFurniture$House;", true)
  | 2 => ("BlameIsFurniture", "kept", "LBlameIsFurniture$House;", true)
  | 3 => ("BlameIsFurniture", "isKept", "Z", false)
  | 4 => ("BlameIsFurniture", "text", "LBlameIsFurniture$Text;", true)
  | 5 => ("BlameIsFurniture", "told", "LBlameIsFurniture$Row;", true)
  | 6 => ("BlameIsFurniture", "placings", "LBlameIsFurniture$Placing;", true)
  | 7 => ("BlameIsFurniture", "sharing", "LBlameIsFurniture$Sharing;", true)
  | _ => ("BlameIsFurniture", "refusals", "[I", true)
def tyX5 : Nat → FieldType := fun k => match k with
  | 0 => .object "BlameIsFurniture$House"
  | 1 => .object "BlameIsFurniture$House"
  | 2 => .object "BlameIsFurniture$House"
  | 3 => .boolean
  | 4 => .object "BlameIsFurniture$Text"
  | 5 => .object "BlameIsFurniture$Row"
  | 6 => .object "BlameIsFurniture$Placing"
  | 7 => .object "BlameIsFurniture$Sharing"
  | _ => .array .int
abbrev wsX50 : List Cond := u_ws RX5 TX5 9
theorem nmX5 : ∀ a, a < 9 → ∀ b, b < 9 → a ≠ b → (TX5 a).2.1 ≠ (TX5 b).2.1 := by decide +kernel
theorem tyX5_ok : ∀ k, k < 9 → parseFieldDescriptor (TX5 k).2.2.1 = some (tyX5 k) := by decide +kernel
abbrev cX5_init : ByteArray := prog_1_method_1_code
def yX5_init : MethodName := ⟨RX5, "<init>", "()V"⟩
abbrev cX5_letter : ByteArray := prog_1_method_2_code
def yX5_letter : MethodName := ⟨RX5, "letter", "(I)I"⟩
abbrev cX5_house : ByteArray := prog_1_method_3_code
def yX5_house : MethodName := ⟨RX5, "house", "()I"⟩
abbrev cX5_piece : ByteArray := prog_1_method_4_code
def yX5_piece : MethodName := ⟨RX5, "piece", "(II)I"⟩
abbrev cX5_carry : ByteArray := prog_1_method_5_code
def yX5_carry : MethodName := ⟨RX5, "carry", "(II)I"⟩
abbrev cX5_stands : ByteArray := prog_1_method_6_code
def yX5_stands : MethodName := ⟨RX5, "stands", "(II)I"⟩
abbrev cX5_polish : ByteArray := prog_1_method_7_code
def yX5_polish : MethodName := ⟨RX5, "polish", "(I)I"⟩
abbrev cX5_size : ByteArray := prog_1_method_8_code
def yX5_size : MethodName := ⟨RX5, "size", "(II)I"⟩
abbrev cX5_wide : ByteArray := prog_1_method_9_code
def yX5_wide : MethodName := ⟨RX5, "wide", "(II)I"⟩
abbrev cX5_heirs : ByteArray := prog_1_method_10_code
def yX5_heirs : MethodName := ⟨RX5, "heirs", "(I)I"⟩
abbrev cX5_years : ByteArray := prog_1_method_11_code
def yX5_years : MethodName := ⟨RX5, "years", "(I)I"⟩
abbrev cX5_blame : ByteArray := prog_1_method_12_code
def yX5_blame : MethodName := ⟨RX5, "blame", "(I)I"⟩
abbrev cX5_worst : ByteArray := prog_1_method_13_code
def yX5_worst : MethodName := ⟨RX5, "worst", "()I"⟩
abbrev cX5_crowded : ByteArray := prog_1_method_14_code
def yX5_crowded : MethodName := ⟨RX5, "crowded", "()I"⟩
abbrev cX5_placing : ByteArray := prog_1_method_15_code
def yX5_placing : MethodName := ⟨RX5, "placing", "(III)I"⟩
abbrev cX5_innocent : ByteArray := prog_1_method_16_code
def yX5_innocent : MethodName := ⟨RX5, "innocent", "()I"⟩
abbrev cX5_shares : ByteArray := prog_1_method_17_code
def yX5_shares : MethodName := ⟨RX5, "shares", "(I)I"⟩
abbrev cX5_dealt : ByteArray := prog_1_method_18_code
def yX5_dealt : MethodName := ⟨RX5, "dealt", "(I)I"⟩
abbrev cX5_envy : ByteArray := prog_1_method_19_code
def yX5_envy : MethodName := ⟨RX5, "envy", "()I"⟩
abbrev cX5_choice : ByteArray := prog_1_method_20_code
def yX5_choice : MethodName := ⟨RX5, "choice", "(I)I"⟩
abbrev cX5_sell : ByteArray := prog_1_method_21_code
def yX5_sell : MethodName := ⟨RX5, "sell", "(I)I"⟩
abbrev cX5_burn : ByteArray := prog_1_method_22_code
def yX5_burn : MethodName := ⟨RX5, "burn", "()I"⟩
abbrev cX5_heavier : ByteArray := prog_1_method_23_code
def yX5_heavier : MethodName := ⟨RX5, "heavier", "()I"⟩
abbrev cX5_later : ByteArray := prog_1_method_24_code
def yX5_later : MethodName := ⟨RX5, "later", "(I)I"⟩
abbrev cX5_gone : ByteArray := prog_1_method_25_code
def yX5_gone : MethodName := ⟨RX5, "gone", "(I)I"⟩
abbrev cX5_whose : ByteArray := prog_1_method_26_code
def yX5_whose : MethodName := ⟨RX5, "whose", "(I)I"⟩
abbrev cX5_ask : ByteArray := prog_1_method_27_code
def yX5_ask : MethodName := ⟨RX5, "ask", "(I)I"⟩
abbrev cX5_wider : ByteArray := prog_1_method_28_code
def yX5_wider : MethodName := ⟨RX5, "wider", "(III)I"⟩
abbrev cX5_bigger : ByteArray := prog_1_method_29_code
def yX5_bigger : MethodName := ⟨RX5, "bigger", "(II)I"⟩
abbrev cX5_guest : ByteArray := prog_1_method_30_code
def yX5_guest : MethodName := ⟨RX5, "guest", "(I)I"⟩
abbrev cX5_row : ByteArray := prog_1_method_31_code
def yX5_row : MethodName := ⟨RX5, "row", "(I)I"⟩
abbrev cX5_fits : ByteArray := prog_1_method_32_code
def yX5_fits : MethodName := ⟨RX5, "fits", "(I)I"⟩
abbrev cX5_judge : ByteArray := prog_1_method_33_code
def yX5_judge : MethodName := ⟨RX5, "judge", "()I"⟩
abbrev cX5_lots : ByteArray := prog_1_method_34_code
def yX5_lots : MethodName := ⟨RX5, "lots", "(II)I"⟩
abbrev cX5_image : ByteArray := prog_1_method_35_code
def yX5_image : MethodName := ⟨RX5, "image", "()I"⟩
abbrev cX5_on : ByteArray := prog_1_method_36_code
def yX5_on : MethodName := ⟨RX5, "on", "()I"⟩
abbrev cX5_count : ByteArray := prog_1_method_37_code
def yX5_count : MethodName := ⟨RX5, "count", "(I)I"⟩
abbrev cX5_answer : ByteArray := prog_1_method_38_code
def yX5_answer : MethodName := ⟨RX5, "answer", "(I)I"⟩
abbrev cX5_thoughtOfNow : ByteArray := prog_1_method_39_code
def yX5_thoughtOfNow : MethodName := ⟨RX5, "thoughtOfNow", "()LBlameIsFurniture$House;"⟩
abbrev cX5_refusalOutside : ByteArray := prog_1_method_40_code
def yX5_refusalOutside : MethodName := ⟨RX5, "refusalOutside", "(III)I"⟩
abbrev cX5_isAllOrOneOf : ByteArray := prog_1_method_41_code
def yX5_isAllOrOneOf : MethodName := ⟨RX5, "isAllOrOneOf", "(II)Z"⟩
abbrev cX5_refusalOf : ByteArray := prog_1_method_42_code
def yX5_refusalOf : MethodName := ⟨RX5, "refusalOf", "(I)I"⟩
abbrev cX5_blameWithout : ByteArray := prog_1_method_43_code
def yX5_blameWithout : MethodName := ⟨RX5, "blameWithout", "(I)I"⟩
abbrev cX5_blameWithoutBoth : ByteArray := prog_1_method_44_code
def yX5_blameWithoutBoth : MethodName := ⟨RX5, "blameWithoutBoth", "(II)I"⟩
abbrev cX5_blameWithFault : ByteArray := prog_1_method_45_code
def yX5_blameWithFault : MethodName := ⟨RX5, "blameWithFault", "(II)I"⟩
abbrev cX5_anotherFaultMakes : ByteArray := prog_1_method_46_code
def yX5_anotherFaultMakes : MethodName := ⟨RX5, "anotherFaultMakes", "(II)Z"⟩
abbrev cX5_lesserOfBothFaults : ByteArray := prog_1_method_47_code
def yX5_lesserOfBothFaults : MethodName := ⟨RX5, "lesserOfBothFaults", "(II)I"⟩
abbrev cX5_sumOfFirst : ByteArray := prog_1_method_48_code
def yX5_sumOfFirst : MethodName := ⟨RX5, "sumOfFirst", "([II)I"⟩
abbrev cX5_nextSeed : ByteArray := prog_1_method_49_code
def yX5_nextSeed : MethodName := ⟨RX5, "nextSeed", "(I)I"⟩
abbrev cX5_drawnBelow : ByteArray := prog_1_method_50_code
def yX5_drawnBelow : MethodName := ⟨RX5, "drawnBelow", "(II)I"⟩
abbrev cX5_isRoom : ByteArray := prog_1_method_51_code
def yX5_isRoom : MethodName := ⟨RX5, "isRoom", "(I)Z"⟩
abbrev cX5_isPlace : ByteArray := prog_1_method_52_code
def yX5_isPlace : MethodName := ⟨RX5, "isPlace", "(I)Z"⟩
abbrev cX5_hasStairs : ByteArray := prog_1_method_53_code
def yX5_hasStairs : MethodName := ⟨RX5, "hasStairs", "(I)Z"⟩
def RX6 : String := "BlameIsFurnitureModel"
def TX6 : u_T := fun k => match k with
  | 0 => ("BlameIsFurnitureModel", "refused", "[I", true)
  | 1 => ("BlameIsFurnitureModel", "sizes", "[I", true)
  | 2 => ("BlameIsFurnitureModel", "stairs", "[I", true)
  | 3 => ("BlameIsFurnitureModel", "kind", "[I", true)
  | 4 => ("BlameIsFurnitureModel", "bulk", "[I", true)
  | 5 => ("BlameIsFurnitureModel", "fault", "[I", true)
  | 6 => ("BlameIsFurnitureModel", "age", "[I", true)
  | 7 => ("BlameIsFurnitureModel", "stands", "[I", true)
  | 8 => ("BlameIsFurnitureModel", "pieces", "I", false)
  | 9 => ("BlameIsFurnitureModel", "heirs", "I", false)
  | 10 => ("BlameIsFurnitureModel", "year", "I", false)
  | 11 => ("BlameIsFurnitureModel", "tape", "[I", true)
  | 12 => ("BlameIsFurnitureModel", "letter", "[I", true)
  | 13 => ("BlameIsFurnitureModel", "letterAt", "[I", true)
  | 14 => ("BlameIsFurnitureModel", "told", "[I", true)
  | 15 => ("BlameIsFurnitureModel", "taped", "I", false)
  | 16 => ("BlameIsFurnitureModel", "at", "I", false)
  | 17 => ("BlameIsFurnitureModel", "statements", "I", false)
  | 18 => ("BlameIsFurnitureModel", "kept", "[I", true)
  | 19 => ("BlameIsFurnitureModel", "hasImage", "Z", false)
  | 20 => ("BlameIsFurnitureModel", "isKeeping", "Z", false)
  | 21 => ("BlameIsFurnitureModel", "cursor", "I", false)
  | 22 => ("BlameIsFurnitureModel", "found", "[I", true)
  | 23 => ("BlameIsFurnitureModel", "foundValue", "I", false)
  | 24 => ("BlameIsFurnitureModel", "goesTo", "[I", true)
  | 25 => ("BlameIsFurnitureModel", "share", "[I", true)
  | 26 => ("BlameIsFurnitureModel", "row", "[I", true)
  | _ => ("BlameIsFurnitureModel", "rowMany", "I", false)
def tyX6 : Nat → FieldType := fun k => match k with
  | 0 => .array .int
  | 1 => .array .int
  | 2 => .array .int
  | 3 => .array .int
  | 4 => .array .int
  | 5 => .array .int
  | 6 => .array .int
  | 7 => .array .int
  | 8 => .int
  | 9 => .int
  | 10 => .int
  | 11 => .array .int
  | 12 => .array .int
  | 13 => .array .int
  | 14 => .array .int
  | 15 => .int
  | 16 => .int
  | 17 => .int
  | 18 => .array .int
  | 19 => .boolean
  | 20 => .boolean
  | 21 => .int
  | 22 => .array .int
  | 23 => .int
  | 24 => .array .int
  | 25 => .array .int
  | 26 => .array .int
  | _ => .int
abbrev wsX60 : List Cond := u_ws RX6 TX6 28
theorem nmX6 : ∀ a, a < 28 → ∀ b, b < 28 → a ≠ b → (TX6 a).2.1 ≠ (TX6 b).2.1 := by decide +kernel
theorem tyX6_ok : ∀ k, k < 28 → parseFieldDescriptor (TX6 k).2.2.1 = some (tyX6 k) := by decide +kernel
abbrev cX6_init : ByteArray := prog_8_method_1_code
def yX6_init : MethodName := ⟨RX6, "<init>", "()V"⟩
abbrev cX6_no : ByteArray := prog_8_method_2_code
def yX6_no : MethodName := ⟨RX6, "no", "(I)I"⟩
abbrev cX6_isIn : ByteArray := prog_8_method_3_code
def yX6_isIn : MethodName := ⟨RX6, "isIn", "(III)Z"⟩
abbrev cX6_bound : ByteArray := prog_8_method_4_code
def yX6_bound : MethodName := ⟨RX6, "bound", "(III)I"⟩
abbrev cX6_has : ByteArray := prog_8_method_5_code
def yX6_has : MethodName := ⟨RX6, "has", "(II)Z"⟩
abbrev cX6_bits : ByteArray := prog_8_method_6_code
def yX6_bits : MethodName := ⟨RX6, "bits", "(I)I"⟩
abbrev cX6_isPiece : ByteArray := prog_8_method_7_code
def yX6_isPiece : MethodName := ⟨RX6, "isPiece", "(I)Z"⟩
abbrev cX6_isRoom : ByteArray := prog_8_method_8_code
def yX6_isRoom : MethodName := ⟨RX6, "isRoom", "(I)Z"⟩
abbrev cX6_isPlace : ByteArray := prog_8_method_9_code
def yX6_isPlace : MethodName := ⟨RX6, "isPlace", "(I)Z"⟩
abbrev cX6_letter : ByteArray := prog_8_method_10_code
def yX6_letter : MethodName := ⟨RX6, "letter", "(I)I"⟩
abbrev cX6_next : ByteArray := prog_8_method_11_code
def yX6_next : MethodName := ⟨RX6, "next", "()I"⟩
abbrev cX6_readsDigits : ByteArray := prog_8_method_12_code
def yX6_readsDigits : MethodName := ⟨RX6, "readsDigits", "(II)Z"⟩
abbrev cX6_kindOf : ByteArray := prog_8_method_13_code
def yX6_kindOf : MethodName := ⟨RX6, "kindOf", "(I)I"⟩
abbrev cX6_readsPiece : ByteArray := prog_8_method_14_code
def yX6_readsPiece : MethodName := ⟨RX6, "readsPiece", "(I)Z"⟩
abbrev cX6_readsAll : ByteArray := prog_8_method_15_code
def yX6_readsAll : MethodName := ⟨RX6, "readsAll", "(II)Z"⟩
abbrev cX6_isLetter : ByteArray := prog_8_method_16_code
def yX6_isLetter : MethodName := ⟨RX6, "isLetter", "(I)Z"⟩
abbrev cX6_statement : ByteArray := prog_8_method_17_code
def yX6_statement : MethodName := ⟨RX6, "statement", "()Z"⟩
abbrev cX6_comesPiece : ByteArray := prog_8_method_18_code
def yX6_comesPiece : MethodName := ⟨RX6, "comesPiece", "(I)Z"⟩
abbrev cX6_comes : ByteArray := prog_8_method_19_code
def yX6_comes : MethodName := ⟨RX6, "comes", "(I)Z"⟩
abbrev cX6_house : ByteArray := prog_8_method_20_code
def yX6_house : MethodName := ⟨RX6, "house", "()I"⟩
abbrev cX6_passes : ByteArray := prog_8_method_21_code
def yX6_passes : MethodName := ⟨RX6, "passes", "([I)V"⟩
abbrev cX6_passOne : ByteArray := prog_8_method_22_code
def yX6_passOne : MethodName := ⟨RX6, "passOne", "(I)I"⟩
abbrev cX6_passesAll : ByteArray := prog_8_method_23_code
def yX6_passesAll : MethodName := ⟨RX6, "passesAll", "(IZ)V"⟩
abbrev cX6_image : ByteArray := prog_8_method_24_code
def yX6_image : MethodName := ⟨RX6, "image", "()I"⟩
abbrev cX6_on : ByteArray := prog_8_method_25_code
def yX6_on : MethodName := ⟨RX6, "on", "()I"⟩
abbrev cX6_suiteOf : ByteArray := prog_8_method_26_code
def yX6_suiteOf : MethodName := ⟨RX6, "suiteOf", "(I)I"⟩
abbrev cX6_veneerOf : ByteArray := prog_8_method_27_code
def yX6_veneerOf : MethodName := ⟨RX6, "veneerOf", "(I)I"⟩
abbrev cX6_blameOf : ByteArray := prog_8_method_28_code
def yX6_blameOf : MethodName := ⟨RX6, "blameOf", "(I)I"⟩
abbrev cX6_wideOf : ByteArray := prog_8_method_29_code
def yX6_wideOf : MethodName := ⟨RX6, "wideOf", "(I)I"⟩
abbrev cX6_blameIn : ByteArray := prog_8_method_30_code
def yX6_blameIn : MethodName := ⟨RX6, "blameIn", "(I)I"⟩
abbrev cX6_bulkIn : ByteArray := prog_8_method_31_code
def yX6_bulkIn : MethodName := ⟨RX6, "bulkIn", "(I)I"⟩
abbrev cX6_canCarry : ByteArray := prog_8_method_32_code
def yX6_canCarry : MethodName := ⟨RX6, "canCarry", "(II)Z"⟩
abbrev cX6_goes : ByteArray := prog_8_method_33_code
def yX6_goes : MethodName := ⟨RX6, "goes", "(I)V"⟩
abbrev cX6_piece : ByteArray := prog_8_method_34_code
def yX6_piece : MethodName := ⟨RX6, "piece", "(II)I"⟩
abbrev cX6_carry : ByteArray := prog_8_method_35_code
def yX6_carry : MethodName := ⟨RX6, "carry", "(II)I"⟩
abbrev cX6_stands : ByteArray := prog_8_method_36_code
def yX6_stands : MethodName := ⟨RX6, "stands", "(II)I"⟩
abbrev cX6_polish : ByteArray := prog_8_method_37_code
def yX6_polish : MethodName := ⟨RX6, "polish", "(I)I"⟩
abbrev cX6_size : ByteArray := prog_8_method_38_code
def yX6_size : MethodName := ⟨RX6, "size", "(II)I"⟩
abbrev cX6_isFloor : ByteArray := prog_8_method_39_code
def yX6_isFloor : MethodName := ⟨RX6, "isFloor", "(I)Z"⟩
abbrev cX6_wide : ByteArray := prog_8_method_40_code
def yX6_wide : MethodName := ⟨RX6, "wide", "(II)I"⟩
abbrev cX6_heirs : ByteArray := prog_8_method_41_code
def yX6_heirs : MethodName := ⟨RX6, "heirs", "(I)I"⟩
abbrev cX6_years : ByteArray := prog_8_method_42_code
def yX6_years : MethodName := ⟨RX6, "years", "(I)I"⟩
abbrev cX6_blame : ByteArray := prog_8_method_43_code
def yX6_blame : MethodName := ⟨RX6, "blame", "(I)I"⟩
abbrev cX6_worst : ByteArray := prog_8_method_44_code
def yX6_worst : MethodName := ⟨RX6, "worst", "()I"⟩
abbrev cX6_crowded : ByteArray := prog_8_method_45_code
def yX6_crowded : MethodName := ⟨RX6, "crowded", "()I"⟩
abbrev cX6_isPlaced : ByteArray := prog_8_method_46_code
def yX6_isPlaced : MethodName := ⟨RX6, "isPlaced", "(II)Z"⟩
abbrev cX6_roomsUsed : ByteArray := prog_8_method_47_code
def yX6_roomsUsed : MethodName := ⟨RX6, "roomsUsed", "()I"⟩
abbrev cX6_power : ByteArray := prog_8_method_48_code
def yX6_power : MethodName := ⟨RX6, "power", "(II)I"⟩
abbrev cX6_findPlacing : ByteArray := prog_8_method_49_code
def yX6_findPlacing : MethodName := ⟨RX6, "findPlacing", "(II)V"⟩
abbrev cX6_placing : ByteArray := prog_8_method_50_code
def yX6_placing : MethodName := ⟨RX6, "placing", "(III)I"⟩
abbrev cX6_innocent : ByteArray := prog_8_method_51_code
def yX6_innocent : MethodName := ⟨RX6, "innocent", "()I"⟩
abbrev cX6_givesAll : ByteArray := prog_8_method_52_code
def yX6_givesAll : MethodName := ⟨RX6, "givesAll", "()V"⟩
abbrev cX6_apart : ByteArray := prog_8_method_53_code
def yX6_apart : MethodName := ⟨RX6, "apart", "()I"⟩
abbrev cX6_sharesBy : ByteArray := prog_8_method_54_code
def yX6_sharesBy : MethodName := ⟨RX6, "sharesBy", "(I)V"⟩
abbrev cX6_findShares : ByteArray := prog_8_method_55_code
def yX6_findShares : MethodName := ⟨RX6, "findShares", "()I"⟩
abbrev cX6_notShare : ByteArray := prog_8_method_56_code
def yX6_notShare : MethodName := ⟨RX6, "notShare", "(I)I"⟩
abbrev cX6_shares : ByteArray := prog_8_method_57_code
def yX6_shares : MethodName := ⟨RX6, "shares", "(I)I"⟩
abbrev cX6_poorest : ByteArray := prog_8_method_58_code
def yX6_poorest : MethodName := ⟨RX6, "poorest", "()I"⟩
abbrev cX6_deals : ByteArray := prog_8_method_59_code
def yX6_deals : MethodName := ⟨RX6, "deals", "()V"⟩
abbrev cX6_dealt : ByteArray := prog_8_method_60_code
def yX6_dealt : MethodName := ⟨RX6, "dealt", "(I)I"⟩
abbrev cX6_envy : ByteArray := prog_8_method_61_code
def yX6_envy : MethodName := ⟨RX6, "envy", "()I"⟩
abbrev cX6_mildest : ByteArray := prog_8_method_62_code
def yX6_mildest : MethodName := ⟨RX6, "mildest", "(I)I"⟩
abbrev cX6_choice : ByteArray := prog_8_method_63_code
def yX6_choice : MethodName := ⟨RX6, "choice", "(I)I"⟩
abbrev cX6_leaves : ByteArray := prog_8_method_64_code
def yX6_leaves : MethodName := ⟨RX6, "leaves", "(I)V"⟩
abbrev cX6_blameWithout : ByteArray := prog_8_method_65_code
def yX6_blameWithout : MethodName := ⟨RX6, "blameWithout", "(II)I"⟩
abbrev cX6_sell : ByteArray := prog_8_method_66_code
def yX6_sell : MethodName := ⟨RX6, "sell", "(I)I"⟩
abbrev cX6_burn : ByteArray := prog_8_method_67_code
def yX6_burn : MethodName := ⟨RX6, "burn", "()I"⟩
abbrev cX6_blameWith : ByteArray := prog_8_method_68_code
def yX6_blameWith : MethodName := ⟨RX6, "blameWith", "(II)I"⟩
abbrev cX6_heavier : ByteArray := prog_8_method_69_code
def yX6_heavier : MethodName := ⟨RX6, "heavier", "()I"⟩
abbrev cX6_blameBehind : ByteArray := prog_8_method_70_code
def yX6_blameBehind : MethodName := ⟨RX6, "blameBehind", "(I)I"⟩
abbrev cX6_later : ByteArray := prog_8_method_71_code
def yX6_later : MethodName := ⟨RX6, "later", "(I)I"⟩
abbrev cX6_gone : ByteArray := prog_8_method_72_code
def yX6_gone : MethodName := ⟨RX6, "gone", "(I)I"⟩
abbrev cX6_makes : ByteArray := prog_8_method_73_code
def yX6_makes : MethodName := ⟨RX6, "makes", "(II)Z"⟩
abbrev cX6_whose : ByteArray := prog_8_method_74_code
def yX6_whose : MethodName := ⟨RX6, "whose", "(I)I"⟩
abbrev cX6_evenBy : ByteArray := prog_8_method_75_code
def yX6_evenBy : MethodName := ⟨RX6, "evenBy", "(II)I"⟩
abbrev cX6_ask : ByteArray := prog_8_method_76_code
def yX6_ask : MethodName := ⟨RX6, "ask", "(I)I"⟩
abbrev cX6_wider : ByteArray := prog_8_method_77_code
def yX6_wider : MethodName := ⟨RX6, "wider", "(III)I"⟩
abbrev cX6_bigger : ByteArray := prog_8_method_78_code
def yX6_bigger : MethodName := ⟨RX6, "bigger", "(II)I"⟩
abbrev cX6_guest : ByteArray := prog_8_method_79_code
def yX6_guest : MethodName := ⟨RX6, "guest", "(I)I"⟩
abbrev cX6_row : ByteArray := prog_8_method_80_code
def yX6_row : MethodName := ⟨RX6, "row", "(I)I"⟩
abbrev cX6_firstOther : ByteArray := prog_8_method_81_code
def yX6_firstOther : MethodName := ⟨RX6, "firstOther", "()I"⟩
abbrev cX6_fits : ByteArray := prog_8_method_82_code
def yX6_fits : MethodName := ⟨RX6, "fits", "(I)I"⟩
abbrev cX6_judge : ByteArray := prog_8_method_83_code
def yX6_judge : MethodName := ⟨RX6, "judge", "()I"⟩
abbrev cX6_lots : ByteArray := prog_8_method_84_code
def yX6_lots : MethodName := ⟨RX6, "lots", "(II)I"⟩
abbrev cX6_count : ByteArray := prog_8_method_85_code
def yX6_count : MethodName := ⟨RX6, "count", "(I)I"⟩
def RJx145de : String := "java/io/Serializable"
def TJx145de : u_T := fun k => match k with
  | _ => ("", "", "", false)
def tyJx145de : Nat → FieldType := fun k => match k with
  | _ => .int
abbrev wsJx145de0 : List Cond := u_ws RJx145de TJx145de 0
theorem nmJx145de : ∀ a, a < 0 → ∀ b, b < 0 → a ≠ b → (TJx145de a).2.1 ≠ (TJx145de b).2.1 := by decide +kernel
theorem tyJx145de_ok : ∀ k, k < 0 → parseFieldDescriptor (TJx145de k).2.2.1 = some (tyJx145de k) := by decide +kernel
def RJx9f9b0 : String := "java/lang/CharSequence"
def TJx9f9b0 : u_T := fun k => match k with
  | _ => ("", "", "", false)
def tyJx9f9b0 : Nat → FieldType := fun k => match k with
  | _ => .int
abbrev wsJx9f9b00 : List Cond := u_ws RJx9f9b0 TJx9f9b0 0
theorem nmJx9f9b0 : ∀ a, a < 0 → ∀ b, b < 0 → a ≠ b → (TJx9f9b0 a).2.1 ≠ (TJx9f9b0 b).2.1 := by decide +kernel
theorem tyJx9f9b0_ok : ∀ k, k < 0 → parseFieldDescriptor (TJx9f9b0 k).2.2.1 = some (tyJx9f9b0 k) := by decide +kernel
def RJxb160c : String := "java/lang/Comparable"
def TJxb160c : u_T := fun k => match k with
  | _ => ("", "", "", false)
def tyJxb160c : Nat → FieldType := fun k => match k with
  | _ => .int
abbrev wsJxb160c0 : List Cond := u_ws RJxb160c TJxb160c 0
theorem nmJxb160c : ∀ a, a < 0 → ∀ b, b < 0 → a ≠ b → (TJxb160c a).2.1 ≠ (TJxb160c b).2.1 := by decide +kernel
theorem tyJxb160c_ok : ∀ k, k < 0 → parseFieldDescriptor (TJxb160c k).2.2.1 = some (tyJxb160c k) := by decide +kernel
def RJ9 : String := "java/lang/Math"
def TJ9 : u_T := fun k => match k with
  | _ => ("", "", "", false)
def tyJ9 : Nat → FieldType := fun k => match k with
  | _ => .int
abbrev wsJ90 : List Cond := u_ws RJ9 TJ9 0
theorem nmJ9 : ∀ a, a < 0 → ∀ b, b < 0 → a ≠ b → (TJ9 a).2.1 ≠ (TJ9 b).2.1 := by decide +kernel
theorem tyJ9_ok : ∀ k, k < 0 → parseFieldDescriptor (TJ9 k).2.2.1 = some (tyJ9 k) := by decide +kernel
abbrev cJ9_max_7cf53 : ByteArray := prog_9_method_65_code
def yJ9_max_7cf53 : MethodName := ⟨RJ9, "max", "(II)I"⟩
abbrev cJ9_min_7cf53 : ByteArray := prog_9_method_69_code
def yJ9_min_7cf53 : MethodName := ⟨RJ9, "min", "(II)I"⟩
def RJ0 : String := "java/lang/String"
def TJ0 : u_T := fun k => match k with
  | _ => ("", "", "", false)
def tyJ0 : Nat → FieldType := fun k => match k with
  | _ => .int
abbrev wsJ00 : List Cond := u_ws RJ0 TJ0 0
theorem nmJ0 : ∀ a, a < 0 → ∀ b, b < 0 → a ≠ b → (TJ0 a).2.1 ≠ (TJ0 b).2.1 := by decide +kernel
theorem tyJ0_ok : ∀ k, k < 0 → parseFieldDescriptor (TJ0 k).2.2.1 = some (tyJ0 k) := by decide +kernel
abbrev cJ0_length_8abf5 : ByteArray := prog_10_method_54_code
def yJ0_length_8abf5 : MethodName := ⟨RJ0, "length", "()I"⟩
abbrev cJ0_isEmpty_aae02 : ByteArray := prog_10_method_55_code
def yJ0_isEmpty_aae02 : MethodName := ⟨RJ0, "isEmpty", "()Z"⟩
abbrev cJ0_charAt_5068e : ByteArray := prog_10_method_56_code
def yJ0_charAt_5068e : MethodName := ⟨RJ0, "charAt", "(I)C"⟩
abbrev cJ0_coder_7d493 : ByteArray := prog_10_method_152_code
def yJ0_coder_7d493 : MethodName := ⟨RJ0, "coder", "()B"⟩
abbrev cJ0_isLatin1_aae02 : ByteArray := prog_10_method_154_code
def yJ0_isLatin1_aae02 : MethodName := ⟨RJ0, "isLatin1", "()Z"⟩
abbrev cJ0_checkIndex_df160 : ByteArray := prog_10_method_155_code
def yJ0_checkIndex_df160 : MethodName := ⟨RJ0, "checkIndex", "(II)V"⟩
def RJ1 : String := "java/lang/StringLatin1"
def TJ1 : u_T := fun k => match k with
  | _ => ("", "", "", false)
def tyJ1 : Nat → FieldType := fun k => match k with
  | _ => .int
abbrev wsJ10 : List Cond := u_ws RJ1 TJ1 0
theorem nmJ1 : ∀ a, a < 0 → ∀ b, b < 0 → a ≠ b → (TJ1 a).2.1 ≠ (TJ1 b).2.1 := by decide +kernel
theorem tyJ1_ok : ∀ k, k < 0 → parseFieldDescriptor (TJ1 k).2.2.1 = some (tyJ1 k) := by decide +kernel
abbrev cJ1_charAt_3b067 : ByteArray := prog_11_method_2_code
def yJ1_charAt_3b067 : MethodName := ⟨RJ1, "charAt", "([BI)C"⟩
def RJ2 : String := "java/lang/StringUTF16"
def TJ2 : u_T := fun k => match k with
  | _ => ("", "", "", false)
def tyJ2 : Nat → FieldType := fun k => match k with
  | _ => .int
abbrev wsJ20 : List Cond := u_ws RJ2 TJ2 0
theorem nmJ2 : ∀ a, a < 0 → ∀ b, b < 0 → a ≠ b → (TJ2 a).2.1 ≠ (TJ2 b).2.1 := by decide +kernel
theorem tyJ2_ok : ∀ k, k < 0 → parseFieldDescriptor (TJ2 k).2.2.1 = some (tyJ2 k) := by decide +kernel
abbrev cJ2_getChar_3b067 : ByteArray := prog_12_method_5_code
def yJ2_getChar_3b067 : MethodName := ⟨RJ2, "getChar", "([BI)C"⟩
abbrev cJ2_length_9d52b : ByteArray := prog_12_method_6_code
def yJ2_length_9d52b : MethodName := ⟨RJ2, "length", "([B)I"⟩
abbrev cJ2_charAt_3b067 : ByteArray := prog_12_method_83_code
def yJ2_charAt_3b067 : MethodName := ⟨RJ2, "charAt", "([BI)C"⟩
abbrev cJ2_checkIndex_2214a : ByteArray := prog_12_method_91_code
def yJ2_checkIndex_2214a : MethodName := ⟨RJ2, "checkIndex", "(I[B)V"⟩
def RJ10 : String := "java/lang/System"
def TJ10 : u_T := fun k => match k with
  | _ => ("", "", "", false)
def tyJ10 : Nat → FieldType := fun k => match k with
  | _ => .int
abbrev wsJ100 : List Cond := u_ws RJ10 TJ10 0
theorem nmJ10 : ∀ a, a < 0 → ∀ b, b < 0 → a ≠ b → (TJ10 a).2.1 ≠ (TJ10 b).2.1 := by decide +kernel
theorem tyJ10_ok : ∀ k, k < 0 → parseFieldDescriptor (TJ10 k).2.2.1 = some (tyJ10 k) := by decide +kernel
def RJxfd54e : String := "java/lang/constant/Constable"
def TJxfd54e : u_T := fun k => match k with
  | _ => ("", "", "", false)
def tyJxfd54e : Nat → FieldType := fun k => match k with
  | _ => .int
abbrev wsJxfd54e0 : List Cond := u_ws RJxfd54e TJxfd54e 0
theorem nmJxfd54e : ∀ a, a < 0 → ∀ b, b < 0 → a ≠ b → (TJxfd54e a).2.1 ≠ (TJxfd54e b).2.1 := by decide +kernel
theorem tyJxfd54e_ok : ∀ k, k < 0 → parseFieldDescriptor (TJxfd54e k).2.2.1 = some (tyJxfd54e k) := by decide +kernel
def RJx3cf43 : String := "java/lang/constant/ConstantDesc"
def TJx3cf43 : u_T := fun k => match k with
  | _ => ("", "", "", false)
def tyJx3cf43 : Nat → FieldType := fun k => match k with
  | _ => .int
abbrev wsJx3cf430 : List Cond := u_ws RJx3cf43 TJx3cf43 0
theorem nmJx3cf43 : ∀ a, a < 0 → ∀ b, b < 0 → a ≠ b → (TJx3cf43 a).2.1 ≠ (TJx3cf43 b).2.1 := by decide +kernel
theorem tyJx3cf43_ok : ∀ k, k < 0 → parseFieldDescriptor (TJx3cf43 k).2.2.1 = some (tyJx3cf43 k) := by decide +kernel
def RJ7 : String := "java/util/Arrays"
def TJ7 : u_T := fun k => match k with
  | _ => ("", "", "", false)
def tyJ7 : Nat → FieldType := fun k => match k with
  | _ => .int
abbrev wsJ70 : List Cond := u_ws RJ7 TJ7 0
theorem nmJ7 : ∀ a, a < 0 → ∀ b, b < 0 → a ≠ b → (TJ7 a).2.1 ≠ (TJ7 b).2.1 := by decide +kernel
theorem tyJ7_ok : ∀ k, k < 0 → parseFieldDescriptor (TJ7 k).2.2.1 = some (tyJ7 k) := by decide +kernel
abbrev cJ7_fill_53178 : ByteArray := prog_14_method_103_code
def yJ7_fill_53178 : MethodName := ⟨RJ7, "fill", "([II)V"⟩
def RJ3 : String := "jdk/internal/util/Preconditions"
def TJ3 : u_T := fun k => match k with
  | _ => ("", "", "", false)
def tyJ3 : Nat → FieldType := fun k => match k with
  | _ => .int
abbrev wsJ30 : List Cond := u_ws RJ3 TJ3 0
theorem nmJ3 : ∀ a, a < 0 → ∀ b, b < 0 → a ≠ b → (TJ3 a).2.1 ≠ (TJ3 b).2.1 := by decide +kernel
theorem tyJ3_ok : ∀ k, k < 0 → parseFieldDescriptor (TJ3 k).2.2.1 = some (tyJ3 k) := by decide +kernel
abbrev cJ3_checkIndex_8e157 : ByteArray := prog_15_method_11_code
def yJ3_checkIndex_8e157 : MethodName := ⟨RJ3, "checkIndex", "(IILjava/util/function/BiFunction;)I"⟩
def RL : String := "BlameIsFurnitureLaw"
abbrev cL_law : ByteArray := code
def yL_law : MethodName := ⟨RL, "law", "([I)Z"⟩
end
section
/-! A world of its own: all cells of the class and of the check, in one row of numbers; a state is a number for each place of each cell. -/
abbrev St : Type := Nat → Nat → Int32
def s2 (σ : St) (k j : Nat) (v : Int32) : St := fun a => if a = k then upd (σ k) j v else σ a
def cv (ad : Nat → Nat) (v : Value) : Value := match v with
  | .ref k => .ref (ad k)
  | w => w
theorem cv_cat (ad : Nat → Nat) (v : Value) : (cv ad v).category = v.category := by cases v <;> rfl
theorem cv_sum (ad : Nat → Nat) (st : List Value) : ((st.map (cv ad)).map fun v => v.category).sum = (st.map fun v => v.category).sum := by
  induction st with
  | nil => rfl
  | cons a l ih => simp only [List.map_cons, List.sum_cons, cv_cat, ih]
/-- the classes of which the world has objects -/
abbrev clss : List vw_C := [(RX6, TX6, 28), (RX0, TX0, 10), (RX1, TX1, 5), (RX2, TX2, 2), (RX3, TX3, 9), (RX4, TX4, 2), (RX5, TX5, 9)]
def NC : Nat := 55
def shH (k : Nat) : Nat × List (Option Nat) := (1, [some (k + 1), some (k + 2), some (k + 3), some (k + 4), some (k + 5), some (k + 6), some (k + 7), none, none, none])
/-- what stands at a place: an object (its class, which fields are cells), or a row of ints (its length) -/
def shp (k : Nat) : (Nat × List (Option Nat)) ⊕ Nat := match k with
  | 0 => .inl (0, [some 1, some 2, some 3, some 4, some 5, some 6, some 7, some 8, none, none, none, some 9, some 10, some 11, some 12, none, none, none, some 13, none, none, none, some 14, none, some 15, some 16, some 17, none])
  | 1 => .inr 7
  | 2 => .inr 6
  | 3 => .inr 3
  | 4 => .inr 7
  | 5 => .inr 7
  | 6 => .inr 7
  | 7 => .inr 7
  | 8 => .inr 7
  | 9 => .inr 96
  | 10 => .inr 48
  | 11 => .inr 48
  | 12 => .inr 192
  | 13 => .inr 100
  | 14 => .inr 7
  | 15 => .inr 7
  | 16 => .inr 4
  | 17 => .inr 12
  | 18 => .inl (6, [some 19, some 27, some 35, none, some 43, some 45, some 47, some 49, some 54])
  | 19 => .inl (shH 19)
  | 27 => .inl (shH 27)
  | 35 => .inl (shH 35)
  | 25 => .inr 6
  | 33 => .inr 6
  | 41 => .inr 6
  | 26 => .inr 3
  | 34 => .inr 3
  | 42 => .inr 3
  | 43 => .inl (5, [some 44, none])
  | 44 => .inr 96
  | 45 => .inl (3, [some 46, none])
  | 46 => .inr 12
  | 47 => .inl (2, [some 27, some 48, none, none, none])
  | 49 => .inl (4, [some 50, some 51, some 52, some 53, none, none, none, none, none])
  | 53 => .inr 4
  | _ => .inr 7
def fv (ad : Nat → Nat) (σ : St) (k j : Nat) : Option Nat → Value
  | none => .int (σ k j)
  | some r => .ref (ad r)
def ent (ad : Nat → Nat) (cI : ClassId) (σ : St) (k : Nat) : va_E := match shp k with
  | .inl (ci, fl) => .inr (ci, (List.range fl.length).map (fun j => fv ad σ k j (fl.getD j none)))
  | .inr n => .inl (cI, n, .inl (σ k))
def wld (ad : Nat → Nat) (cI : ClassId) (σ : St) : va_W := (List.range NC).map (fun k => (ad k, ent ad cI σ k))
theorem wld_at {ad : Nat → Nat} {cI : ClassId} {σ : St} {k : Nat} (hk : k < NC) : (wld ad cI σ)[k]? = some (ad k, ent ad cI σ k) := by
  simp [wld, hk]
theorem wld_len {ad : Nat → Nat} {cI : ClassId} {σ : St} : (wld ad cI σ).length = NC := by simp [wld]
theorem wld_inv {ad : Nat → Nat} {cI : ClassId} {σ : St} {k : Nat} {q : Nat × va_E} (h : (wld ad cI σ)[k]? = some q) : k < NC ∧ q = (ad k, ent ad cI σ k) := by
  have hk : k < NC := by
    have := (List.getElem?_eq_some_iff.mp h).1
    rwa [wld_len] at this
  rw [wld_at hk] at h
  exact ⟨hk, (Option.some.inj h).symm⟩
theorem wld_set {ad : Nat → Nat} {cI : ClassId} {σ σ' : St} {k : Nat} {e : va_E} (he : ent ad cI σ' k = e) (ho : ∀ a, a ≠ k → ent ad cI σ' a = ent ad cI σ a) : (wld ad cI σ).set k (ad k, e) = wld ad cI σ' := by
  apply List.ext_getElem?
  intro j
  rw [List.getElem?_set]
  by_cases hj : k = j
  · subst hj
    by_cases hk : k < NC
    · rw [if_pos rfl, wld_len, if_pos hk, wld_at hk, he]
    · rw [if_pos rfl, wld_len, if_neg hk]
      symm
      rw [List.getElem?_eq_none_iff, wld_len]
      omega
  · rw [if_neg hj]
    by_cases hk : j < NC
    · rw [wld_at hk, wld_at hk, ho j (fun q => hj q.symm)]
    · rw [List.getElem?_eq_none (by rw [wld_len]; omega), List.getElem?_eq_none (by rw [wld_len]; omega)]
theorem s2_ne {σ : St} {k j a : Nat} {v : Int32} (h : a ≠ k) : s2 σ k j v a = σ a := by simp [s2, h]
theorem s2_eq {σ : St} {k j : Nat} {v : Int32} : s2 σ k j v k = upd (σ k) j v := by simp [s2]
theorem ent_ne {ad : Nat → Nat} {cI : ClassId} {σ : St} {k j a : Nat} {v : Int32} (h : a ≠ k) : ent ad cI (s2 σ k j v) a = ent ad cI σ a := by
  have e : ∀ x, s2 σ k j v a x = σ a x := fun x => by rw [s2_ne h]
  unfold ent
  split
  · next ci fl hq =>
    congr 2
    apply List.map_congr_left
    intro x hx
    cases fl.getD x none <;> simp [fv, e]
  · rw [s2_ne h]
theorem ent_obj {ad : Nat → Nat} {cI : ClassId} {σ : St} {k ci : Nat} {fl : List (Option Nat)} (hs : shp k = .inl (ci, fl)) : ent ad cI σ k = .inr (ci, (List.range fl.length).map (fun j => fv ad σ k j (fl.getD j none))) := by
  unfold ent; rw [hs]
theorem ent_arr {ad : Nat → Nat} {cI : ClassId} {σ : St} {k n : Nat} (hs : shp k = .inr n) : ent ad cI σ k = .inl (cI, n, .inl (σ k)) := by
  unfold ent; rw [hs]
theorem fs_at {ad : Nat → Nat} {σ : St} {k j : Nat} {fl : List (Option Nat)} {o : Option Nat} (h : fl[j]? = some o) : ((List.range fl.length).map (fun j => fv ad σ k j (fl.getD j none)))[j]? = some (fv ad σ k j o) := by
  obtain ⟨hj, hg⟩ := List.getElem?_eq_some_iff.mp h
  simp [hj, hg]
theorem fs_set {ad : Nat → Nat} {σ : St} {k j : Nat} {v : Int32} {fl : List (Option Nat)} (h : fl[j]? = some none) : ((List.range fl.length).map (fun j => fv ad σ k j (fl.getD j none))).set j (.int v) = (List.range fl.length).map (fun i => fv ad (s2 σ k j v) k i (fl.getD i none)) := by
  obtain ⟨hj, hg⟩ := List.getElem?_eq_some_iff.mp h
  apply List.ext_getElem?
  intro i
  rw [List.getElem?_set]
  by_cases hij : j = i
  · subst hij
    simp [hj, hg, fv, s2, upd]
  · rw [if_neg hij]
    by_cases hi : i < fl.length
    · simp only [List.getElem?_map, List.getElem?_range hi, Option.map_some]
      cases fl.getD i none with
      | none => simp [fv, s2, upd, Ne.symm hij]
      | some r => rfl
    · simp [hi]
/-! the words of the tables: those that every method is given, and those between nest mates -/
def BIG : List Cond := lw_tbl.filter goodWord
def isNst (w : Cond) : Bool := match w with
  | .fieldLinkNest .. => true
  | .methodLinkNest .. => true
  | _ => false
def NST : List Cond := tables_1.filter isNst
theorem big_of {w : Cond} (h : w ∈ lw_tbl) (g : goodWord w = true) : w ∈ BIG := List.mem_filter.mpr ⟨h, g⟩
theorem big_sub {w : Cond} (h : w ∈ BIG) : w ∈ lw_tbl := (List.mem_filter.mp h).1
theorem nst_of {w : Cond} (h : w ∈ tables_1) (g : isNst w = true) : w ∈ NST := List.mem_filter.mpr ⟨h, g⟩
def nst (U : State) : Prop := ∀ w ∈ NST, va_Nw w U
theorem nst_warm {s U : State} (hW : s.WarmedH U.vm) (h : nst s) : nst U := by
  intro w hw
  have hz := h w hw
  have g := (List.mem_filter.mp hw).2
  cases w <;> first | exact hz.warmF hW | exact hz.warmM hW | simp [isNst] at g
theorem nst_same {u U : State} (e : u.vm = U.vm) (h : nst u) : nst U := by
  intro w hw
  have hz := h w hw
  have g := (List.mem_filter.mp hw).2
  cases w <;> first | exact hz.same rfl e | simp [isNst] at g
theorem good_big : GoodIn BIG BIG := fun w hw => ⟨hw, good_of_word (List.mem_filter.mp hw).2⟩
theorem good_code {y : MethodName} {bytes : ByteArray} {n : Nat} {ret : Option FieldType} (h : Cond.code y bytes n ret ∈ BIG) : GoodIn BIG (Cond.code y bytes n ret :: BIG) := fun w hw => by
  rcases List.mem_cons.mp hw with rfl | hw
  · exact good_big _ h
  · exact good_big _ hw
/-! a method's room by its level: a call goes to a lower one -/
def rmL (k : Nat) : Room := { frames := k, cells := 0, slots := 0, locals := 60 * k }
def Aad (ad : Nat → Nat) : Nat → Prop := fun q => ∃ k, k < NC ∧ q = ad k
def inj (ad : Nat → Nat) : Prop := ∀ i j, i < NC → j < NC → ad i = ad j → i = j
theorem wld_D {ad : Nat → Nat} {cI : ClassId} {σ : St} (h : inj ad) : va_D (Aad ad) (wld ad cI σ) := by
  refine ⟨fun i j p q hi hj e => ?_, fun k q hk => ?_⟩
  · obtain ⟨h1, rfl⟩ := wld_inv hi
    obtain ⟨h2, rfl⟩ := wld_inv hj
    exact h i j h1 h2 e
  · obtain ⟨h1, rfl⟩ := wld_inv hk
    exact ⟨k, h1, rfl⟩
/-! the literals: their places from 100 on, their bytes' from 200 on; the statics that a text's own methods read -/
def litT : List String := ["k0000;", "00;", "000;", "0;", "", "psvcwt"]
def litI : List Nat := [51, 53, 55, 57, 59, 95]
def litN : List Nat := [6, 3, 4, 2, 0, 6]
def litB : List (List Int32) := [[107, 48, 48, 48, 48, 59], [48, 48, 59], [48, 48, 48, 59], [48, 59], [], [112, 115, 118, 99, 119, 116]]
abbrev fmC : String := "jdk/internal/util/Preconditions"
abbrev fmN : String := "SIOOBE_FORMATTER"
abbrev fmD : String := "Ljava/util/function/BiFunction;"
abbrev RStr : String := "java/lang/String"
def LitH (ad : Nat → Nat) (U : State) (H : Heap) : Prop := vk_S 6 litN litB (fun i => ad (100 + i)) (fun i => ad (200 + i)) (Aad ad) U H ∧ va_Z RStr "COMPACT_STRINGS" "Z" (.int 1) (Aad ad) U H ∧ (va_Z fmC fmN fmD .null (Aad ad) U H ∨ va_Z fmC fmN fmD (.ref (ad 300)) (Aad ad) U H)
def LitR (ad : Nat → Nat) (U : State) : Prop := ∀ i, i < 6 → vk_R RX4 (litI.getD i 0) (litT.getD i "") (ad (100 + i)) U
def nsl (ad : Nat → Nat) (U : State) : Prop := nst U ∧ LitH ad U U.heap ∧ LitR ad U
theorem LitH.kept {ad : Nat → Nat} {U : State} {H H1 : Heap} (h : LitH ad U H) (hq : ∀ a : Nat, a < H.size → ¬ Aad ad a → H1[a]? = H[a]?) : LitH ad U H1 :=
  ⟨h.1.kept hq, h.2.1.kept hq, h.2.2.elim (fun z => Or.inl (z.kept hq)) (fun z => Or.inr (z.kept hq))⟩
theorem LitH.moved {ad : Nat → Nat} {u U : State} {H : Heap} (hvm : u.vm.Alike U.vm) (h : LitH ad u H) : LitH ad U H :=
  ⟨vk_S.moved hvm h.1, va_Z.moved hvm h.2.1, h.2.2.elim (fun z => Or.inl (va_Z.moved hvm z)) (fun z => Or.inr (va_Z.moved hvm z))⟩
theorem nsl_warm {ad : Nat → Nat} {s U : State} {H : Heap} {locs : List Loc} (hW : s.WarmedH U.vm) (hU : U.heap = H) (hS : va_S (Aad ad) s.heap H locs) (h : nsl ad s) : nsl ad U :=
  ⟨nst_warm hW h.1, by rw [hU]; exact (h.2.1.kept hS.2.1).moved hW.alike, fun i hi => (h.2.2 i hi).warm hW⟩
theorem nsl_same {ad : Nat → Nat} {u U : State} (e : u.vm = U.vm) (eh : U.heap = u.heap) (h : nsl ad u) : nsl ad U :=
  ⟨nst_same e h.1, by rw [eh]; exact h.2.1.moved (e ▸ Vm.Alike.refl u.vm), fun i hi => (h.2.2 i hi).same e.symm⟩
def Bw (D : va_G) (cI : ClassId) (ad : Nat → Nat) (σ : St) (U : State) : Prop := va_P D clss (wld ad cI σ) U.heap ∧ va_K D clss [(cI, .int)] U ∧ nsl ad U ∧ inj ad
def Qw (D : va_G) (cI : ClassId) (ad : Nat → Nat) (P : Option Value → St → Prop) : Array Value → State → Outcome → State → Prop := fun _ st oc t =>
  (∃ (r : Option Value) (σ' : St), oc = .returned (r.map (cv ad)) ∧ P r σ' ∧ va_P D clss (wld ad cI σ') t.heap) ∧ va_F (Aad ad) st t
/-- a contract: the method comes back, and then P holds of its answer and the state -/
def Ct (y : MethodName) (bytes : ByteArray) (nL : Nat) (ret : Option FieldType) (lev : Nat) (as : List Value) (σ : St) (P : Option Value → St → Prop) : Prop :=
  ∀ (l : Launch) (D : va_G) (cI : ClassId) (ad : Nat → Nat), Met l y (Cond.code y bytes nL ret :: BIG) (rmL lev) (va_Pc (as.map (cv ad)) (Bw D cI ad σ)) (Qw D cI ad P) 0 0 (Aad ad)
abbrev CxT : Type := Program × Launch × Env × State × MethodId × Array Value × List Frame × Method × Code × va_G × ClassId × (Nat → Nat) × Nat × Nat × (Option Value → St → Prop)
/-- where the machine stands: within a body, at pc, with these locals, this stack, this state -/
def V (X : CxT) (pc : Nat) (lv : List (Nat × Value)) (st : List Value) (σ : St) : Prop := match X with
  | (p, l, e, s, m, args, below, meth, c, D, cI, ad, nL, lev, P) => ∀ (H : Heap) (locs : List Loc) (ls : Array Slot), va_P D clss (wld ad cI σ) H → va_S (Aad ad) s.heap H locs → lv_has ls nL (lv.map (fun q => (q.1, cv ad q.2))) →
      W p l e (rmL lev) s m args below meth c H locs 0 0 (MQ below (Qw D cI ad P) args s 0 0 (Aad ad)) (F0 m pc ls (st.map (cv ad)))
def Pof (X : CxT) : Option Value → St → Prop := match X with
  | (_, _, _, _, _, _, _, _, _, _, _, _, _, _, P) => P
def Cx (X : CxT) (own : String) (cc : ByteArray) (n : Nat) (ret : Option FieldType) (L : Nat) : Prop := match X with
  | (p, l, e, s, m, args, below, meth, c, D, cI, ad, nL, lev, P) => p.tables.exec = Jvm.exec ∧ c.code = cc ∧ c.maxLocals = nL ∧ nL = n ∧ lev = L ∧ meth.sig.returnType = ret ∧ meth.locks = false ∧ s.vm.findClass own = some m.cls ∧ (∀ w ∈ BIG, w.before args s = true) ∧ nsl ad s ∧ va_K D clss [(cI, .int)] s ∧ inj ad
theorem lv_args_cv (ad : Nat → Nat) (as : List Value) : ∀ i, lv_args i (as.map (cv ad)) = (lv_args i as).map (fun q => (q.1, cv ad q.2)) := by
  induction as with
  | nil => intro i; rfl
  | cons a l ih =>
    intro i
    simp only [List.map_cons, lv_args, cv_cat, ih]
/-- a contract by a walk of the body -/
theorem ct_of {y : MethodName} {bytes : ByteArray} {nL : Nat} {ret : Option FieldType} {lev : Nat} {as : List Value} {σ : St} {P : Option Value → St → Prop} (hy : plainName y.cls = true) (hcat : as.all (fun v => v.category == 1) = true) (hn : as.length ≤ nL)
    (body : ∀ X : CxT, Pof X = P → Cx X y.cls bytes nL ret lev → V X 0 (lv_args 0 as) [] σ) : Ct y bytes nL ret lev as σ P := by
  intro l D cI ad
  refine Met.ofW (cc := bytes) (maxL := nL) (ret := ret) hy rfl ?_
  intro p e s m args below meth c s₁ B hml hv
  obtain ⟨rfl, hP, hK, hN, hI⟩ := hv
  have hts := atoms_spec (ws := Cond.code y bytes nL ret :: BIG) B.pre
  have K := body (p, l, e, s, m, (as.map (cv ad)).toArray, below, meth, c, D, cI, ad, nL, lev, P) rfl ⟨B.exec, B.bytes, hml, rfl, rfl, B.returns, B.notSynchronized, findClass_of_methodNamed B.named, fun w hw => hts w (List.mem_cons_of_mem _ hw), hN, hK, hI⟩
  have hlen : (lg_sl (as.map (cv ad))).length ≤ nL := by
    have h1 : ∀ l : List Value, l.all (fun v => v.category == 1) = true → (lg_sl (l.map (cv ad))).length = l.length := by
      intro l
      induction l with
      | nil => intro _; rfl
      | cons a t ih =>
        intro h
        simp only [List.all_cons, Bool.and_eq_true, beq_iff_eq] at h
        have e : lg_sl (cv ad a :: t.map (cv ad)) = [Slot.val (cv ad a)] ++ lg_sl (t.map (cv ad)) := by simp [lg_sl, cv_cat, h.1]
        rw [List.map_cons, e, List.length_append, ih h.2]
        simp; omega
    rw [h1 as hcat]; exact hn
  have hl := lv_entry (as.map (cv ad)) (n := nL) hlen
  rw [lv_args_cv] at hl
  rw [lg_entry_eq]
  exact K s.heap [] _ hP va_S.rf hl
end
section
/-! the rows of the walk: an instruction each -/
theorem lk_mem {α : Type} {k : Nat} {v : α} : ∀ {l : List (Nat × α)}, l.lookup k = some v → (k, v) ∈ l := by
  intro l
  induction l with
  | nil => intro h; cases h
  | cons a t ih =>
    intro h
    obtain ⟨x, y⟩ := a
    rw [List.lookup_cons] at h
    by_cases e : (k == x) = true
    · simp only [e] at h
      have e2 : k = x := by simpa using e
      subst e2
      cases h
      exact List.mem_cons_self
    · simp only [Bool.not_eq_true] at e
      simp only [e] at h
      exact List.mem_cons_of_mem _ (ih h)
theorem lat {ad : Nat → Nat} {ls : Array Slot} {nL k : Nat} {lv : List (Nat × Value)} {v : Value} (h : lv_has ls nL (lv.map (fun q => (q.1, cv ad q.2)))) (hl : lv.lookup k = some v) : ls[k]? = some (.val (cv ad v)) :=
  h.2.2 (k, cv ad v) (List.mem_map.mpr ⟨(k, v), lk_mem hl, rfl⟩)
def lset (lv : List (Nat × Value)) (i : Nat) (v : Value) : List (Nat × Value) := (i, v) :: lv.filter (fun q => !(q.1 == i) && !(q.1 + 1 == i && q.2.category == 2))
theorem lset_cv (ad : Nat → Nat) (lv : List (Nat × Value)) (i : Nat) (v : Value) : (i, cv ad v) :: (lv.map (fun q => (q.1, cv ad q.2))).filter (fun q => !(q.1 == i) && !(q.1 + 1 == i && q.2.category == 2)) = (lset lv i v).map (fun q => (q.1, cv ad q.2)) := by
  have h : ∀ l : List (Nat × Value), (l.map (fun q => (q.1, cv ad q.2))).filter (fun q => !(q.1 == i) && !(q.1 + 1 == i && q.2.category == 2)) = (l.filter (fun q => !(q.1 == i) && !(q.1 + 1 == i && q.2.category == 2))).map (fun q => (q.1, cv ad q.2)) := by
    intro l
    rw [List.filter_map]
    congr 1
    apply List.filter_congr
    intro q _
    simp [cv_cat]
  simp only [lset, List.map_cons, h]
section RULES
variable {X : CxT} {own rn : String} {cc : ByteArray} {n L : Nat} {ret : Option FieldType} {pc pc' : Nat} {lv lv' : List (Nat × Value)} {st : List Value} {σ : St}
theorem V.sub (ks : List Nat) (hl : lv_pick lv ks = lv') (kk : V X pc lv' st σ) : V X pc lv st σ := by
  obtain ⟨p, l, e, s, m, args, below, meth, c, D, cI, ad, nL, lev, P⟩ := X
  intro H locs ls hP hS hL
  refine kk H locs ls hP hS (lv_sub hL ks ?_)
  subst hl
  simp only [lv_pick, List.map_filterMap, List.getElem?_map]
theorem v_iload_n (C : Cx X own cc n ret L) {k : Fin 4} {i : Nat} {x : Int32} (hd : decode cc pc = .ok (.iload_n k, 1)) (hi : (k : Nat) = i) (hl : lv.lookup i = some (.int x)) (hn : pc + 1 = pc') (kk : V X pc' lv (.int x :: st) σ) : V X pc lv st σ := by
  obtain ⟨p, l, e, s, m, args, below, meth, c, D, cI, ad, nL, lev, P⟩ := X
  subst hn
  intro H locs ls hP hS hL
  exact lv_iload_n C.1 C.2.1 hd hi (lat hL hl) (kk H locs ls hP hS hL)
theorem v_iload (C : Cx X own cc n ret L) {i : Nat} {x : Int32} (hd : decode cc pc = .ok (.iload i, 2)) (hl : lv.lookup i = some (.int x)) (hn : pc + 2 = pc') (kk : V X pc' lv (.int x :: st) σ) : V X pc lv st σ := by
  obtain ⟨p, l, e, s, m, args, below, meth, c, D, cI, ad, nL, lev, P⟩ := X
  subst hn
  intro H locs ls hP hS hL
  exact lv_iload C.1 C.2.1 hd (lat hL hl) (kk H locs ls hP hS hL)
theorem v_aload_n (C : Cx X own cc n ret L) {k : Fin 4} {i x : Nat} (hd : decode cc pc = .ok (.aload_n k, 1)) (hi : (k : Nat) = i) (hl : lv.lookup i = some (.ref x)) (hn : pc + 1 = pc') (kk : V X pc' lv (.ref x :: st) σ) : V X pc lv st σ := by
  obtain ⟨p, l, e, s, m, args, below, meth, c, D, cI, ad, nL, lev, P⟩ := X
  subst hn
  intro H locs ls hP hS hL
  exact lv_aload_n C.1 C.2.1 hd hi (lat hL hl) (kk H locs ls hP hS hL)
theorem v_aload (C : Cx X own cc n ret L) {i x : Nat} (hd : decode cc pc = .ok (.aload i, 2)) (hl : lv.lookup i = some (.ref x)) (hn : pc + 2 = pc') (kk : V X pc' lv (.ref x :: st) σ) : V X pc lv st σ := by
  obtain ⟨p, l, e, s, m, args, below, meth, c, D, cI, ad, nL, lev, P⟩ := X
  subst hn
  intro H locs ls hP hS hL
  exact lv_aload C.1 C.2.1 hd (lat hL hl) (kk H locs ls hP hS hL)
theorem v_istore_n (C : Cx X own cc n ret L) {k : Fin 4} {i : Nat} {x : Int32} (hd : decode cc pc = .ok (.istore_n k, 1)) (hi : (k : Nat) = i) (hin : i < n) (hl : lset lv i (.int x) = lv') (hn : pc + 1 = pc') (kk : V X pc' lv' st σ) : V X pc lv (.int x :: st) σ := by
  obtain ⟨p, l, e, s, m, args, below, meth, c, D, cI, ad, nL, lev, P⟩ := X
  subst hn; subst hl
  intro H locs ls hP hS hL
  exact lv_istore_n C.1 C.2.1 hd hi hL (by rw [C.2.2.2.1]; exact hin) (lset_cv ad lv i (.int x)) (fun ls hL => kk H locs ls hP hS hL)
theorem v_istore (C : Cx X own cc n ret L) {i : Nat} {x : Int32} (hd : decode cc pc = .ok (.istore i, 2)) (hin : i < n) (hl : lset lv i (.int x) = lv') (hn : pc + 2 = pc') (kk : V X pc' lv' st σ) : V X pc lv (.int x :: st) σ := by
  obtain ⟨p, l, e, s, m, args, below, meth, c, D, cI, ad, nL, lev, P⟩ := X
  subst hn; subst hl
  intro H locs ls hP hS hL
  exact lv_istore C.1 C.2.1 hd hL (by rw [C.2.2.2.1]; exact hin) (lset_cv ad lv i (.int x)) (fun ls hL => kk H locs ls hP hS hL)
theorem v_astore_n (C : Cx X own cc n ret L) {k : Fin 4} {i : Nat} {x : Nat} (hd : decode cc pc = .ok (.astore_n k, 1)) (hi : (k : Nat) = i) (hin : i < n) (hl : lset lv i (.ref x) = lv') (hn : pc + 1 = pc') (kk : V X pc' lv' st σ) : V X pc lv (.ref x :: st) σ := by
  obtain ⟨p, l, e, s, m, args, below, meth, c, D, cI, ad, nL, lev, P⟩ := X
  subst hn; subst hl
  intro H locs ls hP hS hL
  exact lv_astore_n C.1 C.2.1 hd hi hL (by rw [C.2.2.2.1]; exact hin) (lset_cv ad lv i (.ref x)) (fun ls hL => kk H locs ls hP hS hL)
theorem v_astore (C : Cx X own cc n ret L) {i : Nat} {x : Nat} (hd : decode cc pc = .ok (.astore i, 2)) (hin : i < n) (hl : lset lv i (.ref x) = lv') (hn : pc + 2 = pc') (kk : V X pc' lv' st σ) : V X pc lv (.ref x :: st) σ := by
  obtain ⟨p, l, e, s, m, args, below, meth, c, D, cI, ad, nL, lev, P⟩ := X
  subst hn; subst hl
  intro H locs ls hP hS hL
  exact lv_astore C.1 C.2.1 hd hL (by rw [C.2.2.2.1]; exact hin) (lset_cv ad lv i (.ref x)) (fun ls hL => kk H locs ls hP hS hL)
theorem v_iinc (C : Cx X own cc n ret L) {i : Nat} {d : Int} {x v : Int32} (hd : decode cc pc = .ok (.iinc i d, 3)) (hl : lv.lookup i = some (.int x)) (hv : x + Int32.ofInt d = v) (hin : i < n) (hs : lset lv i (.int v) = lv') (hn : pc + 3 = pc') (kk : V X pc' lv' st σ) : V X pc lv st σ := by
  obtain ⟨p, l, e, s, m, args, below, meth, c, D, cI, ad, nL, lev, P⟩ := X
  subst hn; subst hs
  intro H locs ls hP hS hL
  obtain ⟨j, hj⟩ := List.getElem?_of_mem (List.mem_map.mpr ⟨(i, Value.int x), lk_mem hl, rfl⟩ : (i, cv ad (Value.int x)) ∈ lv.map (fun q => (q.1, cv ad q.2)))
  exact lv_iinc C.1 C.2.1 hd hL hj hv (by rw [C.2.2.2.1]; exact hin) (lset_cv ad lv i (.int v)) (fun ls hL => kk H locs ls hP hS hL)
theorem v_iconst (C : Cx X own cc n ret L) {d : Int} {v : Int32} (hd : decode cc pc = .ok (.iconst d, 1)) (hv : Int32.ofInt d = v) (hn : pc + 1 = pc') (kk : V X pc' lv (.int v :: st) σ) : V X pc lv (st) σ := by
  obtain ⟨p, l, e, s, m, args, below, meth, c, D, cI, ad, nL, lev, P⟩ := X
  subst hn
  intro H locs ls hP hS hL
  exact lv_iconst C.1 C.2.1 hd hv (kk H locs ls hP hS hL)
theorem v_bipush (C : Cx X own cc n ret L) {d : Int} {v : Int32} (hd : decode cc pc = .ok (.bipush d, 2)) (hv : (Int8.ofInt d).toInt32 = v) (hn : pc + 2 = pc') (kk : V X pc' lv (.int v :: st) σ) : V X pc lv (st) σ := by
  obtain ⟨p, l, e, s, m, args, below, meth, c, D, cI, ad, nL, lev, P⟩ := X
  subst hn
  intro H locs ls hP hS hL
  exact lv_bipush C.1 C.2.1 hd hv (kk H locs ls hP hS hL)
theorem v_sipush (C : Cx X own cc n ret L) {d : Int} {v : Int32} (hd : decode cc pc = .ok (.sipush d, 3)) (hv : (Int16.ofInt d).toInt32 = v) (hn : pc + 3 = pc') (kk : V X pc' lv (.int v :: st) σ) : V X pc lv (st) σ := by
  obtain ⟨p, l, e, s, m, args, below, meth, c, D, cI, ad, nL, lev, P⟩ := X
  subst hn
  intro H locs ls hP hS hL
  exact lv_sipush C.1 C.2.1 hd hv (kk H locs ls hP hS hL)
theorem v_iadd (C : Cx X own cc n ret L) {x y : Int32} (hd : decode cc pc = .ok (.iadd, 1)) (hn : pc + 1 = pc') (kk : V X pc' lv (.int (x + y) :: st) σ) : V X pc lv (.int y :: .int x :: st) σ := by
  obtain ⟨p, l, e, s, m, args, below, meth, c, D, cI, ad, nL, lev, P⟩ := X
  subst hn
  intro H locs ls hP hS hL
  exact lv_iadd C.1 C.2.1 hd (kk H locs ls hP hS hL)
theorem v_isub (C : Cx X own cc n ret L) {x y : Int32} (hd : decode cc pc = .ok (.isub, 1)) (hn : pc + 1 = pc') (kk : V X pc' lv (.int (x - y) :: st) σ) : V X pc lv (.int y :: .int x :: st) σ := by
  obtain ⟨p, l, e, s, m, args, below, meth, c, D, cI, ad, nL, lev, P⟩ := X
  subst hn
  intro H locs ls hP hS hL
  exact lv_isub C.1 C.2.1 hd (kk H locs ls hP hS hL)
theorem v_imul (C : Cx X own cc n ret L) {x y : Int32} (hd : decode cc pc = .ok (.imul, 1)) (hn : pc + 1 = pc') (kk : V X pc' lv (.int (x * y) :: st) σ) : V X pc lv (.int y :: .int x :: st) σ := by
  obtain ⟨p, l, e, s, m, args, below, meth, c, D, cI, ad, nL, lev, P⟩ := X
  subst hn
  intro H locs ls hP hS hL
  exact lv_imul C.1 C.2.1 hd (kk H locs ls hP hS hL)
theorem v_iand (C : Cx X own cc n ret L) {x y : Int32} (hd : decode cc pc = .ok (.iand, 1)) (hn : pc + 1 = pc') (kk : V X pc' lv (.int (x &&& y) :: st) σ) : V X pc lv (.int y :: .int x :: st) σ := by
  obtain ⟨p, l, e, s, m, args, below, meth, c, D, cI, ad, nL, lev, P⟩ := X
  subst hn
  intro H locs ls hP hS hL
  exact lv_iand C.1 C.2.1 hd (kk H locs ls hP hS hL)
theorem v_ior (C : Cx X own cc n ret L) {x y : Int32} (hd : decode cc pc = .ok (.ior, 1)) (hn : pc + 1 = pc') (kk : V X pc' lv (.int (x ||| y) :: st) σ) : V X pc lv (.int y :: .int x :: st) σ := by
  obtain ⟨p, l, e, s, m, args, below, meth, c, D, cI, ad, nL, lev, P⟩ := X
  subst hn
  intro H locs ls hP hS hL
  exact lv_ior C.1 C.2.1 hd (kk H locs ls hP hS hL)
theorem v_ishl (C : Cx X own cc n ret L) {x y : Int32} (hd : decode cc pc = .ok (.ishl, 1)) (hn : pc + 1 = pc') (kk : V X pc' lv (.int (x <<< (y &&& 31)) :: st) σ) : V X pc lv (.int y :: .int x :: st) σ := by
  obtain ⟨p, l, e, s, m, args, below, meth, c, D, cI, ad, nL, lev, P⟩ := X
  subst hn
  intro H locs ls hP hS hL
  exact lv_ishl C.1 C.2.1 hd (kk H locs ls hP hS hL)
theorem v_ishr (C : Cx X own cc n ret L) {x y : Int32} (hd : decode cc pc = .ok (.ishr, 1)) (hn : pc + 1 = pc') (kk : V X pc' lv (.int (x >>> (y &&& 31)) :: st) σ) : V X pc lv (.int y :: .int x :: st) σ := by
  obtain ⟨p, l, e, s, m, args, below, meth, c, D, cI, ad, nL, lev, P⟩ := X
  subst hn
  intro H locs ls hP hS hL
  exact lv_ishr C.1 C.2.1 hd (kk H locs ls hP hS hL)
theorem v_idiv (C : Cx X own cc n ret L) {x y : Int32} (hd : decode cc pc = .ok (.idiv, 1)) (hne : ¬ y = 0) (hn : pc + 1 = pc') (kk : V X pc' lv (.int (x / y) :: st) σ) : V X pc lv (.int y :: .int x :: st) σ := by
  obtain ⟨p, l, e, s, m, args, below, meth, c, D, cI, ad, nL, lev, P⟩ := X
  subst hn
  intro H locs ls hP hS hL
  exact lv_idiv C.1 C.2.1 hd hne (kk H locs ls hP hS hL)
theorem v_irem (C : Cx X own cc n ret L) {x y : Int32} (hd : decode cc pc = .ok (.irem, 1)) (hne : ¬ y = 0) (hn : pc + 1 = pc') (kk : V X pc' lv (.int (x - x / y * y) :: st) σ) : V X pc lv (.int y :: .int x :: st) σ := by
  obtain ⟨p, l, e, s, m, args, below, meth, c, D, cI, ad, nL, lev, P⟩ := X
  subst hn
  intro H locs ls hP hS hL
  exact lv_irem C.1 C.2.1 hd hne (kk H locs ls hP hS hL)
theorem v_ineg (C : Cx X own cc n ret L) {x : Int32} (hd : decode cc pc = .ok (.ineg, 1)) (hn : pc + 1 = pc') (kk : V X pc' lv (.int (-x) :: st) σ) : V X pc lv (.int x :: st) σ := by
  obtain ⟨p, l, e, s, m, args, below, meth, c, D, cI, ad, nL, lev, P⟩ := X
  subst hn
  intro H locs ls hP hS hL
  exact lv_ineg C.1 C.2.1 hd (kk H locs ls hP hS hL)
theorem v_dup (C : Cx X own cc n ret L) {a : Value} (hd : decode cc pc = .ok (.dup, 1)) (ha : a.category = 1) (hn : pc + 1 = pc') (kk : V X pc' lv (a :: a :: st) σ) : V X pc lv (a :: st) σ := by
  obtain ⟨p, l, e, s, m, args, below, meth, c, D, cI, ad, nL, lev, P⟩ := X
  subst hn
  intro H locs ls hP hS hL
  exact lv_dup C.1 C.2.1 hd (by rw [cv_cat]; exact ha) (kk H locs ls hP hS hL)
theorem v_dup2 (C : Cx X own cc n ret L) {a b : Value} (hd : decode cc pc = .ok (.dup2, 1)) (ha : a.category = 1) (hb : b.category = 1) (hn : pc + 1 = pc') (kk : V X pc' lv (a :: b :: a :: b :: st) σ) : V X pc lv (a :: b :: st) σ := by
  obtain ⟨p, l, e, s, m, args, below, meth, c, D, cI, ad, nL, lev, P⟩ := X
  subst hn
  intro H locs ls hP hS hL
  exact lv_dup2_11 C.1 C.2.1 hd (by rw [cv_cat]; exact ha) (by rw [cv_cat]; exact hb) (kk H locs ls hP hS hL)
theorem v_pop (C : Cx X own cc n ret L) {a : Value} (hd : decode cc pc = .ok (.pop, 1)) (ha : a.category = 1) (hn : pc + 1 = pc') (kk : V X pc' lv st σ) : V X pc lv (a :: st) σ := by
  obtain ⟨p, l, e, s, m, args, below, meth, c, D, cI, ad, nL, lev, P⟩ := X
  subst hn
  intro H locs ls hP hS hL
  exact lv_pop C.1 C.2.1 hd (by rw [cv_cat]; exact ha) (kk H locs ls hP hS hL)
theorem v_goto (C : Cx X own cc n ret L) {off : Int} {tgt : Nat} (hd : decode cc pc = .ok (.goto off, 3)) (ht : (pc : Int) + off = (tgt : Int)) (kk : V X tgt lv st σ) : V X pc lv st σ := by
  obtain ⟨p, l, e, s, m, args, below, meth, c, D, cI, ad, nL, lev, P⟩ := X
  intro H locs ls hP hS hL
  exact lv_goto C.1 C.2.1 hd ht (kk H locs ls hP hS hL)
theorem v_if_eq (C : Cx X own cc n ret L) {x : Int32} {off : Int} {tgt : Nat} (hd : decode cc pc = .ok (.ifCond .eq off, 3)) (ht : (pc : Int) + off = (tgt : Int)) (hn : pc + 3 = pc') (kt : x = 0 → V X tgt lv st σ) (kf : ¬ x = 0 → V X pc' lv st σ) : V X pc lv (.int x :: st) σ := by
  obtain ⟨p, l, e, s, m, args, below, meth, c, D, cI, ad, nL, lev, P⟩ := X
  subst hn
  intro H locs ls hP hS hL
  exact lv_if_eq C.1 C.2.1 hd ht (fun q => kt q H locs ls hP hS hL) (fun q => kf q H locs ls hP hS hL)
theorem v_icmp_eq (C : Cx X own cc n ret L) {x y : Int32} {off : Int} {tgt : Nat} (hd : decode cc pc = .ok (.if_icmp .eq off, 3)) (ht : (pc : Int) + off = (tgt : Int)) (hn : pc + 3 = pc') (kt : x = y → V X tgt lv st σ) (kf : ¬ x = y → V X pc' lv st σ) : V X pc lv (.int y :: .int x :: st) σ := by
  obtain ⟨p, l, e, s, m, args, below, meth, c, D, cI, ad, nL, lev, P⟩ := X
  subst hn
  intro H locs ls hP hS hL
  exact lv_icmp_eq C.1 C.2.1 hd ht (fun q => kt q H locs ls hP hS hL) (fun q => kf q H locs ls hP hS hL)
theorem v_if_ne (C : Cx X own cc n ret L) {x : Int32} {off : Int} {tgt : Nat} (hd : decode cc pc = .ok (.ifCond .ne off, 3)) (ht : (pc : Int) + off = (tgt : Int)) (hn : pc + 3 = pc') (kt : ¬ x = 0 → V X tgt lv st σ) (kf : x = 0 → V X pc' lv st σ) : V X pc lv (.int x :: st) σ := by
  obtain ⟨p, l, e, s, m, args, below, meth, c, D, cI, ad, nL, lev, P⟩ := X
  subst hn
  intro H locs ls hP hS hL
  exact lv_if_ne C.1 C.2.1 hd ht (fun q => kt q H locs ls hP hS hL) (fun q => kf q H locs ls hP hS hL)
theorem v_icmp_ne (C : Cx X own cc n ret L) {x y : Int32} {off : Int} {tgt : Nat} (hd : decode cc pc = .ok (.if_icmp .ne off, 3)) (ht : (pc : Int) + off = (tgt : Int)) (hn : pc + 3 = pc') (kt : ¬ x = y → V X tgt lv st σ) (kf : x = y → V X pc' lv st σ) : V X pc lv (.int y :: .int x :: st) σ := by
  obtain ⟨p, l, e, s, m, args, below, meth, c, D, cI, ad, nL, lev, P⟩ := X
  subst hn
  intro H locs ls hP hS hL
  exact lv_icmp_ne C.1 C.2.1 hd ht (fun q => kt q H locs ls hP hS hL) (fun q => kf q H locs ls hP hS hL)
theorem v_if_lt (C : Cx X own cc n ret L) {x : Int32} {off : Int} {tgt : Nat} (hd : decode cc pc = .ok (.ifCond .lt off, 3)) (ht : (pc : Int) + off = (tgt : Int)) (hn : pc + 3 = pc') (kt : x < 0 → V X tgt lv st σ) (kf : ¬ x < 0 → V X pc' lv st σ) : V X pc lv (.int x :: st) σ := by
  obtain ⟨p, l, e, s, m, args, below, meth, c, D, cI, ad, nL, lev, P⟩ := X
  subst hn
  intro H locs ls hP hS hL
  exact lv_if_lt C.1 C.2.1 hd ht (fun q => kt q H locs ls hP hS hL) (fun q => kf q H locs ls hP hS hL)
theorem v_icmp_lt (C : Cx X own cc n ret L) {x y : Int32} {off : Int} {tgt : Nat} (hd : decode cc pc = .ok (.if_icmp .lt off, 3)) (ht : (pc : Int) + off = (tgt : Int)) (hn : pc + 3 = pc') (kt : x < y → V X tgt lv st σ) (kf : ¬ x < y → V X pc' lv st σ) : V X pc lv (.int y :: .int x :: st) σ := by
  obtain ⟨p, l, e, s, m, args, below, meth, c, D, cI, ad, nL, lev, P⟩ := X
  subst hn
  intro H locs ls hP hS hL
  exact lv_icmp_lt C.1 C.2.1 hd ht (fun q => kt q H locs ls hP hS hL) (fun q => kf q H locs ls hP hS hL)
theorem v_if_ge (C : Cx X own cc n ret L) {x : Int32} {off : Int} {tgt : Nat} (hd : decode cc pc = .ok (.ifCond .ge off, 3)) (ht : (pc : Int) + off = (tgt : Int)) (hn : pc + 3 = pc') (kt : ¬ x < 0 → V X tgt lv st σ) (kf : x < 0 → V X pc' lv st σ) : V X pc lv (.int x :: st) σ := by
  obtain ⟨p, l, e, s, m, args, below, meth, c, D, cI, ad, nL, lev, P⟩ := X
  subst hn
  intro H locs ls hP hS hL
  exact lv_if_ge C.1 C.2.1 hd ht (fun q => kt (Int32.not_lt.mpr q) H locs ls hP hS hL) (fun q => kf (Int32.not_le.mp q) H locs ls hP hS hL)
theorem v_icmp_ge (C : Cx X own cc n ret L) {x y : Int32} {off : Int} {tgt : Nat} (hd : decode cc pc = .ok (.if_icmp .ge off, 3)) (ht : (pc : Int) + off = (tgt : Int)) (hn : pc + 3 = pc') (kt : ¬ x < y → V X tgt lv st σ) (kf : x < y → V X pc' lv st σ) : V X pc lv (.int y :: .int x :: st) σ := by
  obtain ⟨p, l, e, s, m, args, below, meth, c, D, cI, ad, nL, lev, P⟩ := X
  subst hn
  intro H locs ls hP hS hL
  exact lv_icmp_ge C.1 C.2.1 hd ht (fun q => kt (Int32.not_lt.mpr q) H locs ls hP hS hL) (fun q => kf (Int32.not_le.mp q) H locs ls hP hS hL)
theorem v_if_gt (C : Cx X own cc n ret L) {x : Int32} {off : Int} {tgt : Nat} (hd : decode cc pc = .ok (.ifCond .gt off, 3)) (ht : (pc : Int) + off = (tgt : Int)) (hn : pc + 3 = pc') (kt : 0 < x → V X tgt lv st σ) (kf : ¬ 0 < x → V X pc' lv st σ) : V X pc lv (.int x :: st) σ := by
  obtain ⟨p, l, e, s, m, args, below, meth, c, D, cI, ad, nL, lev, P⟩ := X
  subst hn
  intro H locs ls hP hS hL
  exact lv_if_gt C.1 C.2.1 hd ht (fun q => kt q H locs ls hP hS hL) (fun q => kf q H locs ls hP hS hL)
theorem v_icmp_gt (C : Cx X own cc n ret L) {x y : Int32} {off : Int} {tgt : Nat} (hd : decode cc pc = .ok (.if_icmp .gt off, 3)) (ht : (pc : Int) + off = (tgt : Int)) (hn : pc + 3 = pc') (kt : y < x → V X tgt lv st σ) (kf : ¬ y < x → V X pc' lv st σ) : V X pc lv (.int y :: .int x :: st) σ := by
  obtain ⟨p, l, e, s, m, args, below, meth, c, D, cI, ad, nL, lev, P⟩ := X
  subst hn
  intro H locs ls hP hS hL
  exact lv_icmp_gt C.1 C.2.1 hd ht (fun q => kt q H locs ls hP hS hL) (fun q => kf q H locs ls hP hS hL)
theorem v_if_le (C : Cx X own cc n ret L) {x : Int32} {off : Int} {tgt : Nat} (hd : decode cc pc = .ok (.ifCond .le off, 3)) (ht : (pc : Int) + off = (tgt : Int)) (hn : pc + 3 = pc') (kt : ¬ 0 < x → V X tgt lv st σ) (kf : 0 < x → V X pc' lv st σ) : V X pc lv (.int x :: st) σ := by
  obtain ⟨p, l, e, s, m, args, below, meth, c, D, cI, ad, nL, lev, P⟩ := X
  subst hn
  intro H locs ls hP hS hL
  exact lv_if_le C.1 C.2.1 hd ht (fun q => kt (Int32.not_lt.mpr q) H locs ls hP hS hL) (fun q => kf (Int32.not_le.mp q) H locs ls hP hS hL)
theorem v_icmp_le (C : Cx X own cc n ret L) {x y : Int32} {off : Int} {tgt : Nat} (hd : decode cc pc = .ok (.if_icmp .le off, 3)) (ht : (pc : Int) + off = (tgt : Int)) (hn : pc + 3 = pc') (kt : ¬ y < x → V X tgt lv st σ) (kf : y < x → V X pc' lv st σ) : V X pc lv (.int y :: .int x :: st) σ := by
  obtain ⟨p, l, e, s, m, args, below, meth, c, D, cI, ad, nL, lev, P⟩ := X
  subst hn
  intro H locs ls hP hS hL
  exact lv_icmp_le C.1 C.2.1 hd ht (fun q => kt (Int32.not_lt.mpr q) H locs ls hP hS hL) (fun q => kf (Int32.not_le.mp q) H locs ls hP hS hL)
theorem v_tableIn (C : Cx X own cc n ret L) {dflt lo hi : Int} {offs : Array Int} {len : Nat} {x : Int32} {off : Int} {tgt : Nat} (hd : decode cc pc = .ok (.tableswitch dflt lo hi offs, len)) (h1 : ¬ x.toInt < lo) (h2 : ¬ hi < x.toInt) (ho : offs[(x.toInt - lo).toNat]? = some off) (ht : (pc : Int) + off = (tgt : Int)) (kk : V X tgt lv st σ) : V X pc lv (.int x :: st) σ := by
  obtain ⟨p, l, e, s, m, args, below, meth, c, D, cI, ad, nL, lev, P⟩ := X
  intro H locs ls hP hS hL
  exact lv_tableIn C.1 C.2.1 hd h1 h2 ho ht (kk H locs ls hP hS hL)
theorem v_tableOut (C : Cx X own cc n ret L) {dflt lo hi : Int} {offs : Array Int} {len : Nat} {x : Int32} {tgt : Nat} (hd : decode cc pc = .ok (.tableswitch dflt lo hi offs, len)) (h : x.toInt < lo ∨ hi < x.toInt) (ht : (pc : Int) + dflt = (tgt : Int)) (kk : V X tgt lv st σ) : V X pc lv (.int x :: st) σ := by
  obtain ⟨p, l, e, s, m, args, below, meth, c, D, cI, ad, nL, lev, P⟩ := X
  intro H locs ls hP hS hL
  exact lv_tableOut C.1 C.2.1 hd h ht (kk H locs ls hP hS hL)
theorem v_lookup (C : Cx X own cc n ret L) {dflt : Int} {ps : Array (Int × Int)} {len : Nat} {x : Int32} {off : Int} {tgt : Nat} (hd : decode cc pc = .ok (.lookupswitch dflt ps, len)) (hp : (ps.toList.zip (ps.toList.drop 1)).all (fun (a, next) => a.1 < next.1) = true) (ho : Op.lookupswitch.offset ps.toList dflt x.toInt = off) (ht : (pc : Int) + off = (tgt : Int)) (kk : V X tgt lv st σ) : V X pc lv (.int x :: st) σ := by
  obtain ⟨p, l, e, s, m, args, below, meth, c, D, cI, ad, nL, lev, P⟩ := X
  intro H locs ls hP hS hL
  exact lv_lookup C.1 C.2.1 hd hp ho ht (kk H locs ls hP hS hL)
theorem v_ldc (C : Cx X own cc n ret L) {idx : Nat} {v : Int32} (hw : Cond.constant own idx v ∈ BIG) (hd : decode cc pc = .ok (.ldc idx, 2)) (hn : pc + 2 = pc') (kk : V X pc' lv (.int v :: st) σ) : V X pc lv st σ := by
  obtain ⟨p, l, e, s, m, args, below, meth, c, D, cI, ad, nL, lev, P⟩ := X
  subst hn
  intro H locs ls hP hS hL
  exact lv_ldc C.1 C.2.1 C.2.2.2.2.2.2.2.1 (C.2.2.2.2.2.2.2.2.1 _ hw) hd (kk H locs ls hP hS hL)
theorem v_ldcw (C : Cx X own cc n ret L) {idx : Nat} {v : Int32} (hw : Cond.constant own idx v ∈ BIG) (hd : decode cc pc = .ok (.ldc_w idx, 3)) (hn : pc + 3 = pc') (kk : V X pc' lv (.int v :: st) σ) : V X pc lv st σ := by
  obtain ⟨p, l, e, s, m, args, below, meth, c, D, cI, ad, nL, lev, P⟩ := X
  subst hn
  intro H locs ls hP hS hL
  exact lv_ldcw C.1 C.2.1 C.2.2.2.2.2.2.2.1 (C.2.2.2.2.2.2.2.2.1 _ hw) hd (kk H locs ls hP hS hL)
theorem shp_lt {k n : Nat} (hk : k < NC) (h : shp k = .inr n) : k < NC := hk
/-- the fields of an object, and its rows -/
theorem v_getI (C : Cx X own cc n ret L) {k ci : Nat} {fl : List (Option Nat)} {Cn : String} {T : u_T} {N idx : Nat} (hk : k < NC) (hs : shp k = .inl (ci, fl)) (hc : clss[ci]? = some (Cn, T, N)) (hin : ∀ w ∈ u_ws Cn T N, w ∈ BIG) (j : Nat) (hj : j < N) (hlink : Cond.fieldLink own idx (T j).1 (T j).2.1 (T j).2.2.1 ∈ BIG) (hf : fl[j]? = some none) (hd : decode cc pc = .ok (.getfield idx, 3)) (hn : pc + 3 = pc') (kk : V X pc' lv (.int (σ k j) :: st) σ) : V X pc lv (.ref k :: st) σ := by
  obtain ⟨p, l, e, s, m, args, below, meth, c, D, cI, ad, nL, lev, P⟩ := X
  subst hn
  intro H locs ls hP hS hL
  exact va_get (ws := wld ad cI σ) C.1 C.2.1 C.2.2.2.2.2.2.2.2.1 hin C.2.2.2.2.2.2.2.1 C.2.2.2.2.2.2.2.2.2.2.1 hP _ ((wld_at hk).trans (by rw [ent_obj hs])) hc j hj (C.2.2.2.2.2.2.2.2.1 _ hlink) (fun _ h => h) (fs_at hf) hd (kk H locs ls hP hS hL)
theorem v_getR (C : Cx X own cc n ret L) {k ci r : Nat} {fl : List (Option Nat)} {Cn : String} {T : u_T} {N idx : Nat} (hk : k < NC) (hs : shp k = .inl (ci, fl)) (hc : clss[ci]? = some (Cn, T, N)) (hin : ∀ w ∈ u_ws Cn T N, w ∈ BIG) (j : Nat) (hj : j < N) (hlink : Cond.fieldLink own idx (T j).1 (T j).2.1 (T j).2.2.1 ∈ BIG) (hf : fl[j]? = some (some r)) (hd : decode cc pc = .ok (.getfield idx, 3)) (hn : pc + 3 = pc') (kk : V X pc' lv (.ref r :: st) σ) : V X pc lv (.ref k :: st) σ := by
  obtain ⟨p, l, e, s, m, args, below, meth, c, D, cI, ad, nL, lev, P⟩ := X
  subst hn
  intro H locs ls hP hS hL
  exact va_get (ws := wld ad cI σ) C.1 C.2.1 C.2.2.2.2.2.2.2.2.1 hin C.2.2.2.2.2.2.2.1 C.2.2.2.2.2.2.2.2.2.2.1 hP _ ((wld_at hk).trans (by rw [ent_obj hs])) hc j hj (C.2.2.2.2.2.2.2.2.1 _ hlink) (fun _ h => h) (fs_at hf) hd (kk H locs ls hP hS hL)
theorem v_getNI (C : Cx X own cc n ret L) {k ci : Nat} {fl : List (Option Nat)} {Cn host : String} {T : u_T} {N idx : Nat} (hk : k < NC) (hs : shp k = .inl (ci, fl)) (hc : clss[ci]? = some (Cn, T, N)) (hin : ∀ w ∈ u_ws Cn T N, w ∈ BIG) (j : Nat) (hj : j < N) (hlink : Cond.fieldLinkNest own idx (T j).1 (T j).2.1 (T j).2.2.1 host ∈ NST) (hf : fl[j]? = some none) (hd : decode cc pc = .ok (.getfield idx, 3)) (hn : pc + 3 = pc') (kk : V X pc' lv (.int (σ k j) :: st) σ) : V X pc lv (.ref k :: st) σ := by
  obtain ⟨p, l, e, s, m, args, below, meth, c, D, cI, ad, nL, lev, P⟩ := X
  subst hn
  intro H locs ls hP hS hL
  exact va_getN (ws := wld ad cI σ) C.1 C.2.1 C.2.2.2.2.2.2.2.2.1 hin C.2.2.2.2.2.2.2.1 C.2.2.2.2.2.2.2.2.2.2.1 hP _ ((wld_at hk).trans (by rw [ent_obj hs])) hc j hj (va_Nw.use rfl (C.2.2.2.2.2.2.2.2.2.1.1 _ hlink)) (fun _ h => h) (fs_at hf) hd (kk H locs ls hP hS hL)
theorem v_getNR (C : Cx X own cc n ret L) {k ci r : Nat} {fl : List (Option Nat)} {Cn host : String} {T : u_T} {N idx : Nat} (hk : k < NC) (hs : shp k = .inl (ci, fl)) (hc : clss[ci]? = some (Cn, T, N)) (hin : ∀ w ∈ u_ws Cn T N, w ∈ BIG) (j : Nat) (hj : j < N) (hlink : Cond.fieldLinkNest own idx (T j).1 (T j).2.1 (T j).2.2.1 host ∈ NST) (hf : fl[j]? = some (some r)) (hd : decode cc pc = .ok (.getfield idx, 3)) (hn : pc + 3 = pc') (kk : V X pc' lv (.ref r :: st) σ) : V X pc lv (.ref k :: st) σ := by
  obtain ⟨p, l, e, s, m, args, below, meth, c, D, cI, ad, nL, lev, P⟩ := X
  subst hn
  intro H locs ls hP hS hL
  exact va_getN (ws := wld ad cI σ) C.1 C.2.1 C.2.2.2.2.2.2.2.2.1 hin C.2.2.2.2.2.2.2.1 C.2.2.2.2.2.2.2.2.2.2.1 hP _ ((wld_at hk).trans (by rw [ent_obj hs])) hc j hj (va_Nw.use rfl (C.2.2.2.2.2.2.2.2.2.1.1 _ hlink)) (fun _ h => h) (fs_at hf) hd (kk H locs ls hP hS hL)
theorem v_put (C : Cx X own cc n ret L) {k ci : Nat} {fl : List (Option Nat)} {Cn : String} {T : u_T} {N idx : Nat} {v : Int32} {ty0 : Nat → FieldType} {ty : FieldType} (hk : k < NC) (hs : shp k = .inl (ci, fl)) (hc : clss[ci]? = some (Cn, T, N)) (hin : ∀ w ∈ u_ws Cn T N, w ∈ BIG) (hty : ∀ k, k < N → parseFieldDescriptor (T k).2.2.1 = some (ty0 k)) (hnm : ∀ a, a < N → ∀ b, b < N → a ≠ b → (T a).2.1 ≠ (T b).2.1) (j : Nat) (hj : j < N) (hlink : Cond.fieldLink own idx (T j).1 (T j).2.1 (T j).2.2.1 ∈ BIG) (hfin : (T j).2.2.2 = false) (hdt : parseFieldDescriptor (T j).2.2.1 = some ty) (hnv : narrow ty (.int v) = .int v) (hfit : fits ty (.int v) = true) (hf : fl[j]? = some none) (hd : decode cc pc = .ok (.putfield idx, 3)) (hn : pc + 3 = pc') (kk : V X pc' lv st (s2 σ k j v)) : V X pc lv (.int v :: .ref k :: st) σ := by
  obtain ⟨p, l, e, s, m, args, below, meth, c, D, cI, ad, nL, lev, P⟩ := X
  subst hn
  intro H locs ls hP hS hL
  refine va_put (ws := wld ad cI σ) C.1 C.2.1 C.2.2.2.2.2.2.2.2.1 hin ty0 hty hnm C.2.2.2.2.2.2.2.1 C.2.2.2.2.2.2.2.2.2.2.1 hP (wld_D C.2.2.2.2.2.2.2.2.2.2.2) hS _ ((wld_at hk).trans (by rw [ent_obj hs])) hc j hj (C.2.2.2.2.2.2.2.2.1 _ hlink) (fun _ h => h) hfin hdt hnv hfit (by rw [List.length_map, List.length_range]; exact (List.getElem?_eq_some_iff.mp hf).1) hd (fun H1 locs1 hP1 hD1 hS1 => ?_)
  rw [wld_set (σ' := s2 σ _ j v) (by rw [ent_obj hs]; exact congrArg (fun z => Sum.inr (ci, z)) (fs_set hf).symm) (fun a ha => ent_ne ha)] at hP1
  exact kk H1 locs1 ls hP1 hS1 hL
theorem v_putN (C : Cx X own cc n ret L) {k ci : Nat} {fl : List (Option Nat)} {Cn host : String} {T : u_T} {N idx : Nat} {v : Int32} {ty0 : Nat → FieldType} {ty : FieldType} (hk : k < NC) (hs : shp k = .inl (ci, fl)) (hc : clss[ci]? = some (Cn, T, N)) (hin : ∀ w ∈ u_ws Cn T N, w ∈ BIG) (hty : ∀ k, k < N → parseFieldDescriptor (T k).2.2.1 = some (ty0 k)) (hnm : ∀ a, a < N → ∀ b, b < N → a ≠ b → (T a).2.1 ≠ (T b).2.1) (j : Nat) (hj : j < N) (hlink : Cond.fieldLinkNest own idx (T j).1 (T j).2.1 (T j).2.2.1 host ∈ NST) (hfin : (T j).2.2.2 = false) (hdt : parseFieldDescriptor (T j).2.2.1 = some ty) (hnv : narrow ty (.int v) = .int v) (hfit : fits ty (.int v) = true) (hf : fl[j]? = some none) (hd : decode cc pc = .ok (.putfield idx, 3)) (hn : pc + 3 = pc') (kk : V X pc' lv st (s2 σ k j v)) : V X pc lv (.int v :: .ref k :: st) σ := by
  obtain ⟨p, l, e, s, m, args, below, meth, c, D, cI, ad, nL, lev, P⟩ := X
  subst hn
  intro H locs ls hP hS hL
  refine va_putN (ws := wld ad cI σ) C.1 C.2.1 C.2.2.2.2.2.2.2.2.1 hin ty0 hty hnm C.2.2.2.2.2.2.2.1 C.2.2.2.2.2.2.2.2.2.2.1 hP (wld_D C.2.2.2.2.2.2.2.2.2.2.2) hS _ ((wld_at hk).trans (by rw [ent_obj hs])) hc j hj (va_Nw.use rfl (C.2.2.2.2.2.2.2.2.2.1.1 _ hlink)) (fun _ h => h) hfin hdt hnv hfit (by rw [List.length_map, List.length_range]; exact (List.getElem?_eq_some_iff.mp hf).1) hd (fun H1 locs1 hP1 hD1 hS1 => ?_)
  rw [wld_set (σ' := s2 σ _ j v) (by rw [ent_obj hs]; exact congrArg (fun z => Sum.inr (ci, z)) (fs_set hf).symm) (fun a ha => ent_ne ha)] at hP1
  exact kk H1 locs1 ls hP1 hS1 hL
theorem v_iald (C : Cx X own cc n ret L) {k N i : Nat} {x : Int32} (hk : k < NC) (hs : shp k = .inr N) (hx : x = nI i) (hi : i < N) (hN : N < 2 ^ 31) (hd : decode cc pc = .ok (.iaload, 1)) (hn : pc + 1 = pc') (kk : V X pc' lv (.int (σ k i) :: st) σ) : V X pc lv (.int x :: .ref k :: st) σ := by
  obtain ⟨p, l, e, s, m, args, below, meth, c, D, cI, ad, nL, lev, P⟩ := X
  subst hn; subst hx
  intro H locs ls hP hS hL
  refine va_iald (ws := wld ad cI σ) C.1 C.2.1 C.2.2.2.2.2.2.2.2.2.2.1 hP _ 0 ((wld_at hk).trans (by rw [ent_arr hs])) rfl (vp_in_nI hi hN) hd ?_
  rw [nI_clamp (by omega)]
  exact kk H locs ls hP hS hL
theorem v_iast (C : Cx X own cc n ret L) {k N i : Nat} {x v : Int32} (hk : k < NC) (hs : shp k = .inr N) (hx : x = nI i) (hi : i < N) (hN : N < 2 ^ 31) (hd : decode cc pc = .ok (.iastore, 1)) (hn : pc + 1 = pc') (kk : V X pc' lv st (s2 σ k i v)) : V X pc lv (.int v :: .int x :: .ref k :: st) σ := by
  obtain ⟨p, l, e, s, m, args, below, meth, c, D, cI, ad, nL, lev, P⟩ := X
  subst hn; subst hx
  intro H locs ls hP hS hL
  refine va_iast (ws := wld ad cI σ) C.1 C.2.1 C.2.2.2.2.2.2.2.2.2.2.1 hP (wld_D C.2.2.2.2.2.2.2.2.2.2.2) hS _ 0 ((wld_at hk).trans (by rw [ent_arr hs])) rfl (vp_in_nI hi hN) hd (fun H1 locs1 hP1 hD1 hS1 => ?_)
  rw [nI_clamp (by omega), wld_set (σ' := s2 σ _ i v) (by rw [ent_arr hs, s2_eq]) (fun a ha => ent_ne ha)] at hP1
  exact kk H1 locs1 ls hP1 hS1 hL
theorem v_alen (C : Cx X own cc n ret L) {k N : Nat} {v : Int32} (hk : k < NC) (hs : shp k = .inr N) (hv : Int32.ofNat N = v) (hd : decode cc pc = .ok (.arraylength, 1)) (hn : pc + 1 = pc') (kk : V X pc' lv (.int v :: st) σ) : V X pc lv (.ref k :: st) σ := by
  obtain ⟨p, l, e, s, m, args, below, meth, c, D, cI, ad, nL, lev, P⟩ := X
  subst hn
  intro H locs ls hP hS hL
  exact va_alen (ws := wld ad cI σ) C.1 C.2.1 C.2.2.2.2.2.2.2.2.2.2.1 hP _ 0 ((wld_at hk).trans (by rw [ent_arr hs])) rfl hv hd (kk H locs ls hP hS hL)
theorem v_iret (C : Cx X own cc n (some .int) L) {v : Int32} (hd : decode cc pc = .ok (.ireturn, 1)) (hp : Pof X (some (.int v)) σ) : V X pc lv [.int v] σ := by
  obtain ⟨p, l, e, s, m, args, below, meth, c, D, cI, ad, nL, lev, P⟩ := X
  intro H locs ls hP hS hL
  exact W.iret C.1 C.2.1 C.2.2.2.2.2.1 (fun t ht hW => ⟨⟨some (.int v), σ, rfl, hp, by rw [ht]; exact hP⟩, hS.F ht⟩) hS.2.2 hd C.2.2.2.2.2.2.1
theorem v_zret (C : Cx X own cc n (some .boolean) L) {v : Int32} (hv : narrow .boolean (.int v) = .int v) (hd : decode cc pc = .ok (.ireturn, 1)) (hp : Pof X (some (.int v)) σ) : V X pc lv [.int v] σ := by
  obtain ⟨p, l, e, s, m, args, below, meth, c, D, cI, ad, nL, lev, P⟩ := X
  intro H locs ls hP hS hL
  exact W.zret C.1 C.2.1 C.2.2.2.2.2.1 hv (fun t ht hW => ⟨⟨some (.int v), σ, rfl, hp, by rw [ht]; exact hP⟩, hS.F ht⟩) hS.2.2 hd C.2.2.2.2.2.2.1
theorem v_vret (C : Cx X own cc n none L) (hd : decode cc pc = .ok (.return_, 1)) (hp : Pof X none σ) : V X pc lv [] σ := by
  obtain ⟨p, l, e, s, m, args, below, meth, c, D, cI, ad, nL, lev, P⟩ := X
  intro H locs ls hP hS hL
  exact W.vret C.1 C.2.1 C.2.2.2.2.2.1 (fun t ht hW => ⟨⟨none, σ, rfl, hp, by rw [ht]; exact hP⟩, hS.F ht⟩) hS.2.2 hd C.2.2.2.2.2.2.1
theorem v_aret (C : Cx X own cc n (some (.object rn)) L) {k : Nat} (hd : decode cc pc = .ok (.areturn, 1)) (hp : Pof X (some (.ref k)) σ) : V X pc lv [.ref k] σ := by
  obtain ⟨p, l, e, s, m, args, below, meth, c, D, cI, ad, nL, lev, P⟩ := X
  intro H locs ls hP hS hL
  exact W.aret C.1 C.2.1 C.2.2.2.2.2.1 (Or.inl ⟨_, rfl⟩) (Or.inr ⟨_, rfl⟩) (fun t ht hW => ⟨⟨some (.ref k), σ, rfl, hp, by rw [ht]; exact hP⟩, hS.F ht⟩) hS.2.2 hd C.2.2.2.2.2.2.1
end RULES
theorem bw_blind {D : va_G} {cI : ClassId} {ad : Nat → Nat} {σ : St} {as : List Value} : FrameBlind (va_Pc as (Bw D cI ad σ)) :=
  fun a U g mk q => ⟨q.1, q.2.1, va_K.moved (u := U) (U := U.calling g mk a) (Vm.Alike.refl U.vm) q.2.2.1, nsl_same (u := U) rfl rfl q.2.2.2.1, q.2.2.2.2⟩
theorem v_after {p : Program} {l : Launch} {e : Env} {R : Room} {s : State} {m : MethodId} {args : Array Value} {below : List Frame} {meth : Method} {c : Code} {H : Heap} {locs : List Loc} {Q : State → Prop} {D : va_G} {cI : ClassId} {ad : Nat → Nat} {P : Option Value → St → Prop} {a : Array Value} {pc : Nat} {ls : Array Slot} {st0 rest : List Value}
    (hr : va_Run p l e R s m args below meth c H locs 0 0 0 0 (F0 m pc ls st0) (rest.map (cv ad)) (Qw D cI ad P a) (Aad ad)) (hS : va_S (Aad ad) s.heap H locs)
    (kk : ∀ (r : Option Value) (σ' : St) (H1 : Heap) (locs1 : List Loc), P r σ' → va_P D clss (wld ad cI σ') H1 → va_S (Aad ad) s.heap H1 locs1 → W p l e R s m args below meth c H1 locs1 0 0 Q (F0 m (pc + 3) ls ((r.toList ++ rest).map (cv ad)))) : W p l e R s m args below meth c H locs 0 0 Q (F0 m pc ls st0) := by
  intro T hT X
  obtain ⟨v, st₀, t, T', Lo, h0, X', hLo, e1, e2, ⟨⟨r, σ', hv, hp, hP'⟩, hz, hk⟩, stp⟩ := hr T hT X
  cases hv
  rw [h0] at hz hk
  obtain ⟨t2, a1, b1⟩ := kk r σ' T'.heap (locs ++ Lo) hp (by rw [e1]; exact hP')
    ⟨Nat.le_trans hS.1 (by rw [e1]; exact hz), fun q h1 h2 => by rw [e1, hk q (Nat.lt_of_lt_of_le h1 hS.1) h2]; exact hS.2.1 q h1 h2, fun q hq => by
      rcases List.mem_append.mp hq with h | h
      · exact hS.2.2 q h
      · exact hLo q h⟩ T' rfl X'
  refine ⟨t2, stp t2 ?_, b1⟩
  have e : (r.map (cv ad)).toList ++ rest.map (cv ad) = (r.toList ++ rest).map (cv ad) := by cases r <;> rfl
  rw [e]
  exact a1
def dOK (y : MethodName) (n : Nat) : Prop := y.cls ≠ "java/lang/invoke/MethodHandle" ∧ y.cls ≠ "java/lang/invoke/VarHandle" ∧ (parseMethodDescriptor y.desc).map (fun d => d.parameters.length) = some n
section CALLS
variable {X : CxT} {own : String} {cc : ByteArray} {n L : Nat} {ret : Option FieldType} {pc pc' : Nat} {lv lv' : List (Nat × Value)} {st : List Value} {σ : St}
variable {y : MethodName} {bytes : ByteArray} {maxL lev idx : Nat} {ret' : Option FieldType} {As rest : List Value} {P' : Option Value → St → Prop}
theorem v_callV (C : Cx X own cc n ret L) {k ci N : Nat} {fl : List (Option Nat)} {T : u_T} (hk : k < NC) (hs : shp k = .inl (ci, fl)) (hc : clss[ci]? = some (y.cls, T, N)) (hct : Ct y bytes maxL ret' lev (.ref k :: As) σ P') (hst : st = As.reverse ++ .ref k :: rest) (hlev : lev < L) (hmx : maxL ≤ 41)
    (hw : Cond.methodLink own idx y ∈ BIG ∧ Cond.instanceMethod y ∈ BIG ∧ Cond.selects y.cls y y ∈ BIG ∧ Cond.initialized y.cls ∈ BIG ∧ Cond.code y bytes maxL ret' ∈ BIG) (hdesc : dOK y As.length) (hsum : (rest.map fun v => v.category).sum ≤ 8)
    (hd : decode cc pc = .ok (.invokevirtual idx, 3)) (hn : pc + 3 = pc') (kk : ∀ (r : Option Value) (σ' : St), P' r σ' → V X pc' lv (r.toList ++ rest) σ') : V X pc lv st σ := by
  obtain ⟨p, l, e, s, m, args, below, meth, c, D, cI, ad, nL, lev0, P⟩ := X
  obtain ⟨hx, hb, hml, hnL, hle, hr, hlk, hown, hts, hN, hK, hI⟩ := C
  subst hn; subst hst; subst hle
  intro H locs ls hP hS hL
  have cw : CallW (rmL lev0) s args own y.cls idx y bytes maxL ret' (Cond.code y bytes maxL ret' :: BIG) (rmL lev) 0 0 As.length := ⟨callB_of As.length hts (good_code hw.2.2.2.2) rfl rfl rfl (hts _ hw.2.2.2.1) (hts _ hw.1) hdesc ⟨hlev, by show 8 + (maxL + 11) + 60 * lev ≤ 60 * lev0; omega⟩, hts _ hw.2.1, hts _ hw.2.2.1⟩
  refine v_after (rest := rest) (P := P') (D := D) (cI := cI) (ad := ad) (va_runV (As := As.map (cv ad)) (rest := rest.map (cv ad)) (b := ad k) ⟨hx, hb, hml, hown, hts⟩ (hct l D cI ad) cw ⟨bw_blind, va_recv hK hP hc ((wld_at hk).trans (by rw [ent_obj hs])), fun U hU hW => ⟨rfl, by rw [hU]; exact hP, va_K.moved hW.alike hK, nsl_warm hW hU hS hN, hI⟩⟩ rfl (by simp) hL.1 (by simp [cv]) (lv_room (by rw [cv_sum]; exact hsum)) hd ⟨Nat.zero_le _, Nat.zero_le _⟩) hS (fun r σ' H1 locs1 hp hP1 hS1 => ?_)
  exact kk r σ' hp H1 locs1 ls hP1 hS1 hL
theorem v_callVN (C : Cx X own cc n ret L) {k ci N : Nat} {fl : List (Option Nat)} {T : u_T} {host : String} (hk : k < NC) (hs : shp k = .inl (ci, fl)) (hc : clss[ci]? = some (y.cls, T, N)) (hct : Ct y bytes maxL ret' lev (.ref k :: As) σ P') (hst : st = As.reverse ++ .ref k :: rest) (hlev : lev < L) (hmx : maxL ≤ 41)
    (hw : Cond.methodLinkNest own idx y host ∈ NST ∧ Cond.instanceMethod y ∈ BIG ∧ Cond.selects y.cls y y ∈ BIG ∧ Cond.initialized y.cls ∈ BIG ∧ Cond.code y bytes maxL ret' ∈ BIG) (hdesc : dOK y As.length) (hsum : (rest.map fun v => v.category).sum ≤ 8)
    (hd : decode cc pc = .ok (.invokevirtual idx, 3)) (hn : pc + 3 = pc') (kk : ∀ (r : Option Value) (σ' : St), P' r σ' → V X pc' lv (r.toList ++ rest) σ') : V X pc lv st σ := by
  obtain ⟨p, l, e, s, m, args, below, meth, c, D, cI, ad, nL, lev0, P⟩ := X
  obtain ⟨hx, hb, hml, hnL, hle, hr, hlk, hown, hts, hN, hK, hI⟩ := C
  subst hn; subst hst; subst hle
  intro H locs ls hP hS hL
  have cw : va_CN (rmL lev0) s args own idx y host bytes maxL ret' (Cond.code y bytes maxL ret' :: BIG) (rmL lev) 0 0 As.length := va_cnB As.length hts (good_code hw.2.2.2.2) rfl rfl rfl (hN.1 _ hw.1) (hts _ hw.2.2.2.1) hdesc ⟨hlev, by show 8 + (maxL + 11) + 60 * lev ≤ 60 * lev0; omega⟩
  refine v_after (rest := rest) (P := P') (D := D) (cI := cI) (ad := ad) (va_runVN (C := y.cls) (As := As.map (cv ad)) (rest := rest.map (cv ad)) (b := ad k) ⟨hx, hb, hml, hown, hts⟩ (hct l D cI ad) ⟨cw, hts _ hw.2.1, hts _ hw.2.2.1⟩ ⟨bw_blind, va_recv hK hP hc ((wld_at hk).trans (by rw [ent_obj hs])), fun U hU hW => ⟨rfl, by rw [hU]; exact hP, va_K.moved hW.alike hK, nsl_warm hW hU hS hN, hI⟩⟩ rfl (by simp) hL.1 (by simp [cv]) (lv_room (by rw [cv_sum]; exact hsum)) hd ⟨Nat.zero_le _, Nat.zero_le _⟩) hS (fun r σ' H1 locs1 hp hP1 hS1 => ?_)
  exact kk r σ' hp H1 locs1 ls hP1 hS1 hL
theorem v_callS (C : Cx X own cc n ret L) (hct : Ct y bytes maxL ret' lev As σ P') (hst : st = As.reverse ++ rest) (hlev : lev < L) (hmx : maxL ≤ 41)
    (hw : Cond.methodLink own idx y ∈ BIG ∧ Cond.static y ∈ BIG ∧ Cond.initialized y.cls ∈ BIG ∧ Cond.code y bytes maxL ret' ∈ BIG) (hdesc : dOK y As.length) (hsum : (rest.map fun v => v.category).sum ≤ 8)
    (hd : decode cc pc = .ok (.invokestatic idx, 3)) (hn : pc + 3 = pc') (kk : ∀ (r : Option Value) (σ' : St), P' r σ' → V X pc' lv (r.toList ++ rest) σ') : V X pc lv st σ := by
  obtain ⟨p, l, e, s, m, args, below, meth, c, D, cI, ad, nL, lev0, P⟩ := X
  obtain ⟨hx, hb, hml, hnL, hle, hr, hlk, hown, hts, hN, hK, hI⟩ := C
  subst hn; subst hst; subst hle
  intro H locs ls hP hS hL
  have cw : CallB (rmL lev0) s args own idx y bytes maxL ret' (Cond.code y bytes maxL ret' :: BIG) (rmL lev) 0 0 As.length ∧ (Cond.static y).before args s = true := ⟨callB_of As.length hts (good_code hw.2.2.2) rfl rfl rfl (hts _ hw.2.2.1) (hts _ hw.1) hdesc ⟨hlev, by show 8 + (maxL + 11) + 60 * lev ≤ 60 * lev0; omega⟩, hts _ hw.2.1⟩
  refine v_after (rest := rest) (P := P') (D := D) (cI := cI) (ad := ad) (va_runS (As := As.map (cv ad)) (rest := rest.map (cv ad)) ⟨hx, hb, hml, hown, hts⟩ (hct l D cI ad) cw ⟨bw_blind, fun U hU hW => ⟨rfl, by rw [hU]; exact hP, va_K.moved hW.alike hK, nsl_warm hW hU hS hN, hI⟩⟩ rfl (by simp) hL.1 (by simp [cv]) (lv_room (by rw [cv_sum]; exact hsum)) hd ⟨Nat.zero_le _, Nat.zero_le _⟩) hS (fun r σ' H1 locs1 hp hP1 hS1 => ?_)
  exact kk r σ' hp H1 locs1 ls hP1 hS1 hL
theorem v_callSN (C : Cx X own cc n ret L) {host : String} (hct : Ct y bytes maxL ret' lev As σ P') (hst : st = As.reverse ++ rest) (hlev : lev < L) (hmx : maxL ≤ 41)
    (hw : Cond.methodLinkNest own idx y host ∈ NST ∧ Cond.static y ∈ BIG ∧ Cond.initialized y.cls ∈ BIG ∧ Cond.code y bytes maxL ret' ∈ BIG) (hdesc : dOK y As.length) (hsum : (rest.map fun v => v.category).sum ≤ 8)
    (hd : decode cc pc = .ok (.invokestatic idx, 3)) (hn : pc + 3 = pc') (kk : ∀ (r : Option Value) (σ' : St), P' r σ' → V X pc' lv (r.toList ++ rest) σ') : V X pc lv st σ := by
  obtain ⟨p, l, e, s, m, args, below, meth, c, D, cI, ad, nL, lev0, P⟩ := X
  obtain ⟨hx, hb, hml, hnL, hle, hr, hlk, hown, hts, hN, hK, hI⟩ := C
  subst hn; subst hst; subst hle
  intro H locs ls hP hS hL
  have cw : va_CN (rmL lev0) s args own idx y host bytes maxL ret' (Cond.code y bytes maxL ret' :: BIG) (rmL lev) 0 0 As.length := va_cnB As.length hts (good_code hw.2.2.2) rfl rfl rfl (hN.1 _ hw.1) (hts _ hw.2.2.1) hdesc ⟨hlev, by show 8 + (maxL + 11) + 60 * lev ≤ 60 * lev0; omega⟩
  refine v_after (rest := rest) (P := P') (D := D) (cI := cI) (ad := ad) (va_runSN (As := As.map (cv ad)) (rest := rest.map (cv ad)) ⟨hx, hb, hml, hown, hts⟩ (hct l D cI ad) ⟨cw, hts _ hw.2.1, trivial⟩ ⟨bw_blind, fun U hU hW => ⟨rfl, by rw [hU]; exact hP, va_K.moved hW.alike hK, nsl_warm hW hU hS hN, hI⟩⟩ rfl (by simp) hL.1 (by simp [cv]) (lv_room (by rw [cv_sum]; exact hsum)) hd ⟨Nat.zero_le _, Nat.zero_le _⟩) hS (fun r σ' H1 locs1 hp hP1 hS1 => ?_)
  exact kk r σ' hp H1 locs1 ls hP1 hS1 hL
end CALLS
end
section
/-! what an answer is, and how a call's answer goes on -/
section BASE
variable {X : CxT} {pc : Nat} {lv lv' : List (Nat × Value)} {st rest : List Value} {σ σ' : St}
theorem V.top {x : Int32} (k : ∀ y, y = x → V X pc lv (.int y :: st) σ) : V X pc lv (.int x :: st) σ := k x rfl
theorem V.nm (k : ∀ τ, τ = σ → V X pc lv st τ) : V X pc lv st σ := k σ rfl
theorem V.eqs (e : σ = σ') (k : V X pc lv st σ') : V X pc lv st σ := e ▸ k
theorem V.tp {x y : Int32} (e : x = y) (k : V X pc lv (.int y :: st) σ) : V X pc lv (.int x :: st) σ := e ▸ k
theorem V.lvs (e : lv = lv') (k : V X pc lv' st σ) : V X pc lv st σ := e ▸ k
end BASE
noncomputable def bI (p : Prop) : Int32 := @ite _ p (Classical.propDecidable p) 1 0
theorem bI_0 {p : Prop} (h : bI p = 0) : ¬ p := fun q => by simp [bI, q] at h
theorem bI_n {p : Prop} (h : ¬ bI p = 0) : p := by
  by_cases q : p
  · exact q
  · simp [bI, q] at h
theorem bI_t {p : Prop} (h : p) : (1 : Int32) = bI p := by simp [bI, h]
theorem bI_f {p : Prop} (h : ¬ p) : (0 : Int32) = bI p := by simp [bI, h]
theorem bI_nar {p : Prop} : narrow .boolean (.int (bI p)) = .int (bI p) := by
  by_cases q : p
  · simp only [bI, if_pos q]; rfl
  · simp only [bI, if_neg q]; rfl
def fI (v : Int32) (σ' : St) : Option Value → St → Prop := fun r τ => r = some (.int v) ∧ τ = σ'
def fV (σ' : St) : Option Value → St → Prop := fun r τ => r = none ∧ τ = σ'
def fR (k : Nat) (σ' : St) : Option Value → St → Prop := fun r τ => r = some (.ref k) ∧ τ = σ'
def rI (post : Int32 → St → Prop) : Option Value → St → Prop := fun r τ => ∃ v, r = some (.int v) ∧ post v τ
def rV (post : St → Prop) : Option Value → St → Prop := fun r τ => r = none ∧ post τ
theorem fI_of {v w : Int32} {σ τ : St} (h : v = w) (e : σ = τ) : fI w τ (some (.int v)) σ := ⟨by rw [h], e⟩
theorem fV_of {σ τ : St} (e : σ = τ) : fV τ none σ := ⟨rfl, e⟩
section BASE2
variable {X : CxT} {pc : Nat} {lv lv' : List (Nat × Value)} {st rest : List Value} {σ σ' : St}
theorem kI {v : Int32} (k : V X pc lv (.int v :: rest) σ') : ∀ r τ, fI v σ' r τ → V X pc lv (r.toList ++ rest) τ := by
  rintro r τ ⟨rfl, rfl⟩; exact k
theorem kV (k : V X pc lv rest σ') : ∀ r τ, fV σ' r τ → V X pc lv (r.toList ++ rest) τ := by
  rintro r τ ⟨rfl, rfl⟩; exact k
theorem kR {j : Nat} (k : V X pc lv (.ref j :: rest) σ') : ∀ r τ, fR j σ' r τ → V X pc lv (r.toList ++ rest) τ := by
  rintro r τ ⟨rfl, rfl⟩; exact k
theorem krI {post : Int32 → St → Prop} (k : ∀ v τ, post v τ → V X pc lv (.int v :: rest) τ) : ∀ r τ, rI post r τ → V X pc lv (r.toList ++ rest) τ := by
  rintro r τ ⟨v, rfl, h⟩; exact k v τ h
theorem krV {post : St → Prop} (k : ∀ τ, post τ → V X pc lv rest τ) : ∀ r τ, rV post r τ → V X pc lv (r.toList ++ rest) τ := by
  rintro r τ ⟨rfl, h⟩; exact k τ h
end BASE2
theorem nI_inc (i : Nat) : nI i + Int32.ofInt 1 = nI (i + 1) := nI_1 i
theorem nI_lit (n : Nat) : (OfNat.ofNat n : Int32) = nI n := rfl
/-- a sum, and what a loop gathers -/
def sumN (f : Nat → Int32) : Nat → Int32
  | 0 => 0
  | i + 1 => sumN f i + f i
theorem sumN_congr {f g : Nat → Int32} {n : Nat} (h : ∀ i, i < n → f i = g i) : sumN f n = sumN g n := by
  induction n with
  | zero => rfl
  | succ n ih => simp only [sumN, ih (fun i hi => h i (by omega)), h n (by omega)]
theorem s2_get (σ : St) (k j : Nat) (v : Int32) (a b : Nat) : s2 σ k j v a b = if a = k ∧ b = j then v else σ a b := by
  unfold s2
  by_cases h : a = k
  · subst h; by_cases g : b = j <;> simp [upd, g]
  · simp [h]
theorem nI_lt_iff {a b : Nat} (ha : a < 2 ^ 31) (hb : b < 2 ^ 31) : nI a < nI b ↔ a < b := nI_ltI ha hb
end
section
/-! texts: the literals, what a text's own methods answer -/
theorem plJ0 : plainName RJ0 = true := by decide +kernel
theorem mfJ0_length_8abf5 : Cond.instanceMethod yJ0_length_8abf5 ∈ BIG ∧ Cond.selects yJ0_length_8abf5.cls yJ0_length_8abf5 yJ0_length_8abf5 ∈ BIG ∧ Cond.initialized yJ0_length_8abf5.cls ∈ BIG ∧ Cond.code yJ0_length_8abf5 cJ0_length_8abf5 1 (some .int) ∈ BIG := ⟨big_of (List.mem_of_getElem? (i := 347) (by decide +kernel)) (by decide +kernel), big_of (List.mem_of_getElem? (i := 348) (by decide +kernel)) (by decide +kernel), big_of (List.mem_of_getElem? (i := 112) (by decide +kernel)) (by decide +kernel), big_of (List.mem_of_getElem? (i := 349) (by decide +kernel)) (by decide +kernel)⟩
theorem dkJ0_length_8abf5 : dOK yJ0_length_8abf5 0 := by unfold dOK; decide +kernel
theorem mfJ0_isEmpty_aae02 : Cond.instanceMethod yJ0_isEmpty_aae02 ∈ BIG ∧ Cond.selects yJ0_isEmpty_aae02.cls yJ0_isEmpty_aae02 yJ0_isEmpty_aae02 ∈ BIG ∧ Cond.initialized yJ0_isEmpty_aae02.cls ∈ BIG ∧ Cond.code yJ0_isEmpty_aae02 cJ0_isEmpty_aae02 1 (some .boolean) ∈ BIG := ⟨big_of (List.mem_of_getElem? (i := 343) (by decide +kernel)) (by decide +kernel), big_of (List.mem_of_getElem? (i := 344) (by decide +kernel)) (by decide +kernel), big_of (List.mem_of_getElem? (i := 112) (by decide +kernel)) (by decide +kernel), big_of (List.mem_of_getElem? (i := 345) (by decide +kernel)) (by decide +kernel)⟩
theorem dkJ0_isEmpty_aae02 : dOK yJ0_isEmpty_aae02 0 := by unfold dOK; decide +kernel
theorem mfJ0_charAt_5068e : Cond.instanceMethod yJ0_charAt_5068e ∈ BIG ∧ Cond.selects yJ0_charAt_5068e.cls yJ0_charAt_5068e yJ0_charAt_5068e ∈ BIG ∧ Cond.initialized yJ0_charAt_5068e.cls ∈ BIG ∧ Cond.code yJ0_charAt_5068e cJ0_charAt_5068e 2 (some .char) ∈ BIG := ⟨big_of (List.mem_of_getElem? (i := 357) (by decide +kernel)) (by decide +kernel), big_of (List.mem_of_getElem? (i := 358) (by decide +kernel)) (by decide +kernel), big_of (List.mem_of_getElem? (i := 112) (by decide +kernel)) (by decide +kernel), big_of (List.mem_of_getElem? (i := 359) (by decide +kernel)) (by decide +kernel)⟩
theorem dkJ0_charAt_5068e : dOK yJ0_charAt_5068e 1 := by unfold dOK; decide +kernel
theorem mfJ0_coder_7d493 : Cond.instanceMethod yJ0_coder_7d493 ∈ BIG ∧ Cond.selects yJ0_coder_7d493.cls yJ0_coder_7d493 yJ0_coder_7d493 ∈ BIG ∧ Cond.initialized yJ0_coder_7d493.cls ∈ BIG ∧ Cond.code yJ0_coder_7d493 cJ0_coder_7d493 1 (some .byte) ∈ BIG := ⟨big_of (List.mem_of_getElem? (i := 351) (by decide +kernel)) (by decide +kernel), big_of (List.mem_of_getElem? (i := 352) (by decide +kernel)) (by decide +kernel), big_of (List.mem_of_getElem? (i := 112) (by decide +kernel)) (by decide +kernel), big_of (List.mem_of_getElem? (i := 353) (by decide +kernel)) (by decide +kernel)⟩
theorem dkJ0_coder_7d493 : dOK yJ0_coder_7d493 0 := by unfold dOK; decide +kernel
theorem mfJ0_isLatin1_aae02 : Cond.instanceMethod yJ0_isLatin1_aae02 ∈ BIG ∧ Cond.selects yJ0_isLatin1_aae02.cls yJ0_isLatin1_aae02 yJ0_isLatin1_aae02 ∈ BIG ∧ Cond.initialized yJ0_isLatin1_aae02.cls ∈ BIG ∧ Cond.code yJ0_isLatin1_aae02 cJ0_isLatin1_aae02 1 (some .boolean) ∈ BIG := ⟨big_of (List.mem_of_getElem? (i := 361) (by decide +kernel)) (by decide +kernel), big_of (List.mem_of_getElem? (i := 362) (by decide +kernel)) (by decide +kernel), big_of (List.mem_of_getElem? (i := 112) (by decide +kernel)) (by decide +kernel), big_of (List.mem_of_getElem? (i := 363) (by decide +kernel)) (by decide +kernel)⟩
theorem dkJ0_isLatin1_aae02 : dOK yJ0_isLatin1_aae02 0 := by unfold dOK; decide +kernel
theorem mfJ0_checkIndex_df160 : Cond.static yJ0_checkIndex_df160 ∈ BIG ∧ Cond.initialized yJ0_checkIndex_df160.cls ∈ BIG ∧ Cond.code yJ0_checkIndex_df160 cJ0_checkIndex_df160 2 none ∈ BIG := ⟨big_of (List.mem_of_getElem? (i := 368) (by decide +kernel)) (by decide +kernel), big_of (List.mem_of_getElem? (i := 112) (by decide +kernel)) (by decide +kernel), big_of (List.mem_of_getElem? (i := 369) (by decide +kernel)) (by decide +kernel)⟩
theorem dkJ0_checkIndex_df160 : dOK yJ0_checkIndex_df160 2 := by unfold dOK; decide +kernel
theorem mlJ0_335 : Cond.methodLink RJ0 335 yJ0_coder_7d493 ∈ BIG := big_of (List.mem_of_getElem? (i := 350) (by decide +kernel)) (by decide +kernel)
theorem mlJ0_492 : Cond.methodLink RJ0 492 yJ0_isLatin1_aae02 ∈ BIG := big_of (List.mem_of_getElem? (i := 360) (by decide +kernel)) (by decide +kernel)
theorem mlJ0_495 : Cond.methodLink RJ0 495 yJ1_charAt_3b067 ∈ BIG := big_of (List.mem_of_getElem? (i := 364) (by decide +kernel)) (by decide +kernel)
theorem mlJ0_1059 : Cond.methodLink RJ0 1059 yJ3_checkIndex_8e157 ∈ BIG := big_of (List.mem_of_getElem? (i := 372) (by decide +kernel)) (by decide +kernel)
theorem dJ0_charAt_5068e_0 : decode cJ0_charAt_5068e 0 = .ok (.aload_n 0, 1) := by decide +kernel
theorem dJ0_charAt_5068e_1 : decode cJ0_charAt_5068e 1 = .ok (.invokevirtual 492, 3) := by decide +kernel
theorem dJ0_charAt_5068e_4 : decode cJ0_charAt_5068e 4 = .ok (.ifCond .eq 12, 3) := by decide +kernel
theorem dJ0_charAt_5068e_7 : decode cJ0_charAt_5068e 7 = .ok (.aload_n 0, 1) := by decide +kernel
theorem dJ0_charAt_5068e_8 : decode cJ0_charAt_5068e 8 = .ok (.getfield 9, 3) := by decide +kernel
theorem dJ0_charAt_5068e_11 : decode cJ0_charAt_5068e 11 = .ok (.iload_n 1, 1) := by decide +kernel
theorem dJ0_charAt_5068e_12 : decode cJ0_charAt_5068e 12 = .ok (.invokestatic 495, 3) := by decide +kernel
theorem dJ0_charAt_5068e_15 : decode cJ0_charAt_5068e 15 = .ok (.ireturn, 1) := by decide +kernel
theorem dJ0_charAt_5068e_16 : decode cJ0_charAt_5068e 16 = .ok (.aload_n 0, 1) := by decide +kernel
theorem dJ0_charAt_5068e_17 : decode cJ0_charAt_5068e 17 = .ok (.getfield 9, 3) := by decide +kernel
theorem dJ0_charAt_5068e_20 : decode cJ0_charAt_5068e 20 = .ok (.iload_n 1, 1) := by decide +kernel
theorem dJ0_charAt_5068e_21 : decode cJ0_charAt_5068e 21 = .ok (.invokestatic 498, 3) := by decide +kernel
theorem dJ0_charAt_5068e_24 : decode cJ0_charAt_5068e 24 = .ok (.ireturn, 1) := by decide +kernel
theorem dJ0_checkIndex_df160_0 : decode cJ0_checkIndex_df160 0 = .ok (.iload_n 0, 1) := by decide +kernel
theorem dJ0_checkIndex_df160_1 : decode cJ0_checkIndex_df160 1 = .ok (.iload_n 1, 1) := by decide +kernel
theorem dJ0_checkIndex_df160_2 : decode cJ0_checkIndex_df160 2 = .ok (.getstatic 1053, 3) := by decide +kernel
theorem dJ0_checkIndex_df160_5 : decode cJ0_checkIndex_df160 5 = .ok (.invokestatic 1059, 3) := by decide +kernel
theorem dJ0_checkIndex_df160_8 : decode cJ0_checkIndex_df160 8 = .ok (.pop, 1) := by decide +kernel
theorem dJ0_checkIndex_df160_9 : decode cJ0_checkIndex_df160 9 = .ok (.return_, 1) := by decide +kernel
theorem dJ0_coder_7d493_0 : decode cJ0_coder_7d493 0 = .ok (.getstatic 38, 3) := by decide +kernel
theorem dJ0_coder_7d493_3 : decode cJ0_coder_7d493 3 = .ok (.ifCond .eq 10, 3) := by decide +kernel
theorem dJ0_coder_7d493_6 : decode cJ0_coder_7d493 6 = .ok (.aload_n 0, 1) := by decide +kernel
theorem dJ0_coder_7d493_7 : decode cJ0_coder_7d493 7 = .ok (.getfield 15, 3) := by decide +kernel
theorem dJ0_coder_7d493_10 : decode cJ0_coder_7d493 10 = .ok (.goto 4, 3) := by decide +kernel
theorem dJ0_coder_7d493_13 : decode cJ0_coder_7d493 13 = .ok (.iconst 1, 1) := by decide +kernel
theorem dJ0_coder_7d493_14 : decode cJ0_coder_7d493 14 = .ok (.ireturn, 1) := by decide +kernel
theorem dJ0_isEmpty_aae02_0 : decode cJ0_isEmpty_aae02 0 = .ok (.aload_n 0, 1) := by decide +kernel
theorem dJ0_isEmpty_aae02_1 : decode cJ0_isEmpty_aae02 1 = .ok (.getfield 9, 3) := by decide +kernel
theorem dJ0_isEmpty_aae02_4 : decode cJ0_isEmpty_aae02 4 = .ok (.arraylength, 1) := by decide +kernel
theorem dJ0_isEmpty_aae02_5 : decode cJ0_isEmpty_aae02 5 = .ok (.ifCond .ne 7, 3) := by decide +kernel
theorem dJ0_isEmpty_aae02_8 : decode cJ0_isEmpty_aae02 8 = .ok (.iconst 1, 1) := by decide +kernel
theorem dJ0_isEmpty_aae02_9 : decode cJ0_isEmpty_aae02 9 = .ok (.goto 4, 3) := by decide +kernel
theorem dJ0_isEmpty_aae02_12 : decode cJ0_isEmpty_aae02 12 = .ok (.iconst 0, 1) := by decide +kernel
theorem dJ0_isEmpty_aae02_13 : decode cJ0_isEmpty_aae02 13 = .ok (.ireturn, 1) := by decide +kernel
theorem dJ0_isLatin1_aae02_0 : decode cJ0_isLatin1_aae02 0 = .ok (.getstatic 38, 3) := by decide +kernel
theorem dJ0_isLatin1_aae02_3 : decode cJ0_isLatin1_aae02 3 = .ok (.ifCond .eq 14, 3) := by decide +kernel
theorem dJ0_isLatin1_aae02_6 : decode cJ0_isLatin1_aae02 6 = .ok (.aload_n 0, 1) := by decide +kernel
theorem dJ0_isLatin1_aae02_7 : decode cJ0_isLatin1_aae02 7 = .ok (.getfield 15, 3) := by decide +kernel
theorem dJ0_isLatin1_aae02_10 : decode cJ0_isLatin1_aae02 10 = .ok (.ifCond .ne 7, 3) := by decide +kernel
theorem dJ0_isLatin1_aae02_13 : decode cJ0_isLatin1_aae02 13 = .ok (.iconst 1, 1) := by decide +kernel
theorem dJ0_isLatin1_aae02_14 : decode cJ0_isLatin1_aae02 14 = .ok (.goto 4, 3) := by decide +kernel
theorem dJ0_isLatin1_aae02_17 : decode cJ0_isLatin1_aae02 17 = .ok (.iconst 0, 1) := by decide +kernel
theorem dJ0_isLatin1_aae02_18 : decode cJ0_isLatin1_aae02 18 = .ok (.ireturn, 1) := by decide +kernel
theorem dJ0_length_8abf5_0 : decode cJ0_length_8abf5 0 = .ok (.aload_n 0, 1) := by decide +kernel
theorem dJ0_length_8abf5_1 : decode cJ0_length_8abf5 1 = .ok (.getfield 9, 3) := by decide +kernel
theorem dJ0_length_8abf5_4 : decode cJ0_length_8abf5 4 = .ok (.arraylength, 1) := by decide +kernel
theorem dJ0_length_8abf5_5 : decode cJ0_length_8abf5 5 = .ok (.aload_n 0, 1) := by decide +kernel
theorem dJ0_length_8abf5_6 : decode cJ0_length_8abf5 6 = .ok (.invokevirtual 335, 3) := by decide +kernel
theorem dJ0_length_8abf5_9 : decode cJ0_length_8abf5 9 = .ok (.ishr, 1) := by decide +kernel
theorem dJ0_length_8abf5_10 : decode cJ0_length_8abf5 10 = .ok (.ireturn, 1) := by decide +kernel
theorem plJ1 : plainName RJ1 = true := by decide +kernel
theorem mfJ1_charAt_3b067 : Cond.static yJ1_charAt_3b067 ∈ BIG ∧ Cond.initialized yJ1_charAt_3b067.cls ∈ BIG ∧ Cond.code yJ1_charAt_3b067 cJ1_charAt_3b067 2 (some .char) ∈ BIG := ⟨big_of (List.mem_of_getElem? (i := 365) (by decide +kernel)) (by decide +kernel), big_of (List.mem_of_getElem? (i := 113) (by decide +kernel)) (by decide +kernel), big_of (List.mem_of_getElem? (i := 366) (by decide +kernel)) (by decide +kernel)⟩
theorem dkJ1_charAt_3b067 : dOK yJ1_charAt_3b067 2 := by unfold dOK; decide +kernel
theorem mlJ1_9 : Cond.methodLink RJ1 9 yJ0_checkIndex_df160 ∈ BIG := big_of (List.mem_of_getElem? (i := 367) (by decide +kernel)) (by decide +kernel)
theorem dJ1_charAt_3b067_0 : decode cJ1_charAt_3b067 0 = .ok (.iload_n 1, 1) := by decide +kernel
theorem dJ1_charAt_3b067_1 : decode cJ1_charAt_3b067 1 = .ok (.aload_n 0, 1) := by decide +kernel
theorem dJ1_charAt_3b067_2 : decode cJ1_charAt_3b067 2 = .ok (.arraylength, 1) := by decide +kernel
theorem dJ1_charAt_3b067_3 : decode cJ1_charAt_3b067 3 = .ok (.invokestatic 9, 3) := by decide +kernel
theorem dJ1_charAt_3b067_6 : decode cJ1_charAt_3b067 6 = .ok (.aload_n 0, 1) := by decide +kernel
theorem dJ1_charAt_3b067_7 : decode cJ1_charAt_3b067 7 = .ok (.iload_n 1, 1) := by decide +kernel
theorem dJ1_charAt_3b067_8 : decode cJ1_charAt_3b067 8 = .ok (.baload, 1) := by decide +kernel
theorem dJ1_charAt_3b067_9 : decode cJ1_charAt_3b067 9 = .ok (.sipush 255, 3) := by decide +kernel
theorem dJ1_charAt_3b067_12 : decode cJ1_charAt_3b067 12 = .ok (.iand, 1) := by decide +kernel
theorem dJ1_charAt_3b067_13 : decode cJ1_charAt_3b067 13 = .ok (.i2c, 1) := by decide +kernel
theorem dJ1_charAt_3b067_14 : decode cJ1_charAt_3b067 14 = .ok (.ireturn, 1) := by decide +kernel
theorem plJ3 : plainName RJ3 = true := by decide +kernel
theorem mfJ3_checkIndex_8e157 : Cond.static yJ3_checkIndex_8e157 ∈ BIG ∧ Cond.initialized yJ3_checkIndex_8e157.cls ∈ BIG ∧ Cond.code yJ3_checkIndex_8e157 cJ3_checkIndex_8e157 3 (some .int) ∈ BIG := ⟨big_of (List.mem_of_getElem? (i := 373) (by decide +kernel)) (by decide +kernel), big_of (List.mem_of_getElem? (i := 114) (by decide +kernel)) (by decide +kernel), big_of (List.mem_of_getElem? (i := 374) (by decide +kernel)) (by decide +kernel)⟩
theorem dkJ3_checkIndex_8e157 : dOK yJ3_checkIndex_8e157 3 := by unfold dOK; decide +kernel
theorem dJ3_checkIndex_8e157_0 : decode cJ3_checkIndex_8e157 0 = .ok (.iload_n 0, 1) := by decide +kernel
theorem dJ3_checkIndex_8e157_1 : decode cJ3_checkIndex_8e157 1 = .ok (.ifCond .lt 8, 3) := by decide +kernel
theorem dJ3_checkIndex_8e157_4 : decode cJ3_checkIndex_8e157 4 = .ok (.iload_n 0, 1) := by decide +kernel
theorem dJ3_checkIndex_8e157_5 : decode cJ3_checkIndex_8e157 5 = .ok (.iload_n 1, 1) := by decide +kernel
theorem dJ3_checkIndex_8e157_6 : decode cJ3_checkIndex_8e157 6 = .ok (.if_icmp .lt 10, 3) := by decide +kernel
theorem dJ3_checkIndex_8e157_9 : decode cJ3_checkIndex_8e157 9 = .ok (.aload_n 2, 1) := by decide +kernel
theorem dJ3_checkIndex_8e157_10 : decode cJ3_checkIndex_8e157 10 = .ok (.iload_n 0, 1) := by decide +kernel
theorem dJ3_checkIndex_8e157_11 : decode cJ3_checkIndex_8e157 11 = .ok (.iload_n 1, 1) := by decide +kernel
theorem dJ3_checkIndex_8e157_12 : decode cJ3_checkIndex_8e157 12 = .ok (.invokestatic 95, 3) := by decide +kernel
theorem dJ3_checkIndex_8e157_15 : decode cJ3_checkIndex_8e157 15 = .ok (.athrow, 1) := by decide +kernel
theorem dJ3_checkIndex_8e157_16 : decode cJ3_checkIndex_8e157 16 = .ok (.iload_n 0, 1) := by decide +kernel
theorem dJ3_checkIndex_8e157_17 : decode cJ3_checkIndex_8e157 17 = .ok (.ireturn, 1) := by decide +kernel
theorem lkJ0_38 : Cond.fieldLink RJ0 38 RStr "COMPACT_STRINGS" "Z" ∈ BIG := big_of (List.mem_of_getElem? (i := 354) (by decide +kernel)) (by decide +kernel)
theorem lkJ0_1053 : Cond.fieldLink RJ0 1053 fmC fmN fmD ∈ BIG := big_of (List.mem_of_getElem? (i := 370) (by decide +kernel)) (by decide +kernel)
theorem lkJ0_9 : Cond.fieldLink RJ0 9 RStr "value" "[B" ∈ BIG := big_of (List.mem_of_getElem? (i := 1260) (by decide +kernel)) (by decide +kernel)
theorem lkJ0_15 : Cond.fieldLink RJ0 15 RStr "coder" "B" ∈ BIG := big_of (List.mem_of_getElem? (i := 1261) (by decide +kernel)) (by decide +kernel)
theorem lit_n : ∀ i, i < 6 → litN.getD i 0 ≤ 6 := by decide +kernel
section STR
variable {X : CxT} {own : String} {cc : ByteArray} {n L : Nat} {ret : Option FieldType} {pc pc' : Nat} {lv lv' : List (Nat × Value)} {st : List Value} {σ : St}
theorem v_ldcS (C : Cx X RX4 cc n ret L) {i idx : Nat} (hi : i < 6) (hx : litI.getD i 0 = idx) (hd : decode cc pc = .ok (.ldc idx, 2)) (hn : pc + 2 = pc') (kk : V X pc' lv (.ref (100 + i) :: st) σ) : V X pc lv st σ := by
  obtain ⟨p, l, e, s, m, args, below, meth, c, D, cI, ad, nL, lev, P⟩ := X
  subst hn; subst hx
  intro H locs ls hP hS hL
  exact va_ldcS C.1 C.2.1 C.2.2.2.2.2.2.2.1 (C.2.2.2.2.2.2.2.2.2.1.2.2 i hi) hd (kk H locs ls hP hS hL)
theorem v_strV (C : Cx X own cc n ret L) {i idx : Nat} (hi : i < 6) (hlink : Cond.fieldLink own idx RStr "value" "[B" ∈ BIG) (hd : decode cc pc = .ok (.getfield idx, 3)) (hn : pc + 3 = pc') (kk : V X pc' lv (.ref (200 + i) :: st) σ) : V X pc lv (.ref (100 + i) :: st) σ := by
  obtain ⟨p, l, e, s, m, args, below, meth, c, D, cI, ad, nL, lev, P⟩ := X
  subst hn
  intro H locs ls hP hS hL
  exact vk_getf C.1 C.2.1 (C.2.2.2.2.2.2.2.2.2.1.2.1.1.1 i hi).2.2.1 hS C.2.2.2.2.2.2.2.1 (C.2.2.2.2.2.2.2.2.1 _ hlink) (fun _ h => h) hd (kk H locs ls hP hS hL)
theorem v_strC (C : Cx X own cc n ret L) {i idx : Nat} (hi : i < 6) (hlink : Cond.fieldLink own idx RStr "coder" "B" ∈ BIG) (hd : decode cc pc = .ok (.getfield idx, 3)) (hn : pc + 3 = pc') (kk : V X pc' lv (.int 0 :: st) σ) : V X pc lv (.ref (100 + i) :: st) σ := by
  obtain ⟨p, l, e, s, m, args, below, meth, c, D, cI, ad, nL, lev, P⟩ := X
  subst hn
  intro H locs ls hP hS hL
  exact vk_getf C.1 C.2.1 (C.2.2.2.2.2.2.2.2.2.1.2.1.1.1 i hi).2.1 hS C.2.2.2.2.2.2.2.1 (C.2.2.2.2.2.2.2.2.1 _ hlink) (fun _ h => h) hd (kk H locs ls hP hS hL)
theorem v_getCS (C : Cx X own cc n ret L) {idx : Nat} (hlink : Cond.fieldLink own idx RStr "COMPACT_STRINGS" "Z" ∈ BIG) (hd : decode cc pc = .ok (.getstatic idx, 3)) (hn : pc + 3 = pc') (kk : V X pc' lv (.int 1 :: st) σ) : V X pc lv st σ := by
  obtain ⟨p, l, e, s, m, args, below, meth, c, D, cI, ad, nL, lev, P⟩ := X
  subst hn
  intro H locs ls hP hS hL
  exact va_gets C.1 C.2.1 C.2.2.2.2.2.2.2.2.2.1.2.1.2.1 hS C.2.2.2.2.2.2.2.1 (C.2.2.2.2.2.2.2.2.1 _ hlink) (fun _ h => h) hd (kk H locs ls hP hS hL)
theorem v_getFm (C : Cx X own cc n ret L) {idx : Nat} (hlink : Cond.fieldLink own idx fmC fmN fmD ∈ BIG) (hd : decode cc pc = .ok (.getstatic idx, 3)) (hn : pc + 3 = pc') (kk : ∀ v : Value, v = .null ∨ v = .ref 300 → V X pc' lv (v :: st) σ) : V X pc lv st σ := by
  obtain ⟨p, l, e, s, m, args, below, meth, c, D, cI, ad, nL, lev, P⟩ := X
  subst hn
  intro H locs ls hP hS hL
  rcases C.2.2.2.2.2.2.2.2.2.1.2.1.2.2 with hz | hz
  · exact va_gets C.1 C.2.1 hz hS C.2.2.2.2.2.2.2.1 (C.2.2.2.2.2.2.2.2.1 _ hlink) (fun _ h => h) hd (kk .null (Or.inl rfl) H locs ls hP hS hL)
  · exact va_gets C.1 C.2.1 hz hS C.2.2.2.2.2.2.2.1 (C.2.2.2.2.2.2.2.2.1 _ hlink) (fun _ h => h) hd (kk (.ref 300) (Or.inr rfl) H locs ls hP hS hL)
theorem v_slen (C : Cx X own cc n ret L) {i : Nat} (hi : i < 6) (hd : decode cc pc = .ok (.arraylength, 1)) (hn : pc + 1 = pc') (kk : V X pc' lv (.int (nI (litN.getD i 0)) :: st) σ) : V X pc lv (.ref (200 + i) :: st) σ := by
  obtain ⟨p, l, e, s, m, args, below, meth, c, D, cI, ad, nL, lev, P⟩ := X
  subst hn
  intro H locs ls hP hS hL
  exact va_tlen C.1 C.2.1 (C.2.2.2.2.2.2.2.2.2.1.2.1.1.1 i hi).2.2.2 hS rfl hd (kk H locs ls hP hS hL)
def litCh (i j : Nat) : Int32 := (litB.getD i []).getD j 0
theorem v_sld (C : Cx X own cc n ret L) {i j : Nat} (hi : i < 6) (hj : j < litN.getD i 0) (hj2 : j < 2 ^ 31) (hd : decode cc pc = .ok (.baload, 1)) (hn : pc + 1 = pc') (kk : V X pc' lv (.int (litCh i j) :: st) σ) : V X pc lv (.int (nI j) :: .ref (200 + i) :: st) σ := by
  obtain ⟨p, l, e, s, m, args, below, meth, c, D, cI, ad, nL, lev, P⟩ := X
  subst hn
  intro H locs ls hP hS hL
  exact va_tb C.1 C.2.1 (C.2.2.2.2.2.2.2.2.2.1.2.1.1.1 i hi).2.2.2 hS (vp_in_nI hj (by have := lit_n i hi; omega)) (v := .int (litCh i j)) (by rw [nI_clamp hj2]; rfl) hd (kk H locs ls hP hS hL)
theorem v_i2c (C : Cx X own cc n ret L) {x v : Int32} (hv : (x.toUInt32 % 65536).toInt32 = v) (hd : decode cc pc = .ok (.i2c, 1)) (hn : pc + 1 = pc') (kk : V X pc' lv (.int v :: st) σ) : V X pc lv (.int x :: st) σ := by
  obtain ⟨p, l, e, s, m, args, below, meth, c, D, cI, ad, nL, lev, P⟩ := X
  subst hn
  intro H locs ls hP hS hL
  exact lv_i2c C.1 C.2.1 hd hv (kk H locs ls hP hS hL)
theorem v_nret {ty : FieldType} (C : Cx X own cc n (some ty) L) {v : Int32} (hv : narrow ty (.int v) = .int v) (hd : decode cc pc = .ok (.ireturn, 1)) (hp : Pof X (some (.int v)) σ) : V X pc lv [.int v] σ := by
  obtain ⟨p, l, e, s, m, args, below, meth, c, D, cI, ad, nL, lev, P⟩ := X
  intro H locs ls hP hS hL
  exact W.zret C.1 C.2.1 C.2.2.2.2.2.1 hv (fun t ht hW => ⟨⟨some (.int v), σ, rfl, hp, by rw [ht]; exact hP⟩, hS.F ht⟩) hS.2.2 hd C.2.2.2.2.2.2.1
theorem v_popv (C : Cx X own cc n ret L) {a : Value} (hd : decode cc pc = .ok (.pop, 1)) (ha : a.category = 1) (hn : pc + 1 = pc') (kk : V X pc' lv st σ) : V X pc lv (a :: st) σ := v_pop C hd ha hn kk
theorem v_callT {y : MethodName} {bytes : ByteArray} {maxL lev idx : Nat} {ret' : Option FieldType} {As rest : List Value} {P' : Option Value → St → Prop} (C : Cx X own cc n ret L) {i : Nat} (hi : i < 6) (hy : y.cls = RStr) (hct : Ct y bytes maxL ret' lev (.ref (100 + i) :: As) σ P') (hst : st = As.reverse ++ .ref (100 + i) :: rest) (hlev : lev < L) (hmx : maxL ≤ 41)
    (hw : Cond.methodLink own idx y ∈ BIG ∧ Cond.instanceMethod y ∈ BIG ∧ Cond.selects y.cls y y ∈ BIG ∧ Cond.initialized y.cls ∈ BIG ∧ Cond.code y bytes maxL ret' ∈ BIG) (hdesc : dOK y As.length) (hsum : (rest.map fun v => v.category).sum ≤ 8)
    (hd : decode cc pc = .ok (.invokevirtual idx, 3)) (hn : pc + 3 = pc') (kk : ∀ (r : Option Value) (σ' : St), P' r σ' → V X pc' lv (r.toList ++ rest) σ') : V X pc lv st σ := by
  obtain ⟨p, l, e, s, m, args, below, meth, c, D, cI, ad, nL, lev0, P⟩ := X
  obtain ⟨hx, hb, hml, hnL, hle, hr, hlk, hown, hts, hN, hK, hI⟩ := C
  subst hn; subst hst; subst hle
  intro H locs ls hP hS hL
  have cw : CallW (rmL lev0) s args own y.cls idx y bytes maxL ret' (Cond.code y bytes maxL ret' :: BIG) (rmL lev) 0 0 As.length := ⟨callB_of As.length hts (good_code hw.2.2.2.2) rfl rfl rfl (hts _ hw.2.2.2.1) (hts _ hw.1) hdesc ⟨hlev, by show 8 + (maxL + 11) + 60 * lev ≤ 60 * lev0; omega⟩, hts _ hw.2.1, hts _ hw.2.2.1⟩
  refine v_after (rest := rest) (P := P') (D := D) (cI := cI) (ad := ad) (va_runV (As := As.map (cv ad)) (rest := rest.map (cv ad)) (b := ad (100 + i)) ⟨hx, hb, hml, hown, hts⟩ (hct l D cI ad) cw ⟨bw_blind, by rw [hy]; exact vk_recv (N := 6) (i := i) (adK := fun i => ad (100 + i)) hN.2.1.1 hi hS, fun U hU hW => ⟨rfl, by rw [hU]; exact hP, va_K.moved hW.alike hK, nsl_warm hW hU hS hN, hI⟩⟩ rfl (by simp) hL.1 (by simp [cv]) (lv_room (by rw [cv_sum]; exact hsum)) hd ⟨Nat.zero_le _, Nat.zero_le _⟩) hS (fun r σ' H1 locs1 hp hP1 hS1 => ?_)
  exact kk r σ' hp H1 locs1 ls hP1 hS1 hL
end STR
theorem lit_c : ∀ i, i < 6 → ∀ j, j < 7 → ((litCh i j &&& 255).toUInt32 % 65536).toInt32 = litCh i j ∧ narrow .char (.int (litCh i j)) = .int (litCh i j) := by decide +kernel
theorem kJ0_coder (i : Nat) (hi : i < 6) (σ : St) : Ct yJ0_coder_7d493 cJ0_coder_7d493 1 (some .byte) 0 [.ref (100 + i)] σ (fI 0 σ) := by
  refine ct_of plJ0 rfl (Nat.le_of_ble_eq_true rfl) (fun X hX C => ?_)
  show V X 0 [(0, .ref (100 + i))] [] σ
  refine v_getCS C lkJ0_38 dJ0_coder_7d493_0 rfl ?_
  refine v_if_eq (tgt := 13) C dJ0_coder_7d493_3 (by decide) rfl (fun q => absurd q (by decide)) (fun _ => ?_)
  refine v_aload_n C dJ0_coder_7d493_6 rfl rfl rfl ?_
  refine v_strC C hi lkJ0_15 dJ0_coder_7d493_7 rfl ?_
  refine v_goto (tgt := 14) C dJ0_coder_7d493_10 (by decide) ?_
  exact v_nret C rfl dJ0_coder_7d493_14 (by rw [hX]; exact fI_of rfl rfl)
theorem kJ0_isLatin1 (i : Nat) (hi : i < 6) (σ : St) : Ct yJ0_isLatin1_aae02 cJ0_isLatin1_aae02 1 (some .boolean) 0 [.ref (100 + i)] σ (fI 1 σ) := by
  refine ct_of plJ0 rfl (Nat.le_of_ble_eq_true rfl) (fun X hX C => ?_)
  show V X 0 [(0, .ref (100 + i))] [] σ
  refine v_getCS C lkJ0_38 dJ0_isLatin1_aae02_0 rfl ?_
  refine v_if_eq (tgt := 17) C dJ0_isLatin1_aae02_3 (by decide) rfl (fun q => absurd q (by decide)) (fun _ => ?_)
  refine v_aload_n C dJ0_isLatin1_aae02_6 rfl rfl rfl ?_
  refine v_strC C hi lkJ0_15 dJ0_isLatin1_aae02_7 rfl ?_
  refine v_if_ne (tgt := 17) C dJ0_isLatin1_aae02_10 (by decide) rfl (fun q => absurd rfl q) (fun _ => ?_)
  refine v_iconst (v := 1) C dJ0_isLatin1_aae02_13 (by decide) rfl ?_
  refine v_goto (tgt := 18) C dJ0_isLatin1_aae02_14 (by decide) ?_
  exact v_nret C rfl dJ0_isLatin1_aae02_18 (by rw [hX]; exact fI_of rfl rfl)
theorem kJ0_length (i : Nat) (hi : i < 6) (σ : St) : Ct yJ0_length_8abf5 cJ0_length_8abf5 1 (some .int) 1 [.ref (100 + i)] σ (fI (nI (litN.getD i 0)) σ) := by
  refine ct_of plJ0 rfl (Nat.le_of_ble_eq_true rfl) (fun X hX C => ?_)
  show V X 0 [(0, .ref (100 + i))] [] σ
  refine v_aload_n C dJ0_length_8abf5_0 rfl rfl rfl ?_
  refine v_strV C hi lkJ0_9 dJ0_length_8abf5_1 rfl ?_
  refine v_slen C hi dJ0_length_8abf5_4 rfl ?_
  refine v_aload_n C dJ0_length_8abf5_5 rfl rfl rfl ?_
  refine v_callT C hi rfl (As := []) (rest := [.int (nI (litN.getD i 0))]) (kJ0_coder i hi σ) rfl (Nat.le_of_ble_eq_true rfl) (Nat.le_of_ble_eq_true rfl) ⟨mlJ0_335, mfJ0_coder_7d493⟩ dkJ0_coder_7d493 (Nat.le_of_ble_eq_true rfl) dJ0_length_8abf5_6 rfl (kI ?_)
  refine v_ishr C dJ0_length_8abf5_9 rfl ?_
  exact v_iret C dJ0_length_8abf5_10 (by rw [hX]; exact fI_of ((by decide +kernel : ∀ i, i < 6 → nI (litN.getD i 0) >>> ((0 : Int32) &&& 31) = nI (litN.getD i 0)) i hi) rfl)
theorem kJ0_isEmpty (i : Nat) (hi : i < 6) (σ : St) : Ct yJ0_isEmpty_aae02 cJ0_isEmpty_aae02 1 (some .boolean) 0 [.ref (100 + i)] σ (fI (bI (litN.getD i 0 = 0)) σ) := by
  refine ct_of plJ0 rfl (Nat.le_of_ble_eq_true rfl) (fun X hX C => ?_)
  show V X 0 [(0, .ref (100 + i))] [] σ
  have hl := lit_n i hi
  refine v_aload_n C dJ0_isEmpty_aae02_0 rfl rfl rfl ?_
  refine v_strV C hi lkJ0_9 dJ0_isEmpty_aae02_1 rfl ?_
  refine v_slen C hi dJ0_isEmpty_aae02_4 rfl ?_
  refine v_if_ne (tgt := 12) C dJ0_isEmpty_aae02_5 (by decide) rfl (fun q => ?_) (fun q => ?_)
  · have q := mt (nI_eq (a := litN.getD i 0) (b := 0) (by omega) (by omega)).mpr q
    refine v_iconst (v := 0) C dJ0_isEmpty_aae02_12 (by decide) rfl ?_
    exact v_nret C rfl dJ0_isEmpty_aae02_13 (by rw [hX]; exact fI_of (bI_f q) rfl)
  · have q := (nI_eq (a := litN.getD i 0) (b := 0) (by omega) (by omega)).mp q
    refine v_iconst (v := 1) C dJ0_isEmpty_aae02_8 (by decide) rfl ?_
    refine v_goto (tgt := 13) C dJ0_isEmpty_aae02_9 (by decide) ?_
    exact v_nret C rfl dJ0_isEmpty_aae02_13 (by rw [hX]; exact fI_of (bI_t q) rfl)
theorem kJ3_checkIndex (j N : Nat) (f : Value) (hf : f = .null ∨ f = .ref 300) (hj : j < N) (hN : N < 100) (σ : St) : Ct yJ3_checkIndex_8e157 cJ3_checkIndex_8e157 3 (some .int) 0 [.int (nI j), .int (nI N), f] σ (fI (nI j) σ) := by
  refine ct_of plJ3 (by rcases hf with rfl | rfl <;> rfl) (Nat.le_of_ble_eq_true rfl) (fun X hX C => ?_)
  have e : lv_args 0 [.int (nI j), .int (nI N), f] = [(0, .int (nI j)), (1, .int (nI N)), (2, f)] := by rcases hf with rfl | rfl <;> rfl
  rw [e]
  refine v_iload_n C dJ3_checkIndex_8e157_0 rfl rfl rfl ?_
  refine v_if_lt (tgt := 9) C dJ3_checkIndex_8e157_1 (by decide) rfl (fun q => absurd q (nI_pos (by omega))) (fun _ => ?_)
  refine v_iload_n C dJ3_checkIndex_8e157_4 rfl rfl rfl ?_
  refine v_iload_n C dJ3_checkIndex_8e157_5 rfl rfl rfl ?_
  refine v_icmp_lt (tgt := 16) C dJ3_checkIndex_8e157_6 (by decide) rfl (fun _ => ?_) (fun q => absurd ((nI_ltI (a := j) (b := N) (by omega) (by omega)).mpr hj) q)
  refine v_iload_n C dJ3_checkIndex_8e157_16 rfl rfl rfl ?_
  exact v_iret C dJ3_checkIndex_8e157_17 (by rw [hX]; exact fI_of rfl rfl)
theorem kJ0_checkIndex (j N : Nat) (hj : j < N) (hN : N < 100) (σ : St) : Ct yJ0_checkIndex_df160 cJ0_checkIndex_df160 2 none 1 [.int (nI j), .int (nI N)] σ (fV σ) := by
  refine ct_of plJ0 rfl (Nat.le_of_ble_eq_true rfl) (fun X hX C => ?_)
  show V X 0 [(0, .int (nI j)), (1, .int (nI N))] [] σ
  refine v_iload_n C dJ0_checkIndex_df160_0 rfl rfl rfl ?_
  refine v_iload_n C dJ0_checkIndex_df160_1 rfl rfl rfl ?_
  refine v_getFm C lkJ0_1053 dJ0_checkIndex_df160_2 rfl (fun f hf => ?_)
  refine v_callS C (As := [.int (nI j), .int (nI N), f]) (rest := []) (kJ3_checkIndex j N f hf hj hN σ) rfl (Nat.le_of_ble_eq_true rfl) (Nat.le_of_ble_eq_true rfl) ⟨mlJ0_1059, mfJ3_checkIndex_8e157⟩ dkJ3_checkIndex_8e157 (Nat.le_of_ble_eq_true rfl) dJ0_checkIndex_df160_5 rfl (kI ?_)
  refine v_pop C dJ0_checkIndex_df160_8 rfl rfl ?_
  exact v_vret C dJ0_checkIndex_df160_9 (by rw [hX]; exact fV_of rfl)
theorem kJ1_charAt (i j : Nat) (hi : i < 6) (hj : j < litN.getD i 0) (σ : St) : Ct yJ1_charAt_3b067 cJ1_charAt_3b067 2 (some .char) 2 [.ref (200 + i), .int (nI j)] σ (fI (litCh i j) σ) := by
  refine ct_of plJ1 rfl (Nat.le_of_ble_eq_true rfl) (fun X hX C => ?_)
  show V X 0 [(0, .ref (200 + i)), (1, .int (nI j))] [] σ
  have hl := lit_n i hi
  have hc := lit_c i hi j (by omega)
  refine v_iload_n C dJ1_charAt_3b067_0 rfl rfl rfl ?_
  refine v_aload_n C dJ1_charAt_3b067_1 rfl rfl rfl ?_
  refine v_slen C hi dJ1_charAt_3b067_2 rfl ?_
  refine v_callS C (As := [.int (nI j), .int (nI (litN.getD i 0))]) (rest := []) (kJ0_checkIndex j (litN.getD i 0) hj (by omega) σ) rfl (Nat.le_of_ble_eq_true rfl) (Nat.le_of_ble_eq_true rfl) ⟨mlJ1_9, mfJ0_checkIndex_df160⟩ dkJ0_checkIndex_df160 (Nat.le_of_ble_eq_true rfl) dJ1_charAt_3b067_3 rfl (kV ?_)
  refine v_aload_n C dJ1_charAt_3b067_6 rfl rfl rfl ?_
  refine v_iload_n C dJ1_charAt_3b067_7 rfl rfl rfl ?_
  refine v_sld C hi hj (by omega) dJ1_charAt_3b067_8 rfl ?_
  refine v_sipush (v := 255) C dJ1_charAt_3b067_9 (by decide) rfl ?_
  refine v_iand C dJ1_charAt_3b067_12 rfl ?_
  refine v_i2c C hc.1 dJ1_charAt_3b067_13 rfl ?_
  exact v_nret C hc.2 dJ1_charAt_3b067_14 (by rw [hX]; exact fI_of rfl rfl)
theorem kJ0_charAt (i j : Nat) (hi : i < 6) (hj : j < litN.getD i 0) (σ : St) : Ct yJ0_charAt_5068e cJ0_charAt_5068e 2 (some .char) 3 [.ref (100 + i), .int (nI j)] σ (fI (litCh i j) σ) := by
  refine ct_of plJ0 rfl (Nat.le_of_ble_eq_true rfl) (fun X hX C => ?_)
  show V X 0 [(0, .ref (100 + i)), (1, .int (nI j))] [] σ
  have hl := lit_n i hi
  have hc := lit_c i hi j (by omega)
  refine v_aload_n C dJ0_charAt_5068e_0 rfl rfl rfl ?_
  refine v_callT C hi rfl (As := []) (rest := []) (kJ0_isLatin1 i hi σ) rfl (Nat.le_of_ble_eq_true rfl) (Nat.le_of_ble_eq_true rfl) ⟨mlJ0_492, mfJ0_isLatin1_aae02⟩ dkJ0_isLatin1_aae02 (Nat.le_of_ble_eq_true rfl) dJ0_charAt_5068e_1 rfl (kI ?_)
  refine v_if_eq (tgt := 16) C dJ0_charAt_5068e_4 (by decide) rfl (fun q => absurd q (by decide)) (fun _ => ?_)
  refine v_aload_n C dJ0_charAt_5068e_7 rfl rfl rfl ?_
  refine v_strV C hi lkJ0_9 dJ0_charAt_5068e_8 rfl ?_
  refine v_iload_n C dJ0_charAt_5068e_11 rfl rfl rfl ?_
  refine v_callS C (As := [.ref (200 + i), .int (nI j)]) (rest := []) (kJ1_charAt i j hi hj σ) rfl (Nat.le_of_ble_eq_true rfl) (Nat.le_of_ble_eq_true rfl) ⟨mlJ0_495, mfJ1_charAt_3b067⟩ dkJ1_charAt_3b067 (Nat.le_of_ble_eq_true rfl) dJ0_charAt_5068e_12 rfl (kI ?_)
  exact v_nret C hc.2 dJ0_charAt_5068e_15 (by rw [hX]; exact fI_of rfl rfl)
end
