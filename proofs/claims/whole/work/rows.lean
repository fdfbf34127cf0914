section
-- ===== PART A: goes FIRST, ahead of the names: the tables' words, and 'selects' of the private methods out of them =====
/-- a private method of a class that the tables say can be made, by its rows of tables_1 -/
def lw_okq (q : MethodName × Nat) : Prop := (q.1.cls ≠ "java/lang/invoke/MethodHandle" ∧ q.1.cls ≠ "java/lang/invoke/VarHandle") ∧ Cond.instantiable q.1.cls q.2 ∈ tables_1 ∧ Cond.privateMethod q.1 ∈ tables_1 ∧ Cond.instanceMethod q.1 ∈ tables_1
theorem lw_p0 : lw_okq (⟨"BlameIsFurniture$Text", "add", "(I)I"⟩, 2) := ⟨⟨by decide +kernel, by decide +kernel⟩, List.mem_of_getElem? (i := 79) (by decide +kernel), List.mem_of_getElem? (i := 198) (by decide +kernel), List.mem_of_getElem? (i := 199) (by decide +kernel)⟩
theorem lw_p1 : lw_okq (⟨"BlameIsFurniture", "answer", "(I)I"⟩, 9) := ⟨⟨by decide +kernel, by decide +kernel⟩, List.mem_of_getElem? (i := 16) (by decide +kernel), List.mem_of_getElem? (i := 202) (by decide +kernel), List.mem_of_getElem? (i := 203) (by decide +kernel)⟩
theorem lw_p2 : lw_okq (⟨"BlameIsFurniture", "thoughtOfNow", "()LBlameIsFurniture$House;"⟩, 9) := ⟨⟨by decide +kernel, by decide +kernel⟩, List.mem_of_getElem? (i := 16) (by decide +kernel), List.mem_of_getElem? (i := 210) (by decide +kernel), List.mem_of_getElem? (i := 211) (by decide +kernel)⟩
theorem lw_p3 : lw_okq (⟨"BlameIsFurniture$House", "copyFrom", "(LBlameIsFurniture$House;)V"⟩, 10) := ⟨⟨by decide +kernel, by decide +kernel⟩, List.mem_of_getElem? (i := 24) (by decide +kernel), List.mem_of_getElem? (i := 214) (by decide +kernel), List.mem_of_getElem? (i := 215) (by decide +kernel)⟩
theorem lw_p4 : lw_okq (⟨"BlameIsFurniture$Text", "tellInto", "(LBlameIsFurniture$House;)I"⟩, 2) := ⟨⟨by decide +kernel, by decide +kernel⟩, List.mem_of_getElem? (i := 79) (by decide +kernel), List.mem_of_getElem? (i := 221) (by decide +kernel), List.mem_of_getElem? (i := 222) (by decide +kernel)⟩
theorem lw_p5 : lw_okq (⟨"BlameIsFurniture$Text", "firstBadPlace", "()I"⟩, 2) := ⟨⟨by decide +kernel, by decide +kernel⟩, List.mem_of_getElem? (i := 79) (by decide +kernel), List.mem_of_getElem? (i := 225) (by decide +kernel), List.mem_of_getElem? (i := 226) (by decide +kernel)⟩
theorem lw_p6 : lw_okq (⟨"BlameIsFurniture$Text", "letterAt", "(I)I"⟩, 2) := ⟨⟨by decide +kernel, by decide +kernel⟩, List.mem_of_getElem? (i := 79) (by decide +kernel), List.mem_of_getElem? (i := 229) (by decide +kernel), List.mem_of_getElem? (i := 230) (by decide +kernel)⟩
theorem lw_p7 : lw_okq (⟨"BlameIsFurniture$Text", "tellStatement", "(LBlameIsFurniture$House;I)I"⟩, 2) := ⟨⟨by decide +kernel, by decide +kernel⟩, List.mem_of_getElem? (i := 79) (by decide +kernel), List.mem_of_getElem? (i := 300) (by decide +kernel), List.mem_of_getElem? (i := 301) (by decide +kernel)⟩
theorem lw_p8 : lw_okq (⟨"BlameIsFurniture$Text", "digitAt", "(I)I"⟩, 2) := ⟨⟨by decide +kernel, by decide +kernel⟩, List.mem_of_getElem? (i := 79) (by decide +kernel), List.mem_of_getElem? (i := 304) (by decide +kernel), List.mem_of_getElem? (i := 305) (by decide +kernel)⟩
theorem lw_p9 : lw_okq (⟨"BlameIsFurniture$Text", "numberAt", "(I)I"⟩, 2) := ⟨⟨by decide +kernel, by decide +kernel⟩, List.mem_of_getElem? (i := 79) (by decide +kernel), List.mem_of_getElem? (i := 308) (by decide +kernel), List.mem_of_getElem? (i := 309) (by decide +kernel)⟩
theorem lw_p10 : lw_okq (⟨"BlameIsFurniture$House", "addPiece", "(IIII)I"⟩, 10) := ⟨⟨by decide +kernel, by decide +kernel⟩, List.mem_of_getElem? (i := 24) (by decide +kernel), List.mem_of_getElem? (i := 312) (by decide +kernel), List.mem_of_getElem? (i := 313) (by decide +kernel)⟩
theorem lw_p11 : lw_okq (⟨"BlameIsFurniture$House", "carryTo", "(II)I"⟩, 10) := ⟨⟨by decide +kernel, by decide +kernel⟩, List.mem_of_getElem? (i := 24) (by decide +kernel), List.mem_of_getElem? (i := 316) (by decide +kernel), List.mem_of_getElem? (i := 317) (by decide +kernel)⟩
theorem lw_p12 : lw_okq (⟨"BlameIsFurniture$House", "hasPiece", "(I)Z"⟩, 10) := ⟨⟨by decide +kernel, by decide +kernel⟩, List.mem_of_getElem? (i := 24) (by decide +kernel), List.mem_of_getElem? (i := 320) (by decide +kernel), List.mem_of_getElem? (i := 321) (by decide +kernel)⟩
theorem lw_p13 : lw_okq (⟨"BlameIsFurniture$House", "canBeCarried", "(II)Z"⟩, 10) := ⟨⟨by decide +kernel, by decide +kernel⟩, List.mem_of_getElem? (i := 24) (by decide +kernel), List.mem_of_getElem? (i := 330) (by decide +kernel), List.mem_of_getElem? (i := 331) (by decide +kernel)⟩
theorem lw_p14 : lw_okq (⟨"BlameIsFurniture$House", "hasSpace", "(II)Z"⟩, 10) := ⟨⟨by decide +kernel, by decide +kernel⟩, List.mem_of_getElem? (i := 24) (by decide +kernel), List.mem_of_getElem? (i := 334) (by decide +kernel), List.mem_of_getElem? (i := 335) (by decide +kernel)⟩
theorem lw_p15 : lw_okq (⟨"BlameIsFurniture$House", "bulkIn", "(I)I"⟩, 10) := ⟨⟨by decide +kernel, by decide +kernel⟩, List.mem_of_getElem? (i := 24) (by decide +kernel), List.mem_of_getElem? (i := 339) (by decide +kernel), List.mem_of_getElem? (i := 340) (by decide +kernel)⟩
def lw_privs_1 : List (MethodName × Nat) := [(⟨"BlameIsFurniture$Text", "add", "(I)I"⟩, 2), (⟨"BlameIsFurniture", "answer", "(I)I"⟩, 9), (⟨"BlameIsFurniture", "thoughtOfNow", "()LBlameIsFurniture$House;"⟩, 9), (⟨"BlameIsFurniture$House", "copyFrom", "(LBlameIsFurniture$House;)V"⟩, 10), (⟨"BlameIsFurniture$Text", "tellInto", "(LBlameIsFurniture$House;)I"⟩, 2), (⟨"BlameIsFurniture$Text", "firstBadPlace", "()I"⟩, 2), (⟨"BlameIsFurniture$Text", "letterAt", "(I)I"⟩, 2), (⟨"BlameIsFurniture$Text", "tellStatement", "(LBlameIsFurniture$House;I)I"⟩, 2), (⟨"BlameIsFurniture$Text", "digitAt", "(I)I"⟩, 2), (⟨"BlameIsFurniture$Text", "numberAt", "(I)I"⟩, 2), (⟨"BlameIsFurniture$House", "addPiece", "(IIII)I"⟩, 10), (⟨"BlameIsFurniture$House", "carryTo", "(II)I"⟩, 10), (⟨"BlameIsFurniture$House", "hasPiece", "(I)Z"⟩, 10), (⟨"BlameIsFurniture$House", "canBeCarried", "(II)Z"⟩, 10), (⟨"BlameIsFurniture$House", "hasSpace", "(II)Z"⟩, 10), (⟨"BlameIsFurniture$House", "bulkIn", "(I)I"⟩, 10)]
theorem lw_r1 : ∀ q ∈ lw_privs_1, lw_okq q := List.forall_mem_cons.mpr ⟨lw_p0, List.forall_mem_cons.mpr ⟨lw_p1, List.forall_mem_cons.mpr ⟨lw_p2, List.forall_mem_cons.mpr ⟨lw_p3, List.forall_mem_cons.mpr ⟨lw_p4, List.forall_mem_cons.mpr ⟨lw_p5, List.forall_mem_cons.mpr ⟨lw_p6, List.forall_mem_cons.mpr ⟨lw_p7, List.forall_mem_cons.mpr ⟨lw_p8, List.forall_mem_cons.mpr ⟨lw_p9, List.forall_mem_cons.mpr ⟨lw_p10, List.forall_mem_cons.mpr ⟨lw_p11, List.forall_mem_cons.mpr ⟨lw_p12, List.forall_mem_cons.mpr ⟨lw_p13, List.forall_mem_cons.mpr ⟨lw_p14, List.forall_mem_cons.mpr ⟨lw_p15, fun _ h => absurd h List.not_mem_nil⟩⟩⟩⟩⟩⟩⟩⟩⟩⟩⟩⟩⟩⟩⟩⟩
theorem lw_p16 : lw_okq (⟨"BlameIsFurniture$House", "passesStairs", "(II)Z"⟩, 10) := ⟨⟨by decide +kernel, by decide +kernel⟩, List.mem_of_getElem? (i := 24) (by decide +kernel), List.mem_of_getElem? (i := 343) (by decide +kernel), List.mem_of_getElem? (i := 344) (by decide +kernel)⟩
theorem lw_p17 : lw_okq (⟨"BlameIsFurniture$House", "wideOfPiece", "(I)I"⟩, 10) := ⟨⟨by decide +kernel, by decide +kernel⟩, List.mem_of_getElem? (i := 24) (by decide +kernel), List.mem_of_getElem? (i := 347) (by decide +kernel), List.mem_of_getElem? (i := 348) (by decide +kernel)⟩
theorem lw_p18 : lw_okq (⟨"BlameIsFurniture$House", "resize", "(II)I"⟩, 10) := ⟨⟨by decide +kernel, by decide +kernel⟩, List.mem_of_getElem? (i := 24) (by decide +kernel), List.mem_of_getElem? (i := 357) (by decide +kernel), List.mem_of_getElem? (i := 358) (by decide +kernel)⟩
theorem lw_p19 : lw_okq (⟨"BlameIsFurniture$House", "widen", "(II)I"⟩, 10) := ⟨⟨by decide +kernel, by decide +kernel⟩, List.mem_of_getElem? (i := 24) (by decide +kernel), List.mem_of_getElem? (i := 364) (by decide +kernel), List.mem_of_getElem? (i := 365) (by decide +kernel)⟩
theorem lw_p20 : lw_okq (⟨"BlameIsFurniture$House", "nameHeirs", "(I)I"⟩, 10) := ⟨⟨by decide +kernel, by decide +kernel⟩, List.mem_of_getElem? (i := 24) (by decide +kernel), List.mem_of_getElem? (i := 371) (by decide +kernel), List.mem_of_getElem? (i := 372) (by decide +kernel)⟩
theorem lw_p21 : lw_okq (⟨"BlameIsFurniture$House", "letYearsGoBy", "(I)I"⟩, 10) := ⟨⟨by decide +kernel, by decide +kernel⟩, List.mem_of_getElem? (i := 24) (by decide +kernel), List.mem_of_getElem? (i := 375) (by decide +kernel), List.mem_of_getElem? (i := 376) (by decide +kernel)⟩
theorem lw_p22 : lw_okq (⟨"BlameIsFurniture$House", "passYear", "()V"⟩, 10) := ⟨⟨by decide +kernel, by decide +kernel⟩, List.mem_of_getElem? (i := 24) (by decide +kernel), List.mem_of_getElem? (i := 379) (by decide +kernel), List.mem_of_getElem? (i := 380) (by decide +kernel)⟩
theorem lw_p23 : lw_okq (⟨"BlameIsFurniture$House", "polishPiece", "(I)I"⟩, 10) := ⟨⟨by decide +kernel, by decide +kernel⟩, List.mem_of_getElem? (i := 24) (by decide +kernel), List.mem_of_getElem? (i := 383) (by decide +kernel), List.mem_of_getElem? (i := 384) (by decide +kernel)⟩
theorem lw_p24 : lw_okq (⟨"BlameIsFurniture$Text", "clear", "()V"⟩, 2) := ⟨⟨by decide +kernel, by decide +kernel⟩, List.mem_of_getElem? (i := 79) (by decide +kernel), List.mem_of_getElem? (i := 387) (by decide +kernel), List.mem_of_getElem? (i := 388) (by decide +kernel)⟩
theorem lw_p25 : lw_okq (⟨"BlameIsFurniture$House", "told", "(II)I"⟩, 10) := ⟨⟨by decide +kernel, by decide +kernel⟩, List.mem_of_getElem? (i := 24) (by decide +kernel), List.mem_of_getElem? (i := 396) (by decide +kernel), List.mem_of_getElem? (i := 397) (by decide +kernel)⟩
theorem lw_p26 : lw_okq (⟨"BlameIsFurniture$House", "blameOfPiece", "(I)I"⟩, 10) := ⟨⟨by decide +kernel, by decide +kernel⟩, List.mem_of_getElem? (i := 24) (by decide +kernel), List.mem_of_getElem? (i := 400) (by decide +kernel), List.mem_of_getElem? (i := 401) (by decide +kernel)⟩
theorem lw_p27 : lw_okq (⟨"BlameIsFurniture$House", "blameOfSuite", "(I)I"⟩, 10) := ⟨⟨by decide +kernel, by decide +kernel⟩, List.mem_of_getElem? (i := 24) (by decide +kernel), List.mem_of_getElem? (i := 404) (by decide +kernel), List.mem_of_getElem? (i := 405) (by decide +kernel)⟩
theorem lw_p28 : lw_okq (⟨"BlameIsFurniture$House", "companyOf", "(I)I"⟩, 10) := ⟨⟨by decide +kernel, by decide +kernel⟩, List.mem_of_getElem? (i := 24) (by decide +kernel), List.mem_of_getElem? (i := 408) (by decide +kernel), List.mem_of_getElem? (i := 409) (by decide +kernel)⟩
theorem lw_p29 : lw_okq (⟨"BlameIsFurniture$House", "blameOfVeneer", "(I)I"⟩, 10) := ⟨⟨by decide +kernel, by decide +kernel⟩, List.mem_of_getElem? (i := 24) (by decide +kernel), List.mem_of_getElem? (i := 412) (by decide +kernel), List.mem_of_getElem? (i := 413) (by decide +kernel)⟩
theorem lw_p30 : lw_okq (⟨"BlameIsFurniture$House", "blameOfAll", "()I"⟩, 10) := ⟨⟨by decide +kernel, by decide +kernel⟩, List.mem_of_getElem? (i := 24) (by decide +kernel), List.mem_of_getElem? (i := 457) (by decide +kernel), List.mem_of_getElem? (i := 458) (by decide +kernel)⟩
theorem lw_p31 : lw_okq (⟨"BlameIsFurniture$House", "blameIn", "(I)I"⟩, 10) := ⟨⟨by decide +kernel, by decide +kernel⟩, List.mem_of_getElem? (i := 24) (by decide +kernel), List.mem_of_getElem? (i := 461) (by decide +kernel), List.mem_of_getElem? (i := 462) (by decide +kernel)⟩
def lw_privs_2 : List (MethodName × Nat) := [(⟨"BlameIsFurniture$House", "passesStairs", "(II)Z"⟩, 10), (⟨"BlameIsFurniture$House", "wideOfPiece", "(I)I"⟩, 10), (⟨"BlameIsFurniture$House", "resize", "(II)I"⟩, 10), (⟨"BlameIsFurniture$House", "widen", "(II)I"⟩, 10), (⟨"BlameIsFurniture$House", "nameHeirs", "(I)I"⟩, 10), (⟨"BlameIsFurniture$House", "letYearsGoBy", "(I)I"⟩, 10), (⟨"BlameIsFurniture$House", "passYear", "()V"⟩, 10), (⟨"BlameIsFurniture$House", "polishPiece", "(I)I"⟩, 10), (⟨"BlameIsFurniture$Text", "clear", "()V"⟩, 2), (⟨"BlameIsFurniture$House", "told", "(II)I"⟩, 10), (⟨"BlameIsFurniture$House", "blameOfPiece", "(I)I"⟩, 10), (⟨"BlameIsFurniture$House", "blameOfSuite", "(I)I"⟩, 10), (⟨"BlameIsFurniture$House", "companyOf", "(I)I"⟩, 10), (⟨"BlameIsFurniture$House", "blameOfVeneer", "(I)I"⟩, 10), (⟨"BlameIsFurniture$House", "blameOfAll", "()I"⟩, 10), (⟨"BlameIsFurniture$House", "blameIn", "(I)I"⟩, 10)]
theorem lw_r2 : ∀ q ∈ lw_privs_2, lw_okq q := List.forall_mem_cons.mpr ⟨lw_p16, List.forall_mem_cons.mpr ⟨lw_p17, List.forall_mem_cons.mpr ⟨lw_p18, List.forall_mem_cons.mpr ⟨lw_p19, List.forall_mem_cons.mpr ⟨lw_p20, List.forall_mem_cons.mpr ⟨lw_p21, List.forall_mem_cons.mpr ⟨lw_p22, List.forall_mem_cons.mpr ⟨lw_p23, List.forall_mem_cons.mpr ⟨lw_p24, List.forall_mem_cons.mpr ⟨lw_p25, List.forall_mem_cons.mpr ⟨lw_p26, List.forall_mem_cons.mpr ⟨lw_p27, List.forall_mem_cons.mpr ⟨lw_p28, List.forall_mem_cons.mpr ⟨lw_p29, List.forall_mem_cons.mpr ⟨lw_p30, List.forall_mem_cons.mpr ⟨lw_p31, fun _ h => absurd h List.not_mem_nil⟩⟩⟩⟩⟩⟩⟩⟩⟩⟩⟩⟩⟩⟩⟩⟩
theorem lw_p32 : lw_okq (⟨"BlameIsFurniture$House", "worstRoom", "()I"⟩, 10) := ⟨⟨by decide +kernel, by decide +kernel⟩, List.mem_of_getElem? (i := 24) (by decide +kernel), List.mem_of_getElem? (i := 469) (by decide +kernel), List.mem_of_getElem? (i := 470) (by decide +kernel)⟩
theorem lw_p33 : lw_okq (⟨"BlameIsFurniture$Placing", "search", "(IZ)I"⟩, 5) := ⟨⟨by decide +kernel, by decide +kernel⟩, List.mem_of_getElem? (i := 107) (by decide +kernel), List.mem_of_getElem? (i := 483) (by decide +kernel), List.mem_of_getElem? (i := 484) (by decide +kernel)⟩
theorem lw_p34 : lw_okq (⟨"BlameIsFurniture$House", "emptyRooms", "()V"⟩, 10) := ⟨⟨by decide +kernel, by decide +kernel⟩, List.mem_of_getElem? (i := 24) (by decide +kernel), List.mem_of_getElem? (i := 487) (by decide +kernel), List.mem_of_getElem? (i := 488) (by decide +kernel)⟩
theorem lw_p35 : lw_okq (⟨"BlameIsFurniture$Placing", "keep", "(I)V"⟩, 5) := ⟨⟨by decide +kernel, by decide +kernel⟩, List.mem_of_getElem? (i := 107) (by decide +kernel), List.mem_of_getElem? (i := 494) (by decide +kernel), List.mem_of_getElem? (i := 495) (by decide +kernel)⟩
theorem lw_p36 : lw_okq (⟨"BlameIsFurniture$Placing", "mayStand", "(II)Z"⟩, 5) := ⟨⟨by decide +kernel, by decide +kernel⟩, List.mem_of_getElem? (i := 107) (by decide +kernel), List.mem_of_getElem? (i := 499) (by decide +kernel), List.mem_of_getElem? (i := 500) (by decide +kernel)⟩
theorem lw_p37 : lw_okq (⟨"BlameIsFurniture$Placing", "costWith", "(II)I"⟩, 5) := ⟨⟨by decide +kernel, by decide +kernel⟩, List.mem_of_getElem? (i := 107) (by decide +kernel), List.mem_of_getElem? (i := 504) (by decide +kernel), List.mem_of_getElem? (i := 505) (by decide +kernel)⟩
theorem lw_p38 : lw_okq (⟨"BlameIsFurniture$House", "piecesIn", "(I)I"⟩, 10) := ⟨⟨by decide +kernel, by decide +kernel⟩, List.mem_of_getElem? (i := 24) (by decide +kernel), List.mem_of_getElem? (i := 508) (by decide +kernel), List.mem_of_getElem? (i := 509) (by decide +kernel)⟩
theorem lw_p39 : lw_okq (⟨"BlameIsFurniture$Placing", "roomOf", "(I)I"⟩, 5) := ⟨⟨by decide +kernel, by decide +kernel⟩, List.mem_of_getElem? (i := 107) (by decide +kernel), List.mem_of_getElem? (i := 514) (by decide +kernel), List.mem_of_getElem? (i := 515) (by decide +kernel)⟩
theorem lw_p40 : lw_okq (⟨"BlameIsFurniture$Sharing", "shareFairly", "(LBlameIsFurniture$House;)V"⟩, 9) := ⟨⟨by decide +kernel, by decide +kernel⟩, List.mem_of_getElem? (i := 130) (by decide +kernel), List.mem_of_getElem? (i := 533) (by decide +kernel), List.mem_of_getElem? (i := 534) (by decide +kernel)⟩
theorem lw_p41 : lw_okq (⟨"BlameIsFurniture$Sharing", "begin", "(LBlameIsFurniture$House;)V"⟩, 9) := ⟨⟨by decide +kernel, by decide +kernel⟩, List.mem_of_getElem? (i := 130) (by decide +kernel), List.mem_of_getElem? (i := 537) (by decide +kernel), List.mem_of_getElem? (i := 538) (by decide +kernel)⟩
theorem lw_p42 : lw_okq (⟨"BlameIsFurniture$Sharing", "keepIfFairer", "()V"⟩, 9) := ⟨⟨by decide +kernel, by decide +kernel⟩, List.mem_of_getElem? (i := 130) (by decide +kernel), List.mem_of_getElem? (i := 550) (by decide +kernel), List.mem_of_getElem? (i := 551) (by decide +kernel)⟩
theorem lw_p43 : lw_okq (⟨"BlameIsFurniture$Sharing", "spread", "()I"⟩, 9) := ⟨⟨by decide +kernel, by decide +kernel⟩, List.mem_of_getElem? (i := 130) (by decide +kernel), List.mem_of_getElem? (i := 554) (by decide +kernel), List.mem_of_getElem? (i := 555) (by decide +kernel)⟩
theorem lw_p44 : lw_okq (⟨"BlameIsFurniture$Sharing", "richest", "()I"⟩, 9) := ⟨⟨by decide +kernel, by decide +kernel⟩, List.mem_of_getElem? (i := 130) (by decide +kernel), List.mem_of_getElem? (i := 558) (by decide +kernel), List.mem_of_getElem? (i := 559) (by decide +kernel)⟩
theorem lw_p45 : lw_okq (⟨"BlameIsFurniture$Sharing", "poorest", "()I"⟩, 9) := ⟨⟨by decide +kernel, by decide +kernel⟩, List.mem_of_getElem? (i := 130) (by decide +kernel), List.mem_of_getElem? (i := 562) (by decide +kernel), List.mem_of_getElem? (i := 563) (by decide +kernel)⟩
theorem lw_p46 : lw_okq (⟨"BlameIsFurniture$Sharing", "give", "(II)V"⟩, 9) := ⟨⟨by decide +kernel, by decide +kernel⟩, List.mem_of_getElem? (i := 130) (by decide +kernel), List.mem_of_getElem? (i := 567) (by decide +kernel), List.mem_of_getElem? (i := 568) (by decide +kernel)⟩
theorem lw_p47 : lw_okq (⟨"BlameIsFurniture$Sharing", "canBeFairer", "(I)Z"⟩, 9) := ⟨⟨by decide +kernel, by decide +kernel⟩, List.mem_of_getElem? (i := 130) (by decide +kernel), List.mem_of_getElem? (i := 571) (by decide +kernel), List.mem_of_getElem? (i := 572) (by decide +kernel)⟩
def lw_privs_3 : List (MethodName × Nat) := [(⟨"BlameIsFurniture$House", "worstRoom", "()I"⟩, 10), (⟨"BlameIsFurniture$Placing", "search", "(IZ)I"⟩, 5), (⟨"BlameIsFurniture$House", "emptyRooms", "()V"⟩, 10), (⟨"BlameIsFurniture$Placing", "keep", "(I)V"⟩, 5), (⟨"BlameIsFurniture$Placing", "mayStand", "(II)Z"⟩, 5), (⟨"BlameIsFurniture$Placing", "costWith", "(II)I"⟩, 5), (⟨"BlameIsFurniture$House", "piecesIn", "(I)I"⟩, 10), (⟨"BlameIsFurniture$Placing", "roomOf", "(I)I"⟩, 5), (⟨"BlameIsFurniture$Sharing", "shareFairly", "(LBlameIsFurniture$House;)V"⟩, 9), (⟨"BlameIsFurniture$Sharing", "begin", "(LBlameIsFurniture$House;)V"⟩, 9), (⟨"BlameIsFurniture$Sharing", "keepIfFairer", "()V"⟩, 9), (⟨"BlameIsFurniture$Sharing", "spread", "()I"⟩, 9), (⟨"BlameIsFurniture$Sharing", "richest", "()I"⟩, 9), (⟨"BlameIsFurniture$Sharing", "poorest", "()I"⟩, 9), (⟨"BlameIsFurniture$Sharing", "give", "(II)V"⟩, 9), (⟨"BlameIsFurniture$Sharing", "canBeFairer", "(I)Z"⟩, 9)]
theorem lw_r3 : ∀ q ∈ lw_privs_3, lw_okq q := List.forall_mem_cons.mpr ⟨lw_p32, List.forall_mem_cons.mpr ⟨lw_p33, List.forall_mem_cons.mpr ⟨lw_p34, List.forall_mem_cons.mpr ⟨lw_p35, List.forall_mem_cons.mpr ⟨lw_p36, List.forall_mem_cons.mpr ⟨lw_p37, List.forall_mem_cons.mpr ⟨lw_p38, List.forall_mem_cons.mpr ⟨lw_p39, List.forall_mem_cons.mpr ⟨lw_p40, List.forall_mem_cons.mpr ⟨lw_p41, List.forall_mem_cons.mpr ⟨lw_p42, List.forall_mem_cons.mpr ⟨lw_p43, List.forall_mem_cons.mpr ⟨lw_p44, List.forall_mem_cons.mpr ⟨lw_p45, List.forall_mem_cons.mpr ⟨lw_p46, List.forall_mem_cons.mpr ⟨lw_p47, fun _ h => absurd h List.not_mem_nil⟩⟩⟩⟩⟩⟩⟩⟩⟩⟩⟩⟩⟩⟩⟩⟩
theorem lw_p48 : lw_okq (⟨"BlameIsFurniture$Sharing", "takeBack", "(II)V"⟩, 9) := ⟨⟨by decide +kernel, by decide +kernel⟩, List.mem_of_getElem? (i := 130) (by decide +kernel), List.mem_of_getElem? (i := 575) (by decide +kernel), List.mem_of_getElem? (i := 576) (by decide +kernel)⟩
theorem lw_p49 : lw_okq (⟨"BlameIsFurniture$Sharing", "spreadOrHeirOf", "(I)I"⟩, 9) := ⟨⟨by decide +kernel, by decide +kernel⟩, List.mem_of_getElem? (i := 130) (by decide +kernel), List.mem_of_getElem? (i := 579) (by decide +kernel), List.mem_of_getElem? (i := 580) (by decide +kernel)⟩
theorem lw_p50 : lw_okq (⟨"BlameIsFurniture$Sharing", "dealOut", "(LBlameIsFurniture$House;)V"⟩, 9) := ⟨⟨by decide +kernel, by decide +kernel⟩, List.mem_of_getElem? (i := 130) (by decide +kernel), List.mem_of_getElem? (i := 587) (by decide +kernel), List.mem_of_getElem? (i := 588) (by decide +kernel)⟩
theorem lw_p51 : lw_okq (⟨"BlameIsFurniture$Sharing", "envied", "()I"⟩, 9) := ⟨⟨by decide +kernel, by decide +kernel⟩, List.mem_of_getElem? (i := 130) (by decide +kernel), List.mem_of_getElem? (i := 595) (by decide +kernel), List.mem_of_getElem? (i := 596) (by decide +kernel)⟩
theorem lw_p52 : lw_okq (⟨"BlameIsFurniture$Sharing", "chooseInTurn", "(LBlameIsFurniture$House;)V"⟩, 9) := ⟨⟨by decide +kernel, by decide +kernel⟩, List.mem_of_getElem? (i := 130) (by decide +kernel), List.mem_of_getElem? (i := 603) (by decide +kernel), List.mem_of_getElem? (i := 604) (by decide +kernel)⟩
theorem lw_p53 : lw_okq (⟨"BlameIsFurniture$Sharing", "leastOfLeft", "()I"⟩, 9) := ⟨⟨by decide +kernel, by decide +kernel⟩, List.mem_of_getElem? (i := 130) (by decide +kernel), List.mem_of_getElem? (i := 607) (by decide +kernel), List.mem_of_getElem? (i := 608) (by decide +kernel)⟩
theorem lw_p54 : lw_okq (⟨"BlameIsFurniture$Sharing", "shareOf", "(I)I"⟩, 9) := ⟨⟨by decide +kernel, by decide +kernel⟩, List.mem_of_getElem? (i := 130) (by decide +kernel), List.mem_of_getElem? (i := 611) (by decide +kernel), List.mem_of_getElem? (i := 612) (by decide +kernel)⟩
theorem lw_p55 : lw_okq (⟨"BlameIsFurniture", "blameWithout", "(I)I"⟩, 9) := ⟨⟨by decide +kernel, by decide +kernel⟩, List.mem_of_getElem? (i := 16) (by decide +kernel), List.mem_of_getElem? (i := 619) (by decide +kernel), List.mem_of_getElem? (i := 620) (by decide +kernel)⟩
theorem lw_p56 : lw_okq (⟨"BlameIsFurniture$House", "removePiece", "(I)V"⟩, 10) := ⟨⟨by decide +kernel, by decide +kernel⟩, List.mem_of_getElem? (i := 24) (by decide +kernel), List.mem_of_getElem? (i := 623) (by decide +kernel), List.mem_of_getElem? (i := 624) (by decide +kernel)⟩
theorem lw_p57 : lw_okq (⟨"BlameIsFurniture", "blameWithoutBoth", "(II)I"⟩, 9) := ⟨⟨by decide +kernel, by decide +kernel⟩, List.mem_of_getElem? (i := 16) (by decide +kernel), List.mem_of_getElem? (i := 631) (by decide +kernel), List.mem_of_getElem? (i := 632) (by decide +kernel)⟩
theorem lw_p58 : lw_okq (⟨"BlameIsFurniture", "blameWithFault", "(II)I"⟩, 9) := ⟨⟨by decide +kernel, by decide +kernel⟩, List.mem_of_getElem? (i := 16) (by decide +kernel), List.mem_of_getElem? (i := 639) (by decide +kernel), List.mem_of_getElem? (i := 640) (by decide +kernel)⟩
theorem lw_p59 : lw_okq (⟨"BlameIsFurniture", "anotherFaultMakes", "(II)Z"⟩, 9) := ⟨⟨by decide +kernel, by decide +kernel⟩, List.mem_of_getElem? (i := 16) (by decide +kernel), List.mem_of_getElem? (i := 657) (by decide +kernel), List.mem_of_getElem? (i := 658) (by decide +kernel)⟩
theorem lw_p60 : lw_okq (⟨"BlameIsFurniture", "lesserOfBothFaults", "(II)I"⟩, 9) := ⟨⟨by decide +kernel, by decide +kernel⟩, List.mem_of_getElem? (i := 16) (by decide +kernel), List.mem_of_getElem? (i := 665) (by decide +kernel), List.mem_of_getElem? (i := 666) (by decide +kernel)⟩
theorem lw_p61 : lw_okq (⟨"BlameIsFurniture$Row", "add", "(I)I"⟩, 2) := ⟨⟨by decide +kernel, by decide +kernel⟩, List.mem_of_getElem? (i := 93) (by decide +kernel), List.mem_of_getElem? (i := 688) (by decide +kernel), List.mem_of_getElem? (i := 689) (by decide +kernel)⟩
theorem lw_p62 : lw_okq (⟨"BlameIsFurniture$Row", "firstWrong", "(LBlameIsFurniture$House;)I"⟩, 2) := ⟨⟨by decide +kernel, by decide +kernel⟩, List.mem_of_getElem? (i := 93) (by decide +kernel), List.mem_of_getElem? (i := 696) (by decide +kernel), List.mem_of_getElem? (i := 697) (by decide +kernel)⟩
theorem lw_p63 : lw_okq (⟨"BlameIsFurniture$Row", "clear", "()V"⟩, 2) := ⟨⟨by decide +kernel, by decide +kernel⟩, List.mem_of_getElem? (i := 93) (by decide +kernel), List.mem_of_getElem? (i := 707) (by decide +kernel), List.mem_of_getElem? (i := 708) (by decide +kernel)⟩
def lw_privs_4 : List (MethodName × Nat) := [(⟨"BlameIsFurniture$Sharing", "takeBack", "(II)V"⟩, 9), (⟨"BlameIsFurniture$Sharing", "spreadOrHeirOf", "(I)I"⟩, 9), (⟨"BlameIsFurniture$Sharing", "dealOut", "(LBlameIsFurniture$House;)V"⟩, 9), (⟨"BlameIsFurniture$Sharing", "envied", "()I"⟩, 9), (⟨"BlameIsFurniture$Sharing", "chooseInTurn", "(LBlameIsFurniture$House;)V"⟩, 9), (⟨"BlameIsFurniture$Sharing", "leastOfLeft", "()I"⟩, 9), (⟨"BlameIsFurniture$Sharing", "shareOf", "(I)I"⟩, 9), (⟨"BlameIsFurniture", "blameWithout", "(I)I"⟩, 9), (⟨"BlameIsFurniture$House", "removePiece", "(I)V"⟩, 10), (⟨"BlameIsFurniture", "blameWithoutBoth", "(II)I"⟩, 9), (⟨"BlameIsFurniture", "blameWithFault", "(II)I"⟩, 9), (⟨"BlameIsFurniture", "anotherFaultMakes", "(II)Z"⟩, 9), (⟨"BlameIsFurniture", "lesserOfBothFaults", "(II)I"⟩, 9), (⟨"BlameIsFurniture$Row", "add", "(I)I"⟩, 2), (⟨"BlameIsFurniture$Row", "firstWrong", "(LBlameIsFurniture$House;)I"⟩, 2), (⟨"BlameIsFurniture$Row", "clear", "()V"⟩, 2)]
theorem lw_r4 : ∀ q ∈ lw_privs_4, lw_okq q := List.forall_mem_cons.mpr ⟨lw_p48, List.forall_mem_cons.mpr ⟨lw_p49, List.forall_mem_cons.mpr ⟨lw_p50, List.forall_mem_cons.mpr ⟨lw_p51, List.forall_mem_cons.mpr ⟨lw_p52, List.forall_mem_cons.mpr ⟨lw_p53, List.forall_mem_cons.mpr ⟨lw_p54, List.forall_mem_cons.mpr ⟨lw_p55, List.forall_mem_cons.mpr ⟨lw_p56, List.forall_mem_cons.mpr ⟨lw_p57, List.forall_mem_cons.mpr ⟨lw_p58, List.forall_mem_cons.mpr ⟨lw_p59, List.forall_mem_cons.mpr ⟨lw_p60, List.forall_mem_cons.mpr ⟨lw_p61, List.forall_mem_cons.mpr ⟨lw_p62, List.forall_mem_cons.mpr ⟨lw_p63, fun _ h => absurd h List.not_mem_nil⟩⟩⟩⟩⟩⟩⟩⟩⟩⟩⟩⟩⟩⟩⟩⟩
theorem lw_p64 : lw_okq (⟨"BlameIsFurnitureModel", "no", "(I)I"⟩, 28) := ⟨⟨by decide +kernel, by decide +kernel⟩, List.mem_of_getElem? (i := 738) (by decide +kernel), List.mem_of_getElem? (i := 836) (by decide +kernel), List.mem_of_getElem? (i := 837) (by decide +kernel)⟩
theorem lw_p65 : lw_okq (⟨"BlameIsFurnitureModel", "statement", "()Z"⟩, 28) := ⟨⟨by decide +kernel, by decide +kernel⟩, List.mem_of_getElem? (i := 738) (by decide +kernel), List.mem_of_getElem? (i := 844) (by decide +kernel), List.mem_of_getElem? (i := 845) (by decide +kernel)⟩
theorem lw_p66 : lw_okq (⟨"BlameIsFurnitureModel", "next", "()I"⟩, 28) := ⟨⟨by decide +kernel, by decide +kernel⟩, List.mem_of_getElem? (i := 738) (by decide +kernel), List.mem_of_getElem? (i := 848) (by decide +kernel), List.mem_of_getElem? (i := 849) (by decide +kernel)⟩
theorem lw_p67 : lw_okq (⟨"BlameIsFurnitureModel", "readsAll", "(II)Z"⟩, 28) := ⟨⟨by decide +kernel, by decide +kernel⟩, List.mem_of_getElem? (i := 738) (by decide +kernel), List.mem_of_getElem? (i := 855) (by decide +kernel), List.mem_of_getElem? (i := 856) (by decide +kernel)⟩
theorem lw_p68 : lw_okq (⟨"BlameIsFurnitureModel", "readsPiece", "(I)Z"⟩, 28) := ⟨⟨by decide +kernel, by decide +kernel⟩, List.mem_of_getElem? (i := 738) (by decide +kernel), List.mem_of_getElem? (i := 859) (by decide +kernel), List.mem_of_getElem? (i := 860) (by decide +kernel)⟩
theorem lw_p69 : lw_okq (⟨"BlameIsFurnitureModel", "readsDigits", "(II)Z"⟩, 28) := ⟨⟨by decide +kernel, by decide +kernel⟩, List.mem_of_getElem? (i := 738) (by decide +kernel), List.mem_of_getElem? (i := 866) (by decide +kernel), List.mem_of_getElem? (i := 867) (by decide +kernel)⟩
theorem lw_p70 : lw_okq (⟨"BlameIsFurnitureModel", "passesAll", "(IZ)V"⟩, 28) := ⟨⟨by decide +kernel, by decide +kernel⟩, List.mem_of_getElem? (i := 738) (by decide +kernel), List.mem_of_getElem? (i := 873) (by decide +kernel), List.mem_of_getElem? (i := 874) (by decide +kernel)⟩
theorem lw_p71 : lw_okq (⟨"BlameIsFurnitureModel", "passes", "([I)V"⟩, 28) := ⟨⟨by decide +kernel, by decide +kernel⟩, List.mem_of_getElem? (i := 738) (by decide +kernel), List.mem_of_getElem? (i := 877) (by decide +kernel), List.mem_of_getElem? (i := 878) (by decide +kernel)⟩
theorem lw_p72 : lw_okq (⟨"BlameIsFurnitureModel", "passOne", "(I)I"⟩, 28) := ⟨⟨by decide +kernel, by decide +kernel⟩, List.mem_of_getElem? (i := 738) (by decide +kernel), List.mem_of_getElem? (i := 881) (by decide +kernel), List.mem_of_getElem? (i := 882) (by decide +kernel)⟩
theorem lw_p73 : lw_okq (⟨"BlameIsFurnitureModel", "comes", "(I)Z"⟩, 28) := ⟨⟨by decide +kernel, by decide +kernel⟩, List.mem_of_getElem? (i := 738) (by decide +kernel), List.mem_of_getElem? (i := 885) (by decide +kernel), List.mem_of_getElem? (i := 886) (by decide +kernel)⟩
theorem lw_p74 : lw_okq (⟨"BlameIsFurnitureModel", "comesPiece", "(I)Z"⟩, 28) := ⟨⟨by decide +kernel, by decide +kernel⟩, List.mem_of_getElem? (i := 738) (by decide +kernel), List.mem_of_getElem? (i := 889) (by decide +kernel), List.mem_of_getElem? (i := 890) (by decide +kernel)⟩
theorem lw_p75 : lw_okq (⟨"BlameIsFurnitureModel", "isPiece", "(I)Z"⟩, 28) := ⟨⟨by decide +kernel, by decide +kernel⟩, List.mem_of_getElem? (i := 738) (by decide +kernel), List.mem_of_getElem? (i := 893) (by decide +kernel), List.mem_of_getElem? (i := 894) (by decide +kernel)⟩
theorem lw_p76 : lw_okq (⟨"BlameIsFurnitureModel", "canCarry", "(II)Z"⟩, 28) := ⟨⟨by decide +kernel, by decide +kernel⟩, List.mem_of_getElem? (i := 738) (by decide +kernel), List.mem_of_getElem? (i := 903) (by decide +kernel), List.mem_of_getElem? (i := 904) (by decide +kernel)⟩
theorem lw_p77 : lw_okq (⟨"BlameIsFurnitureModel", "bulkIn", "(I)I"⟩, 28) := ⟨⟨by decide +kernel, by decide +kernel⟩, List.mem_of_getElem? (i := 738) (by decide +kernel), List.mem_of_getElem? (i := 907) (by decide +kernel), List.mem_of_getElem? (i := 908) (by decide +kernel)⟩
theorem lw_p78 : lw_okq (⟨"BlameIsFurnitureModel", "wideOf", "(I)I"⟩, 28) := ⟨⟨by decide +kernel, by decide +kernel⟩, List.mem_of_getElem? (i := 738) (by decide +kernel), List.mem_of_getElem? (i := 911) (by decide +kernel), List.mem_of_getElem? (i := 912) (by decide +kernel)⟩
theorem lw_p79 : lw_okq (⟨"BlameIsFurnitureModel", "goes", "(I)V"⟩, 28) := ⟨⟨by decide +kernel, by decide +kernel⟩, List.mem_of_getElem? (i := 738) (by decide +kernel), List.mem_of_getElem? (i := 915) (by decide +kernel), List.mem_of_getElem? (i := 916) (by decide +kernel)⟩
def lw_privs_5 : List (MethodName × Nat) := [(⟨"BlameIsFurnitureModel", "no", "(I)I"⟩, 28), (⟨"BlameIsFurnitureModel", "statement", "()Z"⟩, 28), (⟨"BlameIsFurnitureModel", "next", "()I"⟩, 28), (⟨"BlameIsFurnitureModel", "readsAll", "(II)Z"⟩, 28), (⟨"BlameIsFurnitureModel", "readsPiece", "(I)Z"⟩, 28), (⟨"BlameIsFurnitureModel", "readsDigits", "(II)Z"⟩, 28), (⟨"BlameIsFurnitureModel", "passesAll", "(IZ)V"⟩, 28), (⟨"BlameIsFurnitureModel", "passes", "([I)V"⟩, 28), (⟨"BlameIsFurnitureModel", "passOne", "(I)I"⟩, 28), (⟨"BlameIsFurnitureModel", "comes", "(I)Z"⟩, 28), (⟨"BlameIsFurnitureModel", "comesPiece", "(I)Z"⟩, 28), (⟨"BlameIsFurnitureModel", "isPiece", "(I)Z"⟩, 28), (⟨"BlameIsFurnitureModel", "canCarry", "(II)Z"⟩, 28), (⟨"BlameIsFurnitureModel", "bulkIn", "(I)I"⟩, 28), (⟨"BlameIsFurnitureModel", "wideOf", "(I)I"⟩, 28), (⟨"BlameIsFurnitureModel", "goes", "(I)V"⟩, 28)]
theorem lw_r5 : ∀ q ∈ lw_privs_5, lw_okq q := List.forall_mem_cons.mpr ⟨lw_p64, List.forall_mem_cons.mpr ⟨lw_p65, List.forall_mem_cons.mpr ⟨lw_p66, List.forall_mem_cons.mpr ⟨lw_p67, List.forall_mem_cons.mpr ⟨lw_p68, List.forall_mem_cons.mpr ⟨lw_p69, List.forall_mem_cons.mpr ⟨lw_p70, List.forall_mem_cons.mpr ⟨lw_p71, List.forall_mem_cons.mpr ⟨lw_p72, List.forall_mem_cons.mpr ⟨lw_p73, List.forall_mem_cons.mpr ⟨lw_p74, List.forall_mem_cons.mpr ⟨lw_p75, List.forall_mem_cons.mpr ⟨lw_p76, List.forall_mem_cons.mpr ⟨lw_p77, List.forall_mem_cons.mpr ⟨lw_p78, List.forall_mem_cons.mpr ⟨lw_p79, fun _ h => absurd h List.not_mem_nil⟩⟩⟩⟩⟩⟩⟩⟩⟩⟩⟩⟩⟩⟩⟩⟩
theorem lw_p80 : lw_okq (⟨"BlameIsFurnitureModel", "blameOf", "(I)I"⟩, 28) := ⟨⟨by decide +kernel, by decide +kernel⟩, List.mem_of_getElem? (i := 738) (by decide +kernel), List.mem_of_getElem? (i := 931) (by decide +kernel), List.mem_of_getElem? (i := 932) (by decide +kernel)⟩
theorem lw_p81 : lw_okq (⟨"BlameIsFurnitureModel", "suiteOf", "(I)I"⟩, 28) := ⟨⟨by decide +kernel, by decide +kernel⟩, List.mem_of_getElem? (i := 738) (by decide +kernel), List.mem_of_getElem? (i := 935) (by decide +kernel), List.mem_of_getElem? (i := 936) (by decide +kernel)⟩
theorem lw_p82 : lw_okq (⟨"BlameIsFurnitureModel", "veneerOf", "(I)I"⟩, 28) := ⟨⟨by decide +kernel, by decide +kernel⟩, List.mem_of_getElem? (i := 738) (by decide +kernel), List.mem_of_getElem? (i := 939) (by decide +kernel), List.mem_of_getElem? (i := 940) (by decide +kernel)⟩
theorem lw_p83 : lw_okq (⟨"BlameIsFurnitureModel", "blameIn", "(I)I"⟩, 28) := ⟨⟨by decide +kernel, by decide +kernel⟩, List.mem_of_getElem? (i := 738) (by decide +kernel), List.mem_of_getElem? (i := 978) (by decide +kernel), List.mem_of_getElem? (i := 979) (by decide +kernel)⟩
theorem lw_p84 : lw_okq (⟨"BlameIsFurnitureModel", "findPlacing", "(II)V"⟩, 28) := ⟨⟨by decide +kernel, by decide +kernel⟩, List.mem_of_getElem? (i := 738) (by decide +kernel), List.mem_of_getElem? (i := 994) (by decide +kernel), List.mem_of_getElem? (i := 995) (by decide +kernel)⟩
theorem lw_p85 : lw_okq (⟨"BlameIsFurnitureModel", "isPlaced", "(II)Z"⟩, 28) := ⟨⟨by decide +kernel, by decide +kernel⟩, List.mem_of_getElem? (i := 738) (by decide +kernel), List.mem_of_getElem? (i := 1001) (by decide +kernel), List.mem_of_getElem? (i := 1002) (by decide +kernel)⟩
theorem lw_p86 : lw_okq (⟨"BlameIsFurnitureModel", "roomsUsed", "()I"⟩, 28) := ⟨⟨by decide +kernel, by decide +kernel⟩, List.mem_of_getElem? (i := 738) (by decide +kernel), List.mem_of_getElem? (i := 1009) (by decide +kernel), List.mem_of_getElem? (i := 1010) (by decide +kernel)⟩
theorem lw_p87 : lw_okq (⟨"BlameIsFurnitureModel", "notShare", "(I)I"⟩, 28) := ⟨⟨by decide +kernel, by decide +kernel⟩, List.mem_of_getElem? (i := 738) (by decide +kernel), List.mem_of_getElem? (i := 1024) (by decide +kernel), List.mem_of_getElem? (i := 1025) (by decide +kernel)⟩
theorem lw_p88 : lw_okq (⟨"BlameIsFurnitureModel", "findShares", "()I"⟩, 28) := ⟨⟨by decide +kernel, by decide +kernel⟩, List.mem_of_getElem? (i := 738) (by decide +kernel), List.mem_of_getElem? (i := 1028) (by decide +kernel), List.mem_of_getElem? (i := 1029) (by decide +kernel)⟩
theorem lw_p89 : lw_okq (⟨"BlameIsFurnitureModel", "sharesBy", "(I)V"⟩, 28) := ⟨⟨by decide +kernel, by decide +kernel⟩, List.mem_of_getElem? (i := 738) (by decide +kernel), List.mem_of_getElem? (i := 1032) (by decide +kernel), List.mem_of_getElem? (i := 1033) (by decide +kernel)⟩
theorem lw_p90 : lw_okq (⟨"BlameIsFurnitureModel", "givesAll", "()V"⟩, 28) := ⟨⟨by decide +kernel, by decide +kernel⟩, List.mem_of_getElem? (i := 738) (by decide +kernel), List.mem_of_getElem? (i := 1036) (by decide +kernel), List.mem_of_getElem? (i := 1037) (by decide +kernel)⟩
theorem lw_p91 : lw_okq (⟨"BlameIsFurnitureModel", "apart", "()I"⟩, 28) := ⟨⟨by decide +kernel, by decide +kernel⟩, List.mem_of_getElem? (i := 738) (by decide +kernel), List.mem_of_getElem? (i := 1040) (by decide +kernel), List.mem_of_getElem? (i := 1041) (by decide +kernel)⟩
theorem lw_p92 : lw_okq (⟨"BlameIsFurnitureModel", "deals", "()V"⟩, 28) := ⟨⟨by decide +kernel, by decide +kernel⟩, List.mem_of_getElem? (i := 738) (by decide +kernel), List.mem_of_getElem? (i := 1048) (by decide +kernel), List.mem_of_getElem? (i := 1049) (by decide +kernel)⟩
theorem lw_p93 : lw_okq (⟨"BlameIsFurnitureModel", "poorest", "()I"⟩, 28) := ⟨⟨by decide +kernel, by decide +kernel⟩, List.mem_of_getElem? (i := 738) (by decide +kernel), List.mem_of_getElem? (i := 1052) (by decide +kernel), List.mem_of_getElem? (i := 1053) (by decide +kernel)⟩
theorem lw_p94 : lw_okq (⟨"BlameIsFurnitureModel", "mildest", "(I)I"⟩, 28) := ⟨⟨by decide +kernel, by decide +kernel⟩, List.mem_of_getElem? (i := 738) (by decide +kernel), List.mem_of_getElem? (i := 1064) (by decide +kernel), List.mem_of_getElem? (i := 1065) (by decide +kernel)⟩
theorem lw_p95 : lw_okq (⟨"BlameIsFurnitureModel", "blameWithout", "(II)I"⟩, 28) := ⟨⟨by decide +kernel, by decide +kernel⟩, List.mem_of_getElem? (i := 738) (by decide +kernel), List.mem_of_getElem? (i := 1072) (by decide +kernel), List.mem_of_getElem? (i := 1073) (by decide +kernel)⟩
def lw_privs_6 : List (MethodName × Nat) := [(⟨"BlameIsFurnitureModel", "blameOf", "(I)I"⟩, 28), (⟨"BlameIsFurnitureModel", "suiteOf", "(I)I"⟩, 28), (⟨"BlameIsFurnitureModel", "veneerOf", "(I)I"⟩, 28), (⟨"BlameIsFurnitureModel", "blameIn", "(I)I"⟩, 28), (⟨"BlameIsFurnitureModel", "findPlacing", "(II)V"⟩, 28), (⟨"BlameIsFurnitureModel", "isPlaced", "(II)Z"⟩, 28), (⟨"BlameIsFurnitureModel", "roomsUsed", "()I"⟩, 28), (⟨"BlameIsFurnitureModel", "notShare", "(I)I"⟩, 28), (⟨"BlameIsFurnitureModel", "findShares", "()I"⟩, 28), (⟨"BlameIsFurnitureModel", "sharesBy", "(I)V"⟩, 28), (⟨"BlameIsFurnitureModel", "givesAll", "()V"⟩, 28), (⟨"BlameIsFurnitureModel", "apart", "()I"⟩, 28), (⟨"BlameIsFurnitureModel", "deals", "()V"⟩, 28), (⟨"BlameIsFurnitureModel", "poorest", "()I"⟩, 28), (⟨"BlameIsFurnitureModel", "mildest", "(I)I"⟩, 28), (⟨"BlameIsFurnitureModel", "blameWithout", "(II)I"⟩, 28)]
theorem lw_r6 : ∀ q ∈ lw_privs_6, lw_okq q := List.forall_mem_cons.mpr ⟨lw_p80, List.forall_mem_cons.mpr ⟨lw_p81, List.forall_mem_cons.mpr ⟨lw_p82, List.forall_mem_cons.mpr ⟨lw_p83, List.forall_mem_cons.mpr ⟨lw_p84, List.forall_mem_cons.mpr ⟨lw_p85, List.forall_mem_cons.mpr ⟨lw_p86, List.forall_mem_cons.mpr ⟨lw_p87, List.forall_mem_cons.mpr ⟨lw_p88, List.forall_mem_cons.mpr ⟨lw_p89, List.forall_mem_cons.mpr ⟨lw_p90, List.forall_mem_cons.mpr ⟨lw_p91, List.forall_mem_cons.mpr ⟨lw_p92, List.forall_mem_cons.mpr ⟨lw_p93, List.forall_mem_cons.mpr ⟨lw_p94, List.forall_mem_cons.mpr ⟨lw_p95, fun _ h => absurd h List.not_mem_nil⟩⟩⟩⟩⟩⟩⟩⟩⟩⟩⟩⟩⟩⟩⟩⟩
theorem lw_p96 : lw_okq (⟨"BlameIsFurnitureModel", "leaves", "(I)V"⟩, 28) := ⟨⟨by decide +kernel, by decide +kernel⟩, List.mem_of_getElem? (i := 738) (by decide +kernel), List.mem_of_getElem? (i := 1076) (by decide +kernel), List.mem_of_getElem? (i := 1077) (by decide +kernel)⟩
theorem lw_p97 : lw_okq (⟨"BlameIsFurnitureModel", "blameWith", "(II)I"⟩, 28) := ⟨⟨by decide +kernel, by decide +kernel⟩, List.mem_of_getElem? (i := 738) (by decide +kernel), List.mem_of_getElem? (i := 1088) (by decide +kernel), List.mem_of_getElem? (i := 1089) (by decide +kernel)⟩
theorem lw_p98 : lw_okq (⟨"BlameIsFurnitureModel", "blameBehind", "(I)I"⟩, 28) := ⟨⟨by decide +kernel, by decide +kernel⟩, List.mem_of_getElem? (i := 738) (by decide +kernel), List.mem_of_getElem? (i := 1096) (by decide +kernel), List.mem_of_getElem? (i := 1097) (by decide +kernel)⟩
theorem lw_p99 : lw_okq (⟨"BlameIsFurnitureModel", "makes", "(II)Z"⟩, 28) := ⟨⟨by decide +kernel, by decide +kernel⟩, List.mem_of_getElem? (i := 738) (by decide +kernel), List.mem_of_getElem? (i := 1108) (by decide +kernel), List.mem_of_getElem? (i := 1109) (by decide +kernel)⟩
theorem lw_p100 : lw_okq (⟨"BlameIsFurnitureModel", "evenBy", "(II)I"⟩, 28) := ⟨⟨by decide +kernel, by decide +kernel⟩, List.mem_of_getElem? (i := 738) (by decide +kernel), List.mem_of_getElem? (i := 1116) (by decide +kernel), List.mem_of_getElem? (i := 1117) (by decide +kernel)⟩
theorem lw_p101 : lw_okq (⟨"BlameIsFurnitureModel", "firstOther", "()I"⟩, 28) := ⟨⟨by decide +kernel, by decide +kernel⟩, List.mem_of_getElem? (i := 738) (by decide +kernel), List.mem_of_getElem? (i := 1140) (by decide +kernel), List.mem_of_getElem? (i := 1141) (by decide +kernel)⟩
def lw_privs_7 : List (MethodName × Nat) := [(⟨"BlameIsFurnitureModel", "leaves", "(I)V"⟩, 28), (⟨"BlameIsFurnitureModel", "blameWith", "(II)I"⟩, 28), (⟨"BlameIsFurnitureModel", "blameBehind", "(I)I"⟩, 28), (⟨"BlameIsFurnitureModel", "makes", "(II)Z"⟩, 28), (⟨"BlameIsFurnitureModel", "evenBy", "(II)I"⟩, 28), (⟨"BlameIsFurnitureModel", "firstOther", "()I"⟩, 28)]
theorem lw_r7 : ∀ q ∈ lw_privs_7, lw_okq q := List.forall_mem_cons.mpr ⟨lw_p96, List.forall_mem_cons.mpr ⟨lw_p97, List.forall_mem_cons.mpr ⟨lw_p98, List.forall_mem_cons.mpr ⟨lw_p99, List.forall_mem_cons.mpr ⟨lw_p100, List.forall_mem_cons.mpr ⟨lw_p101, fun _ h => absurd h List.not_mem_nil⟩⟩⟩⟩⟩⟩
def lw_privs : List (MethodName × Nat) := lw_privs_1 ++ (lw_privs_2 ++ (lw_privs_3 ++ (lw_privs_4 ++ (lw_privs_5 ++ (lw_privs_6 ++ (lw_privs_7))))))
def lw_tbl : List Cond := k2_sels lw_privs ++ tables_1
theorem lw_privs_ok : ∀ q ∈ lw_privs, lw_okq q := by
  show ∀ q ∈ lw_privs_1 ++ (lw_privs_2 ++ (lw_privs_3 ++ (lw_privs_4 ++ (lw_privs_5 ++ (lw_privs_6 ++ (lw_privs_7)))))), lw_okq q
  exact List.forall_mem_append.mpr ⟨lw_r1, List.forall_mem_append.mpr ⟨lw_r2, List.forall_mem_append.mpr ⟨lw_r3, List.forall_mem_append.mpr ⟨lw_r4, List.forall_mem_append.mpr ⟨lw_r5, List.forall_mem_append.mpr ⟨lw_r6, lw_r7⟩⟩⟩⟩⟩⟩
/-! ===== BEGIN printed: names, fields, word lists, decode rows ===== -/
def RX0 : String := "BlameIsFurniture$House"
def TX0 : u_T := fun k => match k with
  | 0 => ("BlameIsFurniture$House", "kind", "[I", true)
  | 1 => ("BlameIsFurniture$House", "bulk", "[I", true)
  | 2 => ("BlameIsFurniture$House", "fault", "[I", true)
  | 3 => ("BlameIsFurniture$House", "age", "[I", true)
  | 4 => ("BlameIsFurniture$House", "placeOf", "[I", true)
  | 5 => ("BlameIsFurniture$House", "sizeOfRoom", "[I", true)
  | 6 => ("BlameIsFurniture$House", "wideOfStairs", "[I", true)
  | 7 => ("BlameIsFurniture$House", "pieces", "I", false)
  | 8 => ("BlameIsFurniture$House", "heirs", "I", false)
  | _ => ("BlameIsFurniture$House", "year", "I", false)
def tyX0 : Nat → FieldType := fun k => match k with
  | 0 => .array .int
  | 1 => .array .int
  | 2 => .array .int
  | 3 => .array .int
  | 4 => .array .int
  | 5 => .array .int
  | 6 => .array .int
  | 7 => .int
  | 8 => .int
  | _ => .int
abbrev wsX00 : List Cond := u_ws RX0 TX0 10
theorem nmX0 : ∀ a, a < 10 → ∀ b, b < 10 → a ≠ b → (TX0 a).2.1 ≠ (TX0 b).2.1 := by decide +kernel
theorem tyX0_ok : ∀ k, k < 10 → parseFieldDescriptor (TX0 k).2.2.1 = some (tyX0 k) := by decide +kernel
abbrev cX0_init : ByteArray := prog_2_method_1_code
def yX0_init : MethodName := ⟨RX0, "<init>", "()V"⟩
abbrev cX0_copyFrom : ByteArray := prog_2_method_2_code
def yX0_copyFrom : MethodName := ⟨RX0, "copyFrom", "(LBlameIsFurniture$House;)V"⟩
abbrev cX0_hasPiece : ByteArray := prog_2_method_3_code
def yX0_hasPiece : MethodName := ⟨RX0, "hasPiece", "(I)Z"⟩
abbrev cX0_told : ByteArray := prog_2_method_4_code
def yX0_told : MethodName := ⟨RX0, "told", "(II)I"⟩
abbrev cX0_addPiece : ByteArray := prog_2_method_5_code
def yX0_addPiece : MethodName := ⟨RX0, "addPiece", "(IIII)I"⟩
abbrev cX0_removePiece : ByteArray := prog_2_method_6_code
def yX0_removePiece : MethodName := ⟨RX0, "removePiece", "(I)V"⟩
abbrev cX0_emptyRooms : ByteArray := prog_2_method_7_code
def yX0_emptyRooms : MethodName := ⟨RX0, "emptyRooms", "()V"⟩
abbrev cX0_blameOfPiece : ByteArray := prog_2_method_8_code
def yX0_blameOfPiece : MethodName := ⟨RX0, "blameOfPiece", "(I)I"⟩
abbrev cX0_blameOfSuite : ByteArray := prog_2_method_9_code
def yX0_blameOfSuite : MethodName := ⟨RX0, "blameOfSuite", "(I)I"⟩
abbrev cX0_companyOf : ByteArray := prog_2_method_10_code
def yX0_companyOf : MethodName := ⟨RX0, "companyOf", "(I)I"⟩
abbrev cX0_blameOfVeneer : ByteArray := prog_2_method_11_code
def yX0_blameOfVeneer : MethodName := ⟨RX0, "blameOfVeneer", "(I)I"⟩
abbrev cX0_blameIn : ByteArray := prog_2_method_12_code
def yX0_blameIn : MethodName := ⟨RX0, "blameIn", "(I)I"⟩
abbrev cX0_blameOfAll : ByteArray := prog_2_method_13_code
def yX0_blameOfAll : MethodName := ⟨RX0, "blameOfAll", "()I"⟩
abbrev cX0_worstRoom : ByteArray := prog_2_method_14_code
def yX0_worstRoom : MethodName := ⟨RX0, "worstRoom", "()I"⟩
abbrev cX0_piecesIn : ByteArray := prog_2_method_15_code
def yX0_piecesIn : MethodName := ⟨RX0, "piecesIn", "(I)I"⟩
abbrev cX0_bulkIn : ByteArray := prog_2_method_16_code
def yX0_bulkIn : MethodName := ⟨RX0, "bulkIn", "(I)I"⟩
abbrev cX0_hasSpace : ByteArray := prog_2_method_17_code
def yX0_hasSpace : MethodName := ⟨RX0, "hasSpace", "(II)Z"⟩
abbrev cX0_wideOfPiece : ByteArray := prog_2_method_18_code
def yX0_wideOfPiece : MethodName := ⟨RX0, "wideOfPiece", "(I)I"⟩
abbrev cX0_canBeCarried : ByteArray := prog_2_method_19_code
def yX0_canBeCarried : MethodName := ⟨RX0, "canBeCarried", "(II)Z"⟩
abbrev cX0_passesStairs : ByteArray := prog_2_method_20_code
def yX0_passesStairs : MethodName := ⟨RX0, "passesStairs", "(II)Z"⟩
abbrev cX0_carryTo : ByteArray := prog_2_method_21_code
def yX0_carryTo : MethodName := ⟨RX0, "carryTo", "(II)I"⟩
abbrev cX0_polishPiece : ByteArray := prog_2_method_22_code
def yX0_polishPiece : MethodName := ⟨RX0, "polishPiece", "(I)I"⟩
abbrev cX0_resize : ByteArray := prog_2_method_23_code
def yX0_resize : MethodName := ⟨RX0, "resize", "(II)I"⟩
abbrev cX0_widen : ByteArray := prog_2_method_24_code
def yX0_widen : MethodName := ⟨RX0, "widen", "(II)I"⟩
abbrev cX0_nameHeirs : ByteArray := prog_2_method_25_code
def yX0_nameHeirs : MethodName := ⟨RX0, "nameHeirs", "(I)I"⟩
abbrev cX0_letYearsGoBy : ByteArray := prog_2_method_26_code
def yX0_letYearsGoBy : MethodName := ⟨RX0, "letYearsGoBy", "(I)I"⟩
abbrev cX0_passYear : ByteArray := prog_2_method_27_code
def yX0_passYear : MethodName := ⟨RX0, "passYear", "()V"⟩
def RX1 : String := "BlameIsFurniture$Placing"
def TX1 : u_T := fun k => match k with
  | 0 => ("BlameIsFurniture$Placing", "house", "LBlameIsFurniture$House;", true)
  | 1 => ("BlameIsFurniture$Placing", "bestRooms", "[I", true)
  | 2 => ("BlameIsFurniture$Placing", "rooms", "I", false)
  | 3 => ("BlameIsFurniture$Placing", "isForFew", "Z", false)
  | _ => ("BlameIsFurniture$Placing", "least", "I", false)
def tyX1 : Nat → FieldType := fun k => match k with
  | 0 => .object "BlameIsFurniture$House"
  | 1 => .array .int
  | 2 => .int
  | 3 => .boolean
  | _ => .int
abbrev wsX10 : List Cond := u_ws RX1 TX1 5
theorem nmX1 : ∀ a, a < 5 → ∀ b, b < 5 → a ≠ b → (TX1 a).2.1 ≠ (TX1 b).2.1 := by decide +kernel
theorem tyX1_ok : ∀ k, k < 5 → parseFieldDescriptor (TX1 k).2.2.1 = some (tyX1 k) := by decide +kernel
abbrev cX1_init : ByteArray := prog_3_method_1_code
def yX1_init : MethodName := ⟨RX1, "<init>", "(LBlameIsFurniture$House;)V"⟩
abbrev cX1_search : ByteArray := prog_3_method_2_code
def yX1_search : MethodName := ⟨RX1, "search", "(IZ)I"⟩
abbrev cX1_roomOf : ByteArray := prog_3_method_3_code
def yX1_roomOf : MethodName := ⟨RX1, "roomOf", "(I)I"⟩
abbrev cX1_placeFrom : ByteArray := prog_3_method_4_code
def yX1_placeFrom : MethodName := ⟨RX1, "placeFrom", "(LBlameIsFurniture$Placing;II)V"⟩
abbrev cX1_keep : ByteArray := prog_3_method_5_code
def yX1_keep : MethodName := ⟨RX1, "keep", "(I)V"⟩
abbrev cX1_mayStand : ByteArray := prog_3_method_6_code
def yX1_mayStand : MethodName := ⟨RX1, "mayStand", "(II)Z"⟩
abbrev cX1_costWith : ByteArray := prog_3_method_7_code
def yX1_costWith : MethodName := ⟨RX1, "costWith", "(II)I"⟩
def RX2 : String := "BlameIsFurniture$Row"
def TX2 : u_T := fun k => match k with
  | 0 => ("BlameIsFurniture$Row", "numbers", "[I", true)
  | _ => ("BlameIsFurniture$Row", "length", "I", false)
def tyX2 : Nat → FieldType := fun k => match k with
  | 0 => .array .int
  | _ => .int
abbrev wsX20 : List Cond := u_ws RX2 TX2 2
theorem nmX2 : ∀ a, a < 2 → ∀ b, b < 2 → a ≠ b → (TX2 a).2.1 ≠ (TX2 b).2.1 := by decide +kernel
theorem tyX2_ok : ∀ k, k < 2 → parseFieldDescriptor (TX2 k).2.2.1 = some (tyX2 k) := by decide +kernel
abbrev cX2_init : ByteArray := prog_4_method_1_code
def yX2_init : MethodName := ⟨RX2, "<init>", "()V"⟩
abbrev cX2_add : ByteArray := prog_4_method_2_code
def yX2_add : MethodName := ⟨RX2, "add", "(I)I"⟩
abbrev cX2_clear : ByteArray := prog_4_method_3_code
def yX2_clear : MethodName := ⟨RX2, "clear", "()V"⟩
abbrev cX2_firstWrong : ByteArray := prog_4_method_4_code
def yX2_firstWrong : MethodName := ⟨RX2, "firstWrong", "(LBlameIsFurniture$House;)I"⟩
def RX3 : String := "BlameIsFurniture$Sharing"
def TX3 : u_T := fun k => match k with
  | 0 => ("BlameIsFurniture$Sharing", "blames", "[I", true)
  | 1 => ("BlameIsFurniture$Sharing", "goesTo", "[I", true)
  | 2 => ("BlameIsFurniture$Sharing", "fairest", "[I", true)
  | 3 => ("BlameIsFurniture$Sharing", "share", "[I", true)
  | 4 => ("BlameIsFurniture$Sharing", "pieces", "I", false)
  | 5 => ("BlameIsFurniture$Sharing", "heirs", "I", false)
  | 6 => ("BlameIsFurniture$Sharing", "evenShare", "I", false)
  | 7 => ("BlameIsFurniture$Sharing", "least", "I", false)
  | _ => ("BlameIsFurniture$Sharing", "lastHeir", "I", false)
def tyX3 : Nat → FieldType := fun k => match k with
  | 0 => .array .int
  | 1 => .array .int
  | 2 => .array .int
  | 3 => .array .int
  | 4 => .int
  | 5 => .int
  | 6 => .int
  | 7 => .int
  | _ => .int
abbrev wsX30 : List Cond := u_ws RX3 TX3 9
theorem nmX3 : ∀ a, a < 9 → ∀ b, b < 9 → a ≠ b → (TX3 a).2.1 ≠ (TX3 b).2.1 := by decide +kernel
theorem tyX3_ok : ∀ k, k < 9 → parseFieldDescriptor (TX3 k).2.2.1 = some (tyX3 k) := by decide +kernel
abbrev cX3_init : ByteArray := prog_5_method_1_code
def yX3_init : MethodName := ⟨RX3, "<init>", "()V"⟩
abbrev cX3_begin : ByteArray := prog_5_method_2_code
def yX3_begin : MethodName := ⟨RX3, "begin", "(LBlameIsFurniture$House;)V"⟩
abbrev cX3_shareFairly : ByteArray := prog_5_method_3_code
def yX3_shareFairly : MethodName := ⟨RX3, "shareFairly", "(LBlameIsFurniture$House;)V"⟩
abbrev cX3_giveFrom : ByteArray := prog_5_method_4_code
def yX3_giveFrom : MethodName := ⟨RX3, "giveFrom", "(LBlameIsFurniture$Sharing;I)V"⟩
abbrev cX3_canBeFairer : ByteArray := prog_5_method_5_code
def yX3_canBeFairer : MethodName := ⟨RX3, "canBeFairer", "(I)Z"⟩
abbrev cX3_keepIfFairer : ByteArray := prog_5_method_6_code
def yX3_keepIfFairer : MethodName := ⟨RX3, "keepIfFairer", "()V"⟩
abbrev cX3_dealOut : ByteArray := prog_5_method_7_code
def yX3_dealOut : MethodName := ⟨RX3, "dealOut", "(LBlameIsFurniture$House;)V"⟩
abbrev cX3_chooseInTurn : ByteArray := prog_5_method_8_code
def yX3_chooseInTurn : MethodName := ⟨RX3, "chooseInTurn", "(LBlameIsFurniture$House;)V"⟩
abbrev cX3_leastOfLeft : ByteArray := prog_5_method_9_code
def yX3_leastOfLeft : MethodName := ⟨RX3, "leastOfLeft", "()I"⟩
abbrev cX3_give : ByteArray := prog_5_method_10_code
def yX3_give : MethodName := ⟨RX3, "give", "(II)V"⟩
abbrev cX3_takeBack : ByteArray := prog_5_method_11_code
def yX3_takeBack : MethodName := ⟨RX3, "takeBack", "(II)V"⟩
abbrev cX3_poorest : ByteArray := prog_5_method_12_code
def yX3_poorest : MethodName := ⟨RX3, "poorest", "()I"⟩
abbrev cX3_richest : ByteArray := prog_5_method_13_code
def yX3_richest : MethodName := ⟨RX3, "richest", "()I"⟩
abbrev cX3_spread : ByteArray := prog_5_method_14_code
def yX3_spread : MethodName := ⟨RX3, "spread", "()I"⟩
abbrev cX3_envied : ByteArray := prog_5_method_15_code
def yX3_envied : MethodName := ⟨RX3, "envied", "()I"⟩
abbrev cX3_shareOf : ByteArray := prog_5_method_16_code
def yX3_shareOf : MethodName := ⟨RX3, "shareOf", "(I)I"⟩
abbrev cX3_spreadOrHeirOf : ByteArray := prog_5_method_17_code
def yX3_spreadOrHeirOf : MethodName := ⟨RX3, "spreadOrHeirOf", "(I)I"⟩
def RX4 : String := "BlameIsFurniture$Text"
def TX4 : u_T := fun k => match k with
  | 0 => ("BlameIsFurniture$Text", "letters", "[I", true)
  | _ => ("BlameIsFurniture$Text", "length", "I", false)
def tyX4 : Nat → FieldType := fun k => match k with
  | 0 => .array .int
  | _ => .int
abbrev wsX40 : List Cond := u_ws RX4 TX4 2
theorem nmX4 : ∀ a, a < 2 → ∀ b, b < 2 → a ≠ b → (TX4 a).2.1 ≠ (TX4 b).2.1 := by decide +kernel
theorem tyX4_ok : ∀ k, k < 2 → parseFieldDescriptor (TX4 k).2.2.1 = some (tyX4 k) := by decide +kernel
abbrev cX4_init : ByteArray := prog_6_method_1_code
def yX4_init : MethodName := ⟨RX4, "<init>", "()V"⟩
abbrev cX4_add : ByteArray := prog_6_method_2_code
def yX4_add : MethodName := ⟨RX4, "add", "(I)I"⟩
abbrev cX4_clear : ByteArray := prog_6_method_3_code
def yX4_clear : MethodName := ⟨RX4, "clear", "()V"⟩
abbrev cX4_tellInto : ByteArray := prog_6_method_4_code
def yX4_tellInto : MethodName := ⟨RX4, "tellInto", "(LBlameIsFurniture$House;)I"⟩
abbrev cX4_firstBadPlace : ByteArray := prog_6_method_5_code
def yX4_firstBadPlace : MethodName := ⟨RX4, "firstBadPlace", "()I"⟩
abbrev cX4_formBehind : ByteArray := prog_6_method_6_code
def yX4_formBehind : MethodName := ⟨RX4, "formBehind", "(I)Ljava/lang/String;"⟩
abbrev cX4_isAsAsked : ByteArray := prog_6_method_7_code
def yX4_isAsAsked : MethodName := ⟨RX4, "isAsAsked", "(CI)Z"⟩
abbrev cX4_tellStatement : ByteArray := prog_6_method_8_code
def yX4_tellStatement : MethodName := ⟨RX4, "tellStatement", "(LBlameIsFurniture$House;I)I"⟩
abbrev cX4_letterAt : ByteArray := prog_6_method_9_code
def yX4_letterAt : MethodName := ⟨RX4, "letterAt", "(I)I"⟩
abbrev cX4_kindOfLetter : ByteArray := prog_6_method_10_code
def yX4_kindOfLetter : MethodName := ⟨RX4, "kindOfLetter", "(I)I"⟩
abbrev cX4_digitAt : ByteArray := prog_6_method_11_code
def yX4_digitAt : MethodName := ⟨RX4, "digitAt", "(I)I"⟩
abbrev cX4_numberAt : ByteArray := prog_6_method_12_code
def yX4_numberAt : MethodName := ⟨RX4, "numberAt", "(I)I"⟩
def RX5 : String := "BlameIsFurniture"
def TX5 : u_T := fun k => match k with
  | 0 => ("BlameIsFurniture", "now", "LBlameIsFurniture$House;", true)
  | 1 => ("BlameIsFurniture", "thought", "LBlameIsFurniture$House;", true)
  | 2 => ("BlameIsFurniture", "kept", "LBlameIsFurniture$House;", true)
  | 3 => ("BlameIsFurniture", "isKept", "Z", false)
  | 4 => ("BlameIsFurniture", "text", "LBlameIsFurniture$Text;", true)
  | 5 => ("BlameIsFurniture", "told", "LBlameIsFurniture$Row;", true)
  | 6 => ("BlameIsFurniture", "placings", "LBlameIsFurniture$Placing;", true)
  | 7 => ("BlameIsFurniture", "sharing", "LBlameIsFurniture$Sharing;", true)
  | _ => ("BlameIsFurniture", "refusals", "[I", true)
def tyX5 : Nat → FieldType := fun k => match k with
  | 0 => .object "BlameIsFurniture$House"
  | 1 => .object "BlameIsFurniture$House"
  | 2 => .object "BlameIsFurniture$House"
  | 3 => .boolean
  | 4 => .object "BlameIsFurniture$Text"
  | 5 => .object "BlameIsFurniture$Row"
  | 6 => .object "BlameIsFurniture$Placing"
  | 7 => .object "BlameIsFurniture$Sharing"
  | _ => .array .int
abbrev wsX50 : List Cond := u_ws RX5 TX5 9
theorem nmX5 : ∀ a, a < 9 → ∀ b, b < 9 → a ≠ b → (TX5 a).2.1 ≠ (TX5 b).2.1 := by decide +kernel
theorem tyX5_ok : ∀ k, k < 9 → parseFieldDescriptor (TX5 k).2.2.1 = some (tyX5 k) := by decide +kernel
abbrev cX5_init : ByteArray := prog_1_method_1_code
def yX5_init : MethodName := ⟨RX5, "<init>", "()V"⟩
abbrev cX5_letter : ByteArray := prog_1_method_2_code
def yX5_letter : MethodName := ⟨RX5, "letter", "(I)I"⟩
abbrev cX5_house : ByteArray := prog_1_method_3_code
def yX5_house : MethodName := ⟨RX5, "house", "()I"⟩
abbrev cX5_piece : ByteArray := prog_1_method_4_code
def yX5_piece : MethodName := ⟨RX5, "piece", "(II)I"⟩
abbrev cX5_carry : ByteArray := prog_1_method_5_code
def yX5_carry : MethodName := ⟨RX5, "carry", "(II)I"⟩
abbrev cX5_stands : ByteArray := prog_1_method_6_code
def yX5_stands : MethodName := ⟨RX5, "stands", "(II)I"⟩
abbrev cX5_polish : ByteArray := prog_1_method_7_code
def yX5_polish : MethodName := ⟨RX5, "polish", "(I)I"⟩
abbrev cX5_size : ByteArray := prog_1_method_8_code
def yX5_size : MethodName := ⟨RX5, "size", "(II)I"⟩
abbrev cX5_wide : ByteArray := prog_1_method_9_code
def yX5_wide : MethodName := ⟨RX5, "wide", "(II)I"⟩
abbrev cX5_heirs : ByteArray := prog_1_method_10_code
def yX5_heirs : MethodName := ⟨RX5, "heirs", "(I)I"⟩
abbrev cX5_years : ByteArray := prog_1_method_11_code
def yX5_years : MethodName := ⟨RX5, "years", "(I)I"⟩
abbrev cX5_blame : ByteArray := prog_1_method_12_code
def yX5_blame : MethodName := ⟨RX5, "blame", "(I)I"⟩
abbrev cX5_worst : ByteArray := prog_1_method_13_code
def yX5_worst : MethodName := ⟨RX5, "worst", "()I"⟩
abbrev cX5_crowded : ByteArray := prog_1_method_14_code
def yX5_crowded : MethodName := ⟨RX5, "crowded", "()I"⟩
abbrev cX5_placing : ByteArray := prog_1_method_15_code
def yX5_placing : MethodName := ⟨RX5, "placing", "(III)I"⟩
abbrev cX5_innocent : ByteArray := prog_1_method_16_code
def yX5_innocent : MethodName := ⟨RX5, "innocent", "()I"⟩
abbrev cX5_shares : ByteArray := prog_1_method_17_code
def yX5_shares : MethodName := ⟨RX5, "shares", "(I)I"⟩
abbrev cX5_dealt : ByteArray := prog_1_method_18_code
def yX5_dealt : MethodName := ⟨RX5, "dealt", "(I)I"⟩
abbrev cX5_envy : ByteArray := prog_1_method_19_code
def yX5_envy : MethodName := ⟨RX5, "envy", "()I"⟩
abbrev cX5_choice : ByteArray := prog_1_method_20_code
def yX5_choice : MethodName := ⟨RX5, "choice", "(I)I"⟩
abbrev cX5_sell : ByteArray := prog_1_method_21_code
def yX5_sell : MethodName := ⟨RX5, "sell", "(I)I"⟩
abbrev cX5_burn : ByteArray := prog_1_method_22_code
def yX5_burn : MethodName := ⟨RX5, "burn", "()I"⟩
abbrev cX5_heavier : ByteArray := prog_1_method_23_code
def yX5_heavier : MethodName := ⟨RX5, "heavier", "()I"⟩
abbrev cX5_later : ByteArray := prog_1_method_24_code
def yX5_later : MethodName := ⟨RX5, "later", "(I)I"⟩
abbrev cX5_gone : ByteArray := prog_1_method_25_code
def yX5_gone : MethodName := ⟨RX5, "gone", "(I)I"⟩
abbrev cX5_whose : ByteArray := prog_1_method_26_code
def yX5_whose : MethodName := ⟨RX5, "whose", "(I)I"⟩
abbrev cX5_ask : ByteArray := prog_1_method_27_code
def yX5_ask : MethodName := ⟨RX5, "ask", "(I)I"⟩
abbrev cX5_wider : ByteArray := prog_1_method_28_code
def yX5_wider : MethodName := ⟨RX5, "wider", "(III)I"⟩
abbrev cX5_bigger : ByteArray := prog_1_method_29_code
def yX5_bigger : MethodName := ⟨RX5, "bigger", "(II)I"⟩
abbrev cX5_guest : ByteArray := prog_1_method_30_code
def yX5_guest : MethodName := ⟨RX5, "guest", "(I)I"⟩
abbrev cX5_row : ByteArray := prog_1_method_31_code
def yX5_row : MethodName := ⟨RX5, "row", "(I)I"⟩
abbrev cX5_fits : ByteArray := prog_1_method_32_code
def yX5_fits : MethodName := ⟨RX5, "fits", "(I)I"⟩
abbrev cX5_judge : ByteArray := prog_1_method_33_code
def yX5_judge : MethodName := ⟨RX5, "judge", "()I"⟩
abbrev cX5_lots : ByteArray := prog_1_method_34_code
def yX5_lots : MethodName := ⟨RX5, "lots", "(II)I"⟩
abbrev cX5_image : ByteArray := prog_1_method_35_code
def yX5_image : MethodName := ⟨RX5, "image", "()I"⟩
abbrev cX5_on : ByteArray := prog_1_method_36_code
def yX5_on : MethodName := ⟨RX5, "on", "()I"⟩
abbrev cX5_count : ByteArray := prog_1_method_37_code
def yX5_count : MethodName := ⟨RX5, "count", "(I)I"⟩
abbrev cX5_answer : ByteArray := prog_1_method_38_code
def yX5_answer : MethodName := ⟨RX5, "answer", "(I)I"⟩
abbrev cX5_thoughtOfNow : ByteArray := prog_1_method_39_code
def yX5_thoughtOfNow : MethodName := ⟨RX5, "thoughtOfNow", "()LBlameIsFurniture$House;"⟩
abbrev cX5_refusalOutside : ByteArray := prog_1_method_40_code
def yX5_refusalOutside : MethodName := ⟨RX5, "refusalOutside", "(III)I"⟩
abbrev cX5_isAllOrOneOf : ByteArray := prog_1_method_41_code
def yX5_isAllOrOneOf : MethodName := ⟨RX5, "isAllOrOneOf", "(II)Z"⟩
abbrev cX5_refusalOf : ByteArray := prog_1_method_42_code
def yX5_refusalOf : MethodName := ⟨RX5, "refusalOf", "(I)I"⟩
abbrev cX5_blameWithout : ByteArray := prog_1_method_43_code
def yX5_blameWithout : MethodName := ⟨RX5, "blameWithout", "(I)I"⟩
abbrev cX5_blameWithoutBoth : ByteArray := prog_1_method_44_code
def yX5_blameWithoutBoth : MethodName := ⟨RX5, "blameWithoutBoth", "(II)I"⟩
abbrev cX5_blameWithFault : ByteArray := prog_1_method_45_code
def yX5_blameWithFault : MethodName := ⟨RX5, "blameWithFault", "(II)I"⟩
abbrev cX5_anotherFaultMakes : ByteArray := prog_1_method_46_code
def yX5_anotherFaultMakes : MethodName := ⟨RX5, "anotherFaultMakes", "(II)Z"⟩
abbrev cX5_lesserOfBothFaults : ByteArray := prog_1_method_47_code
def yX5_lesserOfBothFaults : MethodName := ⟨RX5, "lesserOfBothFaults", "(II)I"⟩
abbrev cX5_sumOfFirst : ByteArray := prog_1_method_48_code
def yX5_sumOfFirst : MethodName := ⟨RX5, "sumOfFirst", "([II)I"⟩
abbrev cX5_nextSeed : ByteArray := prog_1_method_49_code
def yX5_nextSeed : MethodName := ⟨RX5, "nextSeed", "(I)I"⟩
abbrev cX5_drawnBelow : ByteArray := prog_1_method_50_code
def yX5_drawnBelow : MethodName := ⟨RX5, "drawnBelow", "(II)I"⟩
abbrev cX5_isRoom : ByteArray := prog_1_method_51_code
def yX5_isRoom : MethodName := ⟨RX5, "isRoom", "(I)Z"⟩
abbrev cX5_isPlace : ByteArray := prog_1_method_52_code
def yX5_isPlace : MethodName := ⟨RX5, "isPlace", "(I)Z"⟩
abbrev cX5_hasStairs : ByteArray := prog_1_method_53_code
def yX5_hasStairs : MethodName := ⟨RX5, "hasStairs", "(I)Z"⟩
def RX6 : String := "BlameIsFurnitureModel"
def TX6 : u_T := fun k => match k with
  | 0 => ("BlameIsFurnitureModel", "refused", "[I", true)
  | 1 => ("BlameIsFurnitureModel", "sizes", "[I", true)
  | 2 => ("BlameIsFurnitureModel", "stairs", "[I", true)
  | 3 => ("BlameIsFurnitureModel", "kind", "[I", true)
  | 4 => ("BlameIsFurnitureModel", "bulk", "[I", true)
  | 5 => ("BlameIsFurnitureModel", "fault", "[I", true)
  | 6 => ("BlameIsFurnitureModel", "age", "[I", true)
  | 7 => ("BlameIsFurnitureModel", "stands", "[I", true)
  | 8 => ("BlameIsFurnitureModel", "pieces", "I", false)
  | 9 => ("BlameIsFurnitureModel", "heirs", "I", false)
  | 10 => ("BlameIsFurnitureModel", "year", "I", false)
  | 11 => ("BlameIsFurnitureModel", "tape", "[I", true)
  | 12 => ("BlameIsFurnitureModel", "letter", "[I", true)
  | 13 => ("BlameIsFurnitureModel", "letterAt", "[I", true)
  | 14 => ("BlameIsFurnitureModel", "told", "[I", true)
  | 15 => ("BlameIsFurnitureModel", "taped", "I", false)
  | 16 => ("BlameIsFurnitureModel", "at", "I", false)
  | 17 => ("BlameIsFurnitureModel", "statements", "I", false)
  | 18 => ("BlameIsFurnitureModel", "kept", "[I", true)
  | 19 => ("BlameIsFurnitureModel", "hasImage", "Z", false)
  | 20 => ("BlameIsFurnitureModel", "isKeeping", "Z", false)
  | 21 => ("BlameIsFurnitureModel", "cursor", "I", false)
  | 22 => ("BlameIsFurnitureModel", "found", "[I", true)
  | 23 => ("BlameIsFurnitureModel", "foundValue", "I", false)
  | 24 => ("BlameIsFurnitureModel", "goesTo", "[I", true)
  | 25 => ("BlameIsFurnitureModel", "share", "[I", true)
  | 26 => ("BlameIsFurnitureModel", "row", "[I", true)
  | _ => ("BlameIsFurnitureModel", "rowMany", "I", false)
def tyX6 : Nat → FieldType := fun k => match k with
  | 0 => .array .int
  | 1 => .array .int
  | 2 => .array .int
  | 3 => .array .int
  | 4 => .array .int
  | 5 => .array .int
  | 6 => .array .int
  | 7 => .array .int
  | 8 => .int
  | 9 => .int
  | 10 => .int
  | 11 => .array .int
  | 12 => .array .int
  | 13 => .array .int
  | 14 => .array .int
  | 15 => .int
  | 16 => .int
  | 17 => .int
  | 18 => .array .int
  | 19 => .boolean
  | 20 => .boolean
  | 21 => .int
  | 22 => .array .int
  | 23 => .int
  | 24 => .array .int
  | 25 => .array .int
  | 26 => .array .int
  | _ => .int
abbrev wsX60 : List Cond := u_ws RX6 TX6 28
theorem nmX6 : ∀ a, a < 28 → ∀ b, b < 28 → a ≠ b → (TX6 a).2.1 ≠ (TX6 b).2.1 := by decide +kernel
theorem tyX6_ok : ∀ k, k < 28 → parseFieldDescriptor (TX6 k).2.2.1 = some (tyX6 k) := by decide +kernel
abbrev cX6_init : ByteArray := prog_8_method_1_code
def yX6_init : MethodName := ⟨RX6, "<init>", "()V"⟩
abbrev cX6_no : ByteArray := prog_8_method_2_code
def yX6_no : MethodName := ⟨RX6, "no", "(I)I"⟩
abbrev cX6_isIn : ByteArray := prog_8_method_3_code
def yX6_isIn : MethodName := ⟨RX6, "isIn", "(III)Z"⟩
abbrev cX6_bound : ByteArray := prog_8_method_4_code
def yX6_bound : MethodName := ⟨RX6, "bound", "(III)I"⟩
abbrev cX6_has : ByteArray := prog_8_method_5_code
def yX6_has : MethodName := ⟨RX6, "has", "(II)Z"⟩
abbrev cX6_bits : ByteArray := prog_8_method_6_code
def yX6_bits : MethodName := ⟨RX6, "bits", "(I)I"⟩
abbrev cX6_isPiece : ByteArray := prog_8_method_7_code
def yX6_isPiece : MethodName := ⟨RX6, "isPiece", "(I)Z"⟩
abbrev cX6_isRoom : ByteArray := prog_8_method_8_code
def yX6_isRoom : MethodName := ⟨RX6, "isRoom", "(I)Z"⟩
abbrev cX6_isPlace : ByteArray := prog_8_method_9_code
def yX6_isPlace : MethodName := ⟨RX6, "isPlace", "(I)Z"⟩
abbrev cX6_letter : ByteArray := prog_8_method_10_code
def yX6_letter : MethodName := ⟨RX6, "letter", "(I)I"⟩
abbrev cX6_next : ByteArray := prog_8_method_11_code
def yX6_next : MethodName := ⟨RX6, "next", "()I"⟩
abbrev cX6_readsDigits : ByteArray := prog_8_method_12_code
def yX6_readsDigits : MethodName := ⟨RX6, "readsDigits", "(II)Z"⟩
abbrev cX6_kindOf : ByteArray := prog_8_method_13_code
def yX6_kindOf : MethodName := ⟨RX6, "kindOf", "(I)I"⟩
abbrev cX6_readsPiece : ByteArray := prog_8_method_14_code
def yX6_readsPiece : MethodName := ⟨RX6, "readsPiece", "(I)Z"⟩
abbrev cX6_readsAll : ByteArray := prog_8_method_15_code
def yX6_readsAll : MethodName := ⟨RX6, "readsAll", "(II)Z"⟩
abbrev cX6_isLetter : ByteArray := prog_8_method_16_code
def yX6_isLetter : MethodName := ⟨RX6, "isLetter", "(I)Z"⟩
abbrev cX6_statement : ByteArray := prog_8_method_17_code
def yX6_statement : MethodName := ⟨RX6, "statement", "()Z"⟩
abbrev cX6_comesPiece : ByteArray := prog_8_method_18_code
def yX6_comesPiece : MethodName := ⟨RX6, "comesPiece", "(I)Z"⟩
abbrev cX6_comes : ByteArray := prog_8_method_19_code
def yX6_comes : MethodName := ⟨RX6, "comes", "(I)Z"⟩
abbrev cX6_house : ByteArray := prog_8_method_20_code
def yX6_house : MethodName := ⟨RX6, "house", "()I"⟩
abbrev cX6_passes : ByteArray := prog_8_method_21_code
def yX6_passes : MethodName := ⟨RX6, "passes", "([I)V"⟩
abbrev cX6_passOne : ByteArray := prog_8_method_22_code
def yX6_passOne : MethodName := ⟨RX6, "passOne", "(I)I"⟩
abbrev cX6_passesAll : ByteArray := prog_8_method_23_code
def yX6_passesAll : MethodName := ⟨RX6, "passesAll", "(IZ)V"⟩
abbrev cX6_image : ByteArray := prog_8_method_24_code
def yX6_image : MethodName := ⟨RX6, "image", "()I"⟩
abbrev cX6_on : ByteArray := prog_8_method_25_code
def yX6_on : MethodName := ⟨RX6, "on", "()I"⟩
abbrev cX6_suiteOf : ByteArray := prog_8_method_26_code
def yX6_suiteOf : MethodName := ⟨RX6, "suiteOf", "(I)I"⟩
abbrev cX6_veneerOf : ByteArray := prog_8_method_27_code
def yX6_veneerOf : MethodName := ⟨RX6, "veneerOf", "(I)I"⟩
abbrev cX6_blameOf : ByteArray := prog_8_method_28_code
def yX6_blameOf : MethodName := ⟨RX6, "blameOf", "(I)I"⟩
abbrev cX6_wideOf : ByteArray := prog_8_method_29_code
def yX6_wideOf : MethodName := ⟨RX6, "wideOf", "(I)I"⟩
abbrev cX6_blameIn : ByteArray := prog_8_method_30_code
def yX6_blameIn : MethodName := ⟨RX6, "blameIn", "(I)I"⟩
abbrev cX6_bulkIn : ByteArray := prog_8_method_31_code
def yX6_bulkIn : MethodName := ⟨RX6, "bulkIn", "(I)I"⟩
abbrev cX6_canCarry : ByteArray := prog_8_method_32_code
def yX6_canCarry : MethodName := ⟨RX6, "canCarry", "(II)Z"⟩
abbrev cX6_goes : ByteArray := prog_8_method_33_code
def yX6_goes : MethodName := ⟨RX6, "goes", "(I)V"⟩
abbrev cX6_piece : ByteArray := prog_8_method_34_code
def yX6_piece : MethodName := ⟨RX6, "piece", "(II)I"⟩
abbrev cX6_carry : ByteArray := prog_8_method_35_code
def yX6_carry : MethodName := ⟨RX6, "carry", "(II)I"⟩
abbrev cX6_stands : ByteArray := prog_8_method_36_code
def yX6_stands : MethodName := ⟨RX6, "stands", "(II)I"⟩
abbrev cX6_polish : ByteArray := prog_8_method_37_code
def yX6_polish : MethodName := ⟨RX6, "polish", "(I)I"⟩
abbrev cX6_size : ByteArray := prog_8_method_38_code
def yX6_size : MethodName := ⟨RX6, "size", "(II)I"⟩
abbrev cX6_isFloor : ByteArray := prog_8_method_39_code
def yX6_isFloor : MethodName := ⟨RX6, "isFloor", "(I)Z"⟩
abbrev cX6_wide : ByteArray := prog_8_method_40_code
def yX6_wide : MethodName := ⟨RX6, "wide", "(II)I"⟩
abbrev cX6_heirs : ByteArray := prog_8_method_41_code
def yX6_heirs : MethodName := ⟨RX6, "heirs", "(I)I"⟩
abbrev cX6_years : ByteArray := prog_8_method_42_code
def yX6_years : MethodName := ⟨RX6, "years", "(I)I"⟩
abbrev cX6_blame : ByteArray := prog_8_method_43_code
def yX6_blame : MethodName := ⟨RX6, "blame", "(I)I"⟩
abbrev cX6_worst : ByteArray := prog_8_method_44_code
def yX6_worst : MethodName := ⟨RX6, "worst", "()I"⟩
abbrev cX6_crowded : ByteArray := prog_8_method_45_code
def yX6_crowded : MethodName := ⟨RX6, "crowded", "()I"⟩
abbrev cX6_isPlaced : ByteArray := prog_8_method_46_code
def yX6_isPlaced : MethodName := ⟨RX6, "isPlaced", "(II)Z"⟩
abbrev cX6_roomsUsed : ByteArray := prog_8_method_47_code
def yX6_roomsUsed : MethodName := ⟨RX6, "roomsUsed", "()I"⟩
abbrev cX6_power : ByteArray := prog_8_method_48_code
def yX6_power : MethodName := ⟨RX6, "power", "(II)I"⟩
abbrev cX6_findPlacing : ByteArray := prog_8_method_49_code
def yX6_findPlacing : MethodName := ⟨RX6, "findPlacing", "(II)V"⟩
abbrev cX6_placing : ByteArray := prog_8_method_50_code
def yX6_placing : MethodName := ⟨RX6, "placing", "(III)I"⟩
abbrev cX6_innocent : ByteArray := prog_8_method_51_code
def yX6_innocent : MethodName := ⟨RX6, "innocent", "()I"⟩
abbrev cX6_givesAll : ByteArray := prog_8_method_52_code
def yX6_givesAll : MethodName := ⟨RX6, "givesAll", "()V"⟩
abbrev cX6_apart : ByteArray := prog_8_method_53_code
def yX6_apart : MethodName := ⟨RX6, "apart", "()I"⟩
abbrev cX6_sharesBy : ByteArray := prog_8_method_54_code
def yX6_sharesBy : MethodName := ⟨RX6, "sharesBy", "(I)V"⟩
abbrev cX6_findShares : ByteArray := prog_8_method_55_code
def yX6_findShares : MethodName := ⟨RX6, "findShares", "()I"⟩
abbrev cX6_notShare : ByteArray := prog_8_method_56_code
def yX6_notShare : MethodName := ⟨RX6, "notShare", "(I)I"⟩
abbrev cX6_shares : ByteArray := prog_8_method_57_code
def yX6_shares : MethodName := ⟨RX6, "shares", "(I)I"⟩
abbrev cX6_poorest : ByteArray := prog_8_method_58_code
def yX6_poorest : MethodName := ⟨RX6, "poorest", "()I"⟩
abbrev cX6_deals : ByteArray := prog_8_method_59_code
def yX6_deals : MethodName := ⟨RX6, "deals", "()V"⟩
abbrev cX6_dealt : ByteArray := prog_8_method_60_code
def yX6_dealt : MethodName := ⟨RX6, "dealt", "(I)I"⟩
abbrev cX6_envy : ByteArray := prog_8_method_61_code
def yX6_envy : MethodName := ⟨RX6, "envy", "()I"⟩
abbrev cX6_mildest : ByteArray := prog_8_method_62_code
def yX6_mildest : MethodName := ⟨RX6, "mildest", "(I)I"⟩
abbrev cX6_choice : ByteArray := prog_8_method_63_code
def yX6_choice : MethodName := ⟨RX6, "choice", "(I)I"⟩
abbrev cX6_leaves : ByteArray := prog_8_method_64_code
def yX6_leaves : MethodName := ⟨RX6, "leaves", "(I)V"⟩
abbrev cX6_blameWithout : ByteArray := prog_8_method_65_code
def yX6_blameWithout : MethodName := ⟨RX6, "blameWithout", "(II)I"⟩
abbrev cX6_sell : ByteArray := prog_8_method_66_code
def yX6_sell : MethodName := ⟨RX6, "sell", "(I)I"⟩
abbrev cX6_burn : ByteArray := prog_8_method_67_code
def yX6_burn : MethodName := ⟨RX6, "burn", "()I"⟩
abbrev cX6_blameWith : ByteArray := prog_8_method_68_code
def yX6_blameWith : MethodName := ⟨RX6, "blameWith", "(II)I"⟩
abbrev cX6_heavier : ByteArray := prog_8_method_69_code
def yX6_heavier : MethodName := ⟨RX6, "heavier", "()I"⟩
abbrev cX6_blameBehind : ByteArray := prog_8_method_70_code
def yX6_blameBehind : MethodName := ⟨RX6, "blameBehind", "(I)I"⟩
abbrev cX6_later : ByteArray := prog_8_method_71_code
def yX6_later : MethodName := ⟨RX6, "later", "(I)I"⟩
abbrev cX6_gone : ByteArray := prog_8_method_72_code
def yX6_gone : MethodName := ⟨RX6, "gone", "(I)I"⟩
abbrev cX6_makes : ByteArray := prog_8_method_73_code
def yX6_makes : MethodName := ⟨RX6, "makes", "(II)Z"⟩
abbrev cX6_whose : ByteArray := prog_8_method_74_code
def yX6_whose : MethodName := ⟨RX6, "whose", "(I)I"⟩
abbrev cX6_evenBy : ByteArray := prog_8_method_75_code
def yX6_evenBy : MethodName := ⟨RX6, "evenBy", "(II)I"⟩
abbrev cX6_ask : ByteArray := prog_8_method_76_code
def yX6_ask : MethodName := ⟨RX6, "ask", "(I)I"⟩
abbrev cX6_wider : ByteArray := prog_8_method_77_code
def yX6_wider : MethodName := ⟨RX6, "wider", "(III)I"⟩
abbrev cX6_bigger : ByteArray := prog_8_method_78_code
def yX6_bigger : MethodName := ⟨RX6, "bigger", "(II)I"⟩
abbrev cX6_guest : ByteArray := prog_8_method_79_code
def yX6_guest : MethodName := ⟨RX6, "guest", "(I)I"⟩
abbrev cX6_row : ByteArray := prog_8_method_80_code
def yX6_row : MethodName := ⟨RX6, "row", "(I)I"⟩
abbrev cX6_firstOther : ByteArray := prog_8_method_81_code
def yX6_firstOther : MethodName := ⟨RX6, "firstOther", "()I"⟩
abbrev cX6_fits : ByteArray := prog_8_method_82_code
def yX6_fits : MethodName := ⟨RX6, "fits", "(I)I"⟩
abbrev cX6_judge : ByteArray := prog_8_method_83_code
def yX6_judge : MethodName := ⟨RX6, "judge", "()I"⟩
abbrev cX6_lots : ByteArray := prog_8_method_84_code
def yX6_lots : MethodName := ⟨RX6, "lots", "(II)I"⟩
abbrev cX6_count : ByteArray := prog_8_method_85_code
def yX6_count : MethodName := ⟨RX6, "count", "(I)I"⟩
def RJx145de : String := "java/io/Serializable"
def TJx145de : u_T := fun k => match k with
  | _ => ("", "", "", false)
def tyJx145de : Nat → FieldType := fun k => match k with
  | _ => .int
abbrev wsJx145de0 : List Cond := u_ws RJx145de TJx145de 0
theorem nmJx145de : ∀ a, a < 0 → ∀ b, b < 0 → a ≠ b → (TJx145de a).2.1 ≠ (TJx145de b).2.1 := by decide +kernel
theorem tyJx145de_ok : ∀ k, k < 0 → parseFieldDescriptor (TJx145de k).2.2.1 = some (tyJx145de k) := by decide +kernel
def RJx9f9b0 : String := "java/lang/CharSequence"
def TJx9f9b0 : u_T := fun k => match k with
  | _ => ("", "", "", false)
def tyJx9f9b0 : Nat → FieldType := fun k => match k with
  | _ => .int
abbrev wsJx9f9b00 : List Cond := u_ws RJx9f9b0 TJx9f9b0 0
theorem nmJx9f9b0 : ∀ a, a < 0 → ∀ b, b < 0 → a ≠ b → (TJx9f9b0 a).2.1 ≠ (TJx9f9b0 b).2.1 := by decide +kernel
theorem tyJx9f9b0_ok : ∀ k, k < 0 → parseFieldDescriptor (TJx9f9b0 k).2.2.1 = some (tyJx9f9b0 k) := by decide +kernel
def RJxb160c : String := "java/lang/Comparable"
def TJxb160c : u_T := fun k => match k with
  | _ => ("", "", "", false)
def tyJxb160c : Nat → FieldType := fun k => match k with
  | _ => .int
abbrev wsJxb160c0 : List Cond := u_ws RJxb160c TJxb160c 0
theorem nmJxb160c : ∀ a, a < 0 → ∀ b, b < 0 → a ≠ b → (TJxb160c a).2.1 ≠ (TJxb160c b).2.1 := by decide +kernel
theorem tyJxb160c_ok : ∀ k, k < 0 → parseFieldDescriptor (TJxb160c k).2.2.1 = some (tyJxb160c k) := by decide +kernel
def RJ9 : String := "java/lang/Math"
def TJ9 : u_T := fun k => match k with
  | _ => ("", "", "", false)
def tyJ9 : Nat → FieldType := fun k => match k with
  | _ => .int
abbrev wsJ90 : List Cond := u_ws RJ9 TJ9 0
theorem nmJ9 : ∀ a, a < 0 → ∀ b, b < 0 → a ≠ b → (TJ9 a).2.1 ≠ (TJ9 b).2.1 := by decide +kernel
theorem tyJ9_ok : ∀ k, k < 0 → parseFieldDescriptor (TJ9 k).2.2.1 = some (tyJ9 k) := by decide +kernel
abbrev cJ9_max_7cf53 : ByteArray := prog_9_method_65_code
def yJ9_max_7cf53 : MethodName := ⟨RJ9, "max", "(II)I"⟩
abbrev cJ9_min_7cf53 : ByteArray := prog_9_method_69_code
def yJ9_min_7cf53 : MethodName := ⟨RJ9, "min", "(II)I"⟩
def RJ0 : String := "java/lang/String"
def TJ0 : u_T := fun k => match k with
  | _ => ("", "", "", false)
def tyJ0 : Nat → FieldType := fun k => match k with
  | _ => .int
abbrev wsJ00 : List Cond := u_ws RJ0 TJ0 0
theorem nmJ0 : ∀ a, a < 0 → ∀ b, b < 0 → a ≠ b → (TJ0 a).2.1 ≠ (TJ0 b).2.1 := by decide +kernel
theorem tyJ0_ok : ∀ k, k < 0 → parseFieldDescriptor (TJ0 k).2.2.1 = some (tyJ0 k) := by decide +kernel
abbrev cJ0_length_8abf5 : ByteArray := prog_10_method_54_code
def yJ0_length_8abf5 : MethodName := ⟨RJ0, "length", "()I"⟩
abbrev cJ0_isEmpty_aae02 : ByteArray := prog_10_method_55_code
def yJ0_isEmpty_aae02 : MethodName := ⟨RJ0, "isEmpty", "()Z"⟩
abbrev cJ0_charAt_5068e : ByteArray := prog_10_method_56_code
def yJ0_charAt_5068e : MethodName := ⟨RJ0, "charAt", "(I)C"⟩
abbrev cJ0_coder_7d493 : ByteArray := prog_10_method_152_code
def yJ0_coder_7d493 : MethodName := ⟨RJ0, "coder", "()B"⟩
abbrev cJ0_isLatin1_aae02 : ByteArray := prog_10_method_154_code
def yJ0_isLatin1_aae02 : MethodName := ⟨RJ0, "isLatin1", "()Z"⟩
abbrev cJ0_checkIndex_df160 : ByteArray := prog_10_method_155_code
def yJ0_checkIndex_df160 : MethodName := ⟨RJ0, "checkIndex", "(II)V"⟩
def RJ1 : String := "java/lang/StringLatin1"
def TJ1 : u_T := fun k => match k with
  | _ => ("", "", "", false)
def tyJ1 : Nat → FieldType := fun k => match k with
  | _ => .int
abbrev wsJ10 : List Cond := u_ws RJ1 TJ1 0
theorem nmJ1 : ∀ a, a < 0 → ∀ b, b < 0 → a ≠ b → (TJ1 a).2.1 ≠ (TJ1 b).2.1 := by decide +kernel
theorem tyJ1_ok : ∀ k, k < 0 → parseFieldDescriptor (TJ1 k).2.2.1 = some (tyJ1 k) := by decide +kernel
abbrev cJ1_charAt_3b067 : ByteArray := prog_11_method_2_code
def yJ1_charAt_3b067 : MethodName := ⟨RJ1, "charAt", "([BI)C"⟩
def RJ2 : String := "java/lang/StringUTF16"
def TJ2 : u_T := fun k => match k with
  | _ => ("", "", "", false)
def tyJ2 : Nat → FieldType := fun k => match k with
  | _ => .int
abbrev wsJ20 : List Cond := u_ws RJ2 TJ2 0
theorem nmJ2 : ∀ a, a < 0 → ∀ b, b < 0 → a ≠ b → (TJ2 a).2.1 ≠ (TJ2 b).2.1 := by decide +kernel
theorem tyJ2_ok : ∀ k, k < 0 → parseFieldDescriptor (TJ2 k).2.2.1 = some (tyJ2 k) := by decide +kernel
abbrev cJ2_getChar_3b067 : ByteArray := prog_12_method_5_code
def yJ2_getChar_3b067 : MethodName := ⟨RJ2, "getChar", "([BI)C"⟩
abbrev cJ2_length_9d52b : ByteArray := prog_12_method_6_code
def yJ2_length_9d52b : MethodName := ⟨RJ2, "length", "([B)I"⟩
abbrev cJ2_charAt_3b067 : ByteArray := prog_12_method_83_code
def yJ2_charAt_3b067 : MethodName := ⟨RJ2, "charAt", "([BI)C"⟩
abbrev cJ2_checkIndex_2214a : ByteArray := prog_12_method_91_code
def yJ2_checkIndex_2214a : MethodName := ⟨RJ2, "checkIndex", "(I[B)V"⟩
def RJ10 : String := "java/lang/System"
def TJ10 : u_T := fun k => match k with
  | _ => ("", "", "", false)
def tyJ10 : Nat → FieldType := fun k => match k with
  | _ => .int
abbrev wsJ100 : List Cond := u_ws RJ10 TJ10 0
theorem nmJ10 : ∀ a, a < 0 → ∀ b, b < 0 → a ≠ b → (TJ10 a).2.1 ≠ (TJ10 b).2.1 := by decide +kernel
theorem tyJ10_ok : ∀ k, k < 0 → parseFieldDescriptor (TJ10 k).2.2.1 = some (tyJ10 k) := by decide +kernel
def RJxfd54e : String := "java/lang/constant/Constable"
def TJxfd54e : u_T := fun k => match k with
  | _ => ("", "", "", false)
def tyJxfd54e : Nat → FieldType := fun k => match k with
  | _ => .int
abbrev wsJxfd54e0 : List Cond := u_ws RJxfd54e TJxfd54e 0
theorem nmJxfd54e : ∀ a, a < 0 → ∀ b, b < 0 → a ≠ b → (TJxfd54e a).2.1 ≠ (TJxfd54e b).2.1 := by decide +kernel
theorem tyJxfd54e_ok : ∀ k, k < 0 → parseFieldDescriptor (TJxfd54e k).2.2.1 = some (tyJxfd54e k) := by decide +kernel
def RJx3cf43 : String := "java/lang/constant/ConstantDesc"
def TJx3cf43 : u_T := fun k => match k with
  | _ => ("", "", "", false)
def tyJx3cf43 : Nat → FieldType := fun k => match k with
  | _ => .int
abbrev wsJx3cf430 : List Cond := u_ws RJx3cf43 TJx3cf43 0
theorem nmJx3cf43 : ∀ a, a < 0 → ∀ b, b < 0 → a ≠ b → (TJx3cf43 a).2.1 ≠ (TJx3cf43 b).2.1 := by decide +kernel
theorem tyJx3cf43_ok : ∀ k, k < 0 → parseFieldDescriptor (TJx3cf43 k).2.2.1 = some (tyJx3cf43 k) := by decide +kernel
def RJ7 : String := "java/util/Arrays"
def TJ7 : u_T := fun k => match k with
  | _ => ("", "", "", false)
def tyJ7 : Nat → FieldType := fun k => match k with
  | _ => .int
abbrev wsJ70 : List Cond := u_ws RJ7 TJ7 0
theorem nmJ7 : ∀ a, a < 0 → ∀ b, b < 0 → a ≠ b → (TJ7 a).2.1 ≠ (TJ7 b).2.1 := by decide +kernel
theorem tyJ7_ok : ∀ k, k < 0 → parseFieldDescriptor (TJ7 k).2.2.1 = some (tyJ7 k) := by decide +kernel
abbrev cJ7_fill_53178 : ByteArray := prog_14_method_103_code
def yJ7_fill_53178 : MethodName := ⟨RJ7, "fill", "([II)V"⟩
def RJ3 : String := "jdk/internal/util/Preconditions"
def TJ3 : u_T := fun k => match k with
  | _ => ("", "", "", false)
def tyJ3 : Nat → FieldType := fun k => match k with
  | _ => .int
abbrev wsJ30 : List Cond := u_ws RJ3 TJ3 0
theorem nmJ3 : ∀ a, a < 0 → ∀ b, b < 0 → a ≠ b → (TJ3 a).2.1 ≠ (TJ3 b).2.1 := by decide +kernel
theorem tyJ3_ok : ∀ k, k < 0 → parseFieldDescriptor (TJ3 k).2.2.1 = some (tyJ3 k) := by decide +kernel
abbrev cJ3_checkIndex_8e157 : ByteArray := prog_15_method_11_code
def yJ3_checkIndex_8e157 : MethodName := ⟨RJ3, "checkIndex", "(IILjava/util/function/BiFunction;)I"⟩
def RL : String := "BlameIsFurnitureLaw"
abbrev cL_law : ByteArray := code
def yL_law : MethodName := ⟨RL, "law", "([I)Z"⟩
end
section
/-! A world of its own: all cells of the class and of the check, in one row of numbers; a state is a number for each place of each cell. -/
abbrev St : Type := Nat → Nat → Int32
def s2 (σ : St) (k j : Nat) (v : Int32) : St := fun a => if a = k then upd (σ k) j v else σ a
def cv (ad : Nat → Nat) (v : Value) : Value := match v with
  | .ref k => .ref (ad k)
  | w => w
theorem cv_cat (ad : Nat → Nat) (v : Value) : (cv ad v).category = v.category := by cases v <;> rfl
theorem cv_sum (ad : Nat → Nat) (st : List Value) : ((st.map (cv ad)).map fun v => v.category).sum = (st.map fun v => v.category).sum := by
  induction st with
  | nil => rfl
  | cons a l ih => simp only [List.map_cons, List.sum_cons, cv_cat, ih]
/-- the classes of which the world has objects -/
abbrev clss : List vw_C := [(RX6, TX6, 28), (RX0, TX0, 10), (RX1, TX1, 5), (RX2, TX2, 2), (RX3, TX3, 9), (RX4, TX4, 2), (RX5, TX5, 9)]
def NC : Nat := 55
def shH (k : Nat) : Nat × List (Option Nat) := (1, [some (k + 1), some (k + 2), some (k + 3), some (k + 4), some (k + 5), some (k + 6), some (k + 7), none, none, none])
/-- what stands at a place: an object (its class, which fields are cells), or a row of ints (its length) -/
def shp (k : Nat) : (Nat × List (Option Nat)) ⊕ Nat := match k with
  | 0 => .inl (0, [some 1, some 2, some 3, some 4, some 5, some 6, some 7, some 8, none, none, none, some 9, some 10, some 11, some 12, none, none, none, some 13, none, none, none, some 14, none, some 15, some 16, some 17, none])
  | 1 => .inr 7
  | 2 => .inr 6
  | 3 => .inr 3
  | 4 => .inr 7
  | 5 => .inr 7
  | 6 => .inr 7
  | 7 => .inr 7
  | 8 => .inr 7
  | 9 => .inr 96
  | 10 => .inr 48
  | 11 => .inr 48
  | 12 => .inr 192
  | 13 => .inr 100
  | 14 => .inr 7
  | 15 => .inr 7
  | 16 => .inr 4
  | 17 => .inr 12
  | 18 => .inl (6, [some 19, some 27, some 35, none, some 43, some 45, some 47, some 49, some 54])
  | 19 => .inl (shH 19)
  | 27 => .inl (shH 27)
  | 35 => .inl (shH 35)
  | 25 => .inr 6
  | 33 => .inr 6
  | 41 => .inr 6
  | 26 => .inr 3
  | 34 => .inr 3
  | 42 => .inr 3
  | 43 => .inl (5, [some 44, none])
  | 44 => .inr 96
  | 45 => .inl (3, [some 46, none])
  | 46 => .inr 12
  | 47 => .inl (2, [some 27, some 48, none, none, none])
  | 49 => .inl (4, [some 50, some 51, some 52, some 53, none, none, none, none, none])
  | 53 => .inr 4
  | _ => .inr 7
def fv (ad : Nat → Nat) (σ : St) (k j : Nat) : Option Nat → Value
  | none => .int (σ k j)
  | some r => .ref (ad r)
def ent (ad : Nat → Nat) (cI : ClassId) (σ : St) (k : Nat) : va_E := match shp k with
  | .inl (ci, fl) => .inr (ci, (List.range fl.length).map (fun j => fv ad σ k j (fl.getD j none)))
  | .inr n => .inl (cI, n, .inl (σ k))
def wld (ad : Nat → Nat) (cI : ClassId) (σ : St) : va_W := (List.range NC).map (fun k => (ad k, ent ad cI σ k))
theorem wld_at {ad : Nat → Nat} {cI : ClassId} {σ : St} {k : Nat} (hk : k < NC) : (wld ad cI σ)[k]? = some (ad k, ent ad cI σ k) := by
  simp [wld, hk]
theorem wld_len {ad : Nat → Nat} {cI : ClassId} {σ : St} : (wld ad cI σ).length = NC := by simp [wld]
theorem wld_inv {ad : Nat → Nat} {cI : ClassId} {σ : St} {k : Nat} {q : Nat × va_E} (h : (wld ad cI σ)[k]? = some q) : k < NC ∧ q = (ad k, ent ad cI σ k) := by
  have hk : k < NC := by
    have := (List.getElem?_eq_some_iff.mp h).1
    rwa [wld_len] at this
  rw [wld_at hk] at h
  exact ⟨hk, (Option.some.inj h).symm⟩
theorem wld_set {ad : Nat → Nat} {cI : ClassId} {σ σ' : St} {k : Nat} {e : va_E} (he : ent ad cI σ' k = e) (ho : ∀ a, a ≠ k → ent ad cI σ' a = ent ad cI σ a) : (wld ad cI σ).set k (ad k, e) = wld ad cI σ' := by
  apply List.ext_getElem?
  intro j
  rw [List.getElem?_set]
  by_cases hj : k = j
  · subst hj
    by_cases hk : k < NC
    · rw [if_pos rfl, wld_len, if_pos hk, wld_at hk, he]
    · rw [if_pos rfl, wld_len, if_neg hk]
      symm
      rw [List.getElem?_eq_none_iff, wld_len]
      omega
  · rw [if_neg hj]
    by_cases hk : j < NC
    · rw [wld_at hk, wld_at hk, ho j (fun q => hj q.symm)]
    · rw [List.getElem?_eq_none (by rw [wld_len]; omega), List.getElem?_eq_none (by rw [wld_len]; omega)]
theorem s2_ne {σ : St} {k j a : Nat} {v : Int32} (h : a ≠ k) : s2 σ k j v a = σ a := by simp [s2, h]
theorem s2_eq {σ : St} {k j : Nat} {v : Int32} : s2 σ k j v k = upd (σ k) j v := by simp [s2]
theorem ent_ne {ad : Nat → Nat} {cI : ClassId} {σ : St} {k j a : Nat} {v : Int32} (h : a ≠ k) : ent ad cI (s2 σ k j v) a = ent ad cI σ a := by
  have e : ∀ x, s2 σ k j v a x = σ a x := fun x => by rw [s2_ne h]
  unfold ent
  split
  · next ci fl hq =>
    congr 2
    apply List.map_congr_left
    intro x hx
    cases fl.getD x none <;> simp [fv, e]
  · rw [s2_ne h]
theorem ent_obj {ad : Nat → Nat} {cI : ClassId} {σ : St} {k ci : Nat} {fl : List (Option Nat)} (hs : shp k = .inl (ci, fl)) : ent ad cI σ k = .inr (ci, (List.range fl.length).map (fun j => fv ad σ k j (fl.getD j none))) := by
  unfold ent; rw [hs]
theorem ent_arr {ad : Nat → Nat} {cI : ClassId} {σ : St} {k n : Nat} (hs : shp k = .inr n) : ent ad cI σ k = .inl (cI, n, .inl (σ k)) := by
  unfold ent; rw [hs]
theorem fs_at {ad : Nat → Nat} {σ : St} {k j : Nat} {fl : List (Option Nat)} {o : Option Nat} (h : fl[j]? = some o) : ((List.range fl.length).map (fun j => fv ad σ k j (fl.getD j none)))[j]? = some (fv ad σ k j o) := by
  obtain ⟨hj, hg⟩ := List.getElem?_eq_some_iff.mp h
  simp [hj, hg]
theorem fs_set {ad : Nat → Nat} {σ : St} {k j : Nat} {v : Int32} {fl : List (Option Nat)} (h : fl[j]? = some none) : ((List.range fl.length).map (fun j => fv ad σ k j (fl.getD j none))).set j (.int v) = (List.range fl.length).map (fun i => fv ad (s2 σ k j v) k i (fl.getD i none)) := by
  obtain ⟨hj, hg⟩ := List.getElem?_eq_some_iff.mp h
  apply List.ext_getElem?
  intro i
  rw [List.getElem?_set]
  by_cases hij : j = i
  · subst hij
    simp [hj, hg, fv, s2, upd]
  · rw [if_neg hij]
    by_cases hi : i < fl.length
    · simp only [List.getElem?_map, List.getElem?_range hi, Option.map_some]
      cases fl.getD i none with
      | none => simp [fv, s2, upd, Ne.symm hij]
      | some r => rfl
    · simp [hi]
/-! the words of the tables: those that every method is given, and those between nest mates -/
def BIG : List Cond := lw_tbl.filter goodWord
def isNst (w : Cond) : Bool := match w with
  | .fieldLinkNest .. => true
  | .methodLinkNest .. => true
  | _ => false
def NST : List Cond := tables_1.filter isNst
theorem big_of {w : Cond} (h : w ∈ lw_tbl) (g : goodWord w = true) : w ∈ BIG := List.mem_filter.mpr ⟨h, g⟩
theorem big_sub {w : Cond} (h : w ∈ BIG) : w ∈ lw_tbl := (List.mem_filter.mp h).1
theorem nst_of {w : Cond} (h : w ∈ tables_1) (g : isNst w = true) : w ∈ NST := List.mem_filter.mpr ⟨h, g⟩
def nst (U : State) : Prop := ∀ w ∈ NST, va_Nw w U
theorem nst_warm {s U : State} (hW : s.WarmedH U.vm) (h : nst s) : nst U := by
  intro w hw
  have hz := h w hw
  have g := (List.mem_filter.mp hw).2
  cases w <;> first | exact hz.warmF hW | exact hz.warmM hW | simp [isNst] at g
theorem nst_same {u U : State} (e : u.vm = U.vm) (h : nst u) : nst U := by
  intro w hw
  have hz := h w hw
  have g := (List.mem_filter.mp hw).2
  cases w <;> first | exact hz.same rfl e | simp [isNst] at g
theorem good_big : GoodIn BIG BIG := fun w hw => ⟨hw, good_of_word (List.mem_filter.mp hw).2⟩
theorem good_code {y : MethodName} {bytes : ByteArray} {n : Nat} {ret : Option FieldType} (h : Cond.code y bytes n ret ∈ BIG) : GoodIn BIG (Cond.code y bytes n ret :: BIG) := fun w hw => by
  rcases List.mem_cons.mp hw with rfl | hw
  · exact good_big _ h
  · exact good_big _ hw
/-! a method's room by its level: a call goes to a lower one -/
def rmL (k : Nat) : Room := { frames := k, cells := 0, slots := 0, locals := 60 * k }
def Aad (ad : Nat → Nat) : Nat → Prop := fun q => ∃ k, k < NC ∧ q = ad k
def inj (ad : Nat → Nat) : Prop := ∀ i j, i < NC → j < NC → ad i = ad j → i = j
theorem wld_D {ad : Nat → Nat} {cI : ClassId} {σ : St} (h : inj ad) : va_D (Aad ad) (wld ad cI σ) := by
  refine ⟨fun i j p q hi hj e => ?_, fun k q hk => ?_⟩
  · obtain ⟨h1, rfl⟩ := wld_inv hi
    obtain ⟨h2, rfl⟩ := wld_inv hj
    exact h i j h1 h2 e
  · obtain ⟨h1, rfl⟩ := wld_inv hk
    exact ⟨k, h1, rfl⟩
def Bw (D : va_G) (cI : ClassId) (ad : Nat → Nat) (σ : St) (U : State) : Prop := va_P D clss (wld ad cI σ) U.heap ∧ va_K D clss [(cI, .int)] U ∧ nst U ∧ inj ad
def Qw (D : va_G) (cI : ClassId) (ad : Nat → Nat) (P : Option Value → St → Prop) : Array Value → State → Outcome → State → Prop := fun _ st oc t =>
  (∃ (r : Option Value) (σ' : St), oc = .returned (r.map (cv ad)) ∧ P r σ' ∧ va_P D clss (wld ad cI σ') t.heap) ∧ va_F (Aad ad) st t
/-- a contract: the method comes back, and then P holds of its answer and the state -/
def Ct (y : MethodName) (bytes : ByteArray) (nL : Nat) (ret : Option FieldType) (lev : Nat) (as : List Value) (σ : St) (P : Option Value → St → Prop) : Prop :=
  ∀ (l : Launch) (D : va_G) (cI : ClassId) (ad : Nat → Nat), Met l y (Cond.code y bytes nL ret :: BIG) (rmL lev) (va_Pc (as.map (cv ad)) (Bw D cI ad σ)) (Qw D cI ad P) 0 0 (Aad ad)
abbrev CxT : Type := Program × Launch × Env × State × MethodId × Array Value × List Frame × Method × Code × va_G × ClassId × (Nat → Nat) × Nat × Nat × (Option Value → St → Prop)
/-- where the machine stands: within a body, at pc, with these locals, this stack, this state -/
def V (X : CxT) (pc : Nat) (lv : List (Nat × Value)) (st : List Value) (σ : St) : Prop := match X with
  | (p, l, e, s, m, args, below, meth, c, D, cI, ad, nL, lev, P) => ∀ (H : Heap) (locs : List Loc) (ls : Array Slot), va_P D clss (wld ad cI σ) H → va_S (Aad ad) s.heap H locs → lv_has ls nL (lv.map (fun q => (q.1, cv ad q.2))) →
      W p l e (rmL lev) s m args below meth c H locs 0 0 (MQ below (Qw D cI ad P) args s 0 0 (Aad ad)) (F0 m pc ls (st.map (cv ad)))
def Pof (X : CxT) : Option Value → St → Prop := match X with
  | (_, _, _, _, _, _, _, _, _, _, _, _, _, _, P) => P
def Cx (X : CxT) (own : String) (cc : ByteArray) (n : Nat) (ret : Option FieldType) (L : Nat) : Prop := match X with
  | (p, l, e, s, m, args, below, meth, c, D, cI, ad, nL, lev, P) => p.tables.exec = Jvm.exec ∧ c.code = cc ∧ c.maxLocals = nL ∧ nL = n ∧ lev = L ∧ meth.sig.returnType = ret ∧ meth.locks = false ∧ s.vm.findClass own = some m.cls ∧ (∀ w ∈ BIG, w.before args s = true) ∧ nst s ∧ va_K D clss [(cI, .int)] s ∧ inj ad
theorem lv_args_cv (ad : Nat → Nat) (as : List Value) : ∀ i, lv_args i (as.map (cv ad)) = (lv_args i as).map (fun q => (q.1, cv ad q.2)) := by
  induction as with
  | nil => intro i; rfl
  | cons a l ih =>
    intro i
    simp only [List.map_cons, lv_args, cv_cat, ih]
/-- a contract by a walk of the body -/
theorem ct_of {y : MethodName} {bytes : ByteArray} {nL : Nat} {ret : Option FieldType} {lev : Nat} {as : List Value} {σ : St} {P : Option Value → St → Prop} (hy : plainName y.cls = true) (hcat : as.all (fun v => v.category == 1) = true) (hn : as.length ≤ nL)
    (body : ∀ X : CxT, Pof X = P → Cx X y.cls bytes nL ret lev → V X 0 (lv_args 0 as) [] σ) : Ct y bytes nL ret lev as σ P := by
  intro l D cI ad
  refine Met.ofW (cc := bytes) (maxL := nL) (ret := ret) hy rfl ?_
  intro p e s m args below meth c s₁ B hml hv
  obtain ⟨rfl, hP, hK, hN, hI⟩ := hv
  have hts := atoms_spec (ws := Cond.code y bytes nL ret :: BIG) B.pre
  have K := body (p, l, e, s, m, (as.map (cv ad)).toArray, below, meth, c, D, cI, ad, nL, lev, P) rfl ⟨B.exec, B.bytes, hml, rfl, rfl, B.returns, B.notSynchronized, findClass_of_methodNamed B.named, fun w hw => hts w (List.mem_cons_of_mem _ hw), hN, hK, hI⟩
  have hlen : (lg_sl (as.map (cv ad))).length ≤ nL := by
    have h1 : ∀ l : List Value, l.all (fun v => v.category == 1) = true → (lg_sl (l.map (cv ad))).length = l.length := by
      intro l
      induction l with
      | nil => intro _; rfl
      | cons a t ih =>
        intro h
        simp only [List.all_cons, Bool.and_eq_true, beq_iff_eq] at h
        have e : lg_sl (cv ad a :: t.map (cv ad)) = [Slot.val (cv ad a)] ++ lg_sl (t.map (cv ad)) := by simp [lg_sl, cv_cat, h.1]
        rw [List.map_cons, e, List.length_append, ih h.2]
        simp; omega
    rw [h1 as hcat]; exact hn
  have hl := lv_entry (as.map (cv ad)) (n := nL) hlen
  rw [lv_args_cv] at hl
  rw [lg_entry_eq]
  exact K s.heap [] _ hP va_S.rf hl
end
section
/-! the rows of the walk: an instruction each -/
theorem lk_mem {α : Type} {k : Nat} {v : α} : ∀ {l : List (Nat × α)}, l.lookup k = some v → (k, v) ∈ l := by
  intro l
  induction l with
  | nil => intro h; cases h
  | cons a t ih =>
    intro h
    obtain ⟨x, y⟩ := a
    rw [List.lookup_cons] at h
    by_cases e : (k == x) = true
    · simp only [e] at h
      have e2 : k = x := by simpa using e
      subst e2
      cases h
      exact List.mem_cons_self
    · simp only [Bool.not_eq_true] at e
      simp only [e] at h
      exact List.mem_cons_of_mem _ (ih h)
theorem lat {ad : Nat → Nat} {ls : Array Slot} {nL k : Nat} {lv : List (Nat × Value)} {v : Value} (h : lv_has ls nL (lv.map (fun q => (q.1, cv ad q.2)))) (hl : lv.lookup k = some v) : ls[k]? = some (.val (cv ad v)) :=
  h.2.2 (k, cv ad v) (List.mem_map.mpr ⟨(k, v), lk_mem hl, rfl⟩)
def lset (lv : List (Nat × Value)) (i : Nat) (v : Value) : List (Nat × Value) := (i, v) :: lv.filter (fun q => !(q.1 == i) && !(q.1 + 1 == i && q.2.category == 2))
theorem lset_cv (ad : Nat → Nat) (lv : List (Nat × Value)) (i : Nat) (v : Value) : (i, cv ad v) :: (lv.map (fun q => (q.1, cv ad q.2))).filter (fun q => !(q.1 == i) && !(q.1 + 1 == i && q.2.category == 2)) = (lset lv i v).map (fun q => (q.1, cv ad q.2)) := by
  have h : ∀ l : List (Nat × Value), (l.map (fun q => (q.1, cv ad q.2))).filter (fun q => !(q.1 == i) && !(q.1 + 1 == i && q.2.category == 2)) = (l.filter (fun q => !(q.1 == i) && !(q.1 + 1 == i && q.2.category == 2))).map (fun q => (q.1, cv ad q.2)) := by
    intro l
    rw [List.filter_map]
    congr 1
    apply List.filter_congr
    intro q _
    simp [cv_cat]
  simp only [lset, List.map_cons, h]
section RULES
variable {X : CxT} {own rn : String} {cc : ByteArray} {n L : Nat} {ret : Option FieldType} {pc pc' : Nat} {lv lv' : List (Nat × Value)} {st : List Value} {σ : St}
theorem V.sub (ks : List Nat) (hl : lv_pick lv ks = lv') (kk : V X pc lv' st σ) : V X pc lv st σ := by
  obtain ⟨p, l, e, s, m, args, below, meth, c, D, cI, ad, nL, lev, P⟩ := X
  intro H locs ls hP hS hL
  refine kk H locs ls hP hS (lv_sub hL ks ?_)
  subst hl
  simp only [lv_pick, List.map_filterMap, List.getElem?_map]
theorem v_iload_n (C : Cx X own cc n ret L) {k : Fin 4} {i : Nat} {x : Int32} (hd : decode cc pc = .ok (.iload_n k, 1)) (hi : (k : Nat) = i) (hl : lv.lookup i = some (.int x)) (hn : pc + 1 = pc') (kk : V X pc' lv (.int x :: st) σ) : V X pc lv st σ := by
  obtain ⟨p, l, e, s, m, args, below, meth, c, D, cI, ad, nL, lev, P⟩ := X
  subst hn
  intro H locs ls hP hS hL
  exact lv_iload_n C.1 C.2.1 hd hi (lat hL hl) (kk H locs ls hP hS hL)
theorem v_iload (C : Cx X own cc n ret L) {i : Nat} {x : Int32} (hd : decode cc pc = .ok (.iload i, 2)) (hl : lv.lookup i = some (.int x)) (hn : pc + 2 = pc') (kk : V X pc' lv (.int x :: st) σ) : V X pc lv st σ := by
  obtain ⟨p, l, e, s, m, args, below, meth, c, D, cI, ad, nL, lev, P⟩ := X
  subst hn
  intro H locs ls hP hS hL
  exact lv_iload C.1 C.2.1 hd (lat hL hl) (kk H locs ls hP hS hL)
theorem v_aload_n (C : Cx X own cc n ret L) {k : Fin 4} {i x : Nat} (hd : decode cc pc = .ok (.aload_n k, 1)) (hi : (k : Nat) = i) (hl : lv.lookup i = some (.ref x)) (hn : pc + 1 = pc') (kk : V X pc' lv (.ref x :: st) σ) : V X pc lv st σ := by
  obtain ⟨p, l, e, s, m, args, below, meth, c, D, cI, ad, nL, lev, P⟩ := X
  subst hn
  intro H locs ls hP hS hL
  exact lv_aload_n C.1 C.2.1 hd hi (lat hL hl) (kk H locs ls hP hS hL)
theorem v_aload (C : Cx X own cc n ret L) {i x : Nat} (hd : decode cc pc = .ok (.aload i, 2)) (hl : lv.lookup i = some (.ref x)) (hn : pc + 2 = pc') (kk : V X pc' lv (.ref x :: st) σ) : V X pc lv st σ := by
  obtain ⟨p, l, e, s, m, args, below, meth, c, D, cI, ad, nL, lev, P⟩ := X
  subst hn
  intro H locs ls hP hS hL
  exact lv_aload C.1 C.2.1 hd (lat hL hl) (kk H locs ls hP hS hL)
theorem v_istore_n (C : Cx X own cc n ret L) {k : Fin 4} {i : Nat} {x : Int32} (hd : decode cc pc = .ok (.istore_n k, 1)) (hi : (k : Nat) = i) (hin : i < n) (hl : lset lv i (.int x) = lv') (hn : pc + 1 = pc') (kk : V X pc' lv' st σ) : V X pc lv (.int x :: st) σ := by
  obtain ⟨p, l, e, s, m, args, below, meth, c, D, cI, ad, nL, lev, P⟩ := X
  subst hn; subst hl
  intro H locs ls hP hS hL
  exact lv_istore_n C.1 C.2.1 hd hi hL (by rw [C.2.2.2.1]; exact hin) (lset_cv ad lv i (.int x)) (fun ls hL => kk H locs ls hP hS hL)
theorem v_istore (C : Cx X own cc n ret L) {i : Nat} {x : Int32} (hd : decode cc pc = .ok (.istore i, 2)) (hin : i < n) (hl : lset lv i (.int x) = lv') (hn : pc + 2 = pc') (kk : V X pc' lv' st σ) : V X pc lv (.int x :: st) σ := by
  obtain ⟨p, l, e, s, m, args, below, meth, c, D, cI, ad, nL, lev, P⟩ := X
  subst hn; subst hl
  intro H locs ls hP hS hL
  exact lv_istore C.1 C.2.1 hd hL (by rw [C.2.2.2.1]; exact hin) (lset_cv ad lv i (.int x)) (fun ls hL => kk H locs ls hP hS hL)
theorem v_astore_n (C : Cx X own cc n ret L) {k : Fin 4} {i : Nat} {x : Nat} (hd : decode cc pc = .ok (.astore_n k, 1)) (hi : (k : Nat) = i) (hin : i < n) (hl : lset lv i (.ref x) = lv') (hn : pc + 1 = pc') (kk : V X pc' lv' st σ) : V X pc lv (.ref x :: st) σ := by
  obtain ⟨p, l, e, s, m, args, below, meth, c, D, cI, ad, nL, lev, P⟩ := X
  subst hn; subst hl
  intro H locs ls hP hS hL
  exact lv_astore_n C.1 C.2.1 hd hi hL (by rw [C.2.2.2.1]; exact hin) (lset_cv ad lv i (.ref x)) (fun ls hL => kk H locs ls hP hS hL)
theorem v_astore (C : Cx X own cc n ret L) {i : Nat} {x : Nat} (hd : decode cc pc = .ok (.astore i, 2)) (hin : i < n) (hl : lset lv i (.ref x) = lv') (hn : pc + 2 = pc') (kk : V X pc' lv' st σ) : V X pc lv (.ref x :: st) σ := by
  obtain ⟨p, l, e, s, m, args, below, meth, c, D, cI, ad, nL, lev, P⟩ := X
  subst hn; subst hl
  intro H locs ls hP hS hL
  exact lv_astore C.1 C.2.1 hd hL (by rw [C.2.2.2.1]; exact hin) (lset_cv ad lv i (.ref x)) (fun ls hL => kk H locs ls hP hS hL)
theorem v_iinc (C : Cx X own cc n ret L) {i : Nat} {d : Int} {x v : Int32} (hd : decode cc pc = .ok (.iinc i d, 3)) (hl : lv.lookup i = some (.int x)) (hv : x + Int32.ofInt d = v) (hin : i < n) (hs : lset lv i (.int v) = lv') (hn : pc + 3 = pc') (kk : V X pc' lv' st σ) : V X pc lv st σ := by
  obtain ⟨p, l, e, s, m, args, below, meth, c, D, cI, ad, nL, lev, P⟩ := X
  subst hn; subst hs
  intro H locs ls hP hS hL
  obtain ⟨j, hj⟩ := List.getElem?_of_mem (List.mem_map.mpr ⟨(i, Value.int x), lk_mem hl, rfl⟩ : (i, cv ad (Value.int x)) ∈ lv.map (fun q => (q.1, cv ad q.2)))
  exact lv_iinc C.1 C.2.1 hd hL hj hv (by rw [C.2.2.2.1]; exact hin) (lset_cv ad lv i (.int v)) (fun ls hL => kk H locs ls hP hS hL)
theorem v_iconst (C : Cx X own cc n ret L) {d : Int} {v : Int32} (hd : decode cc pc = .ok (.iconst d, 1)) (hv : Int32.ofInt d = v) (hn : pc + 1 = pc') (kk : V X pc' lv (.int v :: st) σ) : V X pc lv (st) σ := by
  obtain ⟨p, l, e, s, m, args, below, meth, c, D, cI, ad, nL, lev, P⟩ := X
  subst hn
  intro H locs ls hP hS hL
  exact lv_iconst C.1 C.2.1 hd hv (kk H locs ls hP hS hL)
theorem v_bipush (C : Cx X own cc n ret L) {d : Int} {v : Int32} (hd : decode cc pc = .ok (.bipush d, 2)) (hv : (Int8.ofInt d).toInt32 = v) (hn : pc + 2 = pc') (kk : V X pc' lv (.int v :: st) σ) : V X pc lv (st) σ := by
  obtain ⟨p, l, e, s, m, args, below, meth, c, D, cI, ad, nL, lev, P⟩ := X
  subst hn
  intro H locs ls hP hS hL
  exact lv_bipush C.1 C.2.1 hd hv (kk H locs ls hP hS hL)
theorem v_sipush (C : Cx X own cc n ret L) {d : Int} {v : Int32} (hd : decode cc pc = .ok (.sipush d, 3)) (hv : (Int16.ofInt d).toInt32 = v) (hn : pc + 3 = pc') (kk : V X pc' lv (.int v :: st) σ) : V X pc lv (st) σ := by
  obtain ⟨p, l, e, s, m, args, below, meth, c, D, cI, ad, nL, lev, P⟩ := X
  subst hn
  intro H locs ls hP hS hL
  exact lv_sipush C.1 C.2.1 hd hv (kk H locs ls hP hS hL)
theorem v_iadd (C : Cx X own cc n ret L) {x y : Int32} (hd : decode cc pc = .ok (.iadd, 1)) (hn : pc + 1 = pc') (kk : V X pc' lv (.int (x + y) :: st) σ) : V X pc lv (.int y :: .int x :: st) σ := by
  obtain ⟨p, l, e, s, m, args, below, meth, c, D, cI, ad, nL, lev, P⟩ := X
  subst hn
  intro H locs ls hP hS hL
  exact lv_iadd C.1 C.2.1 hd (kk H locs ls hP hS hL)
theorem v_isub (C : Cx X own cc n ret L) {x y : Int32} (hd : decode cc pc = .ok (.isub, 1)) (hn : pc + 1 = pc') (kk : V X pc' lv (.int (x - y) :: st) σ) : V X pc lv (.int y :: .int x :: st) σ := by
  obtain ⟨p, l, e, s, m, args, below, meth, c, D, cI, ad, nL, lev, P⟩ := X
  subst hn
  intro H locs ls hP hS hL
  exact lv_isub C.1 C.2.1 hd (kk H locs ls hP hS hL)
theorem v_imul (C : Cx X own cc n ret L) {x y : Int32} (hd : decode cc pc = .ok (.imul, 1)) (hn : pc + 1 = pc') (kk : V X pc' lv (.int (x * y) :: st) σ) : V X pc lv (.int y :: .int x :: st) σ := by
  obtain ⟨p, l, e, s, m, args, below, meth, c, D, cI, ad, nL, lev, P⟩ := X
  subst hn
  intro H locs ls hP hS hL
  exact lv_imul C.1 C.2.1 hd (kk H locs ls hP hS hL)
theorem v_iand (C : Cx X own cc n ret L) {x y : Int32} (hd : decode cc pc = .ok (.iand, 1)) (hn : pc + 1 = pc') (kk : V X pc' lv (.int (x &&& y) :: st) σ) : V X pc lv (.int y :: .int x :: st) σ := by
  obtain ⟨p, l, e, s, m, args, below, meth, c, D, cI, ad, nL, lev, P⟩ := X
  subst hn
  intro H locs ls hP hS hL
  exact lv_iand C.1 C.2.1 hd (kk H locs ls hP hS hL)
theorem v_ior (C : Cx X own cc n ret L) {x y : Int32} (hd : decode cc pc = .ok (.ior, 1)) (hn : pc + 1 = pc') (kk : V X pc' lv (.int (x ||| y) :: st) σ) : V X pc lv (.int y :: .int x :: st) σ := by
  obtain ⟨p, l, e, s, m, args, below, meth, c, D, cI, ad, nL, lev, P⟩ := X
  subst hn
  intro H locs ls hP hS hL
  exact lv_ior C.1 C.2.1 hd (kk H locs ls hP hS hL)
theorem v_ishl (C : Cx X own cc n ret L) {x y : Int32} (hd : decode cc pc = .ok (.ishl, 1)) (hn : pc + 1 = pc') (kk : V X pc' lv (.int (x <<< (y &&& 31)) :: st) σ) : V X pc lv (.int y :: .int x :: st) σ := by
  obtain ⟨p, l, e, s, m, args, below, meth, c, D, cI, ad, nL, lev, P⟩ := X
  subst hn
  intro H locs ls hP hS hL
  exact lv_ishl C.1 C.2.1 hd (kk H locs ls hP hS hL)
theorem v_ishr (C : Cx X own cc n ret L) {x y : Int32} (hd : decode cc pc = .ok (.ishr, 1)) (hn : pc + 1 = pc') (kk : V X pc' lv (.int (x >>> (y &&& 31)) :: st) σ) : V X pc lv (.int y :: .int x :: st) σ := by
  obtain ⟨p, l, e, s, m, args, below, meth, c, D, cI, ad, nL, lev, P⟩ := X
  subst hn
  intro H locs ls hP hS hL
  exact lv_ishr C.1 C.2.1 hd (kk H locs ls hP hS hL)
theorem v_idiv (C : Cx X own cc n ret L) {x y : Int32} (hd : decode cc pc = .ok (.idiv, 1)) (hne : ¬ y = 0) (hn : pc + 1 = pc') (kk : V X pc' lv (.int (x / y) :: st) σ) : V X pc lv (.int y :: .int x :: st) σ := by
  obtain ⟨p, l, e, s, m, args, below, meth, c, D, cI, ad, nL, lev, P⟩ := X
  subst hn
  intro H locs ls hP hS hL
  exact lv_idiv C.1 C.2.1 hd hne (kk H locs ls hP hS hL)
theorem v_irem (C : Cx X own cc n ret L) {x y : Int32} (hd : decode cc pc = .ok (.irem, 1)) (hne : ¬ y = 0) (hn : pc + 1 = pc') (kk : V X pc' lv (.int (x - x / y * y) :: st) σ) : V X pc lv (.int y :: .int x :: st) σ := by
  obtain ⟨p, l, e, s, m, args, below, meth, c, D, cI, ad, nL, lev, P⟩ := X
  subst hn
  intro H locs ls hP hS hL
  exact lv_irem C.1 C.2.1 hd hne (kk H locs ls hP hS hL)
theorem v_ineg (C : Cx X own cc n ret L) {x : Int32} (hd : decode cc pc = .ok (.ineg, 1)) (hn : pc + 1 = pc') (kk : V X pc' lv (.int (-x) :: st) σ) : V X pc lv (.int x :: st) σ := by
  obtain ⟨p, l, e, s, m, args, below, meth, c, D, cI, ad, nL, lev, P⟩ := X
  subst hn
  intro H locs ls hP hS hL
  exact lv_ineg C.1 C.2.1 hd (kk H locs ls hP hS hL)
theorem v_dup (C : Cx X own cc n ret L) {a : Value} (hd : decode cc pc = .ok (.dup, 1)) (ha : a.category = 1) (hn : pc + 1 = pc') (kk : V X pc' lv (a :: a :: st) σ) : V X pc lv (a :: st) σ := by
  obtain ⟨p, l, e, s, m, args, below, meth, c, D, cI, ad, nL, lev, P⟩ := X
  subst hn
  intro H locs ls hP hS hL
  exact lv_dup C.1 C.2.1 hd (by rw [cv_cat]; exact ha) (kk H locs ls hP hS hL)
theorem v_dup2 (C : Cx X own cc n ret L) {a b : Value} (hd : decode cc pc = .ok (.dup2, 1)) (ha : a.category = 1) (hb : b.category = 1) (hn : pc + 1 = pc') (kk : V X pc' lv (a :: b :: a :: b :: st) σ) : V X pc lv (a :: b :: st) σ := by
  obtain ⟨p, l, e, s, m, args, below, meth, c, D, cI, ad, nL, lev, P⟩ := X
  subst hn
  intro H locs ls hP hS hL
  exact lv_dup2_11 C.1 C.2.1 hd (by rw [cv_cat]; exact ha) (by rw [cv_cat]; exact hb) (kk H locs ls hP hS hL)
theorem v_pop (C : Cx X own cc n ret L) {a : Value} (hd : decode cc pc = .ok (.pop, 1)) (ha : a.category = 1) (hn : pc + 1 = pc') (kk : V X pc' lv st σ) : V X pc lv (a :: st) σ := by
  obtain ⟨p, l, e, s, m, args, below, meth, c, D, cI, ad, nL, lev, P⟩ := X
  subst hn
  intro H locs ls hP hS hL
  exact lv_pop C.1 C.2.1 hd (by rw [cv_cat]; exact ha) (kk H locs ls hP hS hL)
theorem v_goto (C : Cx X own cc n ret L) {off : Int} {tgt : Nat} (hd : decode cc pc = .ok (.goto off, 3)) (ht : (pc : Int) + off = (tgt : Int)) (kk : V X tgt lv st σ) : V X pc lv st σ := by
  obtain ⟨p, l, e, s, m, args, below, meth, c, D, cI, ad, nL, lev, P⟩ := X
  intro H locs ls hP hS hL
  exact lv_goto C.1 C.2.1 hd ht (kk H locs ls hP hS hL)
theorem v_if_eq (C : Cx X own cc n ret L) {x : Int32} {off : Int} {tgt : Nat} (hd : decode cc pc = .ok (.ifCond .eq off, 3)) (ht : (pc : Int) + off = (tgt : Int)) (hn : pc + 3 = pc') (kt : x = 0 → V X tgt lv st σ) (kf : ¬ x = 0 → V X pc' lv st σ) : V X pc lv (.int x :: st) σ := by
  obtain ⟨p, l, e, s, m, args, below, meth, c, D, cI, ad, nL, lev, P⟩ := X
  subst hn
  intro H locs ls hP hS hL
  exact lv_if_eq C.1 C.2.1 hd ht (fun q => kt q H locs ls hP hS hL) (fun q => kf q H locs ls hP hS hL)
theorem v_icmp_eq (C : Cx X own cc n ret L) {x y : Int32} {off : Int} {tgt : Nat} (hd : decode cc pc = .ok (.if_icmp .eq off, 3)) (ht : (pc : Int) + off = (tgt : Int)) (hn : pc + 3 = pc') (kt : x = y → V X tgt lv st σ) (kf : ¬ x = y → V X pc' lv st σ) : V X pc lv (.int y :: .int x :: st) σ := by
  obtain ⟨p, l, e, s, m, args, below, meth, c, D, cI, ad, nL, lev, P⟩ := X
  subst hn
  intro H locs ls hP hS hL
  exact lv_icmp_eq C.1 C.2.1 hd ht (fun q => kt q H locs ls hP hS hL) (fun q => kf q H locs ls hP hS hL)
theorem v_if_ne (C : Cx X own cc n ret L) {x : Int32} {off : Int} {tgt : Nat} (hd : decode cc pc = .ok (.ifCond .ne off, 3)) (ht : (pc : Int) + off = (tgt : Int)) (hn : pc + 3 = pc') (kt : ¬ x = 0 → V X tgt lv st σ) (kf : x = 0 → V X pc' lv st σ) : V X pc lv (.int x :: st) σ := by
  obtain ⟨p, l, e, s, m, args, below, meth, c, D, cI, ad, nL, lev, P⟩ := X
  subst hn
  intro H locs ls hP hS hL
  exact lv_if_ne C.1 C.2.1 hd ht (fun q => kt q H locs ls hP hS hL) (fun q => kf q H locs ls hP hS hL)
theorem v_icmp_ne (C : Cx X own cc n ret L) {x y : Int32} {off : Int} {tgt : Nat} (hd : decode cc pc = .ok (.if_icmp .ne off, 3)) (ht : (pc : Int) + off = (tgt : Int)) (hn : pc + 3 = pc') (kt : ¬ x = y → V X tgt lv st σ) (kf : x = y → V X pc' lv st σ) : V X pc lv (.int y :: .int x :: st) σ := by
  obtain ⟨p, l, e, s, m, args, below, meth, c, D, cI, ad, nL, lev, P⟩ := X
  subst hn
  intro H locs ls hP hS hL
  exact lv_icmp_ne C.1 C.2.1 hd ht (fun q => kt q H locs ls hP hS hL) (fun q => kf q H locs ls hP hS hL)
theorem v_if_lt (C : Cx X own cc n ret L) {x : Int32} {off : Int} {tgt : Nat} (hd : decode cc pc = .ok (.ifCond .lt off, 3)) (ht : (pc : Int) + off = (tgt : Int)) (hn : pc + 3 = pc') (kt : x < 0 → V X tgt lv st σ) (kf : ¬ x < 0 → V X pc' lv st σ) : V X pc lv (.int x :: st) σ := by
  obtain ⟨p, l, e, s, m, args, below, meth, c, D, cI, ad, nL, lev, P⟩ := X
  subst hn
  intro H locs ls hP hS hL
  exact lv_if_lt C.1 C.2.1 hd ht (fun q => kt q H locs ls hP hS hL) (fun q => kf q H locs ls hP hS hL)
theorem v_icmp_lt (C : Cx X own cc n ret L) {x y : Int32} {off : Int} {tgt : Nat} (hd : decode cc pc = .ok (.if_icmp .lt off, 3)) (ht : (pc : Int) + off = (tgt : Int)) (hn : pc + 3 = pc') (kt : x < y → V X tgt lv st σ) (kf : ¬ x < y → V X pc' lv st σ) : V X pc lv (.int y :: .int x :: st) σ := by
  obtain ⟨p, l, e, s, m, args, below, meth, c, D, cI, ad, nL, lev, P⟩ := X
  subst hn
  intro H locs ls hP hS hL
  exact lv_icmp_lt C.1 C.2.1 hd ht (fun q => kt q H locs ls hP hS hL) (fun q => kf q H locs ls hP hS hL)
theorem v_if_ge (C : Cx X own cc n ret L) {x : Int32} {off : Int} {tgt : Nat} (hd : decode cc pc = .ok (.ifCond .ge off, 3)) (ht : (pc : Int) + off = (tgt : Int)) (hn : pc + 3 = pc') (kt : ¬ x < 0 → V X tgt lv st σ) (kf : x < 0 → V X pc' lv st σ) : V X pc lv (.int x :: st) σ := by
  obtain ⟨p, l, e, s, m, args, below, meth, c, D, cI, ad, nL, lev, P⟩ := X
  subst hn
  intro H locs ls hP hS hL
  exact lv_if_ge C.1 C.2.1 hd ht (fun q => kt (Int32.not_lt.mpr q) H locs ls hP hS hL) (fun q => kf (Int32.not_le.mp q) H locs ls hP hS hL)
theorem v_icmp_ge (C : Cx X own cc n ret L) {x y : Int32} {off : Int} {tgt : Nat} (hd : decode cc pc = .ok (.if_icmp .ge off, 3)) (ht : (pc : Int) + off = (tgt : Int)) (hn : pc + 3 = pc') (kt : ¬ x < y → V X tgt lv st σ) (kf : x < y → V X pc' lv st σ) : V X pc lv (.int y :: .int x :: st) σ := by
  obtain ⟨p, l, e, s, m, args, below, meth, c, D, cI, ad, nL, lev, P⟩ := X
  subst hn
  intro H locs ls hP hS hL
  exact lv_icmp_ge C.1 C.2.1 hd ht (fun q => kt (Int32.not_lt.mpr q) H locs ls hP hS hL) (fun q => kf (Int32.not_le.mp q) H locs ls hP hS hL)
theorem v_if_gt (C : Cx X own cc n ret L) {x : Int32} {off : Int} {tgt : Nat} (hd : decode cc pc = .ok (.ifCond .gt off, 3)) (ht : (pc : Int) + off = (tgt : Int)) (hn : pc + 3 = pc') (kt : 0 < x → V X tgt lv st σ) (kf : ¬ 0 < x → V X pc' lv st σ) : V X pc lv (.int x :: st) σ := by
  obtain ⟨p, l, e, s, m, args, below, meth, c, D, cI, ad, nL, lev, P⟩ := X
  subst hn
  intro H locs ls hP hS hL
  exact lv_if_gt C.1 C.2.1 hd ht (fun q => kt q H locs ls hP hS hL) (fun q => kf q H locs ls hP hS hL)
theorem v_icmp_gt (C : Cx X own cc n ret L) {x y : Int32} {off : Int} {tgt : Nat} (hd : decode cc pc = .ok (.if_icmp .gt off, 3)) (ht : (pc : Int) + off = (tgt : Int)) (hn : pc + 3 = pc') (kt : y < x → V X tgt lv st σ) (kf : ¬ y < x → V X pc' lv st σ) : V X pc lv (.int y :: .int x :: st) σ := by
  obtain ⟨p, l, e, s, m, args, below, meth, c, D, cI, ad, nL, lev, P⟩ := X
  subst hn
  intro H locs ls hP hS hL
  exact lv_icmp_gt C.1 C.2.1 hd ht (fun q => kt q H locs ls hP hS hL) (fun q => kf q H locs ls hP hS hL)
theorem v_if_le (C : Cx X own cc n ret L) {x : Int32} {off : Int} {tgt : Nat} (hd : decode cc pc = .ok (.ifCond .le off, 3)) (ht : (pc : Int) + off = (tgt : Int)) (hn : pc + 3 = pc') (kt : ¬ 0 < x → V X tgt lv st σ) (kf : 0 < x → V X pc' lv st σ) : V X pc lv (.int x :: st) σ := by
  obtain ⟨p, l, e, s, m, args, below, meth, c, D, cI, ad, nL, lev, P⟩ := X
  subst hn
  intro H locs ls hP hS hL
  exact lv_if_le C.1 C.2.1 hd ht (fun q => kt (Int32.not_lt.mpr q) H locs ls hP hS hL) (fun q => kf (Int32.not_le.mp q) H locs ls hP hS hL)
theorem v_icmp_le (C : Cx X own cc n ret L) {x y : Int32} {off : Int} {tgt : Nat} (hd : decode cc pc = .ok (.if_icmp .le off, 3)) (ht : (pc : Int) + off = (tgt : Int)) (hn : pc + 3 = pc') (kt : ¬ y < x → V X tgt lv st σ) (kf : y < x → V X pc' lv st σ) : V X pc lv (.int y :: .int x :: st) σ := by
  obtain ⟨p, l, e, s, m, args, below, meth, c, D, cI, ad, nL, lev, P⟩ := X
  subst hn
  intro H locs ls hP hS hL
  exact lv_icmp_le C.1 C.2.1 hd ht (fun q => kt (Int32.not_lt.mpr q) H locs ls hP hS hL) (fun q => kf (Int32.not_le.mp q) H locs ls hP hS hL)
theorem v_tableIn (C : Cx X own cc n ret L) {dflt lo hi : Int} {offs : Array Int} {len : Nat} {x : Int32} {off : Int} {tgt : Nat} (hd : decode cc pc = .ok (.tableswitch dflt lo hi offs, len)) (h1 : ¬ x.toInt < lo) (h2 : ¬ hi < x.toInt) (ho : offs[(x.toInt - lo).toNat]? = some off) (ht : (pc : Int) + off = (tgt : Int)) (kk : V X tgt lv st σ) : V X pc lv (.int x :: st) σ := by
  obtain ⟨p, l, e, s, m, args, below, meth, c, D, cI, ad, nL, lev, P⟩ := X
  intro H locs ls hP hS hL
  exact lv_tableIn C.1 C.2.1 hd h1 h2 ho ht (kk H locs ls hP hS hL)
theorem v_tableOut (C : Cx X own cc n ret L) {dflt lo hi : Int} {offs : Array Int} {len : Nat} {x : Int32} {tgt : Nat} (hd : decode cc pc = .ok (.tableswitch dflt lo hi offs, len)) (h : x.toInt < lo ∨ hi < x.toInt) (ht : (pc : Int) + dflt = (tgt : Int)) (kk : V X tgt lv st σ) : V X pc lv (.int x :: st) σ := by
  obtain ⟨p, l, e, s, m, args, below, meth, c, D, cI, ad, nL, lev, P⟩ := X
  intro H locs ls hP hS hL
  exact lv_tableOut C.1 C.2.1 hd h ht (kk H locs ls hP hS hL)
theorem v_lookup (C : Cx X own cc n ret L) {dflt : Int} {ps : Array (Int × Int)} {len : Nat} {x : Int32} {off : Int} {tgt : Nat} (hd : decode cc pc = .ok (.lookupswitch dflt ps, len)) (hp : (ps.toList.zip (ps.toList.drop 1)).all (fun (a, next) => a.1 < next.1) = true) (ho : Op.lookupswitch.offset ps.toList dflt x.toInt = off) (ht : (pc : Int) + off = (tgt : Int)) (kk : V X tgt lv st σ) : V X pc lv (.int x :: st) σ := by
  obtain ⟨p, l, e, s, m, args, below, meth, c, D, cI, ad, nL, lev, P⟩ := X
  intro H locs ls hP hS hL
  exact lv_lookup C.1 C.2.1 hd hp ho ht (kk H locs ls hP hS hL)
theorem v_ldc (C : Cx X own cc n ret L) {idx : Nat} {v : Int32} (hw : Cond.constant own idx v ∈ BIG) (hd : decode cc pc = .ok (.ldc idx, 2)) (hn : pc + 2 = pc') (kk : V X pc' lv (.int v :: st) σ) : V X pc lv st σ := by
  obtain ⟨p, l, e, s, m, args, below, meth, c, D, cI, ad, nL, lev, P⟩ := X
  subst hn
  intro H locs ls hP hS hL
  exact lv_ldc C.1 C.2.1 C.2.2.2.2.2.2.2.1 (C.2.2.2.2.2.2.2.2.1 _ hw) hd (kk H locs ls hP hS hL)
theorem v_ldcw (C : Cx X own cc n ret L) {idx : Nat} {v : Int32} (hw : Cond.constant own idx v ∈ BIG) (hd : decode cc pc = .ok (.ldc_w idx, 3)) (hn : pc + 3 = pc') (kk : V X pc' lv (.int v :: st) σ) : V X pc lv st σ := by
  obtain ⟨p, l, e, s, m, args, below, meth, c, D, cI, ad, nL, lev, P⟩ := X
  subst hn
  intro H locs ls hP hS hL
  exact lv_ldcw C.1 C.2.1 C.2.2.2.2.2.2.2.1 (C.2.2.2.2.2.2.2.2.1 _ hw) hd (kk H locs ls hP hS hL)
theorem shp_lt {k n : Nat} (hk : k < NC) (h : shp k = .inr n) : k < NC := hk
/-- the fields of an object, and its rows -/
theorem v_getI (C : Cx X own cc n ret L) {k ci : Nat} {fl : List (Option Nat)} {Cn : String} {T : u_T} {N idx : Nat} (hk : k < NC) (hs : shp k = .inl (ci, fl)) (hc : clss[ci]? = some (Cn, T, N)) (hin : ∀ w ∈ u_ws Cn T N, w ∈ BIG) (j : Nat) (hj : j < N) (hlink : Cond.fieldLink own idx (T j).1 (T j).2.1 (T j).2.2.1 ∈ BIG) (hf : fl[j]? = some none) (hd : decode cc pc = .ok (.getfield idx, 3)) (hn : pc + 3 = pc') (kk : V X pc' lv (.int (σ k j) :: st) σ) : V X pc lv (.ref k :: st) σ := by
  obtain ⟨p, l, e, s, m, args, below, meth, c, D, cI, ad, nL, lev, P⟩ := X
  subst hn
  intro H locs ls hP hS hL
  exact va_get (ws := wld ad cI σ) C.1 C.2.1 C.2.2.2.2.2.2.2.2.1 hin C.2.2.2.2.2.2.2.1 C.2.2.2.2.2.2.2.2.2.2.1 hP _ ((wld_at hk).trans (by rw [ent_obj hs])) hc j hj (C.2.2.2.2.2.2.2.2.1 _ hlink) (fun _ h => h) (fs_at hf) hd (kk H locs ls hP hS hL)
theorem v_getR (C : Cx X own cc n ret L) {k ci r : Nat} {fl : List (Option Nat)} {Cn : String} {T : u_T} {N idx : Nat} (hk : k < NC) (hs : shp k = .inl (ci, fl)) (hc : clss[ci]? = some (Cn, T, N)) (hin : ∀ w ∈ u_ws Cn T N, w ∈ BIG) (j : Nat) (hj : j < N) (hlink : Cond.fieldLink own idx (T j).1 (T j).2.1 (T j).2.2.1 ∈ BIG) (hf : fl[j]? = some (some r)) (hd : decode cc pc = .ok (.getfield idx, 3)) (hn : pc + 3 = pc') (kk : V X pc' lv (.ref r :: st) σ) : V X pc lv (.ref k :: st) σ := by
  obtain ⟨p, l, e, s, m, args, below, meth, c, D, cI, ad, nL, lev, P⟩ := X
  subst hn
  intro H locs ls hP hS hL
  exact va_get (ws := wld ad cI σ) C.1 C.2.1 C.2.2.2.2.2.2.2.2.1 hin C.2.2.2.2.2.2.2.1 C.2.2.2.2.2.2.2.2.2.2.1 hP _ ((wld_at hk).trans (by rw [ent_obj hs])) hc j hj (C.2.2.2.2.2.2.2.2.1 _ hlink) (fun _ h => h) (fs_at hf) hd (kk H locs ls hP hS hL)
theorem v_getNI (C : Cx X own cc n ret L) {k ci : Nat} {fl : List (Option Nat)} {Cn host : String} {T : u_T} {N idx : Nat} (hk : k < NC) (hs : shp k = .inl (ci, fl)) (hc : clss[ci]? = some (Cn, T, N)) (hin : ∀ w ∈ u_ws Cn T N, w ∈ BIG) (j : Nat) (hj : j < N) (hlink : Cond.fieldLinkNest own idx (T j).1 (T j).2.1 (T j).2.2.1 host ∈ NST) (hf : fl[j]? = some none) (hd : decode cc pc = .ok (.getfield idx, 3)) (hn : pc + 3 = pc') (kk : V X pc' lv (.int (σ k j) :: st) σ) : V X pc lv (.ref k :: st) σ := by
  obtain ⟨p, l, e, s, m, args, below, meth, c, D, cI, ad, nL, lev, P⟩ := X
  subst hn
  intro H locs ls hP hS hL
  exact va_getN (ws := wld ad cI σ) C.1 C.2.1 C.2.2.2.2.2.2.2.2.1 hin C.2.2.2.2.2.2.2.1 C.2.2.2.2.2.2.2.2.2.2.1 hP _ ((wld_at hk).trans (by rw [ent_obj hs])) hc j hj (va_Nw.use rfl (C.2.2.2.2.2.2.2.2.2.1 _ hlink)) (fun _ h => h) (fs_at hf) hd (kk H locs ls hP hS hL)
theorem v_getNR (C : Cx X own cc n ret L) {k ci r : Nat} {fl : List (Option Nat)} {Cn host : String} {T : u_T} {N idx : Nat} (hk : k < NC) (hs : shp k = .inl (ci, fl)) (hc : clss[ci]? = some (Cn, T, N)) (hin : ∀ w ∈ u_ws Cn T N, w ∈ BIG) (j : Nat) (hj : j < N) (hlink : Cond.fieldLinkNest own idx (T j).1 (T j).2.1 (T j).2.2.1 host ∈ NST) (hf : fl[j]? = some (some r)) (hd : decode cc pc = .ok (.getfield idx, 3)) (hn : pc + 3 = pc') (kk : V X pc' lv (.ref r :: st) σ) : V X pc lv (.ref k :: st) σ := by
  obtain ⟨p, l, e, s, m, args, below, meth, c, D, cI, ad, nL, lev, P⟩ := X
  subst hn
  intro H locs ls hP hS hL
  exact va_getN (ws := wld ad cI σ) C.1 C.2.1 C.2.2.2.2.2.2.2.2.1 hin C.2.2.2.2.2.2.2.1 C.2.2.2.2.2.2.2.2.2.2.1 hP _ ((wld_at hk).trans (by rw [ent_obj hs])) hc j hj (va_Nw.use rfl (C.2.2.2.2.2.2.2.2.2.1 _ hlink)) (fun _ h => h) (fs_at hf) hd (kk H locs ls hP hS hL)
theorem v_put (C : Cx X own cc n ret L) {k ci : Nat} {fl : List (Option Nat)} {Cn : String} {T : u_T} {N idx : Nat} {v : Int32} {ty0 : Nat → FieldType} {ty : FieldType} (hk : k < NC) (hs : shp k = .inl (ci, fl)) (hc : clss[ci]? = some (Cn, T, N)) (hin : ∀ w ∈ u_ws Cn T N, w ∈ BIG) (hty : ∀ k, k < N → parseFieldDescriptor (T k).2.2.1 = some (ty0 k)) (hnm : ∀ a, a < N → ∀ b, b < N → a ≠ b → (T a).2.1 ≠ (T b).2.1) (j : Nat) (hj : j < N) (hlink : Cond.fieldLink own idx (T j).1 (T j).2.1 (T j).2.2.1 ∈ BIG) (hfin : (T j).2.2.2 = false) (hdt : parseFieldDescriptor (T j).2.2.1 = some ty) (hnv : narrow ty (.int v) = .int v) (hfit : fits ty (.int v) = true) (hf : fl[j]? = some none) (hd : decode cc pc = .ok (.putfield idx, 3)) (hn : pc + 3 = pc') (kk : V X pc' lv st (s2 σ k j v)) : V X pc lv (.int v :: .ref k :: st) σ := by
  obtain ⟨p, l, e, s, m, args, below, meth, c, D, cI, ad, nL, lev, P⟩ := X
  subst hn
  intro H locs ls hP hS hL
  refine va_put (ws := wld ad cI σ) C.1 C.2.1 C.2.2.2.2.2.2.2.2.1 hin ty0 hty hnm C.2.2.2.2.2.2.2.1 C.2.2.2.2.2.2.2.2.2.2.1 hP (wld_D C.2.2.2.2.2.2.2.2.2.2.2) hS _ ((wld_at hk).trans (by rw [ent_obj hs])) hc j hj (C.2.2.2.2.2.2.2.2.1 _ hlink) (fun _ h => h) hfin hdt hnv hfit (by rw [List.length_map, List.length_range]; exact (List.getElem?_eq_some_iff.mp hf).1) hd (fun H1 locs1 hP1 hD1 hS1 => ?_)
  rw [wld_set (σ' := s2 σ _ j v) (by rw [ent_obj hs]; exact congrArg (fun z => Sum.inr (ci, z)) (fs_set hf).symm) (fun a ha => ent_ne ha)] at hP1
  exact kk H1 locs1 ls hP1 hS1 hL
theorem v_putN (C : Cx X own cc n ret L) {k ci : Nat} {fl : List (Option Nat)} {Cn host : String} {T : u_T} {N idx : Nat} {v : Int32} {ty0 : Nat → FieldType} {ty : FieldType} (hk : k < NC) (hs : shp k = .inl (ci, fl)) (hc : clss[ci]? = some (Cn, T, N)) (hin : ∀ w ∈ u_ws Cn T N, w ∈ BIG) (hty : ∀ k, k < N → parseFieldDescriptor (T k).2.2.1 = some (ty0 k)) (hnm : ∀ a, a < N → ∀ b, b < N → a ≠ b → (T a).2.1 ≠ (T b).2.1) (j : Nat) (hj : j < N) (hlink : Cond.fieldLinkNest own idx (T j).1 (T j).2.1 (T j).2.2.1 host ∈ NST) (hfin : (T j).2.2.2 = false) (hdt : parseFieldDescriptor (T j).2.2.1 = some ty) (hnv : narrow ty (.int v) = .int v) (hfit : fits ty (.int v) = true) (hf : fl[j]? = some none) (hd : decode cc pc = .ok (.putfield idx, 3)) (hn : pc + 3 = pc') (kk : V X pc' lv st (s2 σ k j v)) : V X pc lv (.int v :: .ref k :: st) σ := by
  obtain ⟨p, l, e, s, m, args, below, meth, c, D, cI, ad, nL, lev, P⟩ := X
  subst hn
  intro H locs ls hP hS hL
  refine va_putN (ws := wld ad cI σ) C.1 C.2.1 C.2.2.2.2.2.2.2.2.1 hin ty0 hty hnm C.2.2.2.2.2.2.2.1 C.2.2.2.2.2.2.2.2.2.2.1 hP (wld_D C.2.2.2.2.2.2.2.2.2.2.2) hS _ ((wld_at hk).trans (by rw [ent_obj hs])) hc j hj (va_Nw.use rfl (C.2.2.2.2.2.2.2.2.2.1 _ hlink)) (fun _ h => h) hfin hdt hnv hfit (by rw [List.length_map, List.length_range]; exact (List.getElem?_eq_some_iff.mp hf).1) hd (fun H1 locs1 hP1 hD1 hS1 => ?_)
  rw [wld_set (σ' := s2 σ _ j v) (by rw [ent_obj hs]; exact congrArg (fun z => Sum.inr (ci, z)) (fs_set hf).symm) (fun a ha => ent_ne ha)] at hP1
  exact kk H1 locs1 ls hP1 hS1 hL
theorem v_iald (C : Cx X own cc n ret L) {k N i : Nat} {x : Int32} (hk : k < NC) (hs : shp k = .inr N) (hx : x = nI i) (hi : i < N) (hN : N < 2 ^ 31) (hd : decode cc pc = .ok (.iaload, 1)) (hn : pc + 1 = pc') (kk : V X pc' lv (.int (σ k i) :: st) σ) : V X pc lv (.int x :: .ref k :: st) σ := by
  obtain ⟨p, l, e, s, m, args, below, meth, c, D, cI, ad, nL, lev, P⟩ := X
  subst hn; subst hx
  intro H locs ls hP hS hL
  refine va_iald (ws := wld ad cI σ) C.1 C.2.1 C.2.2.2.2.2.2.2.2.2.2.1 hP _ 0 ((wld_at hk).trans (by rw [ent_arr hs])) rfl (vp_in_nI hi hN) hd ?_
  rw [nI_clamp (by omega)]
  exact kk H locs ls hP hS hL
theorem v_iast (C : Cx X own cc n ret L) {k N i : Nat} {x v : Int32} (hk : k < NC) (hs : shp k = .inr N) (hx : x = nI i) (hi : i < N) (hN : N < 2 ^ 31) (hd : decode cc pc = .ok (.iastore, 1)) (hn : pc + 1 = pc') (kk : V X pc' lv st (s2 σ k i v)) : V X pc lv (.int v :: .int x :: .ref k :: st) σ := by
  obtain ⟨p, l, e, s, m, args, below, meth, c, D, cI, ad, nL, lev, P⟩ := X
  subst hn; subst hx
  intro H locs ls hP hS hL
  refine va_iast (ws := wld ad cI σ) C.1 C.2.1 C.2.2.2.2.2.2.2.2.2.2.1 hP (wld_D C.2.2.2.2.2.2.2.2.2.2.2) hS _ 0 ((wld_at hk).trans (by rw [ent_arr hs])) rfl (vp_in_nI hi hN) hd (fun H1 locs1 hP1 hD1 hS1 => ?_)
  rw [nI_clamp (by omega), wld_set (σ' := s2 σ _ i v) (by rw [ent_arr hs, s2_eq]) (fun a ha => ent_ne ha)] at hP1
  exact kk H1 locs1 ls hP1 hS1 hL
theorem v_alen (C : Cx X own cc n ret L) {k N : Nat} {v : Int32} (hk : k < NC) (hs : shp k = .inr N) (hv : Int32.ofNat N = v) (hd : decode cc pc = .ok (.arraylength, 1)) (hn : pc + 1 = pc') (kk : V X pc' lv (.int v :: st) σ) : V X pc lv (.ref k :: st) σ := by
  obtain ⟨p, l, e, s, m, args, below, meth, c, D, cI, ad, nL, lev, P⟩ := X
  subst hn
  intro H locs ls hP hS hL
  exact va_alen (ws := wld ad cI σ) C.1 C.2.1 C.2.2.2.2.2.2.2.2.2.2.1 hP _ 0 ((wld_at hk).trans (by rw [ent_arr hs])) rfl hv hd (kk H locs ls hP hS hL)
theorem v_iret (C : Cx X own cc n (some .int) L) {v : Int32} (hd : decode cc pc = .ok (.ireturn, 1)) (hp : Pof X (some (.int v)) σ) : V X pc lv [.int v] σ := by
  obtain ⟨p, l, e, s, m, args, below, meth, c, D, cI, ad, nL, lev, P⟩ := X
  intro H locs ls hP hS hL
  exact W.iret C.1 C.2.1 C.2.2.2.2.2.1 (fun t ht hW => ⟨⟨some (.int v), σ, rfl, hp, by rw [ht]; exact hP⟩, hS.F ht⟩) hS.2.2 hd C.2.2.2.2.2.2.1
theorem v_zret (C : Cx X own cc n (some .boolean) L) {v : Int32} (hv : narrow .boolean (.int v) = .int v) (hd : decode cc pc = .ok (.ireturn, 1)) (hp : Pof X (some (.int v)) σ) : V X pc lv [.int v] σ := by
  obtain ⟨p, l, e, s, m, args, below, meth, c, D, cI, ad, nL, lev, P⟩ := X
  intro H locs ls hP hS hL
  exact W.zret C.1 C.2.1 C.2.2.2.2.2.1 hv (fun t ht hW => ⟨⟨some (.int v), σ, rfl, hp, by rw [ht]; exact hP⟩, hS.F ht⟩) hS.2.2 hd C.2.2.2.2.2.2.1
theorem v_vret (C : Cx X own cc n none L) (hd : decode cc pc = .ok (.return_, 1)) (hp : Pof X none σ) : V X pc lv [] σ := by
  obtain ⟨p, l, e, s, m, args, below, meth, c, D, cI, ad, nL, lev, P⟩ := X
  intro H locs ls hP hS hL
  exact W.vret C.1 C.2.1 C.2.2.2.2.2.1 (fun t ht hW => ⟨⟨none, σ, rfl, hp, by rw [ht]; exact hP⟩, hS.F ht⟩) hS.2.2 hd C.2.2.2.2.2.2.1
theorem v_aret (C : Cx X own cc n (some (.object rn)) L) {k : Nat} (hd : decode cc pc = .ok (.areturn, 1)) (hp : Pof X (some (.ref k)) σ) : V X pc lv [.ref k] σ := by
  obtain ⟨p, l, e, s, m, args, below, meth, c, D, cI, ad, nL, lev, P⟩ := X
  intro H locs ls hP hS hL
  exact W.aret C.1 C.2.1 C.2.2.2.2.2.1 (Or.inl ⟨_, rfl⟩) (Or.inr ⟨_, rfl⟩) (fun t ht hW => ⟨⟨some (.ref k), σ, rfl, hp, by rw [ht]; exact hP⟩, hS.F ht⟩) hS.2.2 hd C.2.2.2.2.2.2.1
end RULES
theorem bw_blind {D : va_G} {cI : ClassId} {ad : Nat → Nat} {σ : St} {as : List Value} : FrameBlind (va_Pc as (Bw D cI ad σ)) :=
  fun a U g mk q => ⟨q.1, q.2.1, va_K.moved (u := U) (U := U.calling g mk a) (Vm.Alike.refl U.vm) q.2.2.1, nst_same (u := U) rfl q.2.2.2.1, q.2.2.2.2⟩
theorem v_after {p : Program} {l : Launch} {e : Env} {R : Room} {s : State} {m : MethodId} {args : Array Value} {below : List Frame} {meth : Method} {c : Code} {H : Heap} {locs : List Loc} {Q : State → Prop} {D : va_G} {cI : ClassId} {ad : Nat → Nat} {P : Option Value → St → Prop} {a : Array Value} {pc : Nat} {ls : Array Slot} {st0 rest : List Value}
    (hr : va_Run p l e R s m args below meth c H locs 0 0 0 0 (F0 m pc ls st0) (rest.map (cv ad)) (Qw D cI ad P a) (Aad ad)) (hS : va_S (Aad ad) s.heap H locs)
    (kk : ∀ (r : Option Value) (σ' : St) (H1 : Heap) (locs1 : List Loc), P r σ' → va_P D clss (wld ad cI σ') H1 → va_S (Aad ad) s.heap H1 locs1 → W p l e R s m args below meth c H1 locs1 0 0 Q (F0 m (pc + 3) ls ((r.toList ++ rest).map (cv ad)))) : W p l e R s m args below meth c H locs 0 0 Q (F0 m pc ls st0) := by
  intro T hT X
  obtain ⟨v, st₀, t, T', Lo, h0, X', hLo, e1, e2, ⟨⟨r, σ', hv, hp, hP'⟩, hz, hk⟩, stp⟩ := hr T hT X
  cases hv
  rw [h0] at hz hk
  obtain ⟨t2, a1, b1⟩ := kk r σ' T'.heap (locs ++ Lo) hp (by rw [e1]; exact hP')
    ⟨Nat.le_trans hS.1 (by rw [e1]; exact hz), fun q h1 h2 => by rw [e1, hk q (Nat.lt_of_lt_of_le h1 hS.1) h2]; exact hS.2.1 q h1 h2, fun q hq => by
      rcases List.mem_append.mp hq with h | h
      · exact hS.2.2 q h
      · exact hLo q h⟩ T' rfl X'
  refine ⟨t2, stp t2 ?_, b1⟩
  have e : (r.map (cv ad)).toList ++ rest.map (cv ad) = (r.toList ++ rest).map (cv ad) := by cases r <;> rfl
  rw [e]
  exact a1
def dOK (y : MethodName) (n : Nat) : Prop := y.cls ≠ "java/lang/invoke/MethodHandle" ∧ y.cls ≠ "java/lang/invoke/VarHandle" ∧ (parseMethodDescriptor y.desc).map (fun d => d.parameters.length) = some n
section CALLS
variable {X : CxT} {own : String} {cc : ByteArray} {n L : Nat} {ret : Option FieldType} {pc pc' : Nat} {lv lv' : List (Nat × Value)} {st : List Value} {σ : St}
variable {y : MethodName} {bytes : ByteArray} {maxL lev idx : Nat} {ret' : Option FieldType} {As rest : List Value} {P' : Option Value → St → Prop}
theorem v_callV (C : Cx X own cc n ret L) {k ci N : Nat} {fl : List (Option Nat)} {T : u_T} (hk : k < NC) (hs : shp k = .inl (ci, fl)) (hc : clss[ci]? = some (y.cls, T, N)) (hct : Ct y bytes maxL ret' lev (.ref k :: As) σ P') (hst : st = As.reverse ++ .ref k :: rest) (hlev : lev < L) (hmx : maxL ≤ 41)
    (hw : Cond.methodLink own idx y ∈ BIG ∧ Cond.instanceMethod y ∈ BIG ∧ Cond.selects y.cls y y ∈ BIG ∧ Cond.initialized y.cls ∈ BIG ∧ Cond.code y bytes maxL ret' ∈ BIG) (hdesc : dOK y As.length) (hsum : (rest.map fun v => v.category).sum ≤ 8)
    (hd : decode cc pc = .ok (.invokevirtual idx, 3)) (hn : pc + 3 = pc') (kk : ∀ (r : Option Value) (σ' : St), P' r σ' → V X pc' lv (r.toList ++ rest) σ') : V X pc lv st σ := by
  obtain ⟨p, l, e, s, m, args, below, meth, c, D, cI, ad, nL, lev0, P⟩ := X
  obtain ⟨hx, hb, hml, hnL, hle, hr, hlk, hown, hts, hN, hK, hI⟩ := C
  subst hn; subst hst; subst hle
  intro H locs ls hP hS hL
  have cw : CallW (rmL lev0) s args own y.cls idx y bytes maxL ret' (Cond.code y bytes maxL ret' :: BIG) (rmL lev) 0 0 As.length := ⟨callB_of As.length hts (good_code hw.2.2.2.2) rfl rfl rfl (hts _ hw.2.2.2.1) (hts _ hw.1) hdesc ⟨hlev, by show 8 + (maxL + 11) + 60 * lev ≤ 60 * lev0; omega⟩, hts _ hw.2.1, hts _ hw.2.2.1⟩
  refine v_after (rest := rest) (P := P') (D := D) (cI := cI) (ad := ad) (va_runV (As := As.map (cv ad)) (rest := rest.map (cv ad)) (b := ad k) ⟨hx, hb, hml, hown, hts⟩ (hct l D cI ad) cw ⟨bw_blind, va_recv hK hP hc ((wld_at hk).trans (by rw [ent_obj hs])), fun U hU hW => ⟨rfl, by rw [hU]; exact hP, va_K.moved hW.alike hK, nst_warm hW hN, hI⟩⟩ rfl (by simp) hL.1 (by simp [cv]) (lv_room (by rw [cv_sum]; exact hsum)) hd ⟨Nat.zero_le _, Nat.zero_le _⟩) hS (fun r σ' H1 locs1 hp hP1 hS1 => ?_)
  exact kk r σ' hp H1 locs1 ls hP1 hS1 hL
theorem v_callVN (C : Cx X own cc n ret L) {k ci N : Nat} {fl : List (Option Nat)} {T : u_T} {host : String} (hk : k < NC) (hs : shp k = .inl (ci, fl)) (hc : clss[ci]? = some (y.cls, T, N)) (hct : Ct y bytes maxL ret' lev (.ref k :: As) σ P') (hst : st = As.reverse ++ .ref k :: rest) (hlev : lev < L) (hmx : maxL ≤ 41)
    (hw : Cond.methodLinkNest own idx y host ∈ NST ∧ Cond.instanceMethod y ∈ BIG ∧ Cond.selects y.cls y y ∈ BIG ∧ Cond.initialized y.cls ∈ BIG ∧ Cond.code y bytes maxL ret' ∈ BIG) (hdesc : dOK y As.length) (hsum : (rest.map fun v => v.category).sum ≤ 8)
    (hd : decode cc pc = .ok (.invokevirtual idx, 3)) (hn : pc + 3 = pc') (kk : ∀ (r : Option Value) (σ' : St), P' r σ' → V X pc' lv (r.toList ++ rest) σ') : V X pc lv st σ := by
  obtain ⟨p, l, e, s, m, args, below, meth, c, D, cI, ad, nL, lev0, P⟩ := X
  obtain ⟨hx, hb, hml, hnL, hle, hr, hlk, hown, hts, hN, hK, hI⟩ := C
  subst hn; subst hst; subst hle
  intro H locs ls hP hS hL
  have cw : va_CN (rmL lev0) s args own idx y host bytes maxL ret' (Cond.code y bytes maxL ret' :: BIG) (rmL lev) 0 0 As.length := va_cnB As.length hts (good_code hw.2.2.2.2) rfl rfl rfl (hN _ hw.1) (hts _ hw.2.2.2.1) hdesc ⟨hlev, by show 8 + (maxL + 11) + 60 * lev ≤ 60 * lev0; omega⟩
  refine v_after (rest := rest) (P := P') (D := D) (cI := cI) (ad := ad) (va_runVN (C := y.cls) (As := As.map (cv ad)) (rest := rest.map (cv ad)) (b := ad k) ⟨hx, hb, hml, hown, hts⟩ (hct l D cI ad) ⟨cw, hts _ hw.2.1, hts _ hw.2.2.1⟩ ⟨bw_blind, va_recv hK hP hc ((wld_at hk).trans (by rw [ent_obj hs])), fun U hU hW => ⟨rfl, by rw [hU]; exact hP, va_K.moved hW.alike hK, nst_warm hW hN, hI⟩⟩ rfl (by simp) hL.1 (by simp [cv]) (lv_room (by rw [cv_sum]; exact hsum)) hd ⟨Nat.zero_le _, Nat.zero_le _⟩) hS (fun r σ' H1 locs1 hp hP1 hS1 => ?_)
  exact kk r σ' hp H1 locs1 ls hP1 hS1 hL
theorem v_callS (C : Cx X own cc n ret L) (hct : Ct y bytes maxL ret' lev As σ P') (hst : st = As.reverse ++ rest) (hlev : lev < L) (hmx : maxL ≤ 41)
    (hw : Cond.methodLink own idx y ∈ BIG ∧ Cond.static y ∈ BIG ∧ Cond.initialized y.cls ∈ BIG ∧ Cond.code y bytes maxL ret' ∈ BIG) (hdesc : dOK y As.length) (hsum : (rest.map fun v => v.category).sum ≤ 8)
    (hd : decode cc pc = .ok (.invokestatic idx, 3)) (hn : pc + 3 = pc') (kk : ∀ (r : Option Value) (σ' : St), P' r σ' → V X pc' lv (r.toList ++ rest) σ') : V X pc lv st σ := by
  obtain ⟨p, l, e, s, m, args, below, meth, c, D, cI, ad, nL, lev0, P⟩ := X
  obtain ⟨hx, hb, hml, hnL, hle, hr, hlk, hown, hts, hN, hK, hI⟩ := C
  subst hn; subst hst; subst hle
  intro H locs ls hP hS hL
  have cw : CallB (rmL lev0) s args own idx y bytes maxL ret' (Cond.code y bytes maxL ret' :: BIG) (rmL lev) 0 0 As.length ∧ (Cond.static y).before args s = true := ⟨callB_of As.length hts (good_code hw.2.2.2) rfl rfl rfl (hts _ hw.2.2.1) (hts _ hw.1) hdesc ⟨hlev, by show 8 + (maxL + 11) + 60 * lev ≤ 60 * lev0; omega⟩, hts _ hw.2.1⟩
  refine v_after (rest := rest) (P := P') (D := D) (cI := cI) (ad := ad) (va_runS (As := As.map (cv ad)) (rest := rest.map (cv ad)) ⟨hx, hb, hml, hown, hts⟩ (hct l D cI ad) cw ⟨bw_blind, fun U hU hW => ⟨rfl, by rw [hU]; exact hP, va_K.moved hW.alike hK, nst_warm hW hN, hI⟩⟩ rfl (by simp) hL.1 (by simp [cv]) (lv_room (by rw [cv_sum]; exact hsum)) hd ⟨Nat.zero_le _, Nat.zero_le _⟩) hS (fun r σ' H1 locs1 hp hP1 hS1 => ?_)
  exact kk r σ' hp H1 locs1 ls hP1 hS1 hL
theorem v_callSN (C : Cx X own cc n ret L) {host : String} (hct : Ct y bytes maxL ret' lev As σ P') (hst : st = As.reverse ++ rest) (hlev : lev < L) (hmx : maxL ≤ 41)
    (hw : Cond.methodLinkNest own idx y host ∈ NST ∧ Cond.static y ∈ BIG ∧ Cond.initialized y.cls ∈ BIG ∧ Cond.code y bytes maxL ret' ∈ BIG) (hdesc : dOK y As.length) (hsum : (rest.map fun v => v.category).sum ≤ 8)
    (hd : decode cc pc = .ok (.invokestatic idx, 3)) (hn : pc + 3 = pc') (kk : ∀ (r : Option Value) (σ' : St), P' r σ' → V X pc' lv (r.toList ++ rest) σ') : V X pc lv st σ := by
  obtain ⟨p, l, e, s, m, args, below, meth, c, D, cI, ad, nL, lev0, P⟩ := X
  obtain ⟨hx, hb, hml, hnL, hle, hr, hlk, hown, hts, hN, hK, hI⟩ := C
  subst hn; subst hst; subst hle
  intro H locs ls hP hS hL
  have cw : va_CN (rmL lev0) s args own idx y host bytes maxL ret' (Cond.code y bytes maxL ret' :: BIG) (rmL lev) 0 0 As.length := va_cnB As.length hts (good_code hw.2.2.2) rfl rfl rfl (hN _ hw.1) (hts _ hw.2.2.1) hdesc ⟨hlev, by show 8 + (maxL + 11) + 60 * lev ≤ 60 * lev0; omega⟩
  refine v_after (rest := rest) (P := P') (D := D) (cI := cI) (ad := ad) (va_runSN (As := As.map (cv ad)) (rest := rest.map (cv ad)) ⟨hx, hb, hml, hown, hts⟩ (hct l D cI ad) ⟨cw, hts _ hw.2.1, trivial⟩ ⟨bw_blind, fun U hU hW => ⟨rfl, by rw [hU]; exact hP, va_K.moved hW.alike hK, nst_warm hW hN, hI⟩⟩ rfl (by simp) hL.1 (by simp [cv]) (lv_room (by rw [cv_sum]; exact hsum)) hd ⟨Nat.zero_le _, Nat.zero_le _⟩) hS (fun r σ' H1 locs1 hp hP1 hS1 => ?_)
  exact kk r σ' hp H1 locs1 ls hP1 hS1 hL
end CALLS
end
section
theorem plX6 : plainName RX6 = true := by decide +kernel
theorem hinX6 : ∀ w ∈ u_ws RX6 TX6 28, w ∈ BIG := fun w hw => big_of ((show ∀ w ∈ u_ws RX6 TX6 28, w ∈ lw_tbl by decide +kernel) w hw) ((show ∀ w ∈ u_ws RX6 TX6 28, goodWord w = true by decide +kernel) w hw)
theorem lkX6_7 : Cond.fieldLink RX6 7 (TX6 0).1 (TX6 0).2.1 (TX6 0).2.2.1 ∈ BIG := big_of (List.mem_of_getElem? (i := 845) (by decide +kernel)) (by decide +kernel)
theorem lkX6_13 : Cond.fieldLink RX6 13 (TX6 1).1 (TX6 1).2.1 (TX6 1).2.2.1 ∈ BIG := big_of (List.mem_of_getElem? (i := 846) (by decide +kernel)) (by decide +kernel)
theorem lkX6_16 : Cond.fieldLink RX6 16 (TX6 2).1 (TX6 2).2.1 (TX6 2).2.2.1 ∈ BIG := big_of (List.mem_of_getElem? (i := 847) (by decide +kernel)) (by decide +kernel)
theorem lkX6_19 : Cond.fieldLink RX6 19 (TX6 3).1 (TX6 3).2.1 (TX6 3).2.2.1 ∈ BIG := big_of (List.mem_of_getElem? (i := 848) (by decide +kernel)) (by decide +kernel)
theorem lkX6_22 : Cond.fieldLink RX6 22 (TX6 4).1 (TX6 4).2.1 (TX6 4).2.2.1 ∈ BIG := big_of (List.mem_of_getElem? (i := 849) (by decide +kernel)) (by decide +kernel)
theorem lkX6_25 : Cond.fieldLink RX6 25 (TX6 5).1 (TX6 5).2.1 (TX6 5).2.2.1 ∈ BIG := big_of (List.mem_of_getElem? (i := 850) (by decide +kernel)) (by decide +kernel)
theorem lkX6_28 : Cond.fieldLink RX6 28 (TX6 6).1 (TX6 6).2.1 (TX6 6).2.2.1 ∈ BIG := big_of (List.mem_of_getElem? (i := 851) (by decide +kernel)) (by decide +kernel)
theorem lkX6_31 : Cond.fieldLink RX6 31 (TX6 7).1 (TX6 7).2.1 (TX6 7).2.2.1 ∈ BIG := big_of (List.mem_of_getElem? (i := 852) (by decide +kernel)) (by decide +kernel)
theorem lkX6_34 : Cond.fieldLink RX6 34 (TX6 11).1 (TX6 11).2.1 (TX6 11).2.2.1 ∈ BIG := big_of (List.mem_of_getElem? (i := 856) (by decide +kernel)) (by decide +kernel)
theorem lkX6_37 : Cond.fieldLink RX6 37 (TX6 12).1 (TX6 12).2.1 (TX6 12).2.2.1 ∈ BIG := big_of (List.mem_of_getElem? (i := 857) (by decide +kernel)) (by decide +kernel)
theorem lkX6_40 : Cond.fieldLink RX6 40 (TX6 13).1 (TX6 13).2.1 (TX6 13).2.2.1 ∈ BIG := big_of (List.mem_of_getElem? (i := 858) (by decide +kernel)) (by decide +kernel)
theorem lkX6_43 : Cond.fieldLink RX6 43 (TX6 14).1 (TX6 14).2.1 (TX6 14).2.2.1 ∈ BIG := big_of (List.mem_of_getElem? (i := 859) (by decide +kernel)) (by decide +kernel)
theorem lkX6_46 : Cond.fieldLink RX6 46 (TX6 18).1 (TX6 18).2.1 (TX6 18).2.2.1 ∈ BIG := big_of (List.mem_of_getElem? (i := 863) (by decide +kernel)) (by decide +kernel)
theorem lkX6_49 : Cond.fieldLink RX6 49 (TX6 22).1 (TX6 22).2.1 (TX6 22).2.2.1 ∈ BIG := big_of (List.mem_of_getElem? (i := 867) (by decide +kernel)) (by decide +kernel)
theorem lkX6_52 : Cond.fieldLink RX6 52 (TX6 24).1 (TX6 24).2.1 (TX6 24).2.2.1 ∈ BIG := big_of (List.mem_of_getElem? (i := 869) (by decide +kernel)) (by decide +kernel)
theorem lkX6_55 : Cond.fieldLink RX6 55 (TX6 25).1 (TX6 25).2.1 (TX6 25).2.2.1 ∈ BIG := big_of (List.mem_of_getElem? (i := 870) (by decide +kernel)) (by decide +kernel)
theorem lkX6_58 : Cond.fieldLink RX6 58 (TX6 26).1 (TX6 26).2.1 (TX6 26).2.2.1 ∈ BIG := big_of (List.mem_of_getElem? (i := 871) (by decide +kernel)) (by decide +kernel)
theorem lkX6_61 : Cond.fieldLink RX6 61 (TX6 9).1 (TX6 9).2.1 (TX6 9).2.2.1 ∈ BIG := big_of (List.mem_of_getElem? (i := 854) (by decide +kernel)) (by decide +kernel)
theorem lkX6_65 : Cond.fieldLink RX6 65 (TX6 8).1 (TX6 8).2.1 (TX6 8).2.2.1 ∈ BIG := big_of (List.mem_of_getElem? (i := 853) (by decide +kernel)) (by decide +kernel)
theorem lkX6_76 : Cond.fieldLink RX6 76 (TX6 15).1 (TX6 15).2.1 (TX6 15).2.2.1 ∈ BIG := big_of (List.mem_of_getElem? (i := 860) (by decide +kernel)) (by decide +kernel)
theorem lkX6_83 : Cond.fieldLink RX6 83 (TX6 16).1 (TX6 16).2.1 (TX6 16).2.2.1 ∈ BIG := big_of (List.mem_of_getElem? (i := 861) (by decide +kernel)) (by decide +kernel)
theorem lkX6_107 : Cond.fieldLink RX6 107 (TX6 17).1 (TX6 17).2.1 (TX6 17).2.2.1 ∈ BIG := big_of (List.mem_of_getElem? (i := 862) (by decide +kernel)) (by decide +kernel)
theorem lkX6_128 : Cond.fieldLink RX6 128 (TX6 10).1 (TX6 10).2.1 (TX6 10).2.2.1 ∈ BIG := big_of (List.mem_of_getElem? (i := 855) (by decide +kernel)) (by decide +kernel)
theorem lkX6_146 : Cond.fieldLink RX6 146 (TX6 20).1 (TX6 20).2.1 (TX6 20).2.2.1 ∈ BIG := big_of (List.mem_of_getElem? (i := 865) (by decide +kernel)) (by decide +kernel)
theorem lkX6_150 : Cond.fieldLink RX6 150 (TX6 21).1 (TX6 21).2.1 (TX6 21).2.2.1 ∈ BIG := big_of (List.mem_of_getElem? (i := 866) (by decide +kernel)) (by decide +kernel)
theorem lkX6_160 : Cond.fieldLink RX6 160 (TX6 19).1 (TX6 19).2.1 (TX6 19).2.2.1 ∈ BIG := big_of (List.mem_of_getElem? (i := 864) (by decide +kernel)) (by decide +kernel)
theorem lkX6_187 : Cond.fieldLink RX6 187 (TX6 23).1 (TX6 23).2.1 (TX6 23).2.2.1 ∈ BIG := big_of (List.mem_of_getElem? (i := 868) (by decide +kernel)) (by decide +kernel)
theorem lkX6_249 : Cond.fieldLink RX6 249 (TX6 27).1 (TX6 27).2.1 (TX6 27).2.2.1 ∈ BIG := big_of (List.mem_of_getElem? (i := 872) (by decide +kernel)) (by decide +kernel)
theorem mfX6_no : Cond.instanceMethod yX6_no ∈ BIG ∧ Cond.selects yX6_no.cls yX6_no yX6_no ∈ BIG ∧ Cond.initialized yX6_no.cls ∈ BIG ∧ Cond.code yX6_no cX6_no 2 (some .int) ∈ BIG := ⟨big_of (List.mem_of_getElem? (i := 939) (by decide +kernel)) (by decide +kernel), big_of (List.mem_of_getElem? (i := 64) (by decide +kernel)) (by decide +kernel), big_of (List.mem_of_getElem? (i := 110) (by decide +kernel)) (by decide +kernel), big_of (List.mem_of_getElem? (i := 940) (by decide +kernel)) (by decide +kernel)⟩
theorem dkX6_no : dOK yX6_no 1 := by unfold dOK; decide +kernel
theorem mfX6_isIn : Cond.static yX6_isIn ∈ BIG ∧ Cond.initialized yX6_isIn.cls ∈ BIG ∧ Cond.code yX6_isIn cX6_isIn 3 (some .boolean) ∈ BIG := ⟨big_of (List.mem_of_getElem? (i := 972) (by decide +kernel)) (by decide +kernel), big_of (List.mem_of_getElem? (i := 110) (by decide +kernel)) (by decide +kernel), big_of (List.mem_of_getElem? (i := 973) (by decide +kernel)) (by decide +kernel)⟩
theorem dkX6_isIn : dOK yX6_isIn 3 := by unfold dOK; decide +kernel
theorem mfX6_bound : Cond.static yX6_bound ∈ BIG ∧ Cond.initialized yX6_bound.cls ∈ BIG ∧ Cond.code yX6_bound cX6_bound 3 (some .int) ∈ BIG := ⟨big_of (List.mem_of_getElem? (i := 935) (by decide +kernel)) (by decide +kernel), big_of (List.mem_of_getElem? (i := 110) (by decide +kernel)) (by decide +kernel), big_of (List.mem_of_getElem? (i := 936) (by decide +kernel)) (by decide +kernel)⟩
theorem dkX6_bound : dOK yX6_bound 3 := by unfold dOK; decide +kernel
theorem mfX6_has : Cond.static yX6_has ∈ BIG ∧ Cond.initialized yX6_has.cls ∈ BIG ∧ Cond.code yX6_has cX6_has 2 (some .boolean) ∈ BIG := ⟨big_of (List.mem_of_getElem? (i := 1107) (by decide +kernel)) (by decide +kernel), big_of (List.mem_of_getElem? (i := 110) (by decide +kernel)) (by decide +kernel), big_of (List.mem_of_getElem? (i := 1108) (by decide +kernel)) (by decide +kernel)⟩
theorem dkX6_has : dOK yX6_has 2 := by unfold dOK; decide +kernel
theorem mfX6_bits : Cond.static yX6_bits ∈ BIG ∧ Cond.initialized yX6_bits.cls ∈ BIG ∧ Cond.code yX6_bits cX6_bits 3 (some .int) ∈ BIG := ⟨big_of (List.mem_of_getElem? (i := 1115) (by decide +kernel)) (by decide +kernel), big_of (List.mem_of_getElem? (i := 110) (by decide +kernel)) (by decide +kernel), big_of (List.mem_of_getElem? (i := 1116) (by decide +kernel)) (by decide +kernel)⟩
theorem dkX6_bits : dOK yX6_bits 1 := by unfold dOK; decide +kernel
theorem mfX6_isPiece : Cond.instanceMethod yX6_isPiece ∈ BIG ∧ Cond.selects yX6_isPiece.cls yX6_isPiece yX6_isPiece ∈ BIG ∧ Cond.initialized yX6_isPiece.cls ∈ BIG ∧ Cond.code yX6_isPiece cX6_isPiece 2 (some .boolean) ∈ BIG := ⟨big_of (List.mem_of_getElem? (i := 996) (by decide +kernel)) (by decide +kernel), big_of (List.mem_of_getElem? (i := 75) (by decide +kernel)) (by decide +kernel), big_of (List.mem_of_getElem? (i := 110) (by decide +kernel)) (by decide +kernel), big_of (List.mem_of_getElem? (i := 997) (by decide +kernel)) (by decide +kernel)⟩
theorem dkX6_isPiece : dOK yX6_isPiece 1 := by unfold dOK; decide +kernel
theorem mfX6_isRoom : Cond.static yX6_isRoom ∈ BIG ∧ Cond.initialized yX6_isRoom.cls ∈ BIG ∧ Cond.code yX6_isRoom cX6_isRoom 1 (some .boolean) ∈ BIG := ⟨big_of (List.mem_of_getElem? (i := 1002) (by decide +kernel)) (by decide +kernel), big_of (List.mem_of_getElem? (i := 110) (by decide +kernel)) (by decide +kernel), big_of (List.mem_of_getElem? (i := 1003) (by decide +kernel)) (by decide +kernel)⟩
theorem dkX6_isRoom : dOK yX6_isRoom 1 := by unfold dOK; decide +kernel
theorem mfX6_isPlace : Cond.static yX6_isPlace ∈ BIG ∧ Cond.initialized yX6_isPlace.cls ∈ BIG ∧ Cond.code yX6_isPlace cX6_isPlace 1 (some .boolean) ∈ BIG := ⟨big_of (List.mem_of_getElem? (i := 999) (by decide +kernel)) (by decide +kernel), big_of (List.mem_of_getElem? (i := 110) (by decide +kernel)) (by decide +kernel), big_of (List.mem_of_getElem? (i := 1000) (by decide +kernel)) (by decide +kernel)⟩
theorem dkX6_isPlace : dOK yX6_isPlace 1 := by unfold dOK; decide +kernel
theorem mfX6_letter : Cond.instanceMethod yX6_letter ∈ BIG ∧ Cond.selects yX6_letter.cls yX6_letter yX6_letter ∈ BIG ∧ Cond.initialized yX6_letter.cls ∈ BIG ∧ Cond.code yX6_letter cX6_letter 3 (some .int) ∈ BIG := ⟨big_of (List.mem_of_getElem? (i := 931) (by decide +kernel)) (by decide +kernel), big_of (List.mem_of_getElem? (i := 932) (by decide +kernel)) (by decide +kernel), big_of (List.mem_of_getElem? (i := 110) (by decide +kernel)) (by decide +kernel), big_of (List.mem_of_getElem? (i := 933) (by decide +kernel)) (by decide +kernel)⟩
theorem dkX6_letter : dOK yX6_letter 1 := by unfold dOK; decide +kernel
theorem mfX6_next : Cond.instanceMethod yX6_next ∈ BIG ∧ Cond.selects yX6_next.cls yX6_next yX6_next ∈ BIG ∧ Cond.initialized yX6_next.cls ∈ BIG ∧ Cond.code yX6_next cX6_next 1 (some .int) ∈ BIG := ⟨big_of (List.mem_of_getElem? (i := 951) (by decide +kernel)) (by decide +kernel), big_of (List.mem_of_getElem? (i := 66) (by decide +kernel)) (by decide +kernel), big_of (List.mem_of_getElem? (i := 110) (by decide +kernel)) (by decide +kernel), big_of (List.mem_of_getElem? (i := 952) (by decide +kernel)) (by decide +kernel)⟩
theorem dkX6_next : dOK yX6_next 0 := by unfold dOK; decide +kernel
theorem mfX6_readsDigits : Cond.instanceMethod yX6_readsDigits ∈ BIG ∧ Cond.selects yX6_readsDigits.cls yX6_readsDigits yX6_readsDigits ∈ BIG ∧ Cond.initialized yX6_readsDigits.cls ∈ BIG ∧ Cond.code yX6_readsDigits cX6_readsDigits 5 (some .boolean) ∈ BIG := ⟨big_of (List.mem_of_getElem? (i := 969) (by decide +kernel)) (by decide +kernel), big_of (List.mem_of_getElem? (i := 69) (by decide +kernel)) (by decide +kernel), big_of (List.mem_of_getElem? (i := 110) (by decide +kernel)) (by decide +kernel), big_of (List.mem_of_getElem? (i := 970) (by decide +kernel)) (by decide +kernel)⟩
theorem dkX6_readsDigits : dOK yX6_readsDigits 2 := by unfold dOK; decide +kernel
theorem mfX6_kindOf : Cond.static yX6_kindOf ∈ BIG ∧ Cond.initialized yX6_kindOf.cls ∈ BIG ∧ Cond.code yX6_kindOf cX6_kindOf 1 (some .int) ∈ BIG := ⟨big_of (List.mem_of_getElem? (i := 965) (by decide +kernel)) (by decide +kernel), big_of (List.mem_of_getElem? (i := 110) (by decide +kernel)) (by decide +kernel), big_of (List.mem_of_getElem? (i := 966) (by decide +kernel)) (by decide +kernel)⟩
theorem dkX6_kindOf : dOK yX6_kindOf 1 := by unfold dOK; decide +kernel
theorem mfX6_readsPiece : Cond.instanceMethod yX6_readsPiece ∈ BIG ∧ Cond.selects yX6_readsPiece.cls yX6_readsPiece yX6_readsPiece ∈ BIG ∧ Cond.initialized yX6_readsPiece.cls ∈ BIG ∧ Cond.code yX6_readsPiece cX6_readsPiece 2 (some .boolean) ∈ BIG := ⟨big_of (List.mem_of_getElem? (i := 962) (by decide +kernel)) (by decide +kernel), big_of (List.mem_of_getElem? (i := 68) (by decide +kernel)) (by decide +kernel), big_of (List.mem_of_getElem? (i := 110) (by decide +kernel)) (by decide +kernel), big_of (List.mem_of_getElem? (i := 963) (by decide +kernel)) (by decide +kernel)⟩
theorem dkX6_readsPiece : dOK yX6_readsPiece 1 := by unfold dOK; decide +kernel
theorem mfX6_readsAll : Cond.instanceMethod yX6_readsAll ∈ BIG ∧ Cond.selects yX6_readsAll.cls yX6_readsAll yX6_readsAll ∈ BIG ∧ Cond.initialized yX6_readsAll.cls ∈ BIG ∧ Cond.code yX6_readsAll cX6_readsAll 3 (some .boolean) ∈ BIG := ⟨big_of (List.mem_of_getElem? (i := 958) (by decide +kernel)) (by decide +kernel), big_of (List.mem_of_getElem? (i := 67) (by decide +kernel)) (by decide +kernel), big_of (List.mem_of_getElem? (i := 110) (by decide +kernel)) (by decide +kernel), big_of (List.mem_of_getElem? (i := 959) (by decide +kernel)) (by decide +kernel)⟩
theorem dkX6_readsAll : dOK yX6_readsAll 2 := by unfold dOK; decide +kernel
theorem mfX6_isLetter : Cond.static yX6_isLetter ∈ BIG ∧ Cond.initialized yX6_isLetter.cls ∈ BIG ∧ Cond.code yX6_isLetter cX6_isLetter 1 (some .boolean) ∈ BIG := ⟨big_of (List.mem_of_getElem? (i := 954) (by decide +kernel)) (by decide +kernel), big_of (List.mem_of_getElem? (i := 110) (by decide +kernel)) (by decide +kernel), big_of (List.mem_of_getElem? (i := 955) (by decide +kernel)) (by decide +kernel)⟩
theorem dkX6_isLetter : dOK yX6_isLetter 1 := by unfold dOK; decide +kernel
theorem mfX6_statement : Cond.instanceMethod yX6_statement ∈ BIG ∧ Cond.selects yX6_statement.cls yX6_statement yX6_statement ∈ BIG ∧ Cond.initialized yX6_statement.cls ∈ BIG ∧ Cond.code yX6_statement cX6_statement 2 (some .boolean) ∈ BIG := ⟨big_of (List.mem_of_getElem? (i := 947) (by decide +kernel)) (by decide +kernel), big_of (List.mem_of_getElem? (i := 65) (by decide +kernel)) (by decide +kernel), big_of (List.mem_of_getElem? (i := 110) (by decide +kernel)) (by decide +kernel), big_of (List.mem_of_getElem? (i := 948) (by decide +kernel)) (by decide +kernel)⟩
theorem dkX6_statement : dOK yX6_statement 0 := by unfold dOK; decide +kernel
theorem mfX6_comesPiece : Cond.instanceMethod yX6_comesPiece ∈ BIG ∧ Cond.selects yX6_comesPiece.cls yX6_comesPiece yX6_comesPiece ∈ BIG ∧ Cond.initialized yX6_comesPiece.cls ∈ BIG ∧ Cond.code yX6_comesPiece cX6_comesPiece 2 (some .boolean) ∈ BIG := ⟨big_of (List.mem_of_getElem? (i := 992) (by decide +kernel)) (by decide +kernel), big_of (List.mem_of_getElem? (i := 74) (by decide +kernel)) (by decide +kernel), big_of (List.mem_of_getElem? (i := 110) (by decide +kernel)) (by decide +kernel), big_of (List.mem_of_getElem? (i := 993) (by decide +kernel)) (by decide +kernel)⟩
theorem dkX6_comesPiece : dOK yX6_comesPiece 1 := by unfold dOK; decide +kernel
theorem mfX6_comes : Cond.instanceMethod yX6_comes ∈ BIG ∧ Cond.selects yX6_comes.cls yX6_comes yX6_comes ∈ BIG ∧ Cond.initialized yX6_comes.cls ∈ BIG ∧ Cond.code yX6_comes cX6_comes 4 (some .boolean) ∈ BIG := ⟨big_of (List.mem_of_getElem? (i := 988) (by decide +kernel)) (by decide +kernel), big_of (List.mem_of_getElem? (i := 73) (by decide +kernel)) (by decide +kernel), big_of (List.mem_of_getElem? (i := 110) (by decide +kernel)) (by decide +kernel), big_of (List.mem_of_getElem? (i := 989) (by decide +kernel)) (by decide +kernel)⟩
theorem dkX6_comes : dOK yX6_comes 1 := by unfold dOK; decide +kernel
theorem mfX6_house : Cond.instanceMethod yX6_house ∈ BIG ∧ Cond.selects yX6_house.cls yX6_house yX6_house ∈ BIG ∧ Cond.initialized yX6_house.cls ∈ BIG ∧ Cond.code yX6_house cX6_house 3 (some .int) ∈ BIG := ⟨big_of (List.mem_of_getElem? (i := 942) (by decide +kernel)) (by decide +kernel), big_of (List.mem_of_getElem? (i := 943) (by decide +kernel)) (by decide +kernel), big_of (List.mem_of_getElem? (i := 110) (by decide +kernel)) (by decide +kernel), big_of (List.mem_of_getElem? (i := 944) (by decide +kernel)) (by decide +kernel)⟩
theorem dkX6_house : dOK yX6_house 0 := by unfold dOK; decide +kernel
theorem mfX6_passes : Cond.instanceMethod yX6_passes ∈ BIG ∧ Cond.selects yX6_passes.cls yX6_passes yX6_passes ∈ BIG ∧ Cond.initialized yX6_passes.cls ∈ BIG ∧ Cond.code yX6_passes cX6_passes 3 none ∈ BIG := ⟨big_of (List.mem_of_getElem? (i := 980) (by decide +kernel)) (by decide +kernel), big_of (List.mem_of_getElem? (i := 71) (by decide +kernel)) (by decide +kernel), big_of (List.mem_of_getElem? (i := 110) (by decide +kernel)) (by decide +kernel), big_of (List.mem_of_getElem? (i := 981) (by decide +kernel)) (by decide +kernel)⟩
theorem dkX6_passes : dOK yX6_passes 1 := by unfold dOK; decide +kernel
theorem mfX6_passOne : Cond.instanceMethod yX6_passOne ∈ BIG ∧ Cond.selects yX6_passOne.cls yX6_passOne yX6_passOne ∈ BIG ∧ Cond.initialized yX6_passOne.cls ∈ BIG ∧ Cond.code yX6_passOne cX6_passOne 3 (some .int) ∈ BIG := ⟨big_of (List.mem_of_getElem? (i := 984) (by decide +kernel)) (by decide +kernel), big_of (List.mem_of_getElem? (i := 72) (by decide +kernel)) (by decide +kernel), big_of (List.mem_of_getElem? (i := 110) (by decide +kernel)) (by decide +kernel), big_of (List.mem_of_getElem? (i := 985) (by decide +kernel)) (by decide +kernel)⟩
theorem dkX6_passOne : dOK yX6_passOne 1 := by unfold dOK; decide +kernel
theorem mfX6_passesAll : Cond.instanceMethod yX6_passesAll ∈ BIG ∧ Cond.selects yX6_passesAll.cls yX6_passesAll yX6_passesAll ∈ BIG ∧ Cond.initialized yX6_passesAll.cls ∈ BIG ∧ Cond.code yX6_passesAll cX6_passesAll 3 none ∈ BIG := ⟨big_of (List.mem_of_getElem? (i := 976) (by decide +kernel)) (by decide +kernel), big_of (List.mem_of_getElem? (i := 70) (by decide +kernel)) (by decide +kernel), big_of (List.mem_of_getElem? (i := 110) (by decide +kernel)) (by decide +kernel), big_of (List.mem_of_getElem? (i := 977) (by decide +kernel)) (by decide +kernel)⟩
theorem dkX6_passesAll : dOK yX6_passesAll 2 := by unfold dOK; decide +kernel
theorem mfX6_image : Cond.instanceMethod yX6_image ∈ BIG ∧ Cond.selects yX6_image.cls yX6_image yX6_image ∈ BIG ∧ Cond.initialized yX6_image.cls ∈ BIG ∧ Cond.code yX6_image cX6_image 1 (some .int) ∈ BIG := ⟨big_of (List.mem_of_getElem? (i := 1021) (by decide +kernel)) (by decide +kernel), big_of (List.mem_of_getElem? (i := 1022) (by decide +kernel)) (by decide +kernel), big_of (List.mem_of_getElem? (i := 110) (by decide +kernel)) (by decide +kernel), big_of (List.mem_of_getElem? (i := 1023) (by decide +kernel)) (by decide +kernel)⟩
theorem dkX6_image : dOK yX6_image 0 := by unfold dOK; decide +kernel
theorem mfX6_on : Cond.instanceMethod yX6_on ∈ BIG ∧ Cond.selects yX6_on.cls yX6_on yX6_on ∈ BIG ∧ Cond.initialized yX6_on.cls ∈ BIG ∧ Cond.code yX6_on cX6_on 1 (some .int) ∈ BIG := ⟨big_of (List.mem_of_getElem? (i := 1025) (by decide +kernel)) (by decide +kernel), big_of (List.mem_of_getElem? (i := 1026) (by decide +kernel)) (by decide +kernel), big_of (List.mem_of_getElem? (i := 110) (by decide +kernel)) (by decide +kernel), big_of (List.mem_of_getElem? (i := 1027) (by decide +kernel)) (by decide +kernel)⟩
theorem dkX6_on : dOK yX6_on 0 := by unfold dOK; decide +kernel
theorem mfX6_suiteOf : Cond.instanceMethod yX6_suiteOf ∈ BIG ∧ Cond.selects yX6_suiteOf.cls yX6_suiteOf yX6_suiteOf ∈ BIG ∧ Cond.initialized yX6_suiteOf.cls ∈ BIG ∧ Cond.code yX6_suiteOf cX6_suiteOf 4 (some .int) ∈ BIG := ⟨big_of (List.mem_of_getElem? (i := 1038) (by decide +kernel)) (by decide +kernel), big_of (List.mem_of_getElem? (i := 81) (by decide +kernel)) (by decide +kernel), big_of (List.mem_of_getElem? (i := 110) (by decide +kernel)) (by decide +kernel), big_of (List.mem_of_getElem? (i := 1039) (by decide +kernel)) (by decide +kernel)⟩
theorem dkX6_suiteOf : dOK yX6_suiteOf 1 := by unfold dOK; decide +kernel
theorem mfX6_veneerOf : Cond.instanceMethod yX6_veneerOf ∈ BIG ∧ Cond.selects yX6_veneerOf.cls yX6_veneerOf yX6_veneerOf ∈ BIG ∧ Cond.initialized yX6_veneerOf.cls ∈ BIG ∧ Cond.code yX6_veneerOf cX6_veneerOf 2 (some .int) ∈ BIG := ⟨big_of (List.mem_of_getElem? (i := 1042) (by decide +kernel)) (by decide +kernel), big_of (List.mem_of_getElem? (i := 82) (by decide +kernel)) (by decide +kernel), big_of (List.mem_of_getElem? (i := 110) (by decide +kernel)) (by decide +kernel), big_of (List.mem_of_getElem? (i := 1043) (by decide +kernel)) (by decide +kernel)⟩
theorem dkX6_veneerOf : dOK yX6_veneerOf 1 := by unfold dOK; decide +kernel
theorem mfX6_blameOf : Cond.instanceMethod yX6_blameOf ∈ BIG ∧ Cond.selects yX6_blameOf.cls yX6_blameOf yX6_blameOf ∈ BIG ∧ Cond.initialized yX6_blameOf.cls ∈ BIG ∧ Cond.code yX6_blameOf cX6_blameOf 2 (some .int) ∈ BIG := ⟨big_of (List.mem_of_getElem? (i := 1034) (by decide +kernel)) (by decide +kernel), big_of (List.mem_of_getElem? (i := 80) (by decide +kernel)) (by decide +kernel), big_of (List.mem_of_getElem? (i := 110) (by decide +kernel)) (by decide +kernel), big_of (List.mem_of_getElem? (i := 1035) (by decide +kernel)) (by decide +kernel)⟩
theorem dkX6_blameOf : dOK yX6_blameOf 1 := by unfold dOK; decide +kernel
theorem mfX6_wideOf : Cond.instanceMethod yX6_wideOf ∈ BIG ∧ Cond.selects yX6_wideOf.cls yX6_wideOf yX6_wideOf ∈ BIG ∧ Cond.initialized yX6_wideOf.cls ∈ BIG ∧ Cond.code yX6_wideOf cX6_wideOf 2 (some .int) ∈ BIG := ⟨big_of (List.mem_of_getElem? (i := 1014) (by decide +kernel)) (by decide +kernel), big_of (List.mem_of_getElem? (i := 78) (by decide +kernel)) (by decide +kernel), big_of (List.mem_of_getElem? (i := 110) (by decide +kernel)) (by decide +kernel), big_of (List.mem_of_getElem? (i := 1015) (by decide +kernel)) (by decide +kernel)⟩
theorem dkX6_wideOf : dOK yX6_wideOf 1 := by unfold dOK; decide +kernel
theorem mfX6_blameIn : Cond.instanceMethod yX6_blameIn ∈ BIG ∧ Cond.selects yX6_blameIn.cls yX6_blameIn yX6_blameIn ∈ BIG ∧ Cond.initialized yX6_blameIn.cls ∈ BIG ∧ Cond.code yX6_blameIn cX6_blameIn 4 (some .int) ∈ BIG := ⟨big_of (List.mem_of_getElem? (i := 1081) (by decide +kernel)) (by decide +kernel), big_of (List.mem_of_getElem? (i := 83) (by decide +kernel)) (by decide +kernel), big_of (List.mem_of_getElem? (i := 110) (by decide +kernel)) (by decide +kernel), big_of (List.mem_of_getElem? (i := 1082) (by decide +kernel)) (by decide +kernel)⟩
theorem dkX6_blameIn : dOK yX6_blameIn 1 := by unfold dOK; decide +kernel
theorem mfX6_bulkIn : Cond.instanceMethod yX6_bulkIn ∈ BIG ∧ Cond.selects yX6_bulkIn.cls yX6_bulkIn yX6_bulkIn ∈ BIG ∧ Cond.initialized yX6_bulkIn.cls ∈ BIG ∧ Cond.code yX6_bulkIn cX6_bulkIn 4 (some .int) ∈ BIG := ⟨big_of (List.mem_of_getElem? (i := 1010) (by decide +kernel)) (by decide +kernel), big_of (List.mem_of_getElem? (i := 77) (by decide +kernel)) (by decide +kernel), big_of (List.mem_of_getElem? (i := 110) (by decide +kernel)) (by decide +kernel), big_of (List.mem_of_getElem? (i := 1011) (by decide +kernel)) (by decide +kernel)⟩
theorem dkX6_bulkIn : dOK yX6_bulkIn 1 := by unfold dOK; decide +kernel
theorem mfX6_canCarry : Cond.instanceMethod yX6_canCarry ∈ BIG ∧ Cond.selects yX6_canCarry.cls yX6_canCarry yX6_canCarry ∈ BIG ∧ Cond.initialized yX6_canCarry.cls ∈ BIG ∧ Cond.code yX6_canCarry cX6_canCarry 6 (some .boolean) ∈ BIG := ⟨big_of (List.mem_of_getElem? (i := 1006) (by decide +kernel)) (by decide +kernel), big_of (List.mem_of_getElem? (i := 76) (by decide +kernel)) (by decide +kernel), big_of (List.mem_of_getElem? (i := 110) (by decide +kernel)) (by decide +kernel), big_of (List.mem_of_getElem? (i := 1007) (by decide +kernel)) (by decide +kernel)⟩
theorem dkX6_canCarry : dOK yX6_canCarry 2 := by unfold dOK; decide +kernel
theorem mfX6_goes : Cond.instanceMethod yX6_goes ∈ BIG ∧ Cond.selects yX6_goes.cls yX6_goes yX6_goes ∈ BIG ∧ Cond.initialized yX6_goes.cls ∈ BIG ∧ Cond.code yX6_goes cX6_goes 4 none ∈ BIG := ⟨big_of (List.mem_of_getElem? (i := 1018) (by decide +kernel)) (by decide +kernel), big_of (List.mem_of_getElem? (i := 79) (by decide +kernel)) (by decide +kernel), big_of (List.mem_of_getElem? (i := 110) (by decide +kernel)) (by decide +kernel), big_of (List.mem_of_getElem? (i := 1019) (by decide +kernel)) (by decide +kernel)⟩
theorem dkX6_goes : dOK yX6_goes 1 := by unfold dOK; decide +kernel
theorem mfX6_piece : Cond.instanceMethod yX6_piece ∈ BIG ∧ Cond.selects yX6_piece.cls yX6_piece yX6_piece ∈ BIG ∧ Cond.initialized yX6_piece.cls ∈ BIG ∧ Cond.code yX6_piece cX6_piece 3 (some .int) ∈ BIG := ⟨big_of (List.mem_of_getElem? (i := 1029) (by decide +kernel)) (by decide +kernel), big_of (List.mem_of_getElem? (i := 1030) (by decide +kernel)) (by decide +kernel), big_of (List.mem_of_getElem? (i := 110) (by decide +kernel)) (by decide +kernel), big_of (List.mem_of_getElem? (i := 1031) (by decide +kernel)) (by decide +kernel)⟩
theorem dkX6_piece : dOK yX6_piece 2 := by unfold dOK; decide +kernel
theorem mfX6_carry : Cond.instanceMethod yX6_carry ∈ BIG ∧ Cond.selects yX6_carry.cls yX6_carry yX6_carry ∈ BIG ∧ Cond.initialized yX6_carry.cls ∈ BIG ∧ Cond.code yX6_carry cX6_carry 5 (some .int) ∈ BIG := ⟨big_of (List.mem_of_getElem? (i := 1045) (by decide +kernel)) (by decide +kernel), big_of (List.mem_of_getElem? (i := 1046) (by decide +kernel)) (by decide +kernel), big_of (List.mem_of_getElem? (i := 110) (by decide +kernel)) (by decide +kernel), big_of (List.mem_of_getElem? (i := 1047) (by decide +kernel)) (by decide +kernel)⟩
theorem dkX6_carry : dOK yX6_carry 2 := by unfold dOK; decide +kernel
theorem mfX6_stands : Cond.instanceMethod yX6_stands ∈ BIG ∧ Cond.selects yX6_stands.cls yX6_stands yX6_stands ∈ BIG ∧ Cond.initialized yX6_stands.cls ∈ BIG ∧ Cond.code yX6_stands cX6_stands 3 (some .int) ∈ BIG := ⟨big_of (List.mem_of_getElem? (i := 1049) (by decide +kernel)) (by decide +kernel), big_of (List.mem_of_getElem? (i := 1050) (by decide +kernel)) (by decide +kernel), big_of (List.mem_of_getElem? (i := 110) (by decide +kernel)) (by decide +kernel), big_of (List.mem_of_getElem? (i := 1051) (by decide +kernel)) (by decide +kernel)⟩
theorem dkX6_stands : dOK yX6_stands 2 := by unfold dOK; decide +kernel
theorem mfX6_polish : Cond.instanceMethod yX6_polish ∈ BIG ∧ Cond.selects yX6_polish.cls yX6_polish yX6_polish ∈ BIG ∧ Cond.initialized yX6_polish.cls ∈ BIG ∧ Cond.code yX6_polish cX6_polish 3 (some .int) ∈ BIG := ⟨big_of (List.mem_of_getElem? (i := 1053) (by decide +kernel)) (by decide +kernel), big_of (List.mem_of_getElem? (i := 1054) (by decide +kernel)) (by decide +kernel), big_of (List.mem_of_getElem? (i := 110) (by decide +kernel)) (by decide +kernel), big_of (List.mem_of_getElem? (i := 1055) (by decide +kernel)) (by decide +kernel)⟩
theorem dkX6_polish : dOK yX6_polish 1 := by unfold dOK; decide +kernel
theorem mfX6_size : Cond.instanceMethod yX6_size ∈ BIG ∧ Cond.selects yX6_size.cls yX6_size yX6_size ∈ BIG ∧ Cond.initialized yX6_size.cls ∈ BIG ∧ Cond.code yX6_size cX6_size 5 (some .int) ∈ BIG := ⟨big_of (List.mem_of_getElem? (i := 1057) (by decide +kernel)) (by decide +kernel), big_of (List.mem_of_getElem? (i := 1058) (by decide +kernel)) (by decide +kernel), big_of (List.mem_of_getElem? (i := 110) (by decide +kernel)) (by decide +kernel), big_of (List.mem_of_getElem? (i := 1059) (by decide +kernel)) (by decide +kernel)⟩
theorem dkX6_size : dOK yX6_size 2 := by unfold dOK; decide +kernel
theorem mfX6_isFloor : Cond.static yX6_isFloor ∈ BIG ∧ Cond.initialized yX6_isFloor.cls ∈ BIG ∧ Cond.code yX6_isFloor cX6_isFloor 1 (some .boolean) ∈ BIG := ⟨big_of (List.mem_of_getElem? (i := 1065) (by decide +kernel)) (by decide +kernel), big_of (List.mem_of_getElem? (i := 110) (by decide +kernel)) (by decide +kernel), big_of (List.mem_of_getElem? (i := 1066) (by decide +kernel)) (by decide +kernel)⟩
theorem dkX6_isFloor : dOK yX6_isFloor 1 := by unfold dOK; decide +kernel
theorem mfX6_wide : Cond.instanceMethod yX6_wide ∈ BIG ∧ Cond.selects yX6_wide.cls yX6_wide yX6_wide ∈ BIG ∧ Cond.initialized yX6_wide.cls ∈ BIG ∧ Cond.code yX6_wide cX6_wide 5 (some .int) ∈ BIG := ⟨big_of (List.mem_of_getElem? (i := 1061) (by decide +kernel)) (by decide +kernel), big_of (List.mem_of_getElem? (i := 1062) (by decide +kernel)) (by decide +kernel), big_of (List.mem_of_getElem? (i := 110) (by decide +kernel)) (by decide +kernel), big_of (List.mem_of_getElem? (i := 1063) (by decide +kernel)) (by decide +kernel)⟩
theorem dkX6_wide : dOK yX6_wide 2 := by unfold dOK; decide +kernel
theorem mfX6_heirs : Cond.instanceMethod yX6_heirs ∈ BIG ∧ Cond.selects yX6_heirs.cls yX6_heirs yX6_heirs ∈ BIG ∧ Cond.initialized yX6_heirs.cls ∈ BIG ∧ Cond.code yX6_heirs cX6_heirs 4 (some .int) ∈ BIG := ⟨big_of (List.mem_of_getElem? (i := 1068) (by decide +kernel)) (by decide +kernel), big_of (List.mem_of_getElem? (i := 1069) (by decide +kernel)) (by decide +kernel), big_of (List.mem_of_getElem? (i := 110) (by decide +kernel)) (by decide +kernel), big_of (List.mem_of_getElem? (i := 1070) (by decide +kernel)) (by decide +kernel)⟩
theorem dkX6_heirs : dOK yX6_heirs 1 := by unfold dOK; decide +kernel
theorem mfX6_years : Cond.instanceMethod yX6_years ∈ BIG ∧ Cond.selects yX6_years.cls yX6_years yX6_years ∈ BIG ∧ Cond.initialized yX6_years.cls ∈ BIG ∧ Cond.code yX6_years cX6_years 3 (some .int) ∈ BIG := ⟨big_of (List.mem_of_getElem? (i := 1072) (by decide +kernel)) (by decide +kernel), big_of (List.mem_of_getElem? (i := 1073) (by decide +kernel)) (by decide +kernel), big_of (List.mem_of_getElem? (i := 110) (by decide +kernel)) (by decide +kernel), big_of (List.mem_of_getElem? (i := 1074) (by decide +kernel)) (by decide +kernel)⟩
theorem dkX6_years : dOK yX6_years 1 := by unfold dOK; decide +kernel
theorem mfX6_blame : Cond.instanceMethod yX6_blame ∈ BIG ∧ Cond.selects yX6_blame.cls yX6_blame yX6_blame ∈ BIG ∧ Cond.initialized yX6_blame.cls ∈ BIG ∧ Cond.code yX6_blame cX6_blame 2 (some .int) ∈ BIG := ⟨big_of (List.mem_of_getElem? (i := 1076) (by decide +kernel)) (by decide +kernel), big_of (List.mem_of_getElem? (i := 1077) (by decide +kernel)) (by decide +kernel), big_of (List.mem_of_getElem? (i := 110) (by decide +kernel)) (by decide +kernel), big_of (List.mem_of_getElem? (i := 1078) (by decide +kernel)) (by decide +kernel)⟩
theorem dkX6_blame : dOK yX6_blame 1 := by unfold dOK; decide +kernel
theorem mfX6_worst : Cond.instanceMethod yX6_worst ∈ BIG ∧ Cond.selects yX6_worst.cls yX6_worst yX6_worst ∈ BIG ∧ Cond.initialized yX6_worst.cls ∈ BIG ∧ Cond.code yX6_worst cX6_worst 3 (some .int) ∈ BIG := ⟨big_of (List.mem_of_getElem? (i := 1084) (by decide +kernel)) (by decide +kernel), big_of (List.mem_of_getElem? (i := 1085) (by decide +kernel)) (by decide +kernel), big_of (List.mem_of_getElem? (i := 110) (by decide +kernel)) (by decide +kernel), big_of (List.mem_of_getElem? (i := 1086) (by decide +kernel)) (by decide +kernel)⟩
theorem dkX6_worst : dOK yX6_worst 0 := by unfold dOK; decide +kernel
theorem mfX6_crowded : Cond.instanceMethod yX6_crowded ∈ BIG ∧ Cond.selects yX6_crowded.cls yX6_crowded yX6_crowded ∈ BIG ∧ Cond.initialized yX6_crowded.cls ∈ BIG ∧ Cond.code yX6_crowded cX6_crowded 3 (some .int) ∈ BIG := ⟨big_of (List.mem_of_getElem? (i := 1088) (by decide +kernel)) (by decide +kernel), big_of (List.mem_of_getElem? (i := 1089) (by decide +kernel)) (by decide +kernel), big_of (List.mem_of_getElem? (i := 110) (by decide +kernel)) (by decide +kernel), big_of (List.mem_of_getElem? (i := 1090) (by decide +kernel)) (by decide +kernel)⟩
theorem dkX6_crowded : dOK yX6_crowded 0 := by unfold dOK; decide +kernel
theorem mfX6_isPlaced : Cond.instanceMethod yX6_isPlaced ∈ BIG ∧ Cond.selects yX6_isPlaced.cls yX6_isPlaced yX6_isPlaced ∈ BIG ∧ Cond.initialized yX6_isPlaced.cls ∈ BIG ∧ Cond.code yX6_isPlaced cX6_isPlaced 5 (some .boolean) ∈ BIG := ⟨big_of (List.mem_of_getElem? (i := 1104) (by decide +kernel)) (by decide +kernel), big_of (List.mem_of_getElem? (i := 85) (by decide +kernel)) (by decide +kernel), big_of (List.mem_of_getElem? (i := 110) (by decide +kernel)) (by decide +kernel), big_of (List.mem_of_getElem? (i := 1105) (by decide +kernel)) (by decide +kernel)⟩
theorem dkX6_isPlaced : dOK yX6_isPlaced 2 := by unfold dOK; decide +kernel
theorem mfX6_roomsUsed : Cond.instanceMethod yX6_roomsUsed ∈ BIG ∧ Cond.selects yX6_roomsUsed.cls yX6_roomsUsed yX6_roomsUsed ∈ BIG ∧ Cond.initialized yX6_roomsUsed.cls ∈ BIG ∧ Cond.code yX6_roomsUsed cX6_roomsUsed 3 (some .int) ∈ BIG := ⟨big_of (List.mem_of_getElem? (i := 1112) (by decide +kernel)) (by decide +kernel), big_of (List.mem_of_getElem? (i := 86) (by decide +kernel)) (by decide +kernel), big_of (List.mem_of_getElem? (i := 110) (by decide +kernel)) (by decide +kernel), big_of (List.mem_of_getElem? (i := 1113) (by decide +kernel)) (by decide +kernel)⟩
theorem dkX6_roomsUsed : dOK yX6_roomsUsed 0 := by unfold dOK; decide +kernel
theorem mfX6_power : Cond.static yX6_power ∈ BIG ∧ Cond.initialized yX6_power.cls ∈ BIG ∧ Cond.code yX6_power cX6_power 4 (some .int) ∈ BIG := ⟨big_of (List.mem_of_getElem? (i := 1100) (by decide +kernel)) (by decide +kernel), big_of (List.mem_of_getElem? (i := 110) (by decide +kernel)) (by decide +kernel), big_of (List.mem_of_getElem? (i := 1101) (by decide +kernel)) (by decide +kernel)⟩
theorem dkX6_power : dOK yX6_power 2 := by unfold dOK; decide +kernel
theorem mfX6_findPlacing : Cond.instanceMethod yX6_findPlacing ∈ BIG ∧ Cond.selects yX6_findPlacing.cls yX6_findPlacing yX6_findPlacing ∈ BIG ∧ Cond.initialized yX6_findPlacing.cls ∈ BIG ∧ Cond.code yX6_findPlacing cX6_findPlacing 6 none ∈ BIG := ⟨big_of (List.mem_of_getElem? (i := 1097) (by decide +kernel)) (by decide +kernel), big_of (List.mem_of_getElem? (i := 84) (by decide +kernel)) (by decide +kernel), big_of (List.mem_of_getElem? (i := 110) (by decide +kernel)) (by decide +kernel), big_of (List.mem_of_getElem? (i := 1098) (by decide +kernel)) (by decide +kernel)⟩
theorem dkX6_findPlacing : dOK yX6_findPlacing 2 := by unfold dOK; decide +kernel
theorem mfX6_placing : Cond.instanceMethod yX6_placing ∈ BIG ∧ Cond.selects yX6_placing.cls yX6_placing yX6_placing ∈ BIG ∧ Cond.initialized yX6_placing.cls ∈ BIG ∧ Cond.code yX6_placing cX6_placing 5 (some .int) ∈ BIG := ⟨big_of (List.mem_of_getElem? (i := 1092) (by decide +kernel)) (by decide +kernel), big_of (List.mem_of_getElem? (i := 1093) (by decide +kernel)) (by decide +kernel), big_of (List.mem_of_getElem? (i := 110) (by decide +kernel)) (by decide +kernel), big_of (List.mem_of_getElem? (i := 1094) (by decide +kernel)) (by decide +kernel)⟩
theorem dkX6_placing : dOK yX6_placing 3 := by unfold dOK; decide +kernel
theorem mfX6_innocent : Cond.instanceMethod yX6_innocent ∈ BIG ∧ Cond.selects yX6_innocent.cls yX6_innocent yX6_innocent ∈ BIG ∧ Cond.initialized yX6_innocent.cls ∈ BIG ∧ Cond.code yX6_innocent cX6_innocent 1 (some .int) ∈ BIG := ⟨big_of (List.mem_of_getElem? (i := 1118) (by decide +kernel)) (by decide +kernel), big_of (List.mem_of_getElem? (i := 1119) (by decide +kernel)) (by decide +kernel), big_of (List.mem_of_getElem? (i := 110) (by decide +kernel)) (by decide +kernel), big_of (List.mem_of_getElem? (i := 1120) (by decide +kernel)) (by decide +kernel)⟩
theorem dkX6_innocent : dOK yX6_innocent 0 := by unfold dOK; decide +kernel
theorem mfX6_givesAll : Cond.instanceMethod yX6_givesAll ∈ BIG ∧ Cond.selects yX6_givesAll.cls yX6_givesAll yX6_givesAll ∈ BIG ∧ Cond.initialized yX6_givesAll.cls ∈ BIG ∧ Cond.code yX6_givesAll cX6_givesAll 2 none ∈ BIG := ⟨big_of (List.mem_of_getElem? (i := 1139) (by decide +kernel)) (by decide +kernel), big_of (List.mem_of_getElem? (i := 90) (by decide +kernel)) (by decide +kernel), big_of (List.mem_of_getElem? (i := 110) (by decide +kernel)) (by decide +kernel), big_of (List.mem_of_getElem? (i := 1140) (by decide +kernel)) (by decide +kernel)⟩
theorem dkX6_givesAll : dOK yX6_givesAll 0 := by unfold dOK; decide +kernel
theorem mfX6_apart : Cond.instanceMethod yX6_apart ∈ BIG ∧ Cond.selects yX6_apart.cls yX6_apart yX6_apart ∈ BIG ∧ Cond.initialized yX6_apart.cls ∈ BIG ∧ Cond.code yX6_apart cX6_apart 4 (some .int) ∈ BIG := ⟨big_of (List.mem_of_getElem? (i := 1143) (by decide +kernel)) (by decide +kernel), big_of (List.mem_of_getElem? (i := 91) (by decide +kernel)) (by decide +kernel), big_of (List.mem_of_getElem? (i := 110) (by decide +kernel)) (by decide +kernel), big_of (List.mem_of_getElem? (i := 1144) (by decide +kernel)) (by decide +kernel)⟩
theorem dkX6_apart : dOK yX6_apart 0 := by unfold dOK; decide +kernel
theorem mfX6_sharesBy : Cond.instanceMethod yX6_sharesBy ∈ BIG ∧ Cond.selects yX6_sharesBy.cls yX6_sharesBy yX6_sharesBy ∈ BIG ∧ Cond.initialized yX6_sharesBy.cls ∈ BIG ∧ Cond.code yX6_sharesBy cX6_sharesBy 4 none ∈ BIG := ⟨big_of (List.mem_of_getElem? (i := 1135) (by decide +kernel)) (by decide +kernel), big_of (List.mem_of_getElem? (i := 89) (by decide +kernel)) (by decide +kernel), big_of (List.mem_of_getElem? (i := 110) (by decide +kernel)) (by decide +kernel), big_of (List.mem_of_getElem? (i := 1136) (by decide +kernel)) (by decide +kernel)⟩
theorem dkX6_sharesBy : dOK yX6_sharesBy 1 := by unfold dOK; decide +kernel
theorem mfX6_findShares : Cond.instanceMethod yX6_findShares ∈ BIG ∧ Cond.selects yX6_findShares.cls yX6_findShares yX6_findShares ∈ BIG ∧ Cond.initialized yX6_findShares.cls ∈ BIG ∧ Cond.code yX6_findShares cX6_findShares 4 (some .int) ∈ BIG := ⟨big_of (List.mem_of_getElem? (i := 1131) (by decide +kernel)) (by decide +kernel), big_of (List.mem_of_getElem? (i := 88) (by decide +kernel)) (by decide +kernel), big_of (List.mem_of_getElem? (i := 110) (by decide +kernel)) (by decide +kernel), big_of (List.mem_of_getElem? (i := 1132) (by decide +kernel)) (by decide +kernel)⟩
theorem dkX6_findShares : dOK yX6_findShares 0 := by unfold dOK; decide +kernel
theorem mfX6_notShare : Cond.instanceMethod yX6_notShare ∈ BIG ∧ Cond.selects yX6_notShare.cls yX6_notShare yX6_notShare ∈ BIG ∧ Cond.initialized yX6_notShare.cls ∈ BIG ∧ Cond.code yX6_notShare cX6_notShare 2 (some .int) ∈ BIG := ⟨big_of (List.mem_of_getElem? (i := 1127) (by decide +kernel)) (by decide +kernel), big_of (List.mem_of_getElem? (i := 87) (by decide +kernel)) (by decide +kernel), big_of (List.mem_of_getElem? (i := 110) (by decide +kernel)) (by decide +kernel), big_of (List.mem_of_getElem? (i := 1128) (by decide +kernel)) (by decide +kernel)⟩
theorem dkX6_notShare : dOK yX6_notShare 1 := by unfold dOK; decide +kernel
theorem mfX6_shares : Cond.instanceMethod yX6_shares ∈ BIG ∧ Cond.selects yX6_shares.cls yX6_shares yX6_shares ∈ BIG ∧ Cond.initialized yX6_shares.cls ∈ BIG ∧ Cond.code yX6_shares cX6_shares 4 (some .int) ∈ BIG := ⟨big_of (List.mem_of_getElem? (i := 1122) (by decide +kernel)) (by decide +kernel), big_of (List.mem_of_getElem? (i := 1123) (by decide +kernel)) (by decide +kernel), big_of (List.mem_of_getElem? (i := 110) (by decide +kernel)) (by decide +kernel), big_of (List.mem_of_getElem? (i := 1124) (by decide +kernel)) (by decide +kernel)⟩
theorem dkX6_shares : dOK yX6_shares 1 := by unfold dOK; decide +kernel
theorem mfX6_poorest : Cond.instanceMethod yX6_poorest ∈ BIG ∧ Cond.selects yX6_poorest.cls yX6_poorest yX6_poorest ∈ BIG ∧ Cond.initialized yX6_poorest.cls ∈ BIG ∧ Cond.code yX6_poorest cX6_poorest 3 (some .int) ∈ BIG := ⟨big_of (List.mem_of_getElem? (i := 1155) (by decide +kernel)) (by decide +kernel), big_of (List.mem_of_getElem? (i := 93) (by decide +kernel)) (by decide +kernel), big_of (List.mem_of_getElem? (i := 110) (by decide +kernel)) (by decide +kernel), big_of (List.mem_of_getElem? (i := 1156) (by decide +kernel)) (by decide +kernel)⟩
theorem dkX6_poorest : dOK yX6_poorest 0 := by unfold dOK; decide +kernel
theorem mfX6_deals : Cond.instanceMethod yX6_deals ∈ BIG ∧ Cond.selects yX6_deals.cls yX6_deals yX6_deals ∈ BIG ∧ Cond.initialized yX6_deals.cls ∈ BIG ∧ Cond.code yX6_deals cX6_deals 2 none ∈ BIG := ⟨big_of (List.mem_of_getElem? (i := 1151) (by decide +kernel)) (by decide +kernel), big_of (List.mem_of_getElem? (i := 92) (by decide +kernel)) (by decide +kernel), big_of (List.mem_of_getElem? (i := 110) (by decide +kernel)) (by decide +kernel), big_of (List.mem_of_getElem? (i := 1152) (by decide +kernel)) (by decide +kernel)⟩
theorem dkX6_deals : dOK yX6_deals 0 := by unfold dOK; decide +kernel
theorem mfX6_dealt : Cond.instanceMethod yX6_dealt ∈ BIG ∧ Cond.selects yX6_dealt.cls yX6_dealt yX6_dealt ∈ BIG ∧ Cond.initialized yX6_dealt.cls ∈ BIG ∧ Cond.code yX6_dealt cX6_dealt 3 (some .int) ∈ BIG := ⟨big_of (List.mem_of_getElem? (i := 1146) (by decide +kernel)) (by decide +kernel), big_of (List.mem_of_getElem? (i := 1147) (by decide +kernel)) (by decide +kernel), big_of (List.mem_of_getElem? (i := 110) (by decide +kernel)) (by decide +kernel), big_of (List.mem_of_getElem? (i := 1148) (by decide +kernel)) (by decide +kernel)⟩
theorem dkX6_dealt : dOK yX6_dealt 1 := by unfold dOK; decide +kernel
theorem mfX6_envy : Cond.instanceMethod yX6_envy ∈ BIG ∧ Cond.selects yX6_envy.cls yX6_envy yX6_envy ∈ BIG ∧ Cond.initialized yX6_envy.cls ∈ BIG ∧ Cond.code yX6_envy cX6_envy 4 (some .int) ∈ BIG := ⟨big_of (List.mem_of_getElem? (i := 1158) (by decide +kernel)) (by decide +kernel), big_of (List.mem_of_getElem? (i := 1159) (by decide +kernel)) (by decide +kernel), big_of (List.mem_of_getElem? (i := 110) (by decide +kernel)) (by decide +kernel), big_of (List.mem_of_getElem? (i := 1160) (by decide +kernel)) (by decide +kernel)⟩
theorem dkX6_envy : dOK yX6_envy 0 := by unfold dOK; decide +kernel
theorem mfX6_mildest : Cond.instanceMethod yX6_mildest ∈ BIG ∧ Cond.selects yX6_mildest.cls yX6_mildest yX6_mildest ∈ BIG ∧ Cond.initialized yX6_mildest.cls ∈ BIG ∧ Cond.code yX6_mildest cX6_mildest 4 (some .int) ∈ BIG := ⟨big_of (List.mem_of_getElem? (i := 1167) (by decide +kernel)) (by decide +kernel), big_of (List.mem_of_getElem? (i := 94) (by decide +kernel)) (by decide +kernel), big_of (List.mem_of_getElem? (i := 110) (by decide +kernel)) (by decide +kernel), big_of (List.mem_of_getElem? (i := 1168) (by decide +kernel)) (by decide +kernel)⟩
theorem dkX6_mildest : dOK yX6_mildest 1 := by unfold dOK; decide +kernel
theorem mfX6_choice : Cond.instanceMethod yX6_choice ∈ BIG ∧ Cond.selects yX6_choice.cls yX6_choice yX6_choice ∈ BIG ∧ Cond.initialized yX6_choice.cls ∈ BIG ∧ Cond.code yX6_choice cX6_choice 7 (some .int) ∈ BIG := ⟨big_of (List.mem_of_getElem? (i := 1162) (by decide +kernel)) (by decide +kernel), big_of (List.mem_of_getElem? (i := 1163) (by decide +kernel)) (by decide +kernel), big_of (List.mem_of_getElem? (i := 110) (by decide +kernel)) (by decide +kernel), big_of (List.mem_of_getElem? (i := 1164) (by decide +kernel)) (by decide +kernel)⟩
theorem dkX6_choice : dOK yX6_choice 1 := by unfold dOK; decide +kernel
theorem mfX6_leaves : Cond.instanceMethod yX6_leaves ∈ BIG ∧ Cond.selects yX6_leaves.cls yX6_leaves yX6_leaves ∈ BIG ∧ Cond.initialized yX6_leaves.cls ∈ BIG ∧ Cond.code yX6_leaves cX6_leaves 3 none ∈ BIG := ⟨big_of (List.mem_of_getElem? (i := 1179) (by decide +kernel)) (by decide +kernel), big_of (List.mem_of_getElem? (i := 96) (by decide +kernel)) (by decide +kernel), big_of (List.mem_of_getElem? (i := 110) (by decide +kernel)) (by decide +kernel), big_of (List.mem_of_getElem? (i := 1180) (by decide +kernel)) (by decide +kernel)⟩
theorem dkX6_leaves : dOK yX6_leaves 1 := by unfold dOK; decide +kernel
theorem mfX6_blameWithout : Cond.instanceMethod yX6_blameWithout ∈ BIG ∧ Cond.selects yX6_blameWithout.cls yX6_blameWithout yX6_blameWithout ∈ BIG ∧ Cond.initialized yX6_blameWithout.cls ∈ BIG ∧ Cond.code yX6_blameWithout cX6_blameWithout 4 (some .int) ∈ BIG := ⟨big_of (List.mem_of_getElem? (i := 1175) (by decide +kernel)) (by decide +kernel), big_of (List.mem_of_getElem? (i := 95) (by decide +kernel)) (by decide +kernel), big_of (List.mem_of_getElem? (i := 110) (by decide +kernel)) (by decide +kernel), big_of (List.mem_of_getElem? (i := 1176) (by decide +kernel)) (by decide +kernel)⟩
theorem dkX6_blameWithout : dOK yX6_blameWithout 2 := by unfold dOK; decide +kernel
theorem mfX6_sell : Cond.instanceMethod yX6_sell ∈ BIG ∧ Cond.selects yX6_sell.cls yX6_sell yX6_sell ∈ BIG ∧ Cond.initialized yX6_sell.cls ∈ BIG ∧ Cond.code yX6_sell cX6_sell 6 (some .int) ∈ BIG := ⟨big_of (List.mem_of_getElem? (i := 1170) (by decide +kernel)) (by decide +kernel), big_of (List.mem_of_getElem? (i := 1171) (by decide +kernel)) (by decide +kernel), big_of (List.mem_of_getElem? (i := 110) (by decide +kernel)) (by decide +kernel), big_of (List.mem_of_getElem? (i := 1172) (by decide +kernel)) (by decide +kernel)⟩
theorem dkX6_sell : dOK yX6_sell 1 := by unfold dOK; decide +kernel
theorem mfX6_burn : Cond.instanceMethod yX6_burn ∈ BIG ∧ Cond.selects yX6_burn.cls yX6_burn yX6_burn ∈ BIG ∧ Cond.initialized yX6_burn.cls ∈ BIG ∧ Cond.code yX6_burn cX6_burn 6 (some .int) ∈ BIG := ⟨big_of (List.mem_of_getElem? (i := 1182) (by decide +kernel)) (by decide +kernel), big_of (List.mem_of_getElem? (i := 1183) (by decide +kernel)) (by decide +kernel), big_of (List.mem_of_getElem? (i := 110) (by decide +kernel)) (by decide +kernel), big_of (List.mem_of_getElem? (i := 1184) (by decide +kernel)) (by decide +kernel)⟩
theorem dkX6_burn : dOK yX6_burn 0 := by unfold dOK; decide +kernel
theorem mfX6_blameWith : Cond.instanceMethod yX6_blameWith ∈ BIG ∧ Cond.selects yX6_blameWith.cls yX6_blameWith yX6_blameWith ∈ BIG ∧ Cond.initialized yX6_blameWith.cls ∈ BIG ∧ Cond.code yX6_blameWith cX6_blameWith 5 (some .int) ∈ BIG := ⟨big_of (List.mem_of_getElem? (i := 1191) (by decide +kernel)) (by decide +kernel), big_of (List.mem_of_getElem? (i := 97) (by decide +kernel)) (by decide +kernel), big_of (List.mem_of_getElem? (i := 110) (by decide +kernel)) (by decide +kernel), big_of (List.mem_of_getElem? (i := 1192) (by decide +kernel)) (by decide +kernel)⟩
theorem dkX6_blameWith : dOK yX6_blameWith 2 := by unfold dOK; decide +kernel
theorem mfX6_heavier : Cond.instanceMethod yX6_heavier ∈ BIG ∧ Cond.selects yX6_heavier.cls yX6_heavier yX6_heavier ∈ BIG ∧ Cond.initialized yX6_heavier.cls ∈ BIG ∧ Cond.code yX6_heavier cX6_heavier 4 (some .int) ∈ BIG := ⟨big_of (List.mem_of_getElem? (i := 1186) (by decide +kernel)) (by decide +kernel), big_of (List.mem_of_getElem? (i := 1187) (by decide +kernel)) (by decide +kernel), big_of (List.mem_of_getElem? (i := 110) (by decide +kernel)) (by decide +kernel), big_of (List.mem_of_getElem? (i := 1188) (by decide +kernel)) (by decide +kernel)⟩
theorem dkX6_heavier : dOK yX6_heavier 0 := by unfold dOK; decide +kernel
theorem mfX6_blameBehind : Cond.instanceMethod yX6_blameBehind ∈ BIG ∧ Cond.selects yX6_blameBehind.cls yX6_blameBehind yX6_blameBehind ∈ BIG ∧ Cond.initialized yX6_blameBehind.cls ∈ BIG ∧ Cond.code yX6_blameBehind cX6_blameBehind 3 (some .int) ∈ BIG := ⟨big_of (List.mem_of_getElem? (i := 1199) (by decide +kernel)) (by decide +kernel), big_of (List.mem_of_getElem? (i := 98) (by decide +kernel)) (by decide +kernel), big_of (List.mem_of_getElem? (i := 110) (by decide +kernel)) (by decide +kernel), big_of (List.mem_of_getElem? (i := 1200) (by decide +kernel)) (by decide +kernel)⟩
theorem dkX6_blameBehind : dOK yX6_blameBehind 1 := by unfold dOK; decide +kernel
theorem mfX6_later : Cond.instanceMethod yX6_later ∈ BIG ∧ Cond.selects yX6_later.cls yX6_later yX6_later ∈ BIG ∧ Cond.initialized yX6_later.cls ∈ BIG ∧ Cond.code yX6_later cX6_later 3 (some .int) ∈ BIG := ⟨big_of (List.mem_of_getElem? (i := 1194) (by decide +kernel)) (by decide +kernel), big_of (List.mem_of_getElem? (i := 1195) (by decide +kernel)) (by decide +kernel), big_of (List.mem_of_getElem? (i := 110) (by decide +kernel)) (by decide +kernel), big_of (List.mem_of_getElem? (i := 1196) (by decide +kernel)) (by decide +kernel)⟩
theorem dkX6_later : dOK yX6_later 1 := by unfold dOK; decide +kernel
theorem mfX6_gone : Cond.instanceMethod yX6_gone ∈ BIG ∧ Cond.selects yX6_gone.cls yX6_gone yX6_gone ∈ BIG ∧ Cond.initialized yX6_gone.cls ∈ BIG ∧ Cond.code yX6_gone cX6_gone 4 (some .int) ∈ BIG := ⟨big_of (List.mem_of_getElem? (i := 1202) (by decide +kernel)) (by decide +kernel), big_of (List.mem_of_getElem? (i := 1203) (by decide +kernel)) (by decide +kernel), big_of (List.mem_of_getElem? (i := 110) (by decide +kernel)) (by decide +kernel), big_of (List.mem_of_getElem? (i := 1204) (by decide +kernel)) (by decide +kernel)⟩
theorem dkX6_gone : dOK yX6_gone 1 := by unfold dOK; decide +kernel
theorem mfX6_makes : Cond.instanceMethod yX6_makes ∈ BIG ∧ Cond.selects yX6_makes.cls yX6_makes yX6_makes ∈ BIG ∧ Cond.initialized yX6_makes.cls ∈ BIG ∧ Cond.code yX6_makes cX6_makes 4 (some .boolean) ∈ BIG := ⟨big_of (List.mem_of_getElem? (i := 1211) (by decide +kernel)) (by decide +kernel), big_of (List.mem_of_getElem? (i := 99) (by decide +kernel)) (by decide +kernel), big_of (List.mem_of_getElem? (i := 110) (by decide +kernel)) (by decide +kernel), big_of (List.mem_of_getElem? (i := 1212) (by decide +kernel)) (by decide +kernel)⟩
theorem dkX6_makes : dOK yX6_makes 2 := by unfold dOK; decide +kernel
theorem mfX6_whose : Cond.instanceMethod yX6_whose ∈ BIG ∧ Cond.selects yX6_whose.cls yX6_whose yX6_whose ∈ BIG ∧ Cond.initialized yX6_whose.cls ∈ BIG ∧ Cond.code yX6_whose cX6_whose 5 (some .int) ∈ BIG := ⟨big_of (List.mem_of_getElem? (i := 1206) (by decide +kernel)) (by decide +kernel), big_of (List.mem_of_getElem? (i := 1207) (by decide +kernel)) (by decide +kernel), big_of (List.mem_of_getElem? (i := 110) (by decide +kernel)) (by decide +kernel), big_of (List.mem_of_getElem? (i := 1208) (by decide +kernel)) (by decide +kernel)⟩
theorem dkX6_whose : dOK yX6_whose 1 := by unfold dOK; decide +kernel
theorem mfX6_evenBy : Cond.instanceMethod yX6_evenBy ∈ BIG ∧ Cond.selects yX6_evenBy.cls yX6_evenBy yX6_evenBy ∈ BIG ∧ Cond.initialized yX6_evenBy.cls ∈ BIG ∧ Cond.code yX6_evenBy cX6_evenBy 5 (some .int) ∈ BIG := ⟨big_of (List.mem_of_getElem? (i := 1219) (by decide +kernel)) (by decide +kernel), big_of (List.mem_of_getElem? (i := 100) (by decide +kernel)) (by decide +kernel), big_of (List.mem_of_getElem? (i := 110) (by decide +kernel)) (by decide +kernel), big_of (List.mem_of_getElem? (i := 1220) (by decide +kernel)) (by decide +kernel)⟩
theorem dkX6_evenBy : dOK yX6_evenBy 2 := by unfold dOK; decide +kernel
theorem mfX6_ask : Cond.instanceMethod yX6_ask ∈ BIG ∧ Cond.selects yX6_ask.cls yX6_ask yX6_ask ∈ BIG ∧ Cond.initialized yX6_ask.cls ∈ BIG ∧ Cond.code yX6_ask cX6_ask 5 (some .int) ∈ BIG := ⟨big_of (List.mem_of_getElem? (i := 1214) (by decide +kernel)) (by decide +kernel), big_of (List.mem_of_getElem? (i := 1215) (by decide +kernel)) (by decide +kernel), big_of (List.mem_of_getElem? (i := 110) (by decide +kernel)) (by decide +kernel), big_of (List.mem_of_getElem? (i := 1216) (by decide +kernel)) (by decide +kernel)⟩
theorem dkX6_ask : dOK yX6_ask 1 := by unfold dOK; decide +kernel
theorem mfX6_wider : Cond.instanceMethod yX6_wider ∈ BIG ∧ Cond.selects yX6_wider.cls yX6_wider yX6_wider ∈ BIG ∧ Cond.initialized yX6_wider.cls ∈ BIG ∧ Cond.code yX6_wider cX6_wider 7 (some .int) ∈ BIG := ⟨big_of (List.mem_of_getElem? (i := 1222) (by decide +kernel)) (by decide +kernel), big_of (List.mem_of_getElem? (i := 1223) (by decide +kernel)) (by decide +kernel), big_of (List.mem_of_getElem? (i := 110) (by decide +kernel)) (by decide +kernel), big_of (List.mem_of_getElem? (i := 1224) (by decide +kernel)) (by decide +kernel)⟩
theorem dkX6_wider : dOK yX6_wider 3 := by unfold dOK; decide +kernel
theorem mfX6_bigger : Cond.instanceMethod yX6_bigger ∈ BIG ∧ Cond.selects yX6_bigger.cls yX6_bigger yX6_bigger ∈ BIG ∧ Cond.initialized yX6_bigger.cls ∈ BIG ∧ Cond.code yX6_bigger cX6_bigger 6 (some .int) ∈ BIG := ⟨big_of (List.mem_of_getElem? (i := 1226) (by decide +kernel)) (by decide +kernel), big_of (List.mem_of_getElem? (i := 1227) (by decide +kernel)) (by decide +kernel), big_of (List.mem_of_getElem? (i := 110) (by decide +kernel)) (by decide +kernel), big_of (List.mem_of_getElem? (i := 1228) (by decide +kernel)) (by decide +kernel)⟩
theorem dkX6_bigger : dOK yX6_bigger 2 := by unfold dOK; decide +kernel
theorem mfX6_guest : Cond.instanceMethod yX6_guest ∈ BIG ∧ Cond.selects yX6_guest.cls yX6_guest yX6_guest ∈ BIG ∧ Cond.initialized yX6_guest.cls ∈ BIG ∧ Cond.code yX6_guest cX6_guest 4 (some .int) ∈ BIG := ⟨big_of (List.mem_of_getElem? (i := 1230) (by decide +kernel)) (by decide +kernel), big_of (List.mem_of_getElem? (i := 1231) (by decide +kernel)) (by decide +kernel), big_of (List.mem_of_getElem? (i := 110) (by decide +kernel)) (by decide +kernel), big_of (List.mem_of_getElem? (i := 1232) (by decide +kernel)) (by decide +kernel)⟩
theorem dkX6_guest : dOK yX6_guest 1 := by unfold dOK; decide +kernel
theorem mfX6_row : Cond.instanceMethod yX6_row ∈ BIG ∧ Cond.selects yX6_row.cls yX6_row yX6_row ∈ BIG ∧ Cond.initialized yX6_row.cls ∈ BIG ∧ Cond.code yX6_row cX6_row 3 (some .int) ∈ BIG := ⟨big_of (List.mem_of_getElem? (i := 1234) (by decide +kernel)) (by decide +kernel), big_of (List.mem_of_getElem? (i := 1235) (by decide +kernel)) (by decide +kernel), big_of (List.mem_of_getElem? (i := 110) (by decide +kernel)) (by decide +kernel), big_of (List.mem_of_getElem? (i := 1236) (by decide +kernel)) (by decide +kernel)⟩
theorem dkX6_row : dOK yX6_row 1 := by unfold dOK; decide +kernel
theorem mfX6_firstOther : Cond.instanceMethod yX6_firstOther ∈ BIG ∧ Cond.selects yX6_firstOther.cls yX6_firstOther yX6_firstOther ∈ BIG ∧ Cond.initialized yX6_firstOther.cls ∈ BIG ∧ Cond.code yX6_firstOther cX6_firstOther 3 (some .int) ∈ BIG := ⟨big_of (List.mem_of_getElem? (i := 1243) (by decide +kernel)) (by decide +kernel), big_of (List.mem_of_getElem? (i := 101) (by decide +kernel)) (by decide +kernel), big_of (List.mem_of_getElem? (i := 110) (by decide +kernel)) (by decide +kernel), big_of (List.mem_of_getElem? (i := 1244) (by decide +kernel)) (by decide +kernel)⟩
theorem dkX6_firstOther : dOK yX6_firstOther 0 := by unfold dOK; decide +kernel
theorem mfX6_fits : Cond.instanceMethod yX6_fits ∈ BIG ∧ Cond.selects yX6_fits.cls yX6_fits yX6_fits ∈ BIG ∧ Cond.initialized yX6_fits.cls ∈ BIG ∧ Cond.code yX6_fits cX6_fits 5 (some .int) ∈ BIG := ⟨big_of (List.mem_of_getElem? (i := 1238) (by decide +kernel)) (by decide +kernel), big_of (List.mem_of_getElem? (i := 1239) (by decide +kernel)) (by decide +kernel), big_of (List.mem_of_getElem? (i := 110) (by decide +kernel)) (by decide +kernel), big_of (List.mem_of_getElem? (i := 1240) (by decide +kernel)) (by decide +kernel)⟩
theorem dkX6_fits : dOK yX6_fits 1 := by unfold dOK; decide +kernel
theorem mfX6_judge : Cond.instanceMethod yX6_judge ∈ BIG ∧ Cond.selects yX6_judge.cls yX6_judge yX6_judge ∈ BIG ∧ Cond.initialized yX6_judge.cls ∈ BIG ∧ Cond.code yX6_judge cX6_judge 2 (some .int) ∈ BIG := ⟨big_of (List.mem_of_getElem? (i := 1246) (by decide +kernel)) (by decide +kernel), big_of (List.mem_of_getElem? (i := 1247) (by decide +kernel)) (by decide +kernel), big_of (List.mem_of_getElem? (i := 110) (by decide +kernel)) (by decide +kernel), big_of (List.mem_of_getElem? (i := 1248) (by decide +kernel)) (by decide +kernel)⟩
theorem dkX6_judge : dOK yX6_judge 0 := by unfold dOK; decide +kernel
theorem mfX6_lots : Cond.instanceMethod yX6_lots ∈ BIG ∧ Cond.selects yX6_lots.cls yX6_lots yX6_lots ∈ BIG ∧ Cond.initialized yX6_lots.cls ∈ BIG ∧ Cond.code yX6_lots cX6_lots 8 (some .int) ∈ BIG := ⟨big_of (List.mem_of_getElem? (i := 1250) (by decide +kernel)) (by decide +kernel), big_of (List.mem_of_getElem? (i := 1251) (by decide +kernel)) (by decide +kernel), big_of (List.mem_of_getElem? (i := 110) (by decide +kernel)) (by decide +kernel), big_of (List.mem_of_getElem? (i := 1252) (by decide +kernel)) (by decide +kernel)⟩
theorem dkX6_lots : dOK yX6_lots 2 := by unfold dOK; decide +kernel
theorem mfX6_count : Cond.instanceMethod yX6_count ∈ BIG ∧ Cond.selects yX6_count.cls yX6_count yX6_count ∈ BIG ∧ Cond.initialized yX6_count.cls ∈ BIG ∧ Cond.code yX6_count cX6_count 4 (some .int) ∈ BIG := ⟨big_of (List.mem_of_getElem? (i := 1257) (by decide +kernel)) (by decide +kernel), big_of (List.mem_of_getElem? (i := 1258) (by decide +kernel)) (by decide +kernel), big_of (List.mem_of_getElem? (i := 110) (by decide +kernel)) (by decide +kernel), big_of (List.mem_of_getElem? (i := 1259) (by decide +kernel)) (by decide +kernel)⟩
theorem dkX6_count : dOK yX6_count 1 := by unfold dOK; decide +kernel
theorem mlX6_68 : Cond.methodLink RX6 68 yX6_isRoom ∈ BIG := big_of (List.mem_of_getElem? (i := 1001) (by decide +kernel)) (by decide +kernel)
theorem mlX6_72 : Cond.methodLink RX6 72 yX6_bound ∈ BIG := big_of (List.mem_of_getElem? (i := 934) (by decide +kernel)) (by decide +kernel)
theorem mlX6_79 : Cond.methodLink RX6 79 yX6_no ∈ BIG := big_of (List.mem_of_getElem? (i := 937) (by decide +kernel)) (by decide +kernel)
theorem mlX6_86 : Cond.methodLink RX6 86 yX6_next ∈ BIG := big_of (List.mem_of_getElem? (i := 949) (by decide +kernel)) (by decide +kernel)
theorem mlX6_90 : Cond.methodLink RX6 90 yX6_isIn ∈ BIG := big_of (List.mem_of_getElem? (i := 971) (by decide +kernel)) (by decide +kernel)
theorem mlX6_94 : Cond.methodLink RX6 94 yX6_kindOf ∈ BIG := big_of (List.mem_of_getElem? (i := 964) (by decide +kernel)) (by decide +kernel)
theorem mlX6_97 : Cond.methodLink RX6 97 yX6_readsDigits ∈ BIG := big_of (List.mem_of_getElem? (i := 967) (by decide +kernel)) (by decide +kernel)
theorem mlX6_101 : Cond.methodLink RX6 101 yX6_readsPiece ∈ BIG := big_of (List.mem_of_getElem? (i := 960) (by decide +kernel)) (by decide +kernel)
theorem mlX6_104 : Cond.methodLink RX6 104 yX6_isLetter ∈ BIG := big_of (List.mem_of_getElem? (i := 953) (by decide +kernel)) (by decide +kernel)
theorem mlX6_110 : Cond.methodLink RX6 110 yX6_readsAll ∈ BIG := big_of (List.mem_of_getElem? (i := 956) (by decide +kernel)) (by decide +kernel)
theorem mlX6_113 : Cond.methodLink RX6 113 yX6_comesPiece ∈ BIG := big_of (List.mem_of_getElem? (i := 990) (by decide +kernel)) (by decide +kernel)
theorem mlX6_116 : Cond.methodLink RX6 116 yX6_isPiece ∈ BIG := big_of (List.mem_of_getElem? (i := 994) (by decide +kernel)) (by decide +kernel)
theorem mlX6_119 : Cond.methodLink RX6 119 yX6_isPlace ∈ BIG := big_of (List.mem_of_getElem? (i := 998) (by decide +kernel)) (by decide +kernel)
theorem mlX6_122 : Cond.methodLink RX6 122 yX6_canCarry ∈ BIG := big_of (List.mem_of_getElem? (i := 1004) (by decide +kernel)) (by decide +kernel)
theorem mlX6_125 : Cond.methodLink RX6 125 yX6_bulkIn ∈ BIG := big_of (List.mem_of_getElem? (i := 1008) (by decide +kernel)) (by decide +kernel)
theorem mlX6_131 : Cond.methodLink RX6 131 yX6_goes ∈ BIG := big_of (List.mem_of_getElem? (i := 1016) (by decide +kernel)) (by decide +kernel)
theorem mlX6_135 : Cond.methodLink RX6 135 yX6_statement ∈ BIG := big_of (List.mem_of_getElem? (i := 945) (by decide +kernel)) (by decide +kernel)
theorem mlX6_139 : Cond.methodLink RX6 139 yX6_passesAll ∈ BIG := big_of (List.mem_of_getElem? (i := 974) (by decide +kernel)) (by decide +kernel)
theorem mlX6_143 : Cond.methodLink RX6 143 yX6_comes ∈ BIG := big_of (List.mem_of_getElem? (i := 986) (by decide +kernel)) (by decide +kernel)
theorem mlX6_153 : Cond.methodLink RX6 153 yX6_passes ∈ BIG := big_of (List.mem_of_getElem? (i := 978) (by decide +kernel)) (by decide +kernel)
theorem mlX6_157 : Cond.methodLink RX6 157 yX6_passOne ∈ BIG := big_of (List.mem_of_getElem? (i := 982) (by decide +kernel)) (by decide +kernel)
theorem mlX6_163 : Cond.methodLink RX6 163 yX6_suiteOf ∈ BIG := big_of (List.mem_of_getElem? (i := 1036) (by decide +kernel)) (by decide +kernel)
theorem mlX6_166 : Cond.methodLink RX6 166 yX6_veneerOf ∈ BIG := big_of (List.mem_of_getElem? (i := 1040) (by decide +kernel)) (by decide +kernel)
theorem mlX6_169 : Cond.methodLink RX6 169 yX6_blameOf ∈ BIG := big_of (List.mem_of_getElem? (i := 1032) (by decide +kernel)) (by decide +kernel)
theorem mlX6_172 : Cond.methodLink RX6 172 yX6_wideOf ∈ BIG := big_of (List.mem_of_getElem? (i := 1012) (by decide +kernel)) (by decide +kernel)
theorem mlX6_175 : Cond.methodLink RX6 175 yX6_isFloor ∈ BIG := big_of (List.mem_of_getElem? (i := 1064) (by decide +kernel)) (by decide +kernel)
theorem mlX6_178 : Cond.methodLink RX6 178 yX6_blameIn ∈ BIG := big_of (List.mem_of_getElem? (i := 1079) (by decide +kernel)) (by decide +kernel)
theorem mlX6_181 : Cond.methodLink RX6 181 yX6_has ∈ BIG := big_of (List.mem_of_getElem? (i := 1106) (by decide +kernel)) (by decide +kernel)
theorem mlX6_184 : Cond.methodLink RX6 184 yX6_bits ∈ BIG := big_of (List.mem_of_getElem? (i := 1114) (by decide +kernel)) (by decide +kernel)
theorem mlX6_190 : Cond.methodLink RX6 190 yX6_power ∈ BIG := big_of (List.mem_of_getElem? (i := 1099) (by decide +kernel)) (by decide +kernel)
theorem mlX6_194 : Cond.methodLink RX6 194 yX6_isPlaced ∈ BIG := big_of (List.mem_of_getElem? (i := 1102) (by decide +kernel)) (by decide +kernel)
theorem mlX6_197 : Cond.methodLink RX6 197 yX6_worst ∈ BIG := big_of (List.mem_of_getElem? (i := 1109) (by decide +kernel)) (by decide +kernel)
theorem mlX6_200 : Cond.methodLink RX6 200 yX6_roomsUsed ∈ BIG := big_of (List.mem_of_getElem? (i := 1110) (by decide +kernel)) (by decide +kernel)
theorem mlX6_203 : Cond.methodLink RX6 203 yX6_findPlacing ∈ BIG := big_of (List.mem_of_getElem? (i := 1095) (by decide +kernel)) (by decide +kernel)
theorem mlX6_207 : Cond.methodLink RX6 207 yX6_givesAll ∈ BIG := big_of (List.mem_of_getElem? (i := 1137) (by decide +kernel)) (by decide +kernel)
theorem mlX6_210 : Cond.methodLink RX6 210 yX6_sharesBy ∈ BIG := big_of (List.mem_of_getElem? (i := 1133) (by decide +kernel)) (by decide +kernel)
theorem mlX6_213 : Cond.methodLink RX6 213 yX6_apart ∈ BIG := big_of (List.mem_of_getElem? (i := 1141) (by decide +kernel)) (by decide +kernel)
theorem mlX6_216 : Cond.methodLink RX6 216 yX6_notShare ∈ BIG := big_of (List.mem_of_getElem? (i := 1125) (by decide +kernel)) (by decide +kernel)
theorem mlX6_219 : Cond.methodLink RX6 219 yX6_findShares ∈ BIG := big_of (List.mem_of_getElem? (i := 1129) (by decide +kernel)) (by decide +kernel)
theorem mlX6_222 : Cond.methodLink RX6 222 yX6_poorest ∈ BIG := big_of (List.mem_of_getElem? (i := 1153) (by decide +kernel)) (by decide +kernel)
theorem mlX6_225 : Cond.methodLink RX6 225 yX6_deals ∈ BIG := big_of (List.mem_of_getElem? (i := 1149) (by decide +kernel)) (by decide +kernel)
theorem mlX6_228 : Cond.methodLink RX6 228 yX6_mildest ∈ BIG := big_of (List.mem_of_getElem? (i := 1165) (by decide +kernel)) (by decide +kernel)
theorem mlX6_231 : Cond.methodLink RX6 231 yX6_leaves ∈ BIG := big_of (List.mem_of_getElem? (i := 1177) (by decide +kernel)) (by decide +kernel)
theorem mlX6_234 : Cond.methodLink RX6 234 yX6_blameWithout ∈ BIG := big_of (List.mem_of_getElem? (i := 1173) (by decide +kernel)) (by decide +kernel)
theorem mlX6_237 : Cond.methodLink RX6 237 yX6_blameWith ∈ BIG := big_of (List.mem_of_getElem? (i := 1189) (by decide +kernel)) (by decide +kernel)
theorem mlX6_240 : Cond.methodLink RX6 240 yX6_blameBehind ∈ BIG := big_of (List.mem_of_getElem? (i := 1197) (by decide +kernel)) (by decide +kernel)
theorem mlX6_243 : Cond.methodLink RX6 243 yX6_makes ∈ BIG := big_of (List.mem_of_getElem? (i := 1209) (by decide +kernel)) (by decide +kernel)
theorem mlX6_246 : Cond.methodLink RX6 246 yX6_evenBy ∈ BIG := big_of (List.mem_of_getElem? (i := 1217) (by decide +kernel)) (by decide +kernel)
theorem mlX6_252 : Cond.methodLink RX6 252 yX6_firstOther ∈ BIG := big_of (List.mem_of_getElem? (i := 1241) (by decide +kernel)) (by decide +kernel)
theorem kcX6_255 : Cond.constant RX6 255 (1664525) ∈ BIG := big_of (List.mem_of_getElem? (i := 1253) (by decide +kernel)) (by decide +kernel)
theorem kcX6_256 : Cond.constant RX6 256 (1013904223) ∈ BIG := big_of (List.mem_of_getElem? (i := 1254) (by decide +kernel)) (by decide +kernel)
theorem kcX6_257 : Cond.constant RX6 257 (2147483647) ∈ BIG := big_of (List.mem_of_getElem? (i := 1255) (by decide +kernel)) (by decide +kernel)
end
section
theorem dX6_apart_0 : decode cX6_apart 0 = .ok (.aload_n 0, 1) := by decide +kernel
theorem dX6_apart_1 : decode cX6_apart 1 = .ok (.getfield 55, 3) := by decide +kernel
theorem dX6_apart_4 : decode cX6_apart 4 = .ok (.iconst 0, 1) := by decide +kernel
theorem dX6_apart_5 : decode cX6_apart 5 = .ok (.iaload, 1) := by decide +kernel
theorem dX6_apart_6 : decode cX6_apart 6 = .ok (.istore_n 1, 1) := by decide +kernel
theorem dX6_apart_7 : decode cX6_apart 7 = .ok (.aload_n 0, 1) := by decide +kernel
theorem dX6_apart_8 : decode cX6_apart 8 = .ok (.getfield 55, 3) := by decide +kernel
theorem dX6_apart_11 : decode cX6_apart 11 = .ok (.iconst 0, 1) := by decide +kernel
theorem dX6_apart_12 : decode cX6_apart 12 = .ok (.iaload, 1) := by decide +kernel
theorem dX6_apart_13 : decode cX6_apart 13 = .ok (.istore_n 2, 1) := by decide +kernel
theorem dX6_apart_14 : decode cX6_apart 14 = .ok (.iconst 1, 1) := by decide +kernel
theorem dX6_apart_15 : decode cX6_apart 15 = .ok (.istore_n 3, 1) := by decide +kernel
theorem dX6_apart_16 : decode cX6_apart 16 = .ok (.iload_n 3, 1) := by decide +kernel
theorem dX6_apart_17 : decode cX6_apart 17 = .ok (.aload_n 0, 1) := by decide +kernel
theorem dX6_apart_18 : decode cX6_apart 18 = .ok (.getfield 61, 3) := by decide +kernel
theorem dX6_apart_21 : decode cX6_apart 21 = .ok (.if_icmp .ge 51, 3) := by decide +kernel
theorem dX6_apart_24 : decode cX6_apart 24 = .ok (.aload_n 0, 1) := by decide +kernel
theorem dX6_apart_25 : decode cX6_apart 25 = .ok (.getfield 55, 3) := by decide +kernel
theorem dX6_apart_28 : decode cX6_apart 28 = .ok (.iload_n 3, 1) := by decide +kernel
theorem dX6_apart_29 : decode cX6_apart 29 = .ok (.iaload, 1) := by decide +kernel
theorem dX6_apart_30 : decode cX6_apart 30 = .ok (.iload_n 1, 1) := by decide +kernel
theorem dX6_apart_31 : decode cX6_apart 31 = .ok (.if_icmp .ge 12, 3) := by decide +kernel
theorem dX6_apart_34 : decode cX6_apart 34 = .ok (.aload_n 0, 1) := by decide +kernel
theorem dX6_apart_35 : decode cX6_apart 35 = .ok (.getfield 55, 3) := by decide +kernel
theorem dX6_apart_38 : decode cX6_apart 38 = .ok (.iload_n 3, 1) := by decide +kernel
theorem dX6_apart_39 : decode cX6_apart 39 = .ok (.iaload, 1) := by decide +kernel
theorem dX6_apart_40 : decode cX6_apart 40 = .ok (.goto 4, 3) := by decide +kernel
theorem dX6_apart_43 : decode cX6_apart 43 = .ok (.iload_n 1, 1) := by decide +kernel
theorem dX6_apart_44 : decode cX6_apart 44 = .ok (.istore_n 1, 1) := by decide +kernel
theorem dX6_apart_45 : decode cX6_apart 45 = .ok (.aload_n 0, 1) := by decide +kernel
theorem dX6_apart_46 : decode cX6_apart 46 = .ok (.getfield 55, 3) := by decide +kernel
theorem dX6_apart_49 : decode cX6_apart 49 = .ok (.iload_n 3, 1) := by decide +kernel
theorem dX6_apart_50 : decode cX6_apart 50 = .ok (.iaload, 1) := by decide +kernel
theorem dX6_apart_51 : decode cX6_apart 51 = .ok (.iload_n 2, 1) := by decide +kernel
theorem dX6_apart_52 : decode cX6_apart 52 = .ok (.if_icmp .le 12, 3) := by decide +kernel
theorem dX6_apart_55 : decode cX6_apart 55 = .ok (.aload_n 0, 1) := by decide +kernel
theorem dX6_apart_56 : decode cX6_apart 56 = .ok (.getfield 55, 3) := by decide +kernel
theorem dX6_apart_59 : decode cX6_apart 59 = .ok (.iload_n 3, 1) := by decide +kernel
theorem dX6_apart_60 : decode cX6_apart 60 = .ok (.iaload, 1) := by decide +kernel
theorem dX6_apart_61 : decode cX6_apart 61 = .ok (.goto 4, 3) := by decide +kernel
theorem dX6_apart_64 : decode cX6_apart 64 = .ok (.iload_n 2, 1) := by decide +kernel
theorem dX6_apart_65 : decode cX6_apart 65 = .ok (.istore_n 2, 1) := by decide +kernel
theorem dX6_apart_66 : decode cX6_apart 66 = .ok (.iinc 3 1, 3) := by decide +kernel
theorem dX6_apart_69 : decode cX6_apart 69 = .ok (.goto (-53), 3) := by decide +kernel
theorem dX6_apart_72 : decode cX6_apart 72 = .ok (.iload_n 2, 1) := by decide +kernel
theorem dX6_apart_73 : decode cX6_apart 73 = .ok (.iload_n 1, 1) := by decide +kernel
theorem dX6_apart_74 : decode cX6_apart 74 = .ok (.isub, 1) := by decide +kernel
theorem dX6_apart_75 : decode cX6_apart 75 = .ok (.ireturn, 1) := by decide +kernel
theorem dX6_ask_0 : decode cX6_ask 0 = .ok (.iload_n 1, 1) := by decide +kernel
theorem dX6_ask_1 : decode cX6_ask 1 = .ok (.iconst 0, 1) := by decide +kernel
theorem dX6_ask_2 : decode cX6_ask 2 = .ok (.sipush 999, 3) := by decide +kernel
theorem dX6_ask_5 : decode cX6_ask 5 = .ok (.invokestatic 72, 3) := by decide +kernel
theorem dX6_ask_8 : decode cX6_ask 8 = .ok (.istore_n 2, 1) := by decide +kernel
theorem dX6_ask_9 : decode cX6_ask 9 = .ok (.iload_n 2, 1) := by decide +kernel
theorem dX6_ask_10 : decode cX6_ask 10 = .ok (.ifCond .eq 9, 3) := by decide +kernel
theorem dX6_ask_13 : decode cX6_ask 13 = .ok (.aload_n 0, 1) := by decide +kernel
theorem dX6_ask_14 : decode cX6_ask 14 = .ok (.iload_n 2, 1) := by decide +kernel
theorem dX6_ask_15 : decode cX6_ask 15 = .ok (.invokevirtual 79, 3) := by decide +kernel
theorem dX6_ask_18 : decode cX6_ask 18 = .ok (.ireturn, 1) := by decide +kernel
theorem dX6_ask_19 : decode cX6_ask 19 = .ok (.aload_n 0, 1) := by decide +kernel
theorem dX6_ask_20 : decode cX6_ask 20 = .ok (.getfield 65, 3) := by decide +kernel
theorem dX6_ask_23 : decode cX6_ask 23 = .ok (.ifCond .ne 8, 3) := by decide +kernel
theorem dX6_ask_26 : decode cX6_ask 26 = .ok (.bipush (-9), 2) := by decide +kernel
theorem dX6_ask_28 : decode cX6_ask 28 = .ok (.goto 4, 3) := by decide +kernel
theorem dX6_ask_31 : decode cX6_ask 31 = .ok (.iconst 0, 1) := by decide +kernel
theorem dX6_ask_32 : decode cX6_ask 32 = .ok (.istore_n 3, 1) := by decide +kernel
theorem dX6_ask_33 : decode cX6_ask 33 = .ok (.iconst 1, 1) := by decide +kernel
theorem dX6_ask_34 : decode cX6_ask 34 = .ok (.istore 4, 2) := by decide +kernel
theorem dX6_ask_36 : decode cX6_ask 36 = .ok (.iload 4, 2) := by decide +kernel
theorem dX6_ask_38 : decode cX6_ask 38 = .ok (.aload_n 0, 1) := by decide +kernel
theorem dX6_ask_39 : decode cX6_ask 39 = .ok (.getfield 65, 3) := by decide +kernel
theorem dX6_ask_42 : decode cX6_ask 42 = .ok (.if_icmp .ge 32, 3) := by decide +kernel
theorem dX6_ask_45 : decode cX6_ask 45 = .ok (.aload_n 0, 1) := by decide +kernel
theorem dX6_ask_46 : decode cX6_ask 46 = .ok (.iload 4, 2) := by decide +kernel
theorem dX6_ask_48 : decode cX6_ask 48 = .ok (.iload_n 1, 1) := by decide +kernel
theorem dX6_ask_49 : decode cX6_ask 49 = .ok (.invokevirtual 246, 3) := by decide +kernel
theorem dX6_ask_52 : decode cX6_ask 52 = .ok (.aload_n 0, 1) := by decide +kernel
theorem dX6_ask_53 : decode cX6_ask 53 = .ok (.iload_n 3, 1) := by decide +kernel
theorem dX6_ask_54 : decode cX6_ask 54 = .ok (.iload_n 1, 1) := by decide +kernel
theorem dX6_ask_55 : decode cX6_ask 55 = .ok (.invokevirtual 246, 3) := by decide +kernel
theorem dX6_ask_58 : decode cX6_ask 58 = .ok (.if_icmp .le 8, 3) := by decide +kernel
theorem dX6_ask_61 : decode cX6_ask 61 = .ok (.iload 4, 2) := by decide +kernel
theorem dX6_ask_63 : decode cX6_ask 63 = .ok (.goto 4, 3) := by decide +kernel
theorem dX6_ask_66 : decode cX6_ask 66 = .ok (.iload_n 3, 1) := by decide +kernel
theorem dX6_ask_67 : decode cX6_ask 67 = .ok (.istore_n 3, 1) := by decide +kernel
theorem dX6_ask_68 : decode cX6_ask 68 = .ok (.iinc 4 1, 3) := by decide +kernel
theorem dX6_ask_71 : decode cX6_ask 71 = .ok (.goto (-35), 3) := by decide +kernel
theorem dX6_ask_74 : decode cX6_ask 74 = .ok (.iload_n 3, 1) := by decide +kernel
theorem dX6_ask_75 : decode cX6_ask 75 = .ok (.ireturn, 1) := by decide +kernel
theorem dX6_bigger_0 : decode cX6_bigger 0 = .ok (.aload_n 0, 1) := by decide +kernel
theorem dX6_bigger_1 : decode cX6_bigger 1 = .ok (.iload_n 1, 1) := by decide +kernel
theorem dX6_bigger_2 : decode cX6_bigger 2 = .ok (.invokevirtual 116, 3) := by decide +kernel
theorem dX6_bigger_5 : decode cX6_bigger 5 = .ok (.ifCond .eq 10, 3) := by decide +kernel
theorem dX6_bigger_8 : decode cX6_bigger 8 = .ok (.iload_n 2, 1) := by decide +kernel
theorem dX6_bigger_9 : decode cX6_bigger 9 = .ok (.invokestatic 68, 3) := by decide +kernel
theorem dX6_bigger_12 : decode cX6_bigger 12 = .ok (.ifCond .ne 9, 3) := by decide +kernel
theorem dX6_bigger_15 : decode cX6_bigger 15 = .ok (.aload_n 0, 1) := by decide +kernel
theorem dX6_bigger_16 : decode cX6_bigger 16 = .ok (.iconst (-1), 1) := by decide +kernel
theorem dX6_bigger_17 : decode cX6_bigger 17 = .ok (.invokevirtual 79, 3) := by decide +kernel
theorem dX6_bigger_20 : decode cX6_bigger 20 = .ok (.ireturn, 1) := by decide +kernel
theorem dX6_bigger_21 : decode cX6_bigger 21 = .ok (.aload_n 0, 1) := by decide +kernel
theorem dX6_bigger_22 : decode cX6_bigger 22 = .ok (.getfield 13, 3) := by decide +kernel
theorem dX6_bigger_25 : decode cX6_bigger 25 = .ok (.iload_n 2, 1) := by decide +kernel
theorem dX6_bigger_26 : decode cX6_bigger 26 = .ok (.iaload, 1) := by decide +kernel
theorem dX6_bigger_27 : decode cX6_bigger 27 = .ok (.istore_n 3, 1) := by decide +kernel
theorem dX6_bigger_28 : decode cX6_bigger 28 = .ok (.bipush (-9), 2) := by decide +kernel
theorem dX6_bigger_30 : decode cX6_bigger 30 = .ok (.istore 4, 2) := by decide +kernel
theorem dX6_bigger_32 : decode cX6_bigger 32 = .ok (.bipush 20, 2) := by decide +kernel
theorem dX6_bigger_34 : decode cX6_bigger 34 = .ok (.istore 5, 2) := by decide +kernel
theorem dX6_bigger_36 : decode cX6_bigger 36 = .ok (.iload 5, 2) := by decide +kernel
theorem dX6_bigger_38 : decode cX6_bigger 38 = .ok (.ifCond .lt 35, 3) := by decide +kernel
theorem dX6_bigger_41 : decode cX6_bigger 41 = .ok (.aload_n 0, 1) := by decide +kernel
theorem dX6_bigger_42 : decode cX6_bigger 42 = .ok (.getfield 13, 3) := by decide +kernel
theorem dX6_bigger_45 : decode cX6_bigger 45 = .ok (.iload_n 2, 1) := by decide +kernel
theorem dX6_bigger_46 : decode cX6_bigger 46 = .ok (.iload 5, 2) := by decide +kernel
theorem dX6_bigger_48 : decode cX6_bigger 48 = .ok (.iastore, 1) := by decide +kernel
theorem dX6_bigger_49 : decode cX6_bigger 49 = .ok (.aload_n 0, 1) := by decide +kernel
theorem dX6_bigger_50 : decode cX6_bigger 50 = .ok (.iload_n 1, 1) := by decide +kernel
theorem dX6_bigger_51 : decode cX6_bigger 51 = .ok (.iload_n 2, 1) := by decide +kernel
theorem dX6_bigger_52 : decode cX6_bigger 52 = .ok (.invokevirtual 122, 3) := by decide +kernel
theorem dX6_bigger_55 : decode cX6_bigger 55 = .ok (.ifCond .eq 8, 3) := by decide +kernel
theorem dX6_bigger_58 : decode cX6_bigger 58 = .ok (.iload 5, 2) := by decide +kernel
theorem dX6_bigger_60 : decode cX6_bigger 60 = .ok (.goto 5, 3) := by decide +kernel
theorem dX6_bigger_63 : decode cX6_bigger 63 = .ok (.iload 4, 2) := by decide +kernel
theorem dX6_bigger_65 : decode cX6_bigger 65 = .ok (.istore 4, 2) := by decide +kernel
theorem dX6_bigger_67 : decode cX6_bigger 67 = .ok (.iinc 5 (-1), 3) := by decide +kernel
theorem dX6_bigger_70 : decode cX6_bigger 70 = .ok (.goto (-34), 3) := by decide +kernel
theorem dX6_bigger_73 : decode cX6_bigger 73 = .ok (.aload_n 0, 1) := by decide +kernel
theorem dX6_bigger_74 : decode cX6_bigger 74 = .ok (.getfield 13, 3) := by decide +kernel
theorem dX6_bigger_77 : decode cX6_bigger 77 = .ok (.iload_n 2, 1) := by decide +kernel
theorem dX6_bigger_78 : decode cX6_bigger 78 = .ok (.iload_n 3, 1) := by decide +kernel
theorem dX6_bigger_79 : decode cX6_bigger 79 = .ok (.iastore, 1) := by decide +kernel
theorem dX6_bigger_80 : decode cX6_bigger 80 = .ok (.iload 4, 2) := by decide +kernel
theorem dX6_bigger_82 : decode cX6_bigger 82 = .ok (.ireturn, 1) := by decide +kernel
theorem dX6_bits_0 : decode cX6_bits 0 = .ok (.iconst 0, 1) := by decide +kernel
theorem dX6_bits_1 : decode cX6_bits 1 = .ok (.istore_n 1, 1) := by decide +kernel
theorem dX6_bits_2 : decode cX6_bits 2 = .ok (.iconst 0, 1) := by decide +kernel
theorem dX6_bits_3 : decode cX6_bits 3 = .ok (.istore_n 2, 1) := by decide +kernel
theorem dX6_bits_4 : decode cX6_bits 4 = .ok (.iload_n 2, 1) := by decide +kernel
theorem dX6_bits_5 : decode cX6_bits 5 = .ok (.bipush 31, 2) := by decide +kernel
theorem dX6_bits_7 : decode cX6_bits 7 = .ok (.if_icmp .ge 17, 3) := by decide +kernel
theorem dX6_bits_10 : decode cX6_bits 10 = .ok (.iload_n 1, 1) := by decide +kernel
theorem dX6_bits_11 : decode cX6_bits 11 = .ok (.iload_n 0, 1) := by decide +kernel
theorem dX6_bits_12 : decode cX6_bits 12 = .ok (.iload_n 2, 1) := by decide +kernel
theorem dX6_bits_13 : decode cX6_bits 13 = .ok (.ishr, 1) := by decide +kernel
theorem dX6_bits_14 : decode cX6_bits 14 = .ok (.iconst 1, 1) := by decide +kernel
theorem dX6_bits_15 : decode cX6_bits 15 = .ok (.iand, 1) := by decide +kernel
theorem dX6_bits_16 : decode cX6_bits 16 = .ok (.iadd, 1) := by decide +kernel
theorem dX6_bits_17 : decode cX6_bits 17 = .ok (.istore_n 1, 1) := by decide +kernel
theorem dX6_bits_18 : decode cX6_bits 18 = .ok (.iinc 2 1, 3) := by decide +kernel
theorem dX6_bits_21 : decode cX6_bits 21 = .ok (.goto (-17), 3) := by decide +kernel
theorem dX6_bits_24 : decode cX6_bits 24 = .ok (.iload_n 1, 1) := by decide +kernel
theorem dX6_bits_25 : decode cX6_bits 25 = .ok (.ireturn, 1) := by decide +kernel
theorem dX6_blame_0 : decode cX6_blame 0 = .ok (.iload_n 1, 1) := by decide +kernel
theorem dX6_blame_1 : decode cX6_blame 1 = .ok (.invokestatic 119, 3) := by decide +kernel
theorem dX6_blame_4 : decode cX6_blame 4 = .ok (.ifCond .ne 9, 3) := by decide +kernel
theorem dX6_blame_7 : decode cX6_blame 7 = .ok (.iload_n 1, 1) := by decide +kernel
theorem dX6_blame_8 : decode cX6_blame 8 = .ok (.bipush 10, 2) := by decide +kernel
theorem dX6_blame_10 : decode cX6_blame 10 = .ok (.if_icmp .ne 11, 3) := by decide +kernel
theorem dX6_blame_13 : decode cX6_blame 13 = .ok (.aload_n 0, 1) := by decide +kernel
theorem dX6_blame_14 : decode cX6_blame 14 = .ok (.iload_n 1, 1) := by decide +kernel
theorem dX6_blame_15 : decode cX6_blame 15 = .ok (.invokevirtual 178, 3) := by decide +kernel
theorem dX6_blame_18 : decode cX6_blame 18 = .ok (.goto 8, 3) := by decide +kernel
theorem dX6_blame_21 : decode cX6_blame 21 = .ok (.aload_n 0, 1) := by decide +kernel
theorem dX6_blame_22 : decode cX6_blame 22 = .ok (.iconst (-1), 1) := by decide +kernel
theorem dX6_blame_23 : decode cX6_blame 23 = .ok (.invokevirtual 79, 3) := by decide +kernel
theorem dX6_blame_26 : decode cX6_blame 26 = .ok (.ireturn, 1) := by decide +kernel
theorem dX6_blameBehind_0 : decode cX6_blameBehind 0 = .ok (.aload_n 0, 1) := by decide +kernel
theorem dX6_blameBehind_1 : decode cX6_blameBehind 1 = .ok (.iconst 1, 1) := by decide +kernel
theorem dX6_blameBehind_2 : decode cX6_blameBehind 2 = .ok (.iconst 1, 1) := by decide +kernel
theorem dX6_blameBehind_3 : decode cX6_blameBehind 3 = .ok (.invokevirtual 139, 3) := by decide +kernel
theorem dX6_blameBehind_6 : decode cX6_blameBehind 6 = .ok (.aload_n 0, 1) := by decide +kernel
theorem dX6_blameBehind_7 : decode cX6_blameBehind 7 = .ok (.iload_n 1, 1) := by decide +kernel
theorem dX6_blameBehind_8 : decode cX6_blameBehind 8 = .ok (.invokevirtual 131, 3) := by decide +kernel
theorem dX6_blameBehind_11 : decode cX6_blameBehind 11 = .ok (.aload_n 0, 1) := by decide +kernel
theorem dX6_blameBehind_12 : decode cX6_blameBehind 12 = .ok (.bipush 10, 2) := by decide +kernel
theorem dX6_blameBehind_14 : decode cX6_blameBehind 14 = .ok (.invokevirtual 178, 3) := by decide +kernel
theorem dX6_blameBehind_17 : decode cX6_blameBehind 17 = .ok (.istore_n 2, 1) := by decide +kernel
theorem dX6_blameBehind_18 : decode cX6_blameBehind 18 = .ok (.aload_n 0, 1) := by decide +kernel
theorem dX6_blameBehind_19 : decode cX6_blameBehind 19 = .ok (.iconst 1, 1) := by decide +kernel
theorem dX6_blameBehind_20 : decode cX6_blameBehind 20 = .ok (.iconst 0, 1) := by decide +kernel
theorem dX6_blameBehind_21 : decode cX6_blameBehind 21 = .ok (.invokevirtual 139, 3) := by decide +kernel
theorem dX6_blameBehind_24 : decode cX6_blameBehind 24 = .ok (.iload_n 2, 1) := by decide +kernel
theorem dX6_blameBehind_25 : decode cX6_blameBehind 25 = .ok (.ireturn, 1) := by decide +kernel
theorem dX6_blameIn_0 : decode cX6_blameIn 0 = .ok (.iconst 0, 1) := by decide +kernel
theorem dX6_blameIn_1 : decode cX6_blameIn 1 = .ok (.istore_n 2, 1) := by decide +kernel
theorem dX6_blameIn_2 : decode cX6_blameIn 2 = .ok (.iconst 0, 1) := by decide +kernel
theorem dX6_blameIn_3 : decode cX6_blameIn 3 = .ok (.istore_n 3, 1) := by decide +kernel
theorem dX6_blameIn_4 : decode cX6_blameIn 4 = .ok (.iload_n 3, 1) := by decide +kernel
theorem dX6_blameIn_5 : decode cX6_blameIn 5 = .ok (.aload_n 0, 1) := by decide +kernel
theorem dX6_blameIn_6 : decode cX6_blameIn 6 = .ok (.getfield 65, 3) := by decide +kernel
theorem dX6_blameIn_9 : decode cX6_blameIn 9 = .ok (.if_icmp .ge 37, 3) := by decide +kernel
theorem dX6_blameIn_12 : decode cX6_blameIn 12 = .ok (.iload_n 2, 1) := by decide +kernel
theorem dX6_blameIn_13 : decode cX6_blameIn 13 = .ok (.iload_n 1, 1) := by decide +kernel
theorem dX6_blameIn_14 : decode cX6_blameIn 14 = .ok (.bipush 10, 2) := by decide +kernel
theorem dX6_blameIn_16 : decode cX6_blameIn 16 = .ok (.if_icmp .eq 13, 3) := by decide +kernel
theorem dX6_blameIn_19 : decode cX6_blameIn 19 = .ok (.aload_n 0, 1) := by decide +kernel
theorem dX6_blameIn_20 : decode cX6_blameIn 20 = .ok (.getfield 31, 3) := by decide +kernel
theorem dX6_blameIn_23 : decode cX6_blameIn 23 = .ok (.iload_n 3, 1) := by decide +kernel
theorem dX6_blameIn_24 : decode cX6_blameIn 24 = .ok (.iaload, 1) := by decide +kernel
theorem dX6_blameIn_25 : decode cX6_blameIn 25 = .ok (.iload_n 1, 1) := by decide +kernel
theorem dX6_blameIn_26 : decode cX6_blameIn 26 = .ok (.if_icmp .ne 11, 3) := by decide +kernel
theorem dX6_blameIn_29 : decode cX6_blameIn 29 = .ok (.aload_n 0, 1) := by decide +kernel
theorem dX6_blameIn_30 : decode cX6_blameIn 30 = .ok (.iload_n 3, 1) := by decide +kernel
theorem dX6_blameIn_31 : decode cX6_blameIn 31 = .ok (.invokevirtual 169, 3) := by decide +kernel
theorem dX6_blameIn_34 : decode cX6_blameIn 34 = .ok (.goto 4, 3) := by decide +kernel
theorem dX6_blameIn_37 : decode cX6_blameIn 37 = .ok (.iconst 0, 1) := by decide +kernel
theorem dX6_blameIn_38 : decode cX6_blameIn 38 = .ok (.iadd, 1) := by decide +kernel
theorem dX6_blameIn_39 : decode cX6_blameIn 39 = .ok (.istore_n 2, 1) := by decide +kernel
theorem dX6_blameIn_40 : decode cX6_blameIn 40 = .ok (.iinc 3 1, 3) := by decide +kernel
theorem dX6_blameIn_43 : decode cX6_blameIn 43 = .ok (.goto (-39), 3) := by decide +kernel
theorem dX6_blameIn_46 : decode cX6_blameIn 46 = .ok (.iload_n 2, 1) := by decide +kernel
theorem dX6_blameIn_47 : decode cX6_blameIn 47 = .ok (.ireturn, 1) := by decide +kernel
theorem dX6_blameOf_0 : decode cX6_blameOf 0 = .ok (.aload_n 0, 1) := by decide +kernel
theorem dX6_blameOf_1 : decode cX6_blameOf 1 = .ok (.getfield 19, 3) := by decide +kernel
theorem dX6_blameOf_4 : decode cX6_blameOf 4 = .ok (.iload_n 1, 1) := by decide +kernel
theorem dX6_blameOf_5 : decode cX6_blameOf 5 = .ok (.iaload, 1) := by decide +kernel
theorem dX6_blameOf_6 : decode cX6_blameOf 6 = .ok (.tableswitch 84 1 5 #[34, 40, 46, 63, 76], 34) := by decide +kernel
theorem dX6_blameOf_40 : decode cX6_blameOf 40 = .ok (.aload_n 0, 1) := by decide +kernel
theorem dX6_blameOf_41 : decode cX6_blameOf 41 = .ok (.iload_n 1, 1) := by decide +kernel
theorem dX6_blameOf_42 : decode cX6_blameOf 42 = .ok (.invokevirtual 163, 3) := by decide +kernel
theorem dX6_blameOf_45 : decode cX6_blameOf 45 = .ok (.ireturn, 1) := by decide +kernel
theorem dX6_blameOf_46 : decode cX6_blameOf 46 = .ok (.aload_n 0, 1) := by decide +kernel
theorem dX6_blameOf_47 : decode cX6_blameOf 47 = .ok (.iload_n 1, 1) := by decide +kernel
theorem dX6_blameOf_48 : decode cX6_blameOf 48 = .ok (.invokevirtual 166, 3) := by decide +kernel
theorem dX6_blameOf_51 : decode cX6_blameOf 51 = .ok (.ireturn, 1) := by decide +kernel
theorem dX6_blameOf_52 : decode cX6_blameOf 52 = .ok (.aload_n 0, 1) := by decide +kernel
theorem dX6_blameOf_53 : decode cX6_blameOf 53 = .ok (.getfield 25, 3) := by decide +kernel
theorem dX6_blameOf_56 : decode cX6_blameOf 56 = .ok (.iload_n 1, 1) := by decide +kernel
theorem dX6_blameOf_57 : decode cX6_blameOf 57 = .ok (.iaload, 1) := by decide +kernel
theorem dX6_blameOf_58 : decode cX6_blameOf 58 = .ok (.aload_n 0, 1) := by decide +kernel
theorem dX6_blameOf_59 : decode cX6_blameOf 59 = .ok (.getfield 28, 3) := by decide +kernel
theorem dX6_blameOf_62 : decode cX6_blameOf 62 = .ok (.iload_n 1, 1) := by decide +kernel
theorem dX6_blameOf_63 : decode cX6_blameOf 63 = .ok (.iaload, 1) := by decide +kernel
theorem dX6_blameOf_64 : decode cX6_blameOf 64 = .ok (.bipush 10, 2) := by decide +kernel
theorem dX6_blameOf_66 : decode cX6_blameOf 66 = .ok (.idiv, 1) := by decide +kernel
theorem dX6_blameOf_67 : decode cX6_blameOf 67 = .ok (.iadd, 1) := by decide +kernel
theorem dX6_blameOf_68 : decode cX6_blameOf 68 = .ok (.ireturn, 1) := by decide +kernel
theorem dX6_blameOf_69 : decode cX6_blameOf 69 = .ok (.aload_n 0, 1) := by decide +kernel
theorem dX6_blameOf_70 : decode cX6_blameOf 70 = .ok (.iload_n 1, 1) := by decide +kernel
theorem dX6_blameOf_71 : decode cX6_blameOf 71 = .ok (.invokevirtual 163, 3) := by decide +kernel
theorem dX6_blameOf_74 : decode cX6_blameOf 74 = .ok (.aload_n 0, 1) := by decide +kernel
theorem dX6_blameOf_75 : decode cX6_blameOf 75 = .ok (.getfield 25, 3) := by decide +kernel
theorem dX6_blameOf_78 : decode cX6_blameOf 78 = .ok (.iload_n 1, 1) := by decide +kernel
theorem dX6_blameOf_79 : decode cX6_blameOf 79 = .ok (.iaload, 1) := by decide +kernel
theorem dX6_blameOf_80 : decode cX6_blameOf 80 = .ok (.iadd, 1) := by decide +kernel
theorem dX6_blameOf_81 : decode cX6_blameOf 81 = .ok (.ireturn, 1) := by decide +kernel
theorem dX6_blameOf_82 : decode cX6_blameOf 82 = .ok (.aload_n 0, 1) := by decide +kernel
theorem dX6_blameOf_83 : decode cX6_blameOf 83 = .ok (.iload_n 1, 1) := by decide +kernel
theorem dX6_blameOf_84 : decode cX6_blameOf 84 = .ok (.invokevirtual 166, 3) := by decide +kernel
theorem dX6_blameOf_87 : decode cX6_blameOf 87 = .ok (.iconst 2, 1) := by decide +kernel
theorem dX6_blameOf_88 : decode cX6_blameOf 88 = .ok (.idiv, 1) := by decide +kernel
theorem dX6_blameOf_89 : decode cX6_blameOf 89 = .ok (.ireturn, 1) := by decide +kernel
theorem dX6_blameOf_90 : decode cX6_blameOf 90 = .ok (.aload_n 0, 1) := by decide +kernel
theorem dX6_blameOf_91 : decode cX6_blameOf 91 = .ok (.getfield 25, 3) := by decide +kernel
theorem dX6_blameOf_94 : decode cX6_blameOf 94 = .ok (.iload_n 1, 1) := by decide +kernel
theorem dX6_blameOf_95 : decode cX6_blameOf 95 = .ok (.iaload, 1) := by decide +kernel
theorem dX6_blameOf_96 : decode cX6_blameOf 96 = .ok (.ireturn, 1) := by decide +kernel
theorem dX6_blameWith_0 : decode cX6_blameWith 0 = .ok (.aload_n 0, 1) := by decide +kernel
theorem dX6_blameWith_1 : decode cX6_blameWith 1 = .ok (.getfield 25, 3) := by decide +kernel
theorem dX6_blameWith_4 : decode cX6_blameWith 4 = .ok (.iload_n 1, 1) := by decide +kernel
theorem dX6_blameWith_5 : decode cX6_blameWith 5 = .ok (.iaload, 1) := by decide +kernel
theorem dX6_blameWith_6 : decode cX6_blameWith 6 = .ok (.istore_n 3, 1) := by decide +kernel
theorem dX6_blameWith_7 : decode cX6_blameWith 7 = .ok (.aload_n 0, 1) := by decide +kernel
theorem dX6_blameWith_8 : decode cX6_blameWith 8 = .ok (.getfield 25, 3) := by decide +kernel
theorem dX6_blameWith_11 : decode cX6_blameWith 11 = .ok (.iload_n 1, 1) := by decide +kernel
theorem dX6_blameWith_12 : decode cX6_blameWith 12 = .ok (.iload_n 2, 1) := by decide +kernel
theorem dX6_blameWith_13 : decode cX6_blameWith 13 = .ok (.iastore, 1) := by decide +kernel
theorem dX6_blameWith_14 : decode cX6_blameWith 14 = .ok (.aload_n 0, 1) := by decide +kernel
theorem dX6_blameWith_15 : decode cX6_blameWith 15 = .ok (.bipush 10, 2) := by decide +kernel
theorem dX6_blameWith_17 : decode cX6_blameWith 17 = .ok (.invokevirtual 178, 3) := by decide +kernel
theorem dX6_blameWith_20 : decode cX6_blameWith 20 = .ok (.istore 4, 2) := by decide +kernel
theorem dX6_blameWith_22 : decode cX6_blameWith 22 = .ok (.aload_n 0, 1) := by decide +kernel
theorem dX6_blameWith_23 : decode cX6_blameWith 23 = .ok (.getfield 25, 3) := by decide +kernel
theorem dX6_blameWith_26 : decode cX6_blameWith 26 = .ok (.iload_n 1, 1) := by decide +kernel
theorem dX6_blameWith_27 : decode cX6_blameWith 27 = .ok (.iload_n 3, 1) := by decide +kernel
theorem dX6_blameWith_28 : decode cX6_blameWith 28 = .ok (.iastore, 1) := by decide +kernel
theorem dX6_blameWith_29 : decode cX6_blameWith 29 = .ok (.iload 4, 2) := by decide +kernel
theorem dX6_blameWith_31 : decode cX6_blameWith 31 = .ok (.ireturn, 1) := by decide +kernel
theorem dX6_blameWithout_0 : decode cX6_blameWithout 0 = .ok (.aload_n 0, 1) := by decide +kernel
theorem dX6_blameWithout_1 : decode cX6_blameWithout 1 = .ok (.iconst 1, 1) := by decide +kernel
theorem dX6_blameWithout_2 : decode cX6_blameWithout 2 = .ok (.iconst 1, 1) := by decide +kernel
theorem dX6_blameWithout_3 : decode cX6_blameWithout 3 = .ok (.invokevirtual 139, 3) := by decide +kernel
theorem dX6_blameWithout_6 : decode cX6_blameWithout 6 = .ok (.iload_n 2, 1) := by decide +kernel
theorem dX6_blameWithout_7 : decode cX6_blameWithout 7 = .ok (.ifCond .lt 8, 3) := by decide +kernel
theorem dX6_blameWithout_10 : decode cX6_blameWithout 10 = .ok (.aload_n 0, 1) := by decide +kernel
theorem dX6_blameWithout_11 : decode cX6_blameWithout 11 = .ok (.iload_n 2, 1) := by decide +kernel
theorem dX6_blameWithout_12 : decode cX6_blameWithout 12 = .ok (.invokevirtual 231, 3) := by decide +kernel
theorem dX6_blameWithout_15 : decode cX6_blameWithout 15 = .ok (.aload_n 0, 1) := by decide +kernel
theorem dX6_blameWithout_16 : decode cX6_blameWithout 16 = .ok (.iload_n 1, 1) := by decide +kernel
theorem dX6_blameWithout_17 : decode cX6_blameWithout 17 = .ok (.invokevirtual 231, 3) := by decide +kernel
theorem dX6_blameWithout_20 : decode cX6_blameWithout 20 = .ok (.aload_n 0, 1) := by decide +kernel
theorem dX6_blameWithout_21 : decode cX6_blameWithout 21 = .ok (.bipush 10, 2) := by decide +kernel
theorem dX6_blameWithout_23 : decode cX6_blameWithout 23 = .ok (.invokevirtual 178, 3) := by decide +kernel
theorem dX6_blameWithout_26 : decode cX6_blameWithout 26 = .ok (.istore_n 3, 1) := by decide +kernel
theorem dX6_blameWithout_27 : decode cX6_blameWithout 27 = .ok (.aload_n 0, 1) := by decide +kernel
theorem dX6_blameWithout_28 : decode cX6_blameWithout 28 = .ok (.iconst 1, 1) := by decide +kernel
theorem dX6_blameWithout_29 : decode cX6_blameWithout 29 = .ok (.iconst 0, 1) := by decide +kernel
theorem dX6_blameWithout_30 : decode cX6_blameWithout 30 = .ok (.invokevirtual 139, 3) := by decide +kernel
theorem dX6_blameWithout_33 : decode cX6_blameWithout 33 = .ok (.iload_n 3, 1) := by decide +kernel
theorem dX6_blameWithout_34 : decode cX6_blameWithout 34 = .ok (.ireturn, 1) := by decide +kernel
theorem dX6_bound_0 : decode cX6_bound 0 = .ok (.iload_n 0, 1) := by decide +kernel
theorem dX6_bound_1 : decode cX6_bound 1 = .ok (.iload_n 1, 1) := by decide +kernel
theorem dX6_bound_2 : decode cX6_bound 2 = .ok (.if_icmp .ge 8, 3) := by decide +kernel
theorem dX6_bound_5 : decode cX6_bound 5 = .ok (.bipush (-4), 2) := by decide +kernel
theorem dX6_bound_7 : decode cX6_bound 7 = .ok (.goto 14, 3) := by decide +kernel
theorem dX6_bound_10 : decode cX6_bound 10 = .ok (.iload_n 0, 1) := by decide +kernel
theorem dX6_bound_11 : decode cX6_bound 11 = .ok (.iload_n 2, 1) := by decide +kernel
theorem dX6_bound_12 : decode cX6_bound 12 = .ok (.if_icmp .le 8, 3) := by decide +kernel
theorem dX6_bound_15 : decode cX6_bound 15 = .ok (.bipush (-6), 2) := by decide +kernel
theorem dX6_bound_17 : decode cX6_bound 17 = .ok (.goto 4, 3) := by decide +kernel
theorem dX6_bound_20 : decode cX6_bound 20 = .ok (.iconst 0, 1) := by decide +kernel
theorem dX6_bound_21 : decode cX6_bound 21 = .ok (.ireturn, 1) := by decide +kernel
theorem dX6_bulkIn_0 : decode cX6_bulkIn 0 = .ok (.iconst 0, 1) := by decide +kernel
theorem dX6_bulkIn_1 : decode cX6_bulkIn 1 = .ok (.istore_n 2, 1) := by decide +kernel
theorem dX6_bulkIn_2 : decode cX6_bulkIn 2 = .ok (.iconst 0, 1) := by decide +kernel
theorem dX6_bulkIn_3 : decode cX6_bulkIn 3 = .ok (.istore_n 3, 1) := by decide +kernel
theorem dX6_bulkIn_4 : decode cX6_bulkIn 4 = .ok (.iload_n 3, 1) := by decide +kernel
theorem dX6_bulkIn_5 : decode cX6_bulkIn 5 = .ok (.aload_n 0, 1) := by decide +kernel
theorem dX6_bulkIn_6 : decode cX6_bulkIn 6 = .ok (.getfield 65, 3) := by decide +kernel
theorem dX6_bulkIn_9 : decode cX6_bulkIn 9 = .ok (.if_icmp .ge 32, 3) := by decide +kernel
theorem dX6_bulkIn_12 : decode cX6_bulkIn 12 = .ok (.iload_n 2, 1) := by decide +kernel
theorem dX6_bulkIn_13 : decode cX6_bulkIn 13 = .ok (.aload_n 0, 1) := by decide +kernel
theorem dX6_bulkIn_14 : decode cX6_bulkIn 14 = .ok (.getfield 31, 3) := by decide +kernel
theorem dX6_bulkIn_17 : decode cX6_bulkIn 17 = .ok (.iload_n 3, 1) := by decide +kernel
theorem dX6_bulkIn_18 : decode cX6_bulkIn 18 = .ok (.iaload, 1) := by decide +kernel
theorem dX6_bulkIn_19 : decode cX6_bulkIn 19 = .ok (.iload_n 1, 1) := by decide +kernel
theorem dX6_bulkIn_20 : decode cX6_bulkIn 20 = .ok (.if_icmp .ne 12, 3) := by decide +kernel
theorem dX6_bulkIn_23 : decode cX6_bulkIn 23 = .ok (.aload_n 0, 1) := by decide +kernel
theorem dX6_bulkIn_24 : decode cX6_bulkIn 24 = .ok (.getfield 22, 3) := by decide +kernel
theorem dX6_bulkIn_27 : decode cX6_bulkIn 27 = .ok (.iload_n 3, 1) := by decide +kernel
theorem dX6_bulkIn_28 : decode cX6_bulkIn 28 = .ok (.iaload, 1) := by decide +kernel
theorem dX6_bulkIn_29 : decode cX6_bulkIn 29 = .ok (.goto 4, 3) := by decide +kernel
theorem dX6_bulkIn_32 : decode cX6_bulkIn 32 = .ok (.iconst 0, 1) := by decide +kernel
theorem dX6_bulkIn_33 : decode cX6_bulkIn 33 = .ok (.iadd, 1) := by decide +kernel
theorem dX6_bulkIn_34 : decode cX6_bulkIn 34 = .ok (.istore_n 2, 1) := by decide +kernel
theorem dX6_bulkIn_35 : decode cX6_bulkIn 35 = .ok (.iinc 3 1, 3) := by decide +kernel
theorem dX6_bulkIn_38 : decode cX6_bulkIn 38 = .ok (.goto (-34), 3) := by decide +kernel
theorem dX6_bulkIn_41 : decode cX6_bulkIn 41 = .ok (.iload_n 2, 1) := by decide +kernel
theorem dX6_bulkIn_42 : decode cX6_bulkIn 42 = .ok (.ireturn, 1) := by decide +kernel
theorem dX6_burn_0 : decode cX6_burn 0 = .ok (.bipush (-9), 2) := by decide +kernel
theorem dX6_burn_2 : decode cX6_burn 2 = .ok (.istore_n 1, 1) := by decide +kernel
theorem dX6_burn_3 : decode cX6_burn 3 = .ok (.iconst 0, 1) := by decide +kernel
theorem dX6_burn_4 : decode cX6_burn 4 = .ok (.istore_n 2, 1) := by decide +kernel
theorem dX6_burn_5 : decode cX6_burn 5 = .ok (.iconst 0, 1) := by decide +kernel
theorem dX6_burn_6 : decode cX6_burn 6 = .ok (.istore_n 3, 1) := by decide +kernel
theorem dX6_burn_7 : decode cX6_burn 7 = .ok (.iload_n 3, 1) := by decide +kernel
theorem dX6_burn_8 : decode cX6_burn 8 = .ok (.aload_n 0, 1) := by decide +kernel
theorem dX6_burn_9 : decode cX6_burn 9 = .ok (.getfield 65, 3) := by decide +kernel
theorem dX6_burn_12 : decode cX6_burn 12 = .ok (.if_icmp .ge 62, 3) := by decide +kernel
theorem dX6_burn_15 : decode cX6_burn 15 = .ok (.iload_n 3, 1) := by decide +kernel
theorem dX6_burn_16 : decode cX6_burn 16 = .ok (.iconst 1, 1) := by decide +kernel
theorem dX6_burn_17 : decode cX6_burn 17 = .ok (.iadd, 1) := by decide +kernel
theorem dX6_burn_18 : decode cX6_burn 18 = .ok (.istore 4, 2) := by decide +kernel
theorem dX6_burn_20 : decode cX6_burn 20 = .ok (.iload 4, 2) := by decide +kernel
theorem dX6_burn_22 : decode cX6_burn 22 = .ok (.aload_n 0, 1) := by decide +kernel
theorem dX6_burn_23 : decode cX6_burn 23 = .ok (.getfield 65, 3) := by decide +kernel
theorem dX6_burn_26 : decode cX6_burn 26 = .ok (.if_icmp .ge 42, 3) := by decide +kernel
theorem dX6_burn_29 : decode cX6_burn 29 = .ok (.aload_n 0, 1) := by decide +kernel
theorem dX6_burn_30 : decode cX6_burn 30 = .ok (.iload_n 3, 1) := by decide +kernel
theorem dX6_burn_31 : decode cX6_burn 31 = .ok (.iload 4, 2) := by decide +kernel
theorem dX6_burn_33 : decode cX6_burn 33 = .ok (.invokevirtual 234, 3) := by decide +kernel
theorem dX6_burn_36 : decode cX6_burn 36 = .ok (.istore 5, 2) := by decide +kernel
theorem dX6_burn_38 : decode cX6_burn 38 = .ok (.iload_n 1, 1) := by decide +kernel
theorem dX6_burn_39 : decode cX6_burn 39 = .ok (.ifCond .lt 12, 3) := by decide +kernel
theorem dX6_burn_42 : decode cX6_burn 42 = .ok (.iload 5, 2) := by decide +kernel
theorem dX6_burn_44 : decode cX6_burn 44 = .ok (.iload_n 2, 1) := by decide +kernel
theorem dX6_burn_45 : decode cX6_burn 45 = .ok (.if_icmp .lt 6, 3) := by decide +kernel
theorem dX6_burn_48 : decode cX6_burn 48 = .ok (.goto 14, 3) := by decide +kernel
theorem dX6_burn_51 : decode cX6_burn 51 = .ok (.bipush 10, 2) := by decide +kernel
theorem dX6_burn_53 : decode cX6_burn 53 = .ok (.iload_n 3, 1) := by decide +kernel
theorem dX6_burn_54 : decode cX6_burn 54 = .ok (.imul, 1) := by decide +kernel
theorem dX6_burn_55 : decode cX6_burn 55 = .ok (.iload 4, 2) := by decide +kernel
theorem dX6_burn_57 : decode cX6_burn 57 = .ok (.iadd, 1) := by decide +kernel
theorem dX6_burn_58 : decode cX6_burn 58 = .ok (.istore_n 1, 1) := by decide +kernel
theorem dX6_burn_59 : decode cX6_burn 59 = .ok (.iload 5, 2) := by decide +kernel
theorem dX6_burn_61 : decode cX6_burn 61 = .ok (.istore_n 2, 1) := by decide +kernel
theorem dX6_burn_62 : decode cX6_burn 62 = .ok (.iinc 4 1, 3) := by decide +kernel
theorem dX6_burn_65 : decode cX6_burn 65 = .ok (.goto (-45), 3) := by decide +kernel
theorem dX6_burn_68 : decode cX6_burn 68 = .ok (.iinc 3 1, 3) := by decide +kernel
theorem dX6_burn_71 : decode cX6_burn 71 = .ok (.goto (-64), 3) := by decide +kernel
theorem dX6_burn_74 : decode cX6_burn 74 = .ok (.iload_n 1, 1) := by decide +kernel
theorem dX6_burn_75 : decode cX6_burn 75 = .ok (.ireturn, 1) := by decide +kernel
theorem dX6_canCarry_0 : decode cX6_canCarry 0 = .ok (.aload_n 0, 1) := by decide +kernel
theorem dX6_canCarry_1 : decode cX6_canCarry 1 = .ok (.getfield 31, 3) := by decide +kernel
theorem dX6_canCarry_4 : decode cX6_canCarry 4 = .ok (.iload_n 1, 1) := by decide +kernel
theorem dX6_canCarry_5 : decode cX6_canCarry 5 = .ok (.iaload, 1) := by decide +kernel
theorem dX6_canCarry_6 : decode cX6_canCarry 6 = .ok (.istore_n 3, 1) := by decide +kernel
theorem dX6_canCarry_7 : decode cX6_canCarry 7 = .ok (.iload_n 2, 1) := by decide +kernel
theorem dX6_canCarry_8 : decode cX6_canCarry 8 = .ok (.iload_n 3, 1) := by decide +kernel
theorem dX6_canCarry_9 : decode cX6_canCarry 9 = .ok (.if_icmp .ne 5, 3) := by decide +kernel
theorem dX6_canCarry_12 : decode cX6_canCarry 12 = .ok (.iconst 0, 1) := by decide +kernel
theorem dX6_canCarry_13 : decode cX6_canCarry 13 = .ok (.ireturn, 1) := by decide +kernel
theorem dX6_canCarry_14 : decode cX6_canCarry 14 = .ok (.iload_n 2, 1) := by decide +kernel
theorem dX6_canCarry_15 : decode cX6_canCarry 15 = .ok (.bipush 9, 2) := by decide +kernel
theorem dX6_canCarry_17 : decode cX6_canCarry 17 = .ok (.if_icmp .ne 5, 3) := by decide +kernel
theorem dX6_canCarry_20 : decode cX6_canCarry 20 = .ok (.iconst 1, 1) := by decide +kernel
theorem dX6_canCarry_21 : decode cX6_canCarry 21 = .ok (.ireturn, 1) := by decide +kernel
theorem dX6_canCarry_22 : decode cX6_canCarry 22 = .ok (.aload_n 0, 1) := by decide +kernel
theorem dX6_canCarry_23 : decode cX6_canCarry 23 = .ok (.iload_n 2, 1) := by decide +kernel
theorem dX6_canCarry_24 : decode cX6_canCarry 24 = .ok (.invokevirtual 125, 3) := by decide +kernel
theorem dX6_canCarry_27 : decode cX6_canCarry 27 = .ok (.aload_n 0, 1) := by decide +kernel
theorem dX6_canCarry_28 : decode cX6_canCarry 28 = .ok (.getfield 22, 3) := by decide +kernel
theorem dX6_canCarry_31 : decode cX6_canCarry 31 = .ok (.iload_n 1, 1) := by decide +kernel
theorem dX6_canCarry_32 : decode cX6_canCarry 32 = .ok (.iaload, 1) := by decide +kernel
theorem dX6_canCarry_33 : decode cX6_canCarry 33 = .ok (.iadd, 1) := by decide +kernel
theorem dX6_canCarry_34 : decode cX6_canCarry 34 = .ok (.aload_n 0, 1) := by decide +kernel
theorem dX6_canCarry_35 : decode cX6_canCarry 35 = .ok (.getfield 13, 3) := by decide +kernel
theorem dX6_canCarry_38 : decode cX6_canCarry 38 = .ok (.iload_n 2, 1) := by decide +kernel
theorem dX6_canCarry_39 : decode cX6_canCarry 39 = .ok (.iaload, 1) := by decide +kernel
theorem dX6_canCarry_40 : decode cX6_canCarry 40 = .ok (.if_icmp .le 5, 3) := by decide +kernel
theorem dX6_canCarry_43 : decode cX6_canCarry 43 = .ok (.iconst 0, 1) := by decide +kernel
theorem dX6_canCarry_44 : decode cX6_canCarry 44 = .ok (.ireturn, 1) := by decide +kernel
theorem dX6_canCarry_45 : decode cX6_canCarry 45 = .ok (.iconst 1, 1) := by decide +kernel
theorem dX6_canCarry_46 : decode cX6_canCarry 46 = .ok (.istore 4, 2) := by decide +kernel
theorem dX6_canCarry_48 : decode cX6_canCarry 48 = .ok (.iload 4, 2) := by decide +kernel
theorem dX6_canCarry_50 : decode cX6_canCarry 50 = .ok (.iconst 3, 1) := by decide +kernel
theorem dX6_canCarry_51 : decode cX6_canCarry 51 = .ok (.if_icmp .ge 73, 3) := by decide +kernel
theorem dX6_canCarry_54 : decode cX6_canCarry 54 = .ok (.iload_n 3, 1) := by decide +kernel
theorem dX6_canCarry_55 : decode cX6_canCarry 55 = .ok (.bipush 9, 2) := by decide +kernel
theorem dX6_canCarry_57 : decode cX6_canCarry 57 = .ok (.if_icmp .eq 36, 3) := by decide +kernel
theorem dX6_canCarry_60 : decode cX6_canCarry 60 = .ok (.iload_n 3, 1) := by decide +kernel
theorem dX6_canCarry_61 : decode cX6_canCarry 61 = .ok (.iconst 2, 1) := by decide +kernel
theorem dX6_canCarry_62 : decode cX6_canCarry 62 = .ok (.idiv, 1) := by decide +kernel
theorem dX6_canCarry_63 : decode cX6_canCarry 63 = .ok (.iload 4, 2) := by decide +kernel
theorem dX6_canCarry_65 : decode cX6_canCarry 65 = .ok (.if_icmp .ge 7, 3) := by decide +kernel
theorem dX6_canCarry_68 : decode cX6_canCarry 68 = .ok (.iconst 1, 1) := by decide +kernel
theorem dX6_canCarry_69 : decode cX6_canCarry 69 = .ok (.goto 4, 3) := by decide +kernel
theorem dX6_canCarry_72 : decode cX6_canCarry 72 = .ok (.iconst 0, 1) := by decide +kernel
theorem dX6_canCarry_73 : decode cX6_canCarry 73 = .ok (.iload_n 2, 1) := by decide +kernel
theorem dX6_canCarry_74 : decode cX6_canCarry 74 = .ok (.iconst 2, 1) := by decide +kernel
theorem dX6_canCarry_75 : decode cX6_canCarry 75 = .ok (.idiv, 1) := by decide +kernel
theorem dX6_canCarry_76 : decode cX6_canCarry 76 = .ok (.iload 4, 2) := by decide +kernel
theorem dX6_canCarry_78 : decode cX6_canCarry 78 = .ok (.if_icmp .ge 7, 3) := by decide +kernel
theorem dX6_canCarry_81 : decode cX6_canCarry 81 = .ok (.iconst 1, 1) := by decide +kernel
theorem dX6_canCarry_82 : decode cX6_canCarry 82 = .ok (.goto 4, 3) := by decide +kernel
theorem dX6_canCarry_85 : decode cX6_canCarry 85 = .ok (.iconst 0, 1) := by decide +kernel
theorem dX6_canCarry_86 : decode cX6_canCarry 86 = .ok (.if_icmp .eq 7, 3) := by decide +kernel
theorem dX6_canCarry_89 : decode cX6_canCarry 89 = .ok (.iconst 1, 1) := by decide +kernel
theorem dX6_canCarry_90 : decode cX6_canCarry 90 = .ok (.goto 4, 3) := by decide +kernel
theorem dX6_canCarry_93 : decode cX6_canCarry 93 = .ok (.iconst 0, 1) := by decide +kernel
theorem dX6_canCarry_94 : decode cX6_canCarry 94 = .ok (.istore 5, 2) := by decide +kernel
theorem dX6_canCarry_96 : decode cX6_canCarry 96 = .ok (.iload 5, 2) := by decide +kernel
theorem dX6_canCarry_98 : decode cX6_canCarry 98 = .ok (.ifCond .eq 20, 3) := by decide +kernel
theorem dX6_canCarry_101 : decode cX6_canCarry 101 = .ok (.aload_n 0, 1) := by decide +kernel
theorem dX6_canCarry_102 : decode cX6_canCarry 102 = .ok (.iload_n 1, 1) := by decide +kernel
theorem dX6_canCarry_103 : decode cX6_canCarry 103 = .ok (.invokevirtual 172, 3) := by decide +kernel
theorem dX6_canCarry_106 : decode cX6_canCarry 106 = .ok (.aload_n 0, 1) := by decide +kernel
theorem dX6_canCarry_107 : decode cX6_canCarry 107 = .ok (.getfield 16, 3) := by decide +kernel
theorem dX6_canCarry_110 : decode cX6_canCarry 110 = .ok (.iload 4, 2) := by decide +kernel
theorem dX6_canCarry_112 : decode cX6_canCarry 112 = .ok (.iaload, 1) := by decide +kernel
theorem dX6_canCarry_113 : decode cX6_canCarry 113 = .ok (.if_icmp .le 5, 3) := by decide +kernel
theorem dX6_canCarry_116 : decode cX6_canCarry 116 = .ok (.iconst 0, 1) := by decide +kernel
theorem dX6_canCarry_117 : decode cX6_canCarry 117 = .ok (.ireturn, 1) := by decide +kernel
theorem dX6_canCarry_118 : decode cX6_canCarry 118 = .ok (.iinc 4 1, 3) := by decide +kernel
theorem dX6_canCarry_121 : decode cX6_canCarry 121 = .ok (.goto (-73), 3) := by decide +kernel
theorem dX6_canCarry_124 : decode cX6_canCarry 124 = .ok (.iconst 1, 1) := by decide +kernel
theorem dX6_canCarry_125 : decode cX6_canCarry 125 = .ok (.ireturn, 1) := by decide +kernel
theorem dX6_carry_0 : decode cX6_carry 0 = .ok (.aload_n 0, 1) := by decide +kernel
theorem dX6_carry_1 : decode cX6_carry 1 = .ok (.iload_n 1, 1) := by decide +kernel
theorem dX6_carry_2 : decode cX6_carry 2 = .ok (.invokevirtual 116, 3) := by decide +kernel
theorem dX6_carry_5 : decode cX6_carry 5 = .ok (.ifCond .eq 10, 3) := by decide +kernel
theorem dX6_carry_8 : decode cX6_carry 8 = .ok (.iload_n 2, 1) := by decide +kernel
theorem dX6_carry_9 : decode cX6_carry 9 = .ok (.invokestatic 119, 3) := by decide +kernel
theorem dX6_carry_12 : decode cX6_carry 12 = .ok (.ifCond .ne 7, 3) := by decide +kernel
theorem dX6_carry_15 : decode cX6_carry 15 = .ok (.iconst (-1), 1) := by decide +kernel
theorem dX6_carry_16 : decode cX6_carry 16 = .ok (.goto 18, 3) := by decide +kernel
theorem dX6_carry_19 : decode cX6_carry 19 = .ok (.aload_n 0, 1) := by decide +kernel
theorem dX6_carry_20 : decode cX6_carry 20 = .ok (.iload_n 1, 1) := by decide +kernel
theorem dX6_carry_21 : decode cX6_carry 21 = .ok (.iload_n 2, 1) := by decide +kernel
theorem dX6_carry_22 : decode cX6_carry 22 = .ok (.invokevirtual 122, 3) := by decide +kernel
theorem dX6_carry_25 : decode cX6_carry 25 = .ok (.ifCond .ne 8, 3) := by decide +kernel
theorem dX6_carry_28 : decode cX6_carry 28 = .ok (.bipush (-3), 2) := by decide +kernel
theorem dX6_carry_30 : decode cX6_carry 30 = .ok (.goto 4, 3) := by decide +kernel
theorem dX6_carry_33 : decode cX6_carry 33 = .ok (.iconst 0, 1) := by decide +kernel
theorem dX6_carry_34 : decode cX6_carry 34 = .ok (.istore_n 3, 1) := by decide +kernel
theorem dX6_carry_35 : decode cX6_carry 35 = .ok (.iload_n 3, 1) := by decide +kernel
theorem dX6_carry_36 : decode cX6_carry 36 = .ok (.ifCond .eq 9, 3) := by decide +kernel
theorem dX6_carry_39 : decode cX6_carry 39 = .ok (.aload_n 0, 1) := by decide +kernel
theorem dX6_carry_40 : decode cX6_carry 40 = .ok (.iload_n 3, 1) := by decide +kernel
theorem dX6_carry_41 : decode cX6_carry 41 = .ok (.invokevirtual 79, 3) := by decide +kernel
theorem dX6_carry_44 : decode cX6_carry 44 = .ok (.ireturn, 1) := by decide +kernel
theorem dX6_carry_45 : decode cX6_carry 45 = .ok (.aload_n 0, 1) := by decide +kernel
theorem dX6_carry_46 : decode cX6_carry 46 = .ok (.getfield 31, 3) := by decide +kernel
theorem dX6_carry_49 : decode cX6_carry 49 = .ok (.iload_n 1, 1) := by decide +kernel
theorem dX6_carry_50 : decode cX6_carry 50 = .ok (.iaload, 1) := by decide +kernel
theorem dX6_carry_51 : decode cX6_carry 51 = .ok (.istore 4, 2) := by decide +kernel
theorem dX6_carry_53 : decode cX6_carry 53 = .ok (.aload_n 0, 1) := by decide +kernel
theorem dX6_carry_54 : decode cX6_carry 54 = .ok (.getfield 31, 3) := by decide +kernel
theorem dX6_carry_57 : decode cX6_carry 57 = .ok (.iload_n 1, 1) := by decide +kernel
theorem dX6_carry_58 : decode cX6_carry 58 = .ok (.iload_n 2, 1) := by decide +kernel
theorem dX6_carry_59 : decode cX6_carry 59 = .ok (.iastore, 1) := by decide +kernel
theorem dX6_carry_60 : decode cX6_carry 60 = .ok (.iload 4, 2) := by decide +kernel
theorem dX6_carry_62 : decode cX6_carry 62 = .ok (.ireturn, 1) := by decide +kernel
theorem dX6_choice_0 : decode cX6_choice 0 = .ok (.iload_n 1, 1) := by decide +kernel
theorem dX6_choice_1 : decode cX6_choice 1 = .ok (.iconst (-1), 1) := by decide +kernel
theorem dX6_choice_2 : decode cX6_choice 2 = .ok (.if_icmp .ge 8, 3) := by decide +kernel
theorem dX6_choice_5 : decode cX6_choice 5 = .ok (.bipush (-4), 2) := by decide +kernel
theorem dX6_choice_7 : decode cX6_choice 7 = .ok (.goto 16, 3) := by decide +kernel
theorem dX6_choice_10 : decode cX6_choice 10 = .ok (.iload_n 1, 1) := by decide +kernel
theorem dX6_choice_11 : decode cX6_choice 11 = .ok (.aload_n 0, 1) := by decide +kernel
theorem dX6_choice_12 : decode cX6_choice 12 = .ok (.getfield 61, 3) := by decide +kernel
theorem dX6_choice_15 : decode cX6_choice 15 = .ok (.if_icmp .lt 7, 3) := by decide +kernel
theorem dX6_choice_18 : decode cX6_choice 18 = .ok (.iconst (-1), 1) := by decide +kernel
theorem dX6_choice_19 : decode cX6_choice 19 = .ok (.goto 4, 3) := by decide +kernel
theorem dX6_choice_22 : decode cX6_choice 22 = .ok (.iconst 0, 1) := by decide +kernel
theorem dX6_choice_23 : decode cX6_choice 23 = .ok (.istore_n 2, 1) := by decide +kernel
theorem dX6_choice_24 : decode cX6_choice 24 = .ok (.iload_n 2, 1) := by decide +kernel
theorem dX6_choice_25 : decode cX6_choice 25 = .ok (.ifCond .eq 9, 3) := by decide +kernel
theorem dX6_choice_28 : decode cX6_choice 28 = .ok (.aload_n 0, 1) := by decide +kernel
theorem dX6_choice_29 : decode cX6_choice 29 = .ok (.iload_n 2, 1) := by decide +kernel
theorem dX6_choice_30 : decode cX6_choice 30 = .ok (.invokevirtual 79, 3) := by decide +kernel
theorem dX6_choice_33 : decode cX6_choice 33 = .ok (.ireturn, 1) := by decide +kernel
theorem dX6_choice_34 : decode cX6_choice 34 = .ok (.iconst 0, 1) := by decide +kernel
theorem dX6_choice_35 : decode cX6_choice 35 = .ok (.istore_n 3, 1) := by decide +kernel
theorem dX6_choice_36 : decode cX6_choice 36 = .ok (.iload_n 3, 1) := by decide +kernel
theorem dX6_choice_37 : decode cX6_choice 37 = .ok (.iconst 4, 1) := by decide +kernel
theorem dX6_choice_38 : decode cX6_choice 38 = .ok (.if_icmp .ge 16, 3) := by decide +kernel
theorem dX6_choice_41 : decode cX6_choice 41 = .ok (.aload_n 0, 1) := by decide +kernel
theorem dX6_choice_42 : decode cX6_choice 42 = .ok (.getfield 55, 3) := by decide +kernel
theorem dX6_choice_45 : decode cX6_choice 45 = .ok (.iload_n 3, 1) := by decide +kernel
theorem dX6_choice_46 : decode cX6_choice 46 = .ok (.iconst 0, 1) := by decide +kernel
theorem dX6_choice_47 : decode cX6_choice 47 = .ok (.iastore, 1) := by decide +kernel
theorem dX6_choice_48 : decode cX6_choice 48 = .ok (.iinc 3 1, 3) := by decide +kernel
theorem dX6_choice_51 : decode cX6_choice 51 = .ok (.goto (-15), 3) := by decide +kernel
theorem dX6_choice_54 : decode cX6_choice 54 = .ok (.iconst 0, 1) := by decide +kernel
theorem dX6_choice_55 : decode cX6_choice 55 = .ok (.istore_n 3, 1) := by decide +kernel
theorem dX6_choice_56 : decode cX6_choice 56 = .ok (.bipush (-9), 2) := by decide +kernel
theorem dX6_choice_58 : decode cX6_choice 58 = .ok (.istore 4, 2) := by decide +kernel
theorem dX6_choice_60 : decode cX6_choice 60 = .ok (.iconst 0, 1) := by decide +kernel
theorem dX6_choice_61 : decode cX6_choice 61 = .ok (.istore 5, 2) := by decide +kernel
theorem dX6_choice_63 : decode cX6_choice 63 = .ok (.iload 5, 2) := by decide +kernel
theorem dX6_choice_65 : decode cX6_choice 65 = .ok (.aload_n 0, 1) := by decide +kernel
theorem dX6_choice_66 : decode cX6_choice 66 = .ok (.getfield 65, 3) := by decide +kernel
theorem dX6_choice_69 : decode cX6_choice 69 = .ok (.if_icmp .ge 48, 3) := by decide +kernel
theorem dX6_choice_72 : decode cX6_choice 72 = .ok (.aload_n 0, 1) := by decide +kernel
theorem dX6_choice_73 : decode cX6_choice 73 = .ok (.iload_n 3, 1) := by decide +kernel
theorem dX6_choice_74 : decode cX6_choice 74 = .ok (.invokevirtual 228, 3) := by decide +kernel
theorem dX6_choice_77 : decode cX6_choice 77 = .ok (.istore 6, 2) := by decide +kernel
theorem dX6_choice_79 : decode cX6_choice 79 = .ok (.iload_n 3, 1) := by decide +kernel
theorem dX6_choice_80 : decode cX6_choice 80 = .ok (.iconst 1, 1) := by decide +kernel
theorem dX6_choice_81 : decode cX6_choice 81 = .ok (.iload 6, 2) := by decide +kernel
theorem dX6_choice_83 : decode cX6_choice 83 = .ok (.ishl, 1) := by decide +kernel
theorem dX6_choice_84 : decode cX6_choice 84 = .ok (.ior, 1) := by decide +kernel
theorem dX6_choice_85 : decode cX6_choice 85 = .ok (.istore_n 3, 1) := by decide +kernel
theorem dX6_choice_86 : decode cX6_choice 86 = .ok (.iload 5, 2) := by decide +kernel
theorem dX6_choice_88 : decode cX6_choice 88 = .ok (.aload_n 0, 1) := by decide +kernel
theorem dX6_choice_89 : decode cX6_choice 89 = .ok (.getfield 61, 3) := by decide +kernel
theorem dX6_choice_92 : decode cX6_choice 92 = .ok (.irem, 1) := by decide +kernel
theorem dX6_choice_93 : decode cX6_choice 93 = .ok (.istore 4, 2) := by decide +kernel
theorem dX6_choice_95 : decode cX6_choice 95 = .ok (.aload_n 0, 1) := by decide +kernel
theorem dX6_choice_96 : decode cX6_choice 96 = .ok (.getfield 55, 3) := by decide +kernel
theorem dX6_choice_99 : decode cX6_choice 99 = .ok (.iload 4, 2) := by decide +kernel
theorem dX6_choice_101 : decode cX6_choice 101 = .ok (.dup2, 1) := by decide +kernel
theorem dX6_choice_102 : decode cX6_choice 102 = .ok (.iaload, 1) := by decide +kernel
theorem dX6_choice_103 : decode cX6_choice 103 = .ok (.aload_n 0, 1) := by decide +kernel
theorem dX6_choice_104 : decode cX6_choice 104 = .ok (.iload 6, 2) := by decide +kernel
theorem dX6_choice_106 : decode cX6_choice 106 = .ok (.invokevirtual 169, 3) := by decide +kernel
theorem dX6_choice_109 : decode cX6_choice 109 = .ok (.iadd, 1) := by decide +kernel
theorem dX6_choice_110 : decode cX6_choice 110 = .ok (.iastore, 1) := by decide +kernel
theorem dX6_choice_111 : decode cX6_choice 111 = .ok (.iinc 5 1, 3) := by decide +kernel
theorem dX6_choice_114 : decode cX6_choice 114 = .ok (.goto (-51), 3) := by decide +kernel
theorem dX6_choice_117 : decode cX6_choice 117 = .ok (.iload_n 1, 1) := by decide +kernel
theorem dX6_choice_118 : decode cX6_choice 118 = .ok (.ifCond .ge 8, 3) := by decide +kernel
theorem dX6_choice_121 : decode cX6_choice 121 = .ok (.iload 4, 2) := by decide +kernel
theorem dX6_choice_123 : decode cX6_choice 123 = .ok (.goto 9, 3) := by decide +kernel
theorem dX6_choice_126 : decode cX6_choice 126 = .ok (.aload_n 0, 1) := by decide +kernel
theorem dX6_choice_127 : decode cX6_choice 127 = .ok (.getfield 55, 3) := by decide +kernel
theorem dX6_choice_130 : decode cX6_choice 130 = .ok (.iload_n 1, 1) := by decide +kernel
theorem dX6_choice_131 : decode cX6_choice 131 = .ok (.iaload, 1) := by decide +kernel
theorem dX6_choice_132 : decode cX6_choice 132 = .ok (.ireturn, 1) := by decide +kernel
theorem dX6_comes_0 : decode cX6_comes 0 = .ok (.aload_n 0, 1) := by decide +kernel
theorem dX6_comes_1 : decode cX6_comes 1 = .ok (.getfield 43, 3) := by decide +kernel
theorem dX6_comes_4 : decode cX6_comes 4 = .ok (.iconst 4, 1) := by decide +kernel
theorem dX6_comes_5 : decode cX6_comes 5 = .ok (.iload_n 1, 1) := by decide +kernel
theorem dX6_comes_6 : decode cX6_comes 6 = .ok (.imul, 1) := by decide +kernel
theorem dX6_comes_7 : decode cX6_comes 7 = .ok (.iaload, 1) := by decide +kernel
theorem dX6_comes_8 : decode cX6_comes 8 = .ok (.istore_n 2, 1) := by decide +kernel
theorem dX6_comes_9 : decode cX6_comes 9 = .ok (.aload_n 0, 1) := by decide +kernel
theorem dX6_comes_10 : decode cX6_comes 10 = .ok (.getfield 43, 3) := by decide +kernel
theorem dX6_comes_13 : decode cX6_comes 13 = .ok (.iconst 4, 1) := by decide +kernel
theorem dX6_comes_14 : decode cX6_comes 14 = .ok (.iload_n 1, 1) := by decide +kernel
theorem dX6_comes_15 : decode cX6_comes 15 = .ok (.imul, 1) := by decide +kernel
theorem dX6_comes_16 : decode cX6_comes 16 = .ok (.iconst 1, 1) := by decide +kernel
theorem dX6_comes_17 : decode cX6_comes 17 = .ok (.iadd, 1) := by decide +kernel
theorem dX6_comes_18 : decode cX6_comes 18 = .ok (.iaload, 1) := by decide +kernel
theorem dX6_comes_19 : decode cX6_comes 19 = .ok (.istore_n 3, 1) := by decide +kernel
theorem dX6_comes_20 : decode cX6_comes 20 = .ok (.aload_n 0, 1) := by decide +kernel
theorem dX6_comes_21 : decode cX6_comes 21 = .ok (.getfield 37, 3) := by decide +kernel
theorem dX6_comes_24 : decode cX6_comes 24 = .ok (.iload_n 1, 1) := by decide +kernel
theorem dX6_comes_25 : decode cX6_comes 25 = .ok (.iaload, 1) := by decide +kernel
theorem dX6_comes_26 : decode cX6_comes 26 = .ok (.tableswitch 225 104 121 #[213, 86, 225, 225, 225, 94, 225, 225, 225, 225, 149, 129, 225, 225, 225, 225, 225, 182], 86) := by decide +kernel
theorem dX6_comes_112 : decode cX6_comes 112 = .ok (.aload_n 0, 1) := by decide +kernel
theorem dX6_comes_113 : decode cX6_comes 113 = .ok (.iconst 4, 1) := by decide +kernel
theorem dX6_comes_114 : decode cX6_comes 114 = .ok (.iload_n 1, 1) := by decide +kernel
theorem dX6_comes_115 : decode cX6_comes 115 = .ok (.imul, 1) := by decide +kernel
theorem dX6_comes_116 : decode cX6_comes 116 = .ok (.invokevirtual 113, 3) := by decide +kernel
theorem dX6_comes_119 : decode cX6_comes 119 = .ok (.ireturn, 1) := by decide +kernel
theorem dX6_comes_120 : decode cX6_comes 120 = .ok (.aload_n 0, 1) := by decide +kernel
theorem dX6_comes_121 : decode cX6_comes 121 = .ok (.iload_n 2, 1) := by decide +kernel
theorem dX6_comes_122 : decode cX6_comes 122 = .ok (.invokevirtual 116, 3) := by decide +kernel
theorem dX6_comes_125 : decode cX6_comes 125 = .ok (.ifCond .eq 19, 3) := by decide +kernel
theorem dX6_comes_128 : decode cX6_comes 128 = .ok (.iload_n 3, 1) := by decide +kernel
theorem dX6_comes_129 : decode cX6_comes 129 = .ok (.invokestatic 119, 3) := by decide +kernel
theorem dX6_comes_132 : decode cX6_comes 132 = .ok (.ifCond .eq 12, 3) := by decide +kernel
theorem dX6_comes_135 : decode cX6_comes 135 = .ok (.aload_n 0, 1) := by decide +kernel
theorem dX6_comes_136 : decode cX6_comes 136 = .ok (.iload_n 2, 1) := by decide +kernel
theorem dX6_comes_137 : decode cX6_comes 137 = .ok (.iload_n 3, 1) := by decide +kernel
theorem dX6_comes_138 : decode cX6_comes 138 = .ok (.invokevirtual 122, 3) := by decide +kernel
theorem dX6_comes_141 : decode cX6_comes 141 = .ok (.ifCond .ne 5, 3) := by decide +kernel
theorem dX6_comes_144 : decode cX6_comes 144 = .ok (.iconst 0, 1) := by decide +kernel
theorem dX6_comes_145 : decode cX6_comes 145 = .ok (.ireturn, 1) := by decide +kernel
theorem dX6_comes_146 : decode cX6_comes 146 = .ok (.aload_n 0, 1) := by decide +kernel
theorem dX6_comes_147 : decode cX6_comes 147 = .ok (.getfield 31, 3) := by decide +kernel
theorem dX6_comes_150 : decode cX6_comes 150 = .ok (.iload_n 2, 1) := by decide +kernel
theorem dX6_comes_151 : decode cX6_comes 151 = .ok (.iload_n 3, 1) := by decide +kernel
theorem dX6_comes_152 : decode cX6_comes 152 = .ok (.iastore, 1) := by decide +kernel
theorem dX6_comes_153 : decode cX6_comes 153 = .ok (.iconst 1, 1) := by decide +kernel
theorem dX6_comes_154 : decode cX6_comes 154 = .ok (.ireturn, 1) := by decide +kernel
theorem dX6_comes_155 : decode cX6_comes 155 = .ok (.iload_n 2, 1) := by decide +kernel
theorem dX6_comes_156 : decode cX6_comes 156 = .ok (.iconst 1, 1) := by decide +kernel
theorem dX6_comes_157 : decode cX6_comes 157 = .ok (.iconst 2, 1) := by decide +kernel
theorem dX6_comes_158 : decode cX6_comes 158 = .ok (.invokestatic 90, 3) := by decide +kernel
theorem dX6_comes_161 : decode cX6_comes 161 = .ok (.ifCond .ne 5, 3) := by decide +kernel
theorem dX6_comes_164 : decode cX6_comes 164 = .ok (.iconst 0, 1) := by decide +kernel
theorem dX6_comes_165 : decode cX6_comes 165 = .ok (.ireturn, 1) := by decide +kernel
theorem dX6_comes_166 : decode cX6_comes 166 = .ok (.aload_n 0, 1) := by decide +kernel
theorem dX6_comes_167 : decode cX6_comes 167 = .ok (.getfield 16, 3) := by decide +kernel
theorem dX6_comes_170 : decode cX6_comes 170 = .ok (.iload_n 2, 1) := by decide +kernel
theorem dX6_comes_171 : decode cX6_comes 171 = .ok (.iload_n 3, 1) := by decide +kernel
theorem dX6_comes_172 : decode cX6_comes 172 = .ok (.iastore, 1) := by decide +kernel
theorem dX6_comes_173 : decode cX6_comes 173 = .ok (.iconst 1, 1) := by decide +kernel
theorem dX6_comes_174 : decode cX6_comes 174 = .ok (.ireturn, 1) := by decide +kernel
theorem dX6_comes_175 : decode cX6_comes 175 = .ok (.iload_n 2, 1) := by decide +kernel
theorem dX6_comes_176 : decode cX6_comes 176 = .ok (.invokestatic 68, 3) := by decide +kernel
theorem dX6_comes_179 : decode cX6_comes 179 = .ok (.ifCond .eq 18, 3) := by decide +kernel
theorem dX6_comes_182 : decode cX6_comes 182 = .ok (.iload_n 3, 1) := by decide +kernel
theorem dX6_comes_183 : decode cX6_comes 183 = .ok (.bipush 20, 2) := by decide +kernel
theorem dX6_comes_185 : decode cX6_comes 185 = .ok (.if_icmp .gt 12, 3) := by decide +kernel
theorem dX6_comes_188 : decode cX6_comes 188 = .ok (.iload_n 3, 1) := by decide +kernel
theorem dX6_comes_189 : decode cX6_comes 189 = .ok (.aload_n 0, 1) := by decide +kernel
theorem dX6_comes_190 : decode cX6_comes 190 = .ok (.iload_n 2, 1) := by decide +kernel
theorem dX6_comes_191 : decode cX6_comes 191 = .ok (.invokevirtual 125, 3) := by decide +kernel
theorem dX6_comes_194 : decode cX6_comes 194 = .ok (.if_icmp .ge 5, 3) := by decide +kernel
theorem dX6_comes_197 : decode cX6_comes 197 = .ok (.iconst 0, 1) := by decide +kernel
theorem dX6_comes_198 : decode cX6_comes 198 = .ok (.ireturn, 1) := by decide +kernel
theorem dX6_comes_199 : decode cX6_comes 199 = .ok (.aload_n 0, 1) := by decide +kernel
theorem dX6_comes_200 : decode cX6_comes 200 = .ok (.getfield 13, 3) := by decide +kernel
theorem dX6_comes_203 : decode cX6_comes 203 = .ok (.iload_n 2, 1) := by decide +kernel
theorem dX6_comes_204 : decode cX6_comes 204 = .ok (.iload_n 3, 1) := by decide +kernel
theorem dX6_comes_205 : decode cX6_comes 205 = .ok (.iastore, 1) := by decide +kernel
theorem dX6_comes_206 : decode cX6_comes 206 = .ok (.iconst 1, 1) := by decide +kernel
theorem dX6_comes_207 : decode cX6_comes 207 = .ok (.ireturn, 1) := by decide +kernel
theorem dX6_comes_208 : decode cX6_comes 208 = .ok (.iload_n 2, 1) := by decide +kernel
theorem dX6_comes_209 : decode cX6_comes 209 = .ok (.iconst 1, 1) := by decide +kernel
theorem dX6_comes_210 : decode cX6_comes 210 = .ok (.bipush 60, 2) := by decide +kernel
theorem dX6_comes_212 : decode cX6_comes 212 = .ok (.invokestatic 90, 3) := by decide +kernel
theorem dX6_comes_215 : decode cX6_comes 215 = .ok (.ifCond .eq 15, 3) := by decide +kernel
theorem dX6_comes_218 : decode cX6_comes 218 = .ok (.aload_n 0, 1) := by decide +kernel
theorem dX6_comes_219 : decode cX6_comes 219 = .ok (.getfield 128, 3) := by decide +kernel
theorem dX6_comes_222 : decode cX6_comes 222 = .ok (.iload_n 2, 1) := by decide +kernel
theorem dX6_comes_223 : decode cX6_comes 223 = .ok (.iadd, 1) := by decide +kernel
theorem dX6_comes_224 : decode cX6_comes 224 = .ok (.sipush 999, 3) := by decide +kernel
theorem dX6_comes_227 : decode cX6_comes 227 = .ok (.if_icmp .le 5, 3) := by decide +kernel
theorem dX6_comes_230 : decode cX6_comes 230 = .ok (.iconst 0, 1) := by decide +kernel
theorem dX6_comes_231 : decode cX6_comes 231 = .ok (.ireturn, 1) := by decide +kernel
theorem dX6_comes_232 : decode cX6_comes 232 = .ok (.aload_n 0, 1) := by decide +kernel
theorem dX6_comes_233 : decode cX6_comes 233 = .ok (.iload_n 2, 1) := by decide +kernel
theorem dX6_comes_234 : decode cX6_comes 234 = .ok (.invokevirtual 131, 3) := by decide +kernel
theorem dX6_comes_237 : decode cX6_comes 237 = .ok (.iconst 1, 1) := by decide +kernel
theorem dX6_comes_238 : decode cX6_comes 238 = .ok (.ireturn, 1) := by decide +kernel
theorem dX6_comes_239 : decode cX6_comes 239 = .ok (.aload_n 0, 1) := by decide +kernel
theorem dX6_comes_240 : decode cX6_comes 240 = .ok (.iload_n 2, 1) := by decide +kernel
theorem dX6_comes_241 : decode cX6_comes 241 = .ok (.putfield 61, 3) := by decide +kernel
theorem dX6_comes_244 : decode cX6_comes 244 = .ok (.iload_n 2, 1) := by decide +kernel
theorem dX6_comes_245 : decode cX6_comes 245 = .ok (.iconst 2, 1) := by decide +kernel
theorem dX6_comes_246 : decode cX6_comes 246 = .ok (.iconst 4, 1) := by decide +kernel
theorem dX6_comes_247 : decode cX6_comes 247 = .ok (.invokestatic 90, 3) := by decide +kernel
theorem dX6_comes_250 : decode cX6_comes 250 = .ok (.ireturn, 1) := by decide +kernel
theorem dX6_comes_251 : decode cX6_comes 251 = .ok (.aload_n 0, 1) := by decide +kernel
theorem dX6_comes_252 : decode cX6_comes 252 = .ok (.iload_n 2, 1) := by decide +kernel
theorem dX6_comes_253 : decode cX6_comes 253 = .ok (.invokevirtual 116, 3) := by decide +kernel
theorem dX6_comes_256 : decode cX6_comes 256 = .ok (.ifCond .eq 14, 3) := by decide +kernel
theorem dX6_comes_259 : decode cX6_comes 259 = .ok (.aload_n 0, 1) := by decide +kernel
theorem dX6_comes_260 : decode cX6_comes 260 = .ok (.getfield 25, 3) := by decide +kernel
theorem dX6_comes_263 : decode cX6_comes 263 = .ok (.iload_n 2, 1) := by decide +kernel
theorem dX6_comes_264 : decode cX6_comes 264 = .ok (.iaload, 1) := by decide +kernel
theorem dX6_comes_265 : decode cX6_comes 265 = .ok (.bipush 9, 2) := by decide +kernel
theorem dX6_comes_267 : decode cX6_comes 267 = .ok (.if_icmp .ne 5, 3) := by decide +kernel
theorem dX6_comes_270 : decode cX6_comes 270 = .ok (.iconst 0, 1) := by decide +kernel
theorem dX6_comes_271 : decode cX6_comes 271 = .ok (.ireturn, 1) := by decide +kernel
theorem dX6_comes_272 : decode cX6_comes 272 = .ok (.aload_n 0, 1) := by decide +kernel
theorem dX6_comes_273 : decode cX6_comes 273 = .ok (.getfield 25, 3) := by decide +kernel
theorem dX6_comes_276 : decode cX6_comes 276 = .ok (.iload_n 2, 1) := by decide +kernel
theorem dX6_comes_277 : decode cX6_comes 277 = .ok (.dup2, 1) := by decide +kernel
theorem dX6_comes_278 : decode cX6_comes 278 = .ok (.iaload, 1) := by decide +kernel
theorem dX6_comes_279 : decode cX6_comes 279 = .ok (.iconst 1, 1) := by decide +kernel
theorem dX6_comes_280 : decode cX6_comes 280 = .ok (.iadd, 1) := by decide +kernel
theorem dX6_comes_281 : decode cX6_comes 281 = .ok (.iastore, 1) := by decide +kernel
theorem dX6_comes_282 : decode cX6_comes 282 = .ok (.iconst 1, 1) := by decide +kernel
theorem dX6_comes_283 : decode cX6_comes 283 = .ok (.ireturn, 1) := by decide +kernel
theorem dX6_comesPiece_0 : decode cX6_comesPiece 0 = .ok (.aload_n 0, 1) := by decide +kernel
theorem dX6_comesPiece_1 : decode cX6_comesPiece 1 = .ok (.getfield 43, 3) := by decide +kernel
theorem dX6_comesPiece_4 : decode cX6_comesPiece 4 = .ok (.iload_n 1, 1) := by decide +kernel
theorem dX6_comesPiece_5 : decode cX6_comesPiece 5 = .ok (.iconst 1, 1) := by decide +kernel
theorem dX6_comesPiece_6 : decode cX6_comesPiece 6 = .ok (.iadd, 1) := by decide +kernel
theorem dX6_comesPiece_7 : decode cX6_comesPiece 7 = .ok (.iaload, 1) := by decide +kernel
theorem dX6_comesPiece_8 : decode cX6_comesPiece 8 = .ok (.iconst 1, 1) := by decide +kernel
theorem dX6_comesPiece_9 : decode cX6_comesPiece 9 = .ok (.if_icmp .lt 12, 3) := by decide +kernel
theorem dX6_comesPiece_12 : decode cX6_comesPiece 12 = .ok (.aload_n 0, 1) := by decide +kernel
theorem dX6_comesPiece_13 : decode cX6_comesPiece 13 = .ok (.getfield 65, 3) := by decide +kernel
theorem dX6_comesPiece_16 : decode cX6_comesPiece 16 = .ok (.bipush 7, 2) := by decide +kernel
theorem dX6_comesPiece_18 : decode cX6_comesPiece 18 = .ok (.if_icmp .ne 5, 3) := by decide +kernel
theorem dX6_comesPiece_21 : decode cX6_comesPiece 21 = .ok (.iconst 0, 1) := by decide +kernel
theorem dX6_comesPiece_22 : decode cX6_comesPiece 22 = .ok (.ireturn, 1) := by decide +kernel
theorem dX6_comesPiece_23 : decode cX6_comesPiece 23 = .ok (.aload_n 0, 1) := by decide +kernel
theorem dX6_comesPiece_24 : decode cX6_comesPiece 24 = .ok (.getfield 19, 3) := by decide +kernel
theorem dX6_comesPiece_27 : decode cX6_comesPiece 27 = .ok (.aload_n 0, 1) := by decide +kernel
theorem dX6_comesPiece_28 : decode cX6_comesPiece 28 = .ok (.getfield 65, 3) := by decide +kernel
theorem dX6_comesPiece_31 : decode cX6_comesPiece 31 = .ok (.aload_n 0, 1) := by decide +kernel
theorem dX6_comesPiece_32 : decode cX6_comesPiece 32 = .ok (.getfield 43, 3) := by decide +kernel
theorem dX6_comesPiece_35 : decode cX6_comesPiece 35 = .ok (.iload_n 1, 1) := by decide +kernel
theorem dX6_comesPiece_36 : decode cX6_comesPiece 36 = .ok (.iaload, 1) := by decide +kernel
theorem dX6_comesPiece_37 : decode cX6_comesPiece 37 = .ok (.iastore, 1) := by decide +kernel
theorem dX6_comesPiece_38 : decode cX6_comesPiece 38 = .ok (.aload_n 0, 1) := by decide +kernel
theorem dX6_comesPiece_39 : decode cX6_comesPiece 39 = .ok (.getfield 22, 3) := by decide +kernel
theorem dX6_comesPiece_42 : decode cX6_comesPiece 42 = .ok (.aload_n 0, 1) := by decide +kernel
theorem dX6_comesPiece_43 : decode cX6_comesPiece 43 = .ok (.getfield 65, 3) := by decide +kernel
theorem dX6_comesPiece_46 : decode cX6_comesPiece 46 = .ok (.aload_n 0, 1) := by decide +kernel
theorem dX6_comesPiece_47 : decode cX6_comesPiece 47 = .ok (.getfield 43, 3) := by decide +kernel
theorem dX6_comesPiece_50 : decode cX6_comesPiece 50 = .ok (.iload_n 1, 1) := by decide +kernel
theorem dX6_comesPiece_51 : decode cX6_comesPiece 51 = .ok (.iconst 1, 1) := by decide +kernel
theorem dX6_comesPiece_52 : decode cX6_comesPiece 52 = .ok (.iadd, 1) := by decide +kernel
theorem dX6_comesPiece_53 : decode cX6_comesPiece 53 = .ok (.iaload, 1) := by decide +kernel
theorem dX6_comesPiece_54 : decode cX6_comesPiece 54 = .ok (.iastore, 1) := by decide +kernel
theorem dX6_comesPiece_55 : decode cX6_comesPiece 55 = .ok (.aload_n 0, 1) := by decide +kernel
theorem dX6_comesPiece_56 : decode cX6_comesPiece 56 = .ok (.getfield 25, 3) := by decide +kernel
theorem dX6_comesPiece_59 : decode cX6_comesPiece 59 = .ok (.aload_n 0, 1) := by decide +kernel
theorem dX6_comesPiece_60 : decode cX6_comesPiece 60 = .ok (.getfield 65, 3) := by decide +kernel
theorem dX6_comesPiece_63 : decode cX6_comesPiece 63 = .ok (.aload_n 0, 1) := by decide +kernel
theorem dX6_comesPiece_64 : decode cX6_comesPiece 64 = .ok (.getfield 43, 3) := by decide +kernel
theorem dX6_comesPiece_67 : decode cX6_comesPiece 67 = .ok (.iload_n 1, 1) := by decide +kernel
theorem dX6_comesPiece_68 : decode cX6_comesPiece 68 = .ok (.iconst 2, 1) := by decide +kernel
theorem dX6_comesPiece_69 : decode cX6_comesPiece 69 = .ok (.iadd, 1) := by decide +kernel
theorem dX6_comesPiece_70 : decode cX6_comesPiece 70 = .ok (.iaload, 1) := by decide +kernel
theorem dX6_comesPiece_71 : decode cX6_comesPiece 71 = .ok (.iastore, 1) := by decide +kernel
theorem dX6_comesPiece_72 : decode cX6_comesPiece 72 = .ok (.aload_n 0, 1) := by decide +kernel
theorem dX6_comesPiece_73 : decode cX6_comesPiece 73 = .ok (.getfield 28, 3) := by decide +kernel
theorem dX6_comesPiece_76 : decode cX6_comesPiece 76 = .ok (.aload_n 0, 1) := by decide +kernel
theorem dX6_comesPiece_77 : decode cX6_comesPiece 77 = .ok (.getfield 65, 3) := by decide +kernel
theorem dX6_comesPiece_80 : decode cX6_comesPiece 80 = .ok (.aload_n 0, 1) := by decide +kernel
theorem dX6_comesPiece_81 : decode cX6_comesPiece 81 = .ok (.getfield 43, 3) := by decide +kernel
theorem dX6_comesPiece_84 : decode cX6_comesPiece 84 = .ok (.iload_n 1, 1) := by decide +kernel
theorem dX6_comesPiece_85 : decode cX6_comesPiece 85 = .ok (.iconst 3, 1) := by decide +kernel
theorem dX6_comesPiece_86 : decode cX6_comesPiece 86 = .ok (.iadd, 1) := by decide +kernel
theorem dX6_comesPiece_87 : decode cX6_comesPiece 87 = .ok (.iaload, 1) := by decide +kernel
theorem dX6_comesPiece_88 : decode cX6_comesPiece 88 = .ok (.iastore, 1) := by decide +kernel
theorem dX6_comesPiece_89 : decode cX6_comesPiece 89 = .ok (.aload_n 0, 1) := by decide +kernel
theorem dX6_comesPiece_90 : decode cX6_comesPiece 90 = .ok (.getfield 31, 3) := by decide +kernel
theorem dX6_comesPiece_93 : decode cX6_comesPiece 93 = .ok (.aload_n 0, 1) := by decide +kernel
theorem dX6_comesPiece_94 : decode cX6_comesPiece 94 = .ok (.getfield 65, 3) := by decide +kernel
theorem dX6_comesPiece_97 : decode cX6_comesPiece 97 = .ok (.bipush 9, 2) := by decide +kernel
theorem dX6_comesPiece_99 : decode cX6_comesPiece 99 = .ok (.iastore, 1) := by decide +kernel
theorem dX6_comesPiece_100 : decode cX6_comesPiece 100 = .ok (.aload_n 0, 1) := by decide +kernel
theorem dX6_comesPiece_101 : decode cX6_comesPiece 101 = .ok (.dup, 1) := by decide +kernel
theorem dX6_comesPiece_102 : decode cX6_comesPiece 102 = .ok (.getfield 65, 3) := by decide +kernel
theorem dX6_comesPiece_105 : decode cX6_comesPiece 105 = .ok (.iconst 1, 1) := by decide +kernel
theorem dX6_comesPiece_106 : decode cX6_comesPiece 106 = .ok (.iadd, 1) := by decide +kernel
theorem dX6_comesPiece_107 : decode cX6_comesPiece 107 = .ok (.putfield 65, 3) := by decide +kernel
theorem dX6_comesPiece_110 : decode cX6_comesPiece 110 = .ok (.iconst 1, 1) := by decide +kernel
theorem dX6_comesPiece_111 : decode cX6_comesPiece 111 = .ok (.ireturn, 1) := by decide +kernel
theorem dX6_count_0 : decode cX6_count 0 = .ok (.iload_n 1, 1) := by decide +kernel
theorem dX6_count_1 : decode cX6_count 1 = .ok (.bipush 11, 2) := by decide +kernel
theorem dX6_count_3 : decode cX6_count 3 = .ok (.bipush 16, 2) := by decide +kernel
theorem dX6_count_5 : decode cX6_count 5 = .ok (.invokestatic 90, 3) := by decide +kernel
theorem dX6_count_8 : decode cX6_count 8 = .ok (.ifCond .eq 13, 3) := by decide +kernel
theorem dX6_count_11 : decode cX6_count 11 = .ok (.aload_n 0, 1) := by decide +kernel
theorem dX6_count_12 : decode cX6_count 12 = .ok (.getfield 7, 3) := by decide +kernel
theorem dX6_count_15 : decode cX6_count 15 = .ok (.iload_n 1, 1) := by decide +kernel
theorem dX6_count_16 : decode cX6_count 16 = .ok (.bipush 10, 2) := by decide +kernel
theorem dX6_count_18 : decode cX6_count 18 = .ok (.isub, 1) := by decide +kernel
theorem dX6_count_19 : decode cX6_count 19 = .ok (.iaload, 1) := by decide +kernel
theorem dX6_count_20 : decode cX6_count 20 = .ok (.ireturn, 1) := by decide +kernel
theorem dX6_count_21 : decode cX6_count 21 = .ok (.iconst 0, 1) := by decide +kernel
theorem dX6_count_22 : decode cX6_count 22 = .ok (.istore_n 2, 1) := by decide +kernel
theorem dX6_count_23 : decode cX6_count 23 = .ok (.iload_n 1, 1) := by decide +kernel
theorem dX6_count_24 : decode cX6_count 24 = .ok (.tableswitch 193 0 8 #[52, 57, 62, 67, 94, 121, 158, 183, 188], 52) := by decide +kernel
theorem dX6_count_76 : decode cX6_count 76 = .ok (.aload_n 0, 1) := by decide +kernel
theorem dX6_count_77 : decode cX6_count 77 = .ok (.getfield 65, 3) := by decide +kernel
theorem dX6_count_80 : decode cX6_count 80 = .ok (.ireturn, 1) := by decide +kernel
theorem dX6_count_81 : decode cX6_count 81 = .ok (.aload_n 0, 1) := by decide +kernel
theorem dX6_count_82 : decode cX6_count 82 = .ok (.getfield 128, 3) := by decide +kernel
theorem dX6_count_85 : decode cX6_count 85 = .ok (.ireturn, 1) := by decide +kernel
theorem dX6_count_86 : decode cX6_count 86 = .ok (.aload_n 0, 1) := by decide +kernel
theorem dX6_count_87 : decode cX6_count 87 = .ok (.getfield 61, 3) := by decide +kernel
theorem dX6_count_90 : decode cX6_count 90 = .ok (.ireturn, 1) := by decide +kernel
theorem dX6_count_91 : decode cX6_count 91 = .ok (.iconst 0, 1) := by decide +kernel
theorem dX6_count_92 : decode cX6_count 92 = .ok (.istore_n 3, 1) := by decide +kernel
theorem dX6_count_93 : decode cX6_count 93 = .ok (.iload_n 3, 1) := by decide +kernel
theorem dX6_count_94 : decode cX6_count 94 = .ok (.aload_n 0, 1) := by decide +kernel
theorem dX6_count_95 : decode cX6_count 95 = .ok (.getfield 65, 3) := by decide +kernel
theorem dX6_count_98 : decode cX6_count 98 = .ok (.if_icmp .ge 18, 3) := by decide +kernel
theorem dX6_count_101 : decode cX6_count 101 = .ok (.iload_n 2, 1) := by decide +kernel
theorem dX6_count_102 : decode cX6_count 102 = .ok (.aload_n 0, 1) := by decide +kernel
theorem dX6_count_103 : decode cX6_count 103 = .ok (.getfield 22, 3) := by decide +kernel
theorem dX6_count_106 : decode cX6_count 106 = .ok (.iload_n 3, 1) := by decide +kernel
theorem dX6_count_107 : decode cX6_count 107 = .ok (.iaload, 1) := by decide +kernel
theorem dX6_count_108 : decode cX6_count 108 = .ok (.iadd, 1) := by decide +kernel
theorem dX6_count_109 : decode cX6_count 109 = .ok (.istore_n 2, 1) := by decide +kernel
theorem dX6_count_110 : decode cX6_count 110 = .ok (.iinc 3 1, 3) := by decide +kernel
theorem dX6_count_113 : decode cX6_count 113 = .ok (.goto (-20), 3) := by decide +kernel
theorem dX6_count_116 : decode cX6_count 116 = .ok (.iload_n 2, 1) := by decide +kernel
theorem dX6_count_117 : decode cX6_count 117 = .ok (.ireturn, 1) := by decide +kernel
theorem dX6_count_118 : decode cX6_count 118 = .ok (.iconst 0, 1) := by decide +kernel
theorem dX6_count_119 : decode cX6_count 119 = .ok (.istore_n 3, 1) := by decide +kernel
theorem dX6_count_120 : decode cX6_count 120 = .ok (.iload_n 3, 1) := by decide +kernel
theorem dX6_count_121 : decode cX6_count 121 = .ok (.aload_n 0, 1) := by decide +kernel
theorem dX6_count_122 : decode cX6_count 122 = .ok (.getfield 65, 3) := by decide +kernel
theorem dX6_count_125 : decode cX6_count 125 = .ok (.if_icmp .ge 18, 3) := by decide +kernel
theorem dX6_count_128 : decode cX6_count 128 = .ok (.iload_n 2, 1) := by decide +kernel
theorem dX6_count_129 : decode cX6_count 129 = .ok (.aload_n 0, 1) := by decide +kernel
theorem dX6_count_130 : decode cX6_count 130 = .ok (.getfield 25, 3) := by decide +kernel
theorem dX6_count_133 : decode cX6_count 133 = .ok (.iload_n 3, 1) := by decide +kernel
theorem dX6_count_134 : decode cX6_count 134 = .ok (.iaload, 1) := by decide +kernel
theorem dX6_count_135 : decode cX6_count 135 = .ok (.iadd, 1) := by decide +kernel
theorem dX6_count_136 : decode cX6_count 136 = .ok (.istore_n 2, 1) := by decide +kernel
theorem dX6_count_137 : decode cX6_count 137 = .ok (.iinc 3 1, 3) := by decide +kernel
theorem dX6_count_140 : decode cX6_count 140 = .ok (.goto (-20), 3) := by decide +kernel
theorem dX6_count_143 : decode cX6_count 143 = .ok (.iload_n 2, 1) := by decide +kernel
theorem dX6_count_144 : decode cX6_count 144 = .ok (.ireturn, 1) := by decide +kernel
theorem dX6_count_145 : decode cX6_count 145 = .ok (.iconst 0, 1) := by decide +kernel
theorem dX6_count_146 : decode cX6_count 146 = .ok (.istore_n 3, 1) := by decide +kernel
theorem dX6_count_147 : decode cX6_count 147 = .ok (.iload_n 3, 1) := by decide +kernel
theorem dX6_count_148 : decode cX6_count 148 = .ok (.aload_n 0, 1) := by decide +kernel
theorem dX6_count_149 : decode cX6_count 149 = .ok (.getfield 65, 3) := by decide +kernel
theorem dX6_count_152 : decode cX6_count 152 = .ok (.if_icmp .ge 28, 3) := by decide +kernel
theorem dX6_count_155 : decode cX6_count 155 = .ok (.iload_n 2, 1) := by decide +kernel
theorem dX6_count_156 : decode cX6_count 156 = .ok (.aload_n 0, 1) := by decide +kernel
theorem dX6_count_157 : decode cX6_count 157 = .ok (.getfield 31, 3) := by decide +kernel
theorem dX6_count_160 : decode cX6_count 160 = .ok (.iload_n 3, 1) := by decide +kernel
theorem dX6_count_161 : decode cX6_count 161 = .ok (.iaload, 1) := by decide +kernel
theorem dX6_count_162 : decode cX6_count 162 = .ok (.bipush 9, 2) := by decide +kernel
theorem dX6_count_164 : decode cX6_count 164 = .ok (.if_icmp .ne 7, 3) := by decide +kernel
theorem dX6_count_167 : decode cX6_count 167 = .ok (.iconst 0, 1) := by decide +kernel
theorem dX6_count_168 : decode cX6_count 168 = .ok (.goto 4, 3) := by decide +kernel
theorem dX6_count_171 : decode cX6_count 171 = .ok (.iconst 1, 1) := by decide +kernel
theorem dX6_count_172 : decode cX6_count 172 = .ok (.iadd, 1) := by decide +kernel
theorem dX6_count_173 : decode cX6_count 173 = .ok (.istore_n 2, 1) := by decide +kernel
theorem dX6_count_174 : decode cX6_count 174 = .ok (.iinc 3 1, 3) := by decide +kernel
theorem dX6_count_177 : decode cX6_count 177 = .ok (.goto (-30), 3) := by decide +kernel
theorem dX6_count_180 : decode cX6_count 180 = .ok (.iload_n 2, 1) := by decide +kernel
theorem dX6_count_181 : decode cX6_count 181 = .ok (.ireturn, 1) := by decide +kernel
theorem dX6_count_182 : decode cX6_count 182 = .ok (.iconst 0, 1) := by decide +kernel
theorem dX6_count_183 : decode cX6_count 183 = .ok (.istore_n 3, 1) := by decide +kernel
theorem dX6_count_184 : decode cX6_count 184 = .ok (.iload_n 3, 1) := by decide +kernel
theorem dX6_count_185 : decode cX6_count 185 = .ok (.bipush 6, 2) := by decide +kernel
theorem dX6_count_187 : decode cX6_count 187 = .ok (.if_icmp .ge 18, 3) := by decide +kernel
theorem dX6_count_190 : decode cX6_count 190 = .ok (.iload_n 2, 1) := by decide +kernel
theorem dX6_count_191 : decode cX6_count 191 = .ok (.aload_n 0, 1) := by decide +kernel
theorem dX6_count_192 : decode cX6_count 192 = .ok (.getfield 13, 3) := by decide +kernel
theorem dX6_count_195 : decode cX6_count 195 = .ok (.iload_n 3, 1) := by decide +kernel
theorem dX6_count_196 : decode cX6_count 196 = .ok (.iaload, 1) := by decide +kernel
theorem dX6_count_197 : decode cX6_count 197 = .ok (.iadd, 1) := by decide +kernel
theorem dX6_count_198 : decode cX6_count 198 = .ok (.istore_n 2, 1) := by decide +kernel
theorem dX6_count_199 : decode cX6_count 199 = .ok (.iinc 3 1, 3) := by decide +kernel
theorem dX6_count_202 : decode cX6_count 202 = .ok (.goto (-18), 3) := by decide +kernel
theorem dX6_count_205 : decode cX6_count 205 = .ok (.iload_n 2, 1) := by decide +kernel
theorem dX6_count_206 : decode cX6_count 206 = .ok (.ireturn, 1) := by decide +kernel
theorem dX6_count_207 : decode cX6_count 207 = .ok (.aload_n 0, 1) := by decide +kernel
theorem dX6_count_208 : decode cX6_count 208 = .ok (.getfield 249, 3) := by decide +kernel
theorem dX6_count_211 : decode cX6_count 211 = .ok (.ireturn, 1) := by decide +kernel
theorem dX6_count_212 : decode cX6_count 212 = .ok (.aload_n 0, 1) := by decide +kernel
theorem dX6_count_213 : decode cX6_count 213 = .ok (.getfield 76, 3) := by decide +kernel
theorem dX6_count_216 : decode cX6_count 216 = .ok (.ireturn, 1) := by decide +kernel
theorem dX6_count_217 : decode cX6_count 217 = .ok (.bipush (-9), 2) := by decide +kernel
theorem dX6_count_219 : decode cX6_count 219 = .ok (.ireturn, 1) := by decide +kernel
theorem dX6_crowded_0 : decode cX6_crowded 0 = .ok (.iconst 0, 1) := by decide +kernel
theorem dX6_crowded_1 : decode cX6_crowded 1 = .ok (.istore_n 1, 1) := by decide +kernel
theorem dX6_crowded_2 : decode cX6_crowded 2 = .ok (.iconst 0, 1) := by decide +kernel
theorem dX6_crowded_3 : decode cX6_crowded 3 = .ok (.istore_n 2, 1) := by decide +kernel
theorem dX6_crowded_4 : decode cX6_crowded 4 = .ok (.iload_n 2, 1) := by decide +kernel
theorem dX6_crowded_5 : decode cX6_crowded 5 = .ok (.bipush 6, 2) := by decide +kernel
theorem dX6_crowded_7 : decode cX6_crowded 7 = .ok (.if_icmp .ge 35, 3) := by decide +kernel
theorem dX6_crowded_10 : decode cX6_crowded 10 = .ok (.iload_n 1, 1) := by decide +kernel
theorem dX6_crowded_11 : decode cX6_crowded 11 = .ok (.aload_n 0, 1) := by decide +kernel
theorem dX6_crowded_12 : decode cX6_crowded 12 = .ok (.iload_n 2, 1) := by decide +kernel
theorem dX6_crowded_13 : decode cX6_crowded 13 = .ok (.invokevirtual 125, 3) := by decide +kernel
theorem dX6_crowded_16 : decode cX6_crowded 16 = .ok (.iconst 1, 1) := by decide +kernel
theorem dX6_crowded_17 : decode cX6_crowded 17 = .ok (.iadd, 1) := by decide +kernel
theorem dX6_crowded_18 : decode cX6_crowded 18 = .ok (.aload_n 0, 1) := by decide +kernel
theorem dX6_crowded_19 : decode cX6_crowded 19 = .ok (.getfield 13, 3) := by decide +kernel
theorem dX6_crowded_22 : decode cX6_crowded 22 = .ok (.iload_n 2, 1) := by decide +kernel
theorem dX6_crowded_23 : decode cX6_crowded 23 = .ok (.iaload, 1) := by decide +kernel
theorem dX6_crowded_24 : decode cX6_crowded 24 = .ok (.if_icmp .le 9, 3) := by decide +kernel
theorem dX6_crowded_27 : decode cX6_crowded 27 = .ok (.iconst 1, 1) := by decide +kernel
theorem dX6_crowded_28 : decode cX6_crowded 28 = .ok (.iload_n 2, 1) := by decide +kernel
theorem dX6_crowded_29 : decode cX6_crowded 29 = .ok (.ishl, 1) := by decide +kernel
theorem dX6_crowded_30 : decode cX6_crowded 30 = .ok (.goto 4, 3) := by decide +kernel
theorem dX6_crowded_33 : decode cX6_crowded 33 = .ok (.iconst 0, 1) := by decide +kernel
theorem dX6_crowded_34 : decode cX6_crowded 34 = .ok (.ior, 1) := by decide +kernel
theorem dX6_crowded_35 : decode cX6_crowded 35 = .ok (.istore_n 1, 1) := by decide +kernel
theorem dX6_crowded_36 : decode cX6_crowded 36 = .ok (.iinc 2 1, 3) := by decide +kernel
theorem dX6_crowded_39 : decode cX6_crowded 39 = .ok (.goto (-35), 3) := by decide +kernel
theorem dX6_crowded_42 : decode cX6_crowded 42 = .ok (.iload_n 1, 1) := by decide +kernel
theorem dX6_crowded_43 : decode cX6_crowded 43 = .ok (.ireturn, 1) := by decide +kernel
theorem dX6_deals_0 : decode cX6_deals 0 = .ok (.iconst 0, 1) := by decide +kernel
theorem dX6_deals_1 : decode cX6_deals 1 = .ok (.istore_n 1, 1) := by decide +kernel
theorem dX6_deals_2 : decode cX6_deals 2 = .ok (.iload_n 1, 1) := by decide +kernel
theorem dX6_deals_3 : decode cX6_deals 3 = .ok (.iconst 4, 1) := by decide +kernel
theorem dX6_deals_4 : decode cX6_deals 4 = .ok (.if_icmp .ge 16, 3) := by decide +kernel
theorem dX6_deals_7 : decode cX6_deals 7 = .ok (.aload_n 0, 1) := by decide +kernel
theorem dX6_deals_8 : decode cX6_deals 8 = .ok (.getfield 55, 3) := by decide +kernel
theorem dX6_deals_11 : decode cX6_deals 11 = .ok (.iload_n 1, 1) := by decide +kernel
theorem dX6_deals_12 : decode cX6_deals 12 = .ok (.iconst 0, 1) := by decide +kernel
theorem dX6_deals_13 : decode cX6_deals 13 = .ok (.iastore, 1) := by decide +kernel
theorem dX6_deals_14 : decode cX6_deals 14 = .ok (.iinc 1 1, 3) := by decide +kernel
theorem dX6_deals_17 : decode cX6_deals 17 = .ok (.goto (-15), 3) := by decide +kernel
theorem dX6_deals_20 : decode cX6_deals 20 = .ok (.iconst 0, 1) := by decide +kernel
theorem dX6_deals_21 : decode cX6_deals 21 = .ok (.istore_n 1, 1) := by decide +kernel
theorem dX6_deals_22 : decode cX6_deals 22 = .ok (.iload_n 1, 1) := by decide +kernel
theorem dX6_deals_23 : decode cX6_deals 23 = .ok (.aload_n 0, 1) := by decide +kernel
theorem dX6_deals_24 : decode cX6_deals 24 = .ok (.getfield 65, 3) := by decide +kernel
theorem dX6_deals_27 : decode cX6_deals 27 = .ok (.if_icmp .ge 38, 3) := by decide +kernel
theorem dX6_deals_30 : decode cX6_deals 30 = .ok (.aload_n 0, 1) := by decide +kernel
theorem dX6_deals_31 : decode cX6_deals 31 = .ok (.getfield 52, 3) := by decide +kernel
theorem dX6_deals_34 : decode cX6_deals 34 = .ok (.iload_n 1, 1) := by decide +kernel
theorem dX6_deals_35 : decode cX6_deals 35 = .ok (.aload_n 0, 1) := by decide +kernel
theorem dX6_deals_36 : decode cX6_deals 36 = .ok (.invokevirtual 222, 3) := by decide +kernel
theorem dX6_deals_39 : decode cX6_deals 39 = .ok (.iastore, 1) := by decide +kernel
theorem dX6_deals_40 : decode cX6_deals 40 = .ok (.aload_n 0, 1) := by decide +kernel
theorem dX6_deals_41 : decode cX6_deals 41 = .ok (.getfield 55, 3) := by decide +kernel
theorem dX6_deals_44 : decode cX6_deals 44 = .ok (.aload_n 0, 1) := by decide +kernel
theorem dX6_deals_45 : decode cX6_deals 45 = .ok (.getfield 52, 3) := by decide +kernel
theorem dX6_deals_48 : decode cX6_deals 48 = .ok (.iload_n 1, 1) := by decide +kernel
theorem dX6_deals_49 : decode cX6_deals 49 = .ok (.iaload, 1) := by decide +kernel
theorem dX6_deals_50 : decode cX6_deals 50 = .ok (.dup2, 1) := by decide +kernel
theorem dX6_deals_51 : decode cX6_deals 51 = .ok (.iaload, 1) := by decide +kernel
theorem dX6_deals_52 : decode cX6_deals 52 = .ok (.aload_n 0, 1) := by decide +kernel
theorem dX6_deals_53 : decode cX6_deals 53 = .ok (.iload_n 1, 1) := by decide +kernel
theorem dX6_deals_54 : decode cX6_deals 54 = .ok (.invokevirtual 169, 3) := by decide +kernel
theorem dX6_deals_57 : decode cX6_deals 57 = .ok (.iadd, 1) := by decide +kernel
theorem dX6_deals_58 : decode cX6_deals 58 = .ok (.iastore, 1) := by decide +kernel
theorem dX6_deals_59 : decode cX6_deals 59 = .ok (.iinc 1 1, 3) := by decide +kernel
theorem dX6_deals_62 : decode cX6_deals 62 = .ok (.goto (-40), 3) := by decide +kernel
theorem dX6_deals_65 : decode cX6_deals 65 = .ok (.return_, 1) := by decide +kernel
theorem dX6_dealt_0 : decode cX6_dealt 0 = .ok (.aload_n 0, 1) := by decide +kernel
theorem dX6_dealt_1 : decode cX6_dealt 1 = .ok (.iload_n 1, 1) := by decide +kernel
theorem dX6_dealt_2 : decode cX6_dealt 2 = .ok (.invokevirtual 216, 3) := by decide +kernel
theorem dX6_dealt_5 : decode cX6_dealt 5 = .ok (.istore_n 2, 1) := by decide +kernel
theorem dX6_dealt_6 : decode cX6_dealt 6 = .ok (.iload_n 2, 1) := by decide +kernel
theorem dX6_dealt_7 : decode cX6_dealt 7 = .ok (.ifCond .eq 9, 3) := by decide +kernel
theorem dX6_dealt_10 : decode cX6_dealt 10 = .ok (.aload_n 0, 1) := by decide +kernel
theorem dX6_dealt_11 : decode cX6_dealt 11 = .ok (.iload_n 2, 1) := by decide +kernel
theorem dX6_dealt_12 : decode cX6_dealt 12 = .ok (.invokevirtual 79, 3) := by decide +kernel
theorem dX6_dealt_15 : decode cX6_dealt 15 = .ok (.ireturn, 1) := by decide +kernel
theorem dX6_dealt_16 : decode cX6_dealt 16 = .ok (.aload_n 0, 1) := by decide +kernel
theorem dX6_dealt_17 : decode cX6_dealt 17 = .ok (.invokevirtual 225, 3) := by decide +kernel
theorem dX6_dealt_20 : decode cX6_dealt 20 = .ok (.iload_n 1, 1) := by decide +kernel
theorem dX6_dealt_21 : decode cX6_dealt 21 = .ok (.ifCond .ge 10, 3) := by decide +kernel
theorem dX6_dealt_24 : decode cX6_dealt 24 = .ok (.aload_n 0, 1) := by decide +kernel
theorem dX6_dealt_25 : decode cX6_dealt 25 = .ok (.invokevirtual 213, 3) := by decide +kernel
theorem dX6_dealt_28 : decode cX6_dealt 28 = .ok (.goto 9, 3) := by decide +kernel
theorem dX6_dealt_31 : decode cX6_dealt 31 = .ok (.aload_n 0, 1) := by decide +kernel
theorem dX6_dealt_32 : decode cX6_dealt 32 = .ok (.getfield 52, 3) := by decide +kernel
theorem dX6_dealt_35 : decode cX6_dealt 35 = .ok (.iload_n 1, 1) := by decide +kernel
theorem dX6_dealt_36 : decode cX6_dealt 36 = .ok (.iaload, 1) := by decide +kernel
theorem dX6_dealt_37 : decode cX6_dealt 37 = .ok (.ireturn, 1) := by decide +kernel
theorem dX6_envy_0 : decode cX6_envy 0 = .ok (.aload_n 0, 1) := by decide +kernel
theorem dX6_envy_1 : decode cX6_envy 1 = .ok (.invokevirtual 219, 3) := by decide +kernel
theorem dX6_envy_4 : decode cX6_envy 4 = .ok (.pop, 1) := by decide +kernel
theorem dX6_envy_5 : decode cX6_envy 5 = .ok (.aload_n 0, 1) := by decide +kernel
theorem dX6_envy_6 : decode cX6_envy 6 = .ok (.getfield 55, 3) := by decide +kernel
theorem dX6_envy_9 : decode cX6_envy 9 = .ok (.aload_n 0, 1) := by decide +kernel
theorem dX6_envy_10 : decode cX6_envy 10 = .ok (.invokevirtual 222, 3) := by decide +kernel
theorem dX6_envy_13 : decode cX6_envy 13 = .ok (.iaload, 1) := by decide +kernel
theorem dX6_envy_14 : decode cX6_envy 14 = .ok (.istore_n 1, 1) := by decide +kernel
theorem dX6_envy_15 : decode cX6_envy 15 = .ok (.iconst 0, 1) := by decide +kernel
theorem dX6_envy_16 : decode cX6_envy 16 = .ok (.istore_n 2, 1) := by decide +kernel
theorem dX6_envy_17 : decode cX6_envy 17 = .ok (.iconst 0, 1) := by decide +kernel
theorem dX6_envy_18 : decode cX6_envy 18 = .ok (.istore_n 3, 1) := by decide +kernel
theorem dX6_envy_19 : decode cX6_envy 19 = .ok (.iload_n 3, 1) := by decide +kernel
theorem dX6_envy_20 : decode cX6_envy 20 = .ok (.aload_n 0, 1) := by decide +kernel
theorem dX6_envy_21 : decode cX6_envy 21 = .ok (.getfield 61, 3) := by decide +kernel
theorem dX6_envy_24 : decode cX6_envy 24 = .ok (.if_icmp .ge 27, 3) := by decide +kernel
theorem dX6_envy_27 : decode cX6_envy 27 = .ok (.iload_n 2, 1) := by decide +kernel
theorem dX6_envy_28 : decode cX6_envy 28 = .ok (.aload_n 0, 1) := by decide +kernel
theorem dX6_envy_29 : decode cX6_envy 29 = .ok (.getfield 55, 3) := by decide +kernel
theorem dX6_envy_32 : decode cX6_envy 32 = .ok (.iload_n 3, 1) := by decide +kernel
theorem dX6_envy_33 : decode cX6_envy 33 = .ok (.iaload, 1) := by decide +kernel
theorem dX6_envy_34 : decode cX6_envy 34 = .ok (.iload_n 1, 1) := by decide +kernel
theorem dX6_envy_35 : decode cX6_envy 35 = .ok (.if_icmp .le 7, 3) := by decide +kernel
theorem dX6_envy_38 : decode cX6_envy 38 = .ok (.iconst 1, 1) := by decide +kernel
theorem dX6_envy_39 : decode cX6_envy 39 = .ok (.goto 4, 3) := by decide +kernel
theorem dX6_envy_42 : decode cX6_envy 42 = .ok (.iconst 0, 1) := by decide +kernel
theorem dX6_envy_43 : decode cX6_envy 43 = .ok (.iadd, 1) := by decide +kernel
theorem dX6_envy_44 : decode cX6_envy 44 = .ok (.istore_n 2, 1) := by decide +kernel
theorem dX6_envy_45 : decode cX6_envy 45 = .ok (.iinc 3 1, 3) := by decide +kernel
theorem dX6_envy_48 : decode cX6_envy 48 = .ok (.goto (-29), 3) := by decide +kernel
theorem dX6_envy_51 : decode cX6_envy 51 = .ok (.iload_n 2, 1) := by decide +kernel
theorem dX6_envy_52 : decode cX6_envy 52 = .ok (.ireturn, 1) := by decide +kernel
theorem dX6_evenBy_0 : decode cX6_evenBy 0 = .ok (.iconst 0, 1) := by decide +kernel
theorem dX6_evenBy_1 : decode cX6_evenBy 1 = .ok (.istore_n 3, 1) := by decide +kernel
theorem dX6_evenBy_2 : decode cX6_evenBy 2 = .ok (.iconst 0, 1) := by decide +kernel
theorem dX6_evenBy_3 : decode cX6_evenBy 3 = .ok (.istore 4, 2) := by decide +kernel
theorem dX6_evenBy_5 : decode cX6_evenBy 5 = .ok (.iload 4, 2) := by decide +kernel
theorem dX6_evenBy_7 : decode cX6_evenBy 7 = .ok (.bipush 10, 2) := by decide +kernel
theorem dX6_evenBy_9 : decode cX6_evenBy 9 = .ok (.if_icmp .ge 28, 3) := by decide +kernel
theorem dX6_evenBy_12 : decode cX6_evenBy 12 = .ok (.iload_n 3, 1) := by decide +kernel
theorem dX6_evenBy_13 : decode cX6_evenBy 13 = .ok (.aload_n 0, 1) := by decide +kernel
theorem dX6_evenBy_14 : decode cX6_evenBy 14 = .ok (.iload_n 1, 1) := by decide +kernel
theorem dX6_evenBy_15 : decode cX6_evenBy 15 = .ok (.iload 4, 2) := by decide +kernel
theorem dX6_evenBy_17 : decode cX6_evenBy 17 = .ok (.invokevirtual 237, 3) := by decide +kernel
theorem dX6_evenBy_20 : decode cX6_evenBy 20 = .ok (.iload_n 2, 1) := by decide +kernel
theorem dX6_evenBy_21 : decode cX6_evenBy 21 = .ok (.if_icmp .lt 7, 3) := by decide +kernel
theorem dX6_evenBy_24 : decode cX6_evenBy 24 = .ok (.iconst 1, 1) := by decide +kernel
theorem dX6_evenBy_25 : decode cX6_evenBy 25 = .ok (.goto 4, 3) := by decide +kernel
theorem dX6_evenBy_28 : decode cX6_evenBy 28 = .ok (.iconst 0, 1) := by decide +kernel
theorem dX6_evenBy_29 : decode cX6_evenBy 29 = .ok (.iadd, 1) := by decide +kernel
theorem dX6_evenBy_30 : decode cX6_evenBy 30 = .ok (.istore_n 3, 1) := by decide +kernel
theorem dX6_evenBy_31 : decode cX6_evenBy 31 = .ok (.iinc 4 1, 3) := by decide +kernel
theorem dX6_evenBy_34 : decode cX6_evenBy 34 = .ok (.goto (-29), 3) := by decide +kernel
theorem dX6_evenBy_37 : decode cX6_evenBy 37 = .ok (.iload_n 3, 1) := by decide +kernel
theorem dX6_evenBy_38 : decode cX6_evenBy 38 = .ok (.iconst 5, 1) := by decide +kernel
theorem dX6_evenBy_39 : decode cX6_evenBy 39 = .ok (.if_icmp .ge 7, 3) := by decide +kernel
theorem dX6_evenBy_42 : decode cX6_evenBy 42 = .ok (.iload_n 3, 1) := by decide +kernel
theorem dX6_evenBy_43 : decode cX6_evenBy 43 = .ok (.goto 7, 3) := by decide +kernel
theorem dX6_evenBy_46 : decode cX6_evenBy 46 = .ok (.bipush 10, 2) := by decide +kernel
theorem dX6_evenBy_48 : decode cX6_evenBy 48 = .ok (.iload_n 3, 1) := by decide +kernel
theorem dX6_evenBy_49 : decode cX6_evenBy 49 = .ok (.isub, 1) := by decide +kernel
theorem dX6_evenBy_50 : decode cX6_evenBy 50 = .ok (.ireturn, 1) := by decide +kernel
theorem dX6_findPlacing_0 : decode cX6_findPlacing 0 = .ok (.aload_n 0, 1) := by decide +kernel
theorem dX6_findPlacing_1 : decode cX6_findPlacing 1 = .ok (.iconst 1, 1) := by decide +kernel
theorem dX6_findPlacing_2 : decode cX6_findPlacing 2 = .ok (.iconst 1, 1) := by decide +kernel
theorem dX6_findPlacing_3 : decode cX6_findPlacing 3 = .ok (.invokevirtual 139, 3) := by decide +kernel
theorem dX6_findPlacing_6 : decode cX6_findPlacing 6 = .ok (.aload_n 0, 1) := by decide +kernel
theorem dX6_findPlacing_7 : decode cX6_findPlacing 7 = .ok (.bipush (-9), 2) := by decide +kernel
theorem dX6_findPlacing_9 : decode cX6_findPlacing 9 = .ok (.putfield 187, 3) := by decide +kernel
theorem dX6_findPlacing_12 : decode cX6_findPlacing 12 = .ok (.iconst 0, 1) := by decide +kernel
theorem dX6_findPlacing_13 : decode cX6_findPlacing 13 = .ok (.istore_n 3, 1) := by decide +kernel
theorem dX6_findPlacing_14 : decode cX6_findPlacing 14 = .ok (.iload_n 3, 1) := by decide +kernel
theorem dX6_findPlacing_15 : decode cX6_findPlacing 15 = .ok (.bipush 6, 2) := by decide +kernel
theorem dX6_findPlacing_17 : decode cX6_findPlacing 17 = .ok (.aload_n 0, 1) := by decide +kernel
theorem dX6_findPlacing_18 : decode cX6_findPlacing 18 = .ok (.getfield 65, 3) := by decide +kernel
theorem dX6_findPlacing_21 : decode cX6_findPlacing 21 = .ok (.invokestatic 190, 3) := by decide +kernel
theorem dX6_findPlacing_24 : decode cX6_findPlacing 24 = .ok (.if_icmp .ge 99, 3) := by decide +kernel
theorem dX6_findPlacing_27 : decode cX6_findPlacing 27 = .ok (.aload_n 0, 1) := by decide +kernel
theorem dX6_findPlacing_28 : decode cX6_findPlacing 28 = .ok (.iload_n 1, 1) := by decide +kernel
theorem dX6_findPlacing_29 : decode cX6_findPlacing 29 = .ok (.iload_n 3, 1) := by decide +kernel
theorem dX6_findPlacing_30 : decode cX6_findPlacing 30 = .ok (.invokevirtual 194, 3) := by decide +kernel
theorem dX6_findPlacing_33 : decode cX6_findPlacing 33 = .ok (.ifCond .ne 6, 3) := by decide +kernel
theorem dX6_findPlacing_36 : decode cX6_findPlacing 36 = .ok (.goto 81, 3) := by decide +kernel
theorem dX6_findPlacing_39 : decode cX6_findPlacing 39 = .ok (.iload_n 2, 1) := by decide +kernel
theorem dX6_findPlacing_40 : decode cX6_findPlacing 40 = .ok (.ifCond .ne 14, 3) := by decide +kernel
theorem dX6_findPlacing_43 : decode cX6_findPlacing 43 = .ok (.aload_n 0, 1) := by decide +kernel
theorem dX6_findPlacing_44 : decode cX6_findPlacing 44 = .ok (.aload_n 0, 1) := by decide +kernel
theorem dX6_findPlacing_45 : decode cX6_findPlacing 45 = .ok (.invokevirtual 197, 3) := by decide +kernel
theorem dX6_findPlacing_48 : decode cX6_findPlacing 48 = .ok (.invokevirtual 178, 3) := by decide +kernel
theorem dX6_findPlacing_51 : decode cX6_findPlacing 51 = .ok (.goto 7, 3) := by decide +kernel
theorem dX6_findPlacing_54 : decode cX6_findPlacing 54 = .ok (.aload_n 0, 1) := by decide +kernel
theorem dX6_findPlacing_55 : decode cX6_findPlacing 55 = .ok (.invokevirtual 200, 3) := by decide +kernel
theorem dX6_findPlacing_58 : decode cX6_findPlacing 58 = .ok (.istore 4, 2) := by decide +kernel
theorem dX6_findPlacing_60 : decode cX6_findPlacing 60 = .ok (.aload_n 0, 1) := by decide +kernel
theorem dX6_findPlacing_61 : decode cX6_findPlacing 61 = .ok (.getfield 187, 3) := by decide +kernel
theorem dX6_findPlacing_64 : decode cX6_findPlacing 64 = .ok (.ifCond .lt 15, 3) := by decide +kernel
theorem dX6_findPlacing_67 : decode cX6_findPlacing 67 = .ok (.iload 4, 2) := by decide +kernel
theorem dX6_findPlacing_69 : decode cX6_findPlacing 69 = .ok (.aload_n 0, 1) := by decide +kernel
theorem dX6_findPlacing_70 : decode cX6_findPlacing 70 = .ok (.getfield 187, 3) := by decide +kernel
theorem dX6_findPlacing_73 : decode cX6_findPlacing 73 = .ok (.if_icmp .lt 6, 3) := by decide +kernel
theorem dX6_findPlacing_76 : decode cX6_findPlacing 76 = .ok (.goto 41, 3) := by decide +kernel
theorem dX6_findPlacing_79 : decode cX6_findPlacing 79 = .ok (.aload_n 0, 1) := by decide +kernel
theorem dX6_findPlacing_80 : decode cX6_findPlacing 80 = .ok (.iload 4, 2) := by decide +kernel
theorem dX6_findPlacing_82 : decode cX6_findPlacing 82 = .ok (.putfield 187, 3) := by decide +kernel
theorem dX6_findPlacing_85 : decode cX6_findPlacing 85 = .ok (.iconst 0, 1) := by decide +kernel
theorem dX6_findPlacing_86 : decode cX6_findPlacing 86 = .ok (.istore 5, 2) := by decide +kernel
theorem dX6_findPlacing_88 : decode cX6_findPlacing 88 = .ok (.iload 5, 2) := by decide +kernel
theorem dX6_findPlacing_90 : decode cX6_findPlacing 90 = .ok (.aload_n 0, 1) := by decide +kernel
theorem dX6_findPlacing_91 : decode cX6_findPlacing 91 = .ok (.getfield 65, 3) := by decide +kernel
theorem dX6_findPlacing_94 : decode cX6_findPlacing 94 = .ok (.if_icmp .ge 23, 3) := by decide +kernel
theorem dX6_findPlacing_97 : decode cX6_findPlacing 97 = .ok (.aload_n 0, 1) := by decide +kernel
theorem dX6_findPlacing_98 : decode cX6_findPlacing 98 = .ok (.getfield 49, 3) := by decide +kernel
theorem dX6_findPlacing_101 : decode cX6_findPlacing 101 = .ok (.iload 5, 2) := by decide +kernel
theorem dX6_findPlacing_103 : decode cX6_findPlacing 103 = .ok (.aload_n 0, 1) := by decide +kernel
theorem dX6_findPlacing_104 : decode cX6_findPlacing 104 = .ok (.getfield 31, 3) := by decide +kernel
theorem dX6_findPlacing_107 : decode cX6_findPlacing 107 = .ok (.iload 5, 2) := by decide +kernel
theorem dX6_findPlacing_109 : decode cX6_findPlacing 109 = .ok (.iaload, 1) := by decide +kernel
theorem dX6_findPlacing_110 : decode cX6_findPlacing 110 = .ok (.iastore, 1) := by decide +kernel
theorem dX6_findPlacing_111 : decode cX6_findPlacing 111 = .ok (.iinc 5 1, 3) := by decide +kernel
theorem dX6_findPlacing_114 : decode cX6_findPlacing 114 = .ok (.goto (-26), 3) := by decide +kernel
theorem dX6_findPlacing_117 : decode cX6_findPlacing 117 = .ok (.iinc 3 1, 3) := by decide +kernel
theorem dX6_findPlacing_120 : decode cX6_findPlacing 120 = .ok (.goto (-106), 3) := by decide +kernel
theorem dX6_findPlacing_123 : decode cX6_findPlacing 123 = .ok (.aload_n 0, 1) := by decide +kernel
theorem dX6_findPlacing_124 : decode cX6_findPlacing 124 = .ok (.iconst 1, 1) := by decide +kernel
theorem dX6_findPlacing_125 : decode cX6_findPlacing 125 = .ok (.iconst 0, 1) := by decide +kernel
theorem dX6_findPlacing_126 : decode cX6_findPlacing 126 = .ok (.invokevirtual 139, 3) := by decide +kernel
theorem dX6_findPlacing_129 : decode cX6_findPlacing 129 = .ok (.return_, 1) := by decide +kernel
theorem dX6_findShares_0 : decode cX6_findShares 0 = .ok (.iconst 0, 1) := by decide +kernel
theorem dX6_findShares_1 : decode cX6_findShares 1 = .ok (.istore_n 1, 1) := by decide +kernel
theorem dX6_findShares_2 : decode cX6_findShares 2 = .ok (.bipush (-9), 2) := by decide +kernel
theorem dX6_findShares_4 : decode cX6_findShares 4 = .ok (.istore_n 2, 1) := by decide +kernel
theorem dX6_findShares_5 : decode cX6_findShares 5 = .ok (.iconst 0, 1) := by decide +kernel
theorem dX6_findShares_6 : decode cX6_findShares 6 = .ok (.istore_n 3, 1) := by decide +kernel
theorem dX6_findShares_7 : decode cX6_findShares 7 = .ok (.iload_n 3, 1) := by decide +kernel
theorem dX6_findShares_8 : decode cX6_findShares 8 = .ok (.aload_n 0, 1) := by decide +kernel
theorem dX6_findShares_9 : decode cX6_findShares 9 = .ok (.getfield 61, 3) := by decide +kernel
theorem dX6_findShares_12 : decode cX6_findShares 12 = .ok (.aload_n 0, 1) := by decide +kernel
theorem dX6_findShares_13 : decode cX6_findShares 13 = .ok (.getfield 65, 3) := by decide +kernel
theorem dX6_findShares_16 : decode cX6_findShares 16 = .ok (.invokestatic 190, 3) := by decide +kernel
theorem dX6_findShares_19 : decode cX6_findShares 19 = .ok (.if_icmp .ge 36, 3) := by decide +kernel
theorem dX6_findShares_22 : decode cX6_findShares 22 = .ok (.aload_n 0, 1) := by decide +kernel
theorem dX6_findShares_23 : decode cX6_findShares 23 = .ok (.iload_n 3, 1) := by decide +kernel
theorem dX6_findShares_24 : decode cX6_findShares 24 = .ok (.invokevirtual 210, 3) := by decide +kernel
theorem dX6_findShares_27 : decode cX6_findShares 27 = .ok (.iload_n 2, 1) := by decide +kernel
theorem dX6_findShares_28 : decode cX6_findShares 28 = .ok (.ifCond .lt 14, 3) := by decide +kernel
theorem dX6_findShares_31 : decode cX6_findShares 31 = .ok (.aload_n 0, 1) := by decide +kernel
theorem dX6_findShares_32 : decode cX6_findShares 32 = .ok (.invokevirtual 213, 3) := by decide +kernel
theorem dX6_findShares_35 : decode cX6_findShares 35 = .ok (.iload_n 2, 1) := by decide +kernel
theorem dX6_findShares_36 : decode cX6_findShares 36 = .ok (.if_icmp .lt 6, 3) := by decide +kernel
theorem dX6_findShares_39 : decode cX6_findShares 39 = .ok (.goto 10, 3) := by decide +kernel
theorem dX6_findShares_42 : decode cX6_findShares 42 = .ok (.iload_n 3, 1) := by decide +kernel
theorem dX6_findShares_43 : decode cX6_findShares 43 = .ok (.istore_n 1, 1) := by decide +kernel
theorem dX6_findShares_44 : decode cX6_findShares 44 = .ok (.aload_n 0, 1) := by decide +kernel
theorem dX6_findShares_45 : decode cX6_findShares 45 = .ok (.invokevirtual 213, 3) := by decide +kernel
theorem dX6_findShares_48 : decode cX6_findShares 48 = .ok (.istore_n 2, 1) := by decide +kernel
theorem dX6_findShares_49 : decode cX6_findShares 49 = .ok (.iinc 3 1, 3) := by decide +kernel
theorem dX6_findShares_52 : decode cX6_findShares 52 = .ok (.goto (-45), 3) := by decide +kernel
theorem dX6_findShares_55 : decode cX6_findShares 55 = .ok (.aload_n 0, 1) := by decide +kernel
theorem dX6_findShares_56 : decode cX6_findShares 56 = .ok (.iload_n 1, 1) := by decide +kernel
theorem dX6_findShares_57 : decode cX6_findShares 57 = .ok (.invokevirtual 210, 3) := by decide +kernel
theorem dX6_findShares_60 : decode cX6_findShares 60 = .ok (.iload_n 2, 1) := by decide +kernel
theorem dX6_findShares_61 : decode cX6_findShares 61 = .ok (.ireturn, 1) := by decide +kernel
theorem dX6_firstOther_0 : decode cX6_firstOther 0 = .ok (.iconst 0, 1) := by decide +kernel
theorem dX6_firstOther_1 : decode cX6_firstOther 1 = .ok (.istore_n 1, 1) := by decide +kernel
theorem dX6_firstOther_2 : decode cX6_firstOther 2 = .ok (.iload_n 1, 1) := by decide +kernel
theorem dX6_firstOther_3 : decode cX6_firstOther 3 = .ok (.aload_n 0, 1) := by decide +kernel
theorem dX6_firstOther_4 : decode cX6_firstOther 4 = .ok (.getfield 249, 3) := by decide +kernel
theorem dX6_firstOther_7 : decode cX6_firstOther 7 = .ok (.if_icmp .ge 38, 3) := by decide +kernel
theorem dX6_firstOther_10 : decode cX6_firstOther 10 = .ok (.aload_n 0, 1) := by decide +kernel
theorem dX6_firstOther_11 : decode cX6_firstOther 11 = .ok (.iload_n 1, 1) := by decide +kernel
theorem dX6_firstOther_12 : decode cX6_firstOther 12 = .ok (.invokevirtual 240, 3) := by decide +kernel
theorem dX6_firstOther_15 : decode cX6_firstOther 15 = .ok (.istore_n 2, 1) := by decide +kernel
theorem dX6_firstOther_16 : decode cX6_firstOther 16 = .ok (.iload_n 2, 1) := by decide +kernel
theorem dX6_firstOther_17 : decode cX6_firstOther 17 = .ok (.bipush 99, 2) := by decide +kernel
theorem dX6_firstOther_19 : decode cX6_firstOther 19 = .ok (.if_icmp .le 8, 3) := by decide +kernel
theorem dX6_firstOther_22 : decode cX6_firstOther 22 = .ok (.bipush 99, 2) := by decide +kernel
theorem dX6_firstOther_24 : decode cX6_firstOther 24 = .ok (.goto 4, 3) := by decide +kernel
theorem dX6_firstOther_27 : decode cX6_firstOther 27 = .ok (.iload_n 2, 1) := by decide +kernel
theorem dX6_firstOther_28 : decode cX6_firstOther 28 = .ok (.aload_n 0, 1) := by decide +kernel
theorem dX6_firstOther_29 : decode cX6_firstOther 29 = .ok (.getfield 58, 3) := by decide +kernel
theorem dX6_firstOther_32 : decode cX6_firstOther 32 = .ok (.iload_n 1, 1) := by decide +kernel
theorem dX6_firstOther_33 : decode cX6_firstOther 33 = .ok (.iaload, 1) := by decide +kernel
theorem dX6_firstOther_34 : decode cX6_firstOther 34 = .ok (.if_icmp .eq 5, 3) := by decide +kernel
theorem dX6_firstOther_37 : decode cX6_firstOther 37 = .ok (.iload_n 1, 1) := by decide +kernel
theorem dX6_firstOther_38 : decode cX6_firstOther 38 = .ok (.ireturn, 1) := by decide +kernel
theorem dX6_firstOther_39 : decode cX6_firstOther 39 = .ok (.iinc 1 1, 3) := by decide +kernel
theorem dX6_firstOther_42 : decode cX6_firstOther 42 = .ok (.goto (-40), 3) := by decide +kernel
theorem dX6_firstOther_45 : decode cX6_firstOther 45 = .ok (.bipush (-9), 2) := by decide +kernel
theorem dX6_firstOther_47 : decode cX6_firstOther 47 = .ok (.ireturn, 1) := by decide +kernel
theorem dX6_fits_0 : decode cX6_fits 0 = .ok (.aload_n 0, 1) := by decide +kernel
theorem dX6_fits_1 : decode cX6_fits 1 = .ok (.iload_n 1, 1) := by decide +kernel
theorem dX6_fits_2 : decode cX6_fits 2 = .ok (.invokevirtual 116, 3) := by decide +kernel
theorem dX6_fits_5 : decode cX6_fits 5 = .ok (.ifCond .ne 9, 3) := by decide +kernel
theorem dX6_fits_8 : decode cX6_fits 8 = .ok (.aload_n 0, 1) := by decide +kernel
theorem dX6_fits_9 : decode cX6_fits 9 = .ok (.iconst (-1), 1) := by decide +kernel
theorem dX6_fits_10 : decode cX6_fits 10 = .ok (.invokevirtual 79, 3) := by decide +kernel
theorem dX6_fits_13 : decode cX6_fits 13 = .ok (.ireturn, 1) := by decide +kernel
theorem dX6_fits_14 : decode cX6_fits 14 = .ok (.aload_n 0, 1) := by decide +kernel
theorem dX6_fits_15 : decode cX6_fits 15 = .ok (.getfield 19, 3) := by decide +kernel
theorem dX6_fits_18 : decode cX6_fits 18 = .ok (.iload_n 1, 1) := by decide +kernel
theorem dX6_fits_19 : decode cX6_fits 19 = .ok (.iaload, 1) := by decide +kernel
theorem dX6_fits_20 : decode cX6_fits 20 = .ok (.istore_n 2, 1) := by decide +kernel
theorem dX6_fits_21 : decode cX6_fits 21 = .ok (.iconst 0, 1) := by decide +kernel
theorem dX6_fits_22 : decode cX6_fits 22 = .ok (.istore_n 3, 1) := by decide +kernel
theorem dX6_fits_23 : decode cX6_fits 23 = .ok (.iconst 0, 1) := by decide +kernel
theorem dX6_fits_24 : decode cX6_fits 24 = .ok (.istore 4, 2) := by decide +kernel
theorem dX6_fits_26 : decode cX6_fits 26 = .ok (.iload 4, 2) := by decide +kernel
theorem dX6_fits_28 : decode cX6_fits 28 = .ok (.bipush 6, 2) := by decide +kernel
theorem dX6_fits_30 : decode cX6_fits 30 = .ok (.if_icmp .ge 35, 3) := by decide +kernel
theorem dX6_fits_33 : decode cX6_fits 33 = .ok (.aload_n 0, 1) := by decide +kernel
theorem dX6_fits_34 : decode cX6_fits 34 = .ok (.getfield 19, 3) := by decide +kernel
theorem dX6_fits_37 : decode cX6_fits 37 = .ok (.iload_n 1, 1) := by decide +kernel
theorem dX6_fits_38 : decode cX6_fits 38 = .ok (.iload 4, 2) := by decide +kernel
theorem dX6_fits_40 : decode cX6_fits 40 = .ok (.iastore, 1) := by decide +kernel
theorem dX6_fits_41 : decode cX6_fits 41 = .ok (.iload_n 3, 1) := by decide +kernel
theorem dX6_fits_42 : decode cX6_fits 42 = .ok (.aload_n 0, 1) := by decide +kernel
theorem dX6_fits_43 : decode cX6_fits 43 = .ok (.invokevirtual 252, 3) := by decide +kernel
theorem dX6_fits_46 : decode cX6_fits 46 = .ok (.ifCond .ge 10, 3) := by decide +kernel
theorem dX6_fits_49 : decode cX6_fits 49 = .ok (.iconst 1, 1) := by decide +kernel
theorem dX6_fits_50 : decode cX6_fits 50 = .ok (.iload 4, 2) := by decide +kernel
theorem dX6_fits_52 : decode cX6_fits 52 = .ok (.ishl, 1) := by decide +kernel
theorem dX6_fits_53 : decode cX6_fits 53 = .ok (.goto 4, 3) := by decide +kernel
theorem dX6_fits_56 : decode cX6_fits 56 = .ok (.iconst 0, 1) := by decide +kernel
theorem dX6_fits_57 : decode cX6_fits 57 = .ok (.ior, 1) := by decide +kernel
theorem dX6_fits_58 : decode cX6_fits 58 = .ok (.istore_n 3, 1) := by decide +kernel
theorem dX6_fits_59 : decode cX6_fits 59 = .ok (.iinc 4 1, 3) := by decide +kernel
theorem dX6_fits_62 : decode cX6_fits 62 = .ok (.goto (-36), 3) := by decide +kernel
theorem dX6_fits_65 : decode cX6_fits 65 = .ok (.aload_n 0, 1) := by decide +kernel
theorem dX6_fits_66 : decode cX6_fits 66 = .ok (.getfield 19, 3) := by decide +kernel
theorem dX6_fits_69 : decode cX6_fits 69 = .ok (.iload_n 1, 1) := by decide +kernel
theorem dX6_fits_70 : decode cX6_fits 70 = .ok (.iload_n 2, 1) := by decide +kernel
theorem dX6_fits_71 : decode cX6_fits 71 = .ok (.iastore, 1) := by decide +kernel
theorem dX6_fits_72 : decode cX6_fits 72 = .ok (.iload_n 3, 1) := by decide +kernel
theorem dX6_fits_73 : decode cX6_fits 73 = .ok (.ireturn, 1) := by decide +kernel
theorem dX6_givesAll_0 : decode cX6_givesAll 0 = .ok (.iconst 0, 1) := by decide +kernel
theorem dX6_givesAll_1 : decode cX6_givesAll 1 = .ok (.istore_n 1, 1) := by decide +kernel
theorem dX6_givesAll_2 : decode cX6_givesAll 2 = .ok (.iload_n 1, 1) := by decide +kernel
theorem dX6_givesAll_3 : decode cX6_givesAll 3 = .ok (.iconst 4, 1) := by decide +kernel
theorem dX6_givesAll_4 : decode cX6_givesAll 4 = .ok (.if_icmp .ge 16, 3) := by decide +kernel
theorem dX6_givesAll_7 : decode cX6_givesAll 7 = .ok (.aload_n 0, 1) := by decide +kernel
theorem dX6_givesAll_8 : decode cX6_givesAll 8 = .ok (.getfield 55, 3) := by decide +kernel
theorem dX6_givesAll_11 : decode cX6_givesAll 11 = .ok (.iload_n 1, 1) := by decide +kernel
theorem dX6_givesAll_12 : decode cX6_givesAll 12 = .ok (.iconst 0, 1) := by decide +kernel
theorem dX6_givesAll_13 : decode cX6_givesAll 13 = .ok (.iastore, 1) := by decide +kernel
theorem dX6_givesAll_14 : decode cX6_givesAll 14 = .ok (.iinc 1 1, 3) := by decide +kernel
theorem dX6_givesAll_17 : decode cX6_givesAll 17 = .ok (.goto (-15), 3) := by decide +kernel
theorem dX6_givesAll_20 : decode cX6_givesAll 20 = .ok (.iconst 0, 1) := by decide +kernel
theorem dX6_givesAll_21 : decode cX6_givesAll 21 = .ok (.istore_n 1, 1) := by decide +kernel
theorem dX6_givesAll_22 : decode cX6_givesAll 22 = .ok (.iload_n 1, 1) := by decide +kernel
theorem dX6_givesAll_23 : decode cX6_givesAll 23 = .ok (.aload_n 0, 1) := by decide +kernel
theorem dX6_givesAll_24 : decode cX6_givesAll 24 = .ok (.getfield 65, 3) := by decide +kernel
theorem dX6_givesAll_27 : decode cX6_givesAll 27 = .ok (.if_icmp .ge 28, 3) := by decide +kernel
theorem dX6_givesAll_30 : decode cX6_givesAll 30 = .ok (.aload_n 0, 1) := by decide +kernel
theorem dX6_givesAll_31 : decode cX6_givesAll 31 = .ok (.getfield 55, 3) := by decide +kernel
theorem dX6_givesAll_34 : decode cX6_givesAll 34 = .ok (.aload_n 0, 1) := by decide +kernel
theorem dX6_givesAll_35 : decode cX6_givesAll 35 = .ok (.getfield 52, 3) := by decide +kernel
theorem dX6_givesAll_38 : decode cX6_givesAll 38 = .ok (.iload_n 1, 1) := by decide +kernel
theorem dX6_givesAll_39 : decode cX6_givesAll 39 = .ok (.iaload, 1) := by decide +kernel
theorem dX6_givesAll_40 : decode cX6_givesAll 40 = .ok (.dup2, 1) := by decide +kernel
theorem dX6_givesAll_41 : decode cX6_givesAll 41 = .ok (.iaload, 1) := by decide +kernel
theorem dX6_givesAll_42 : decode cX6_givesAll 42 = .ok (.aload_n 0, 1) := by decide +kernel
theorem dX6_givesAll_43 : decode cX6_givesAll 43 = .ok (.iload_n 1, 1) := by decide +kernel
theorem dX6_givesAll_44 : decode cX6_givesAll 44 = .ok (.invokevirtual 169, 3) := by decide +kernel
theorem dX6_givesAll_47 : decode cX6_givesAll 47 = .ok (.iadd, 1) := by decide +kernel
theorem dX6_givesAll_48 : decode cX6_givesAll 48 = .ok (.iastore, 1) := by decide +kernel
theorem dX6_givesAll_49 : decode cX6_givesAll 49 = .ok (.iinc 1 1, 3) := by decide +kernel
theorem dX6_givesAll_52 : decode cX6_givesAll 52 = .ok (.goto (-30), 3) := by decide +kernel
theorem dX6_givesAll_55 : decode cX6_givesAll 55 = .ok (.return_, 1) := by decide +kernel
theorem dX6_goes_0 : decode cX6_goes 0 = .ok (.iconst 0, 1) := by decide +kernel
theorem dX6_goes_1 : decode cX6_goes 1 = .ok (.istore_n 2, 1) := by decide +kernel
theorem dX6_goes_2 : decode cX6_goes 2 = .ok (.iload_n 2, 1) := by decide +kernel
theorem dX6_goes_3 : decode cX6_goes 3 = .ok (.iload_n 1, 1) := by decide +kernel
theorem dX6_goes_4 : decode cX6_goes 4 = .ok (.if_icmp .ge 103, 3) := by decide +kernel
theorem dX6_goes_7 : decode cX6_goes 7 = .ok (.aload_n 0, 1) := by decide +kernel
theorem dX6_goes_8 : decode cX6_goes 8 = .ok (.dup, 1) := by decide +kernel
theorem dX6_goes_9 : decode cX6_goes 9 = .ok (.getfield 128, 3) := by decide +kernel
theorem dX6_goes_12 : decode cX6_goes 12 = .ok (.iconst 1, 1) := by decide +kernel
theorem dX6_goes_13 : decode cX6_goes 13 = .ok (.iadd, 1) := by decide +kernel
theorem dX6_goes_14 : decode cX6_goes 14 = .ok (.putfield 128, 3) := by decide +kernel
theorem dX6_goes_17 : decode cX6_goes 17 = .ok (.iconst 0, 1) := by decide +kernel
theorem dX6_goes_18 : decode cX6_goes 18 = .ok (.istore_n 3, 1) := by decide +kernel
theorem dX6_goes_19 : decode cX6_goes 19 = .ok (.iload_n 3, 1) := by decide +kernel
theorem dX6_goes_20 : decode cX6_goes 20 = .ok (.aload_n 0, 1) := by decide +kernel
theorem dX6_goes_21 : decode cX6_goes 21 = .ok (.getfield 65, 3) := by decide +kernel
theorem dX6_goes_24 : decode cX6_goes 24 = .ok (.if_icmp .ge 77, 3) := by decide +kernel
theorem dX6_goes_27 : decode cX6_goes 27 = .ok (.aload_n 0, 1) := by decide +kernel
theorem dX6_goes_28 : decode cX6_goes 28 = .ok (.getfield 28, 3) := by decide +kernel
theorem dX6_goes_31 : decode cX6_goes 31 = .ok (.iload_n 3, 1) := by decide +kernel
theorem dX6_goes_32 : decode cX6_goes 32 = .ok (.dup2, 1) := by decide +kernel
theorem dX6_goes_33 : decode cX6_goes 33 = .ok (.iaload, 1) := by decide +kernel
theorem dX6_goes_34 : decode cX6_goes 34 = .ok (.aload_n 0, 1) := by decide +kernel
theorem dX6_goes_35 : decode cX6_goes 35 = .ok (.getfield 28, 3) := by decide +kernel
theorem dX6_goes_38 : decode cX6_goes 38 = .ok (.iload_n 3, 1) := by decide +kernel
theorem dX6_goes_39 : decode cX6_goes 39 = .ok (.iaload, 1) := by decide +kernel
theorem dX6_goes_40 : decode cX6_goes 40 = .ok (.bipush 99, 2) := by decide +kernel
theorem dX6_goes_42 : decode cX6_goes 42 = .ok (.if_icmp .ge 7, 3) := by decide +kernel
theorem dX6_goes_45 : decode cX6_goes 45 = .ok (.iconst 1, 1) := by decide +kernel
theorem dX6_goes_46 : decode cX6_goes 46 = .ok (.goto 4, 3) := by decide +kernel
theorem dX6_goes_49 : decode cX6_goes 49 = .ok (.iconst 0, 1) := by decide +kernel
theorem dX6_goes_50 : decode cX6_goes 50 = .ok (.iadd, 1) := by decide +kernel
theorem dX6_goes_51 : decode cX6_goes 51 = .ok (.iastore, 1) := by decide +kernel
theorem dX6_goes_52 : decode cX6_goes 52 = .ok (.aload_n 0, 1) := by decide +kernel
theorem dX6_goes_53 : decode cX6_goes 53 = .ok (.getfield 25, 3) := by decide +kernel
theorem dX6_goes_56 : decode cX6_goes 56 = .ok (.iload_n 3, 1) := by decide +kernel
theorem dX6_goes_57 : decode cX6_goes 57 = .ok (.dup2, 1) := by decide +kernel
theorem dX6_goes_58 : decode cX6_goes 58 = .ok (.iaload, 1) := by decide +kernel
theorem dX6_goes_59 : decode cX6_goes 59 = .ok (.aload_n 0, 1) := by decide +kernel
theorem dX6_goes_60 : decode cX6_goes 60 = .ok (.getfield 128, 3) := by decide +kernel
theorem dX6_goes_63 : decode cX6_goes 63 = .ok (.bipush 10, 2) := by decide +kernel
theorem dX6_goes_65 : decode cX6_goes 65 = .ok (.irem, 1) := by decide +kernel
theorem dX6_goes_66 : decode cX6_goes 66 = .ok (.ifCond .ne 26, 3) := by decide +kernel
theorem dX6_goes_69 : decode cX6_goes 69 = .ok (.aload_n 0, 1) := by decide +kernel
theorem dX6_goes_70 : decode cX6_goes 70 = .ok (.getfield 19, 3) := by decide +kernel
theorem dX6_goes_73 : decode cX6_goes 73 = .ok (.iload_n 3, 1) := by decide +kernel
theorem dX6_goes_74 : decode cX6_goes 74 = .ok (.iaload, 1) := by decide +kernel
theorem dX6_goes_75 : decode cX6_goes 75 = .ok (.iconst 3, 1) := by decide +kernel
theorem dX6_goes_76 : decode cX6_goes 76 = .ok (.if_icmp .eq 16, 3) := by decide +kernel
theorem dX6_goes_79 : decode cX6_goes 79 = .ok (.aload_n 0, 1) := by decide +kernel
theorem dX6_goes_80 : decode cX6_goes 80 = .ok (.getfield 25, 3) := by decide +kernel
theorem dX6_goes_83 : decode cX6_goes 83 = .ok (.iload_n 3, 1) := by decide +kernel
theorem dX6_goes_84 : decode cX6_goes 84 = .ok (.iaload, 1) := by decide +kernel
theorem dX6_goes_85 : decode cX6_goes 85 = .ok (.ifCond .le 7, 3) := by decide +kernel
theorem dX6_goes_88 : decode cX6_goes 88 = .ok (.iconst 1, 1) := by decide +kernel
theorem dX6_goes_89 : decode cX6_goes 89 = .ok (.goto 4, 3) := by decide +kernel
theorem dX6_goes_92 : decode cX6_goes 92 = .ok (.iconst 0, 1) := by decide +kernel
theorem dX6_goes_93 : decode cX6_goes 93 = .ok (.isub, 1) := by decide +kernel
theorem dX6_goes_94 : decode cX6_goes 94 = .ok (.iastore, 1) := by decide +kernel
theorem dX6_goes_95 : decode cX6_goes 95 = .ok (.iinc 3 1, 3) := by decide +kernel
theorem dX6_goes_98 : decode cX6_goes 98 = .ok (.goto (-79), 3) := by decide +kernel
theorem dX6_goes_101 : decode cX6_goes 101 = .ok (.iinc 2 1, 3) := by decide +kernel
theorem dX6_goes_104 : decode cX6_goes 104 = .ok (.goto (-102), 3) := by decide +kernel
theorem dX6_goes_107 : decode cX6_goes 107 = .ok (.return_, 1) := by decide +kernel
theorem dX6_gone_0 : decode cX6_gone 0 = .ok (.iload_n 1, 1) := by decide +kernel
theorem dX6_gone_1 : decode cX6_gone 1 = .ok (.iconst 0, 1) := by decide +kernel
theorem dX6_gone_2 : decode cX6_gone 2 = .ok (.sipush 999, 3) := by decide +kernel
theorem dX6_gone_5 : decode cX6_gone 5 = .ok (.invokestatic 72, 3) := by decide +kernel
theorem dX6_gone_8 : decode cX6_gone 8 = .ok (.istore_n 2, 1) := by decide +kernel
theorem dX6_gone_9 : decode cX6_gone 9 = .ok (.iload_n 2, 1) := by decide +kernel
theorem dX6_gone_10 : decode cX6_gone 10 = .ok (.ifCond .eq 9, 3) := by decide +kernel
theorem dX6_gone_13 : decode cX6_gone 13 = .ok (.aload_n 0, 1) := by decide +kernel
theorem dX6_gone_14 : decode cX6_gone 14 = .ok (.iload_n 2, 1) := by decide +kernel
theorem dX6_gone_15 : decode cX6_gone 15 = .ok (.invokevirtual 79, 3) := by decide +kernel
theorem dX6_gone_18 : decode cX6_gone 18 = .ok (.ireturn, 1) := by decide +kernel
theorem dX6_gone_19 : decode cX6_gone 19 = .ok (.iconst 0, 1) := by decide +kernel
theorem dX6_gone_20 : decode cX6_gone 20 = .ok (.istore_n 3, 1) := by decide +kernel
theorem dX6_gone_21 : decode cX6_gone 21 = .ok (.iload_n 3, 1) := by decide +kernel
theorem dX6_gone_22 : decode cX6_gone 22 = .ok (.sipush 200, 3) := by decide +kernel
theorem dX6_gone_25 : decode cX6_gone 25 = .ok (.if_icmp .gt 20, 3) := by decide +kernel
theorem dX6_gone_28 : decode cX6_gone 28 = .ok (.aload_n 0, 1) := by decide +kernel
theorem dX6_gone_29 : decode cX6_gone 29 = .ok (.iload_n 3, 1) := by decide +kernel
theorem dX6_gone_30 : decode cX6_gone 30 = .ok (.invokevirtual 240, 3) := by decide +kernel
theorem dX6_gone_33 : decode cX6_gone 33 = .ok (.iload_n 1, 1) := by decide +kernel
theorem dX6_gone_34 : decode cX6_gone 34 = .ok (.if_icmp .gt 5, 3) := by decide +kernel
theorem dX6_gone_37 : decode cX6_gone 37 = .ok (.iload_n 3, 1) := by decide +kernel
theorem dX6_gone_38 : decode cX6_gone 38 = .ok (.ireturn, 1) := by decide +kernel
theorem dX6_gone_39 : decode cX6_gone 39 = .ok (.iinc 3 1, 3) := by decide +kernel
theorem dX6_gone_42 : decode cX6_gone 42 = .ok (.goto (-21), 3) := by decide +kernel
theorem dX6_gone_45 : decode cX6_gone 45 = .ok (.bipush (-9), 2) := by decide +kernel
theorem dX6_gone_47 : decode cX6_gone 47 = .ok (.ireturn, 1) := by decide +kernel
theorem dX6_guest_0 : decode cX6_guest 0 = .ok (.iload_n 1, 1) := by decide +kernel
theorem dX6_guest_1 : decode cX6_guest 1 = .ok (.invokestatic 119, 3) := by decide +kernel
theorem dX6_guest_4 : decode cX6_guest 4 = .ok (.ifCond .ne 9, 3) := by decide +kernel
theorem dX6_guest_7 : decode cX6_guest 7 = .ok (.aload_n 0, 1) := by decide +kernel
theorem dX6_guest_8 : decode cX6_guest 8 = .ok (.iconst (-1), 1) := by decide +kernel
theorem dX6_guest_9 : decode cX6_guest 9 = .ok (.invokevirtual 79, 3) := by decide +kernel
theorem dX6_guest_12 : decode cX6_guest 12 = .ok (.ireturn, 1) := by decide +kernel
theorem dX6_guest_13 : decode cX6_guest 13 = .ok (.bipush (-9), 2) := by decide +kernel
theorem dX6_guest_15 : decode cX6_guest 15 = .ok (.istore_n 2, 1) := by decide +kernel
theorem dX6_guest_16 : decode cX6_guest 16 = .ok (.iconst 0, 1) := by decide +kernel
theorem dX6_guest_17 : decode cX6_guest 17 = .ok (.istore_n 3, 1) := by decide +kernel
theorem dX6_guest_18 : decode cX6_guest 18 = .ok (.iload_n 3, 1) := by decide +kernel
theorem dX6_guest_19 : decode cX6_guest 19 = .ok (.aload_n 0, 1) := by decide +kernel
theorem dX6_guest_20 : decode cX6_guest 20 = .ok (.getfield 65, 3) := by decide +kernel
theorem dX6_guest_23 : decode cX6_guest 23 = .ok (.if_icmp .ge 38, 3) := by decide +kernel
theorem dX6_guest_26 : decode cX6_guest 26 = .ok (.aload_n 0, 1) := by decide +kernel
theorem dX6_guest_27 : decode cX6_guest 27 = .ok (.getfield 31, 3) := by decide +kernel
theorem dX6_guest_30 : decode cX6_guest 30 = .ok (.iload_n 3, 1) := by decide +kernel
theorem dX6_guest_31 : decode cX6_guest 31 = .ok (.iaload, 1) := by decide +kernel
theorem dX6_guest_32 : decode cX6_guest 32 = .ok (.iload_n 1, 1) := by decide +kernel
theorem dX6_guest_33 : decode cX6_guest 33 = .ok (.if_icmp .ne 22, 3) := by decide +kernel
theorem dX6_guest_36 : decode cX6_guest 36 = .ok (.iload_n 2, 1) := by decide +kernel
theorem dX6_guest_37 : decode cX6_guest 37 = .ok (.ifCond .lt 16, 3) := by decide +kernel
theorem dX6_guest_40 : decode cX6_guest 40 = .ok (.aload_n 0, 1) := by decide +kernel
theorem dX6_guest_41 : decode cX6_guest 41 = .ok (.iload_n 3, 1) := by decide +kernel
theorem dX6_guest_42 : decode cX6_guest 42 = .ok (.invokevirtual 169, 3) := by decide +kernel
theorem dX6_guest_45 : decode cX6_guest 45 = .ok (.aload_n 0, 1) := by decide +kernel
theorem dX6_guest_46 : decode cX6_guest 46 = .ok (.iload_n 2, 1) := by decide +kernel
theorem dX6_guest_47 : decode cX6_guest 47 = .ok (.invokevirtual 169, 3) := by decide +kernel
theorem dX6_guest_50 : decode cX6_guest 50 = .ok (.if_icmp .ge 5, 3) := by decide +kernel
theorem dX6_guest_53 : decode cX6_guest 53 = .ok (.iload_n 3, 1) := by decide +kernel
theorem dX6_guest_54 : decode cX6_guest 54 = .ok (.istore_n 2, 1) := by decide +kernel
theorem dX6_guest_55 : decode cX6_guest 55 = .ok (.iinc 3 1, 3) := by decide +kernel
theorem dX6_guest_58 : decode cX6_guest 58 = .ok (.goto (-40), 3) := by decide +kernel
theorem dX6_guest_61 : decode cX6_guest 61 = .ok (.iload_n 2, 1) := by decide +kernel
theorem dX6_guest_62 : decode cX6_guest 62 = .ok (.ireturn, 1) := by decide +kernel
theorem dX6_has_0 : decode cX6_has 0 = .ok (.iload_n 0, 1) := by decide +kernel
theorem dX6_has_1 : decode cX6_has 1 = .ok (.iload_n 1, 1) := by decide +kernel
theorem dX6_has_2 : decode cX6_has 2 = .ok (.ishr, 1) := by decide +kernel
theorem dX6_has_3 : decode cX6_has 3 = .ok (.iconst 1, 1) := by decide +kernel
theorem dX6_has_4 : decode cX6_has 4 = .ok (.iand, 1) := by decide +kernel
theorem dX6_has_5 : decode cX6_has 5 = .ok (.iconst 1, 1) := by decide +kernel
theorem dX6_has_6 : decode cX6_has 6 = .ok (.if_icmp .ne 7, 3) := by decide +kernel
theorem dX6_has_9 : decode cX6_has 9 = .ok (.iconst 1, 1) := by decide +kernel
theorem dX6_has_10 : decode cX6_has 10 = .ok (.goto 4, 3) := by decide +kernel
theorem dX6_has_13 : decode cX6_has 13 = .ok (.iconst 0, 1) := by decide +kernel
theorem dX6_has_14 : decode cX6_has 14 = .ok (.ireturn, 1) := by decide +kernel
theorem dX6_heavier_0 : decode cX6_heavier 0 = .ok (.bipush (-9), 2) := by decide +kernel
theorem dX6_heavier_2 : decode cX6_heavier 2 = .ok (.istore_n 1, 1) := by decide +kernel
theorem dX6_heavier_3 : decode cX6_heavier 3 = .ok (.bipush (-9), 2) := by decide +kernel
theorem dX6_heavier_5 : decode cX6_heavier 5 = .ok (.istore_n 2, 1) := by decide +kernel
theorem dX6_heavier_6 : decode cX6_heavier 6 = .ok (.iconst 0, 1) := by decide +kernel
theorem dX6_heavier_7 : decode cX6_heavier 7 = .ok (.istore_n 3, 1) := by decide +kernel
theorem dX6_heavier_8 : decode cX6_heavier 8 = .ok (.iload_n 3, 1) := by decide +kernel
theorem dX6_heavier_9 : decode cX6_heavier 9 = .ok (.aload_n 0, 1) := by decide +kernel
theorem dX6_heavier_10 : decode cX6_heavier 10 = .ok (.getfield 65, 3) := by decide +kernel
theorem dX6_heavier_13 : decode cX6_heavier 13 = .ok (.if_icmp .ge 56, 3) := by decide +kernel
theorem dX6_heavier_16 : decode cX6_heavier 16 = .ok (.aload_n 0, 1) := by decide +kernel
theorem dX6_heavier_17 : decode cX6_heavier 17 = .ok (.getfield 25, 3) := by decide +kernel
theorem dX6_heavier_20 : decode cX6_heavier 20 = .ok (.iload_n 3, 1) := by decide +kernel
theorem dX6_heavier_21 : decode cX6_heavier 21 = .ok (.iaload, 1) := by decide +kernel
theorem dX6_heavier_22 : decode cX6_heavier 22 = .ok (.bipush 9, 2) := by decide +kernel
theorem dX6_heavier_24 : decode cX6_heavier 24 = .ok (.if_icmp .eq 39, 3) := by decide +kernel
theorem dX6_heavier_27 : decode cX6_heavier 27 = .ok (.aload_n 0, 1) := by decide +kernel
theorem dX6_heavier_28 : decode cX6_heavier 28 = .ok (.iload_n 3, 1) := by decide +kernel
theorem dX6_heavier_29 : decode cX6_heavier 29 = .ok (.aload_n 0, 1) := by decide +kernel
theorem dX6_heavier_30 : decode cX6_heavier 30 = .ok (.getfield 25, 3) := by decide +kernel
theorem dX6_heavier_33 : decode cX6_heavier 33 = .ok (.iload_n 3, 1) := by decide +kernel
theorem dX6_heavier_34 : decode cX6_heavier 34 = .ok (.iaload, 1) := by decide +kernel
theorem dX6_heavier_35 : decode cX6_heavier 35 = .ok (.iconst 1, 1) := by decide +kernel
theorem dX6_heavier_36 : decode cX6_heavier 36 = .ok (.iadd, 1) := by decide +kernel
theorem dX6_heavier_37 : decode cX6_heavier 37 = .ok (.invokevirtual 237, 3) := by decide +kernel
theorem dX6_heavier_40 : decode cX6_heavier 40 = .ok (.iload_n 2, 1) := by decide +kernel
theorem dX6_heavier_41 : decode cX6_heavier 41 = .ok (.if_icmp .gt 6, 3) := by decide +kernel
theorem dX6_heavier_44 : decode cX6_heavier 44 = .ok (.goto 19, 3) := by decide +kernel
theorem dX6_heavier_47 : decode cX6_heavier 47 = .ok (.iload_n 3, 1) := by decide +kernel
theorem dX6_heavier_48 : decode cX6_heavier 48 = .ok (.istore_n 1, 1) := by decide +kernel
theorem dX6_heavier_49 : decode cX6_heavier 49 = .ok (.aload_n 0, 1) := by decide +kernel
theorem dX6_heavier_50 : decode cX6_heavier 50 = .ok (.iload_n 3, 1) := by decide +kernel
theorem dX6_heavier_51 : decode cX6_heavier 51 = .ok (.aload_n 0, 1) := by decide +kernel
theorem dX6_heavier_52 : decode cX6_heavier 52 = .ok (.getfield 25, 3) := by decide +kernel
theorem dX6_heavier_55 : decode cX6_heavier 55 = .ok (.iload_n 3, 1) := by decide +kernel
theorem dX6_heavier_56 : decode cX6_heavier 56 = .ok (.iaload, 1) := by decide +kernel
theorem dX6_heavier_57 : decode cX6_heavier 57 = .ok (.iconst 1, 1) := by decide +kernel
theorem dX6_heavier_58 : decode cX6_heavier 58 = .ok (.iadd, 1) := by decide +kernel
theorem dX6_heavier_59 : decode cX6_heavier 59 = .ok (.invokevirtual 237, 3) := by decide +kernel
theorem dX6_heavier_62 : decode cX6_heavier 62 = .ok (.istore_n 2, 1) := by decide +kernel
theorem dX6_heavier_63 : decode cX6_heavier 63 = .ok (.iinc 3 1, 3) := by decide +kernel
theorem dX6_heavier_66 : decode cX6_heavier 66 = .ok (.goto (-58), 3) := by decide +kernel
theorem dX6_heavier_69 : decode cX6_heavier 69 = .ok (.iload_n 1, 1) := by decide +kernel
theorem dX6_heavier_70 : decode cX6_heavier 70 = .ok (.ireturn, 1) := by decide +kernel
theorem dX6_heirs_0 : decode cX6_heirs 0 = .ok (.iload_n 1, 1) := by decide +kernel
theorem dX6_heirs_1 : decode cX6_heirs 1 = .ok (.iconst 2, 1) := by decide +kernel
theorem dX6_heirs_2 : decode cX6_heirs 2 = .ok (.iconst 4, 1) := by decide +kernel
theorem dX6_heirs_3 : decode cX6_heirs 3 = .ok (.invokestatic 72, 3) := by decide +kernel
theorem dX6_heirs_6 : decode cX6_heirs 6 = .ok (.istore_n 2, 1) := by decide +kernel
theorem dX6_heirs_7 : decode cX6_heirs 7 = .ok (.iload_n 2, 1) := by decide +kernel
theorem dX6_heirs_8 : decode cX6_heirs 8 = .ok (.ifCond .eq 9, 3) := by decide +kernel
theorem dX6_heirs_11 : decode cX6_heirs 11 = .ok (.aload_n 0, 1) := by decide +kernel
theorem dX6_heirs_12 : decode cX6_heirs 12 = .ok (.iload_n 2, 1) := by decide +kernel
theorem dX6_heirs_13 : decode cX6_heirs 13 = .ok (.invokevirtual 79, 3) := by decide +kernel
theorem dX6_heirs_16 : decode cX6_heirs 16 = .ok (.ireturn, 1) := by decide +kernel
theorem dX6_heirs_17 : decode cX6_heirs 17 = .ok (.aload_n 0, 1) := by decide +kernel
theorem dX6_heirs_18 : decode cX6_heirs 18 = .ok (.getfield 61, 3) := by decide +kernel
theorem dX6_heirs_21 : decode cX6_heirs 21 = .ok (.istore_n 3, 1) := by decide +kernel
theorem dX6_heirs_22 : decode cX6_heirs 22 = .ok (.aload_n 0, 1) := by decide +kernel
theorem dX6_heirs_23 : decode cX6_heirs 23 = .ok (.iload_n 1, 1) := by decide +kernel
theorem dX6_heirs_24 : decode cX6_heirs 24 = .ok (.putfield 61, 3) := by decide +kernel
theorem dX6_heirs_27 : decode cX6_heirs 27 = .ok (.iload_n 3, 1) := by decide +kernel
theorem dX6_heirs_28 : decode cX6_heirs 28 = .ok (.ireturn, 1) := by decide +kernel
theorem dX6_house_0 : decode cX6_house 0 = .ok (.aload_n 0, 1) := by decide +kernel
theorem dX6_house_1 : decode cX6_house 1 = .ok (.iconst 0, 1) := by decide +kernel
theorem dX6_house_2 : decode cX6_house 2 = .ok (.putfield 83, 3) := by decide +kernel
theorem dX6_house_5 : decode cX6_house 5 = .ok (.aload_n 0, 1) := by decide +kernel
theorem dX6_house_6 : decode cX6_house 6 = .ok (.iconst 0, 1) := by decide +kernel
theorem dX6_house_7 : decode cX6_house 7 = .ok (.putfield 107, 3) := by decide +kernel
theorem dX6_house_10 : decode cX6_house 10 = .ok (.iconst 1, 1) := by decide +kernel
theorem dX6_house_11 : decode cX6_house 11 = .ok (.istore_n 1, 1) := by decide +kernel
theorem dX6_house_12 : decode cX6_house 12 = .ok (.iload_n 1, 1) := by decide +kernel
theorem dX6_house_13 : decode cX6_house 13 = .ok (.ifCond .eq 47, 3) := by decide +kernel
theorem dX6_house_16 : decode cX6_house 16 = .ok (.aload_n 0, 1) := by decide +kernel
theorem dX6_house_17 : decode cX6_house 17 = .ok (.getfield 83, 3) := by decide +kernel
theorem dX6_house_20 : decode cX6_house 20 = .ok (.aload_n 0, 1) := by decide +kernel
theorem dX6_house_21 : decode cX6_house 21 = .ok (.getfield 76, 3) := by decide +kernel
theorem dX6_house_24 : decode cX6_house 24 = .ok (.if_icmp .lt 10, 3) := by decide +kernel
theorem dX6_house_27 : decode cX6_house 27 = .ok (.aload_n 0, 1) := by decide +kernel
theorem dX6_house_28 : decode cX6_house 28 = .ok (.getfield 107, 3) := by decide +kernel
theorem dX6_house_31 : decode cX6_house 31 = .ok (.ifCond .ne 29, 3) := by decide +kernel
theorem dX6_house_34 : decode cX6_house 34 = .ok (.aload_n 0, 1) := by decide +kernel
theorem dX6_house_35 : decode cX6_house 35 = .ok (.invokevirtual 135, 3) := by decide +kernel
theorem dX6_house_38 : decode cX6_house 38 = .ok (.istore_n 1, 1) := by decide +kernel
theorem dX6_house_39 : decode cX6_house 39 = .ok (.aload_n 0, 1) := by decide +kernel
theorem dX6_house_40 : decode cX6_house 40 = .ok (.dup, 1) := by decide +kernel
theorem dX6_house_41 : decode cX6_house 41 = .ok (.getfield 107, 3) := by decide +kernel
theorem dX6_house_44 : decode cX6_house 44 = .ok (.iload_n 1, 1) := by decide +kernel
theorem dX6_house_45 : decode cX6_house 45 = .ok (.ifCond .eq 7, 3) := by decide +kernel
theorem dX6_house_48 : decode cX6_house 48 = .ok (.iconst 1, 1) := by decide +kernel
theorem dX6_house_49 : decode cX6_house 49 = .ok (.goto 4, 3) := by decide +kernel
theorem dX6_house_52 : decode cX6_house 52 = .ok (.iconst 0, 1) := by decide +kernel
theorem dX6_house_53 : decode cX6_house 53 = .ok (.iadd, 1) := by decide +kernel
theorem dX6_house_54 : decode cX6_house 54 = .ok (.putfield 107, 3) := by decide +kernel
theorem dX6_house_57 : decode cX6_house 57 = .ok (.goto (-45), 3) := by decide +kernel
theorem dX6_house_60 : decode cX6_house 60 = .ok (.aload_n 0, 1) := by decide +kernel
theorem dX6_house_61 : decode cX6_house 61 = .ok (.iconst 0, 1) := by decide +kernel
theorem dX6_house_62 : decode cX6_house 62 = .ok (.putfield 76, 3) := by decide +kernel
theorem dX6_house_65 : decode cX6_house 65 = .ok (.iload_n 1, 1) := by decide +kernel
theorem dX6_house_66 : decode cX6_house 66 = .ok (.ifCond .ne 12, 3) := by decide +kernel
theorem dX6_house_69 : decode cX6_house 69 = .ok (.sipush (-1000), 3) := by decide +kernel
theorem dX6_house_72 : decode cX6_house 72 = .ok (.aload_n 0, 1) := by decide +kernel
theorem dX6_house_73 : decode cX6_house 73 = .ok (.getfield 83, 3) := by decide +kernel
theorem dX6_house_76 : decode cX6_house 76 = .ok (.isub, 1) := by decide +kernel
theorem dX6_house_77 : decode cX6_house 77 = .ok (.ireturn, 1) := by decide +kernel
theorem dX6_house_78 : decode cX6_house 78 = .ok (.aload_n 0, 1) := by decide +kernel
theorem dX6_house_79 : decode cX6_house 79 = .ok (.iconst 1, 1) := by decide +kernel
theorem dX6_house_80 : decode cX6_house 80 = .ok (.iconst 1, 1) := by decide +kernel
theorem dX6_house_81 : decode cX6_house 81 = .ok (.invokevirtual 139, 3) := by decide +kernel
theorem dX6_house_84 : decode cX6_house 84 = .ok (.iconst 0, 1) := by decide +kernel
theorem dX6_house_85 : decode cX6_house 85 = .ok (.istore_n 2, 1) := by decide +kernel
theorem dX6_house_86 : decode cX6_house 86 = .ok (.iload_n 2, 1) := by decide +kernel
theorem dX6_house_87 : decode cX6_house 87 = .ok (.aload_n 0, 1) := by decide +kernel
theorem dX6_house_88 : decode cX6_house 88 = .ok (.getfield 107, 3) := by decide +kernel
theorem dX6_house_91 : decode cX6_house 91 = .ok (.if_icmp .ge 37, 3) := by decide +kernel
theorem dX6_house_94 : decode cX6_house 94 = .ok (.aload_n 0, 1) := by decide +kernel
theorem dX6_house_95 : decode cX6_house 95 = .ok (.iload_n 2, 1) := by decide +kernel
theorem dX6_house_96 : decode cX6_house 96 = .ok (.invokevirtual 143, 3) := by decide +kernel
theorem dX6_house_99 : decode cX6_house 99 = .ok (.ifCond .eq 6, 3) := by decide +kernel
theorem dX6_house_102 : decode cX6_house 102 = .ok (.goto 20, 3) := by decide +kernel
theorem dX6_house_105 : decode cX6_house 105 = .ok (.aload_n 0, 1) := by decide +kernel
theorem dX6_house_106 : decode cX6_house 106 = .ok (.iconst 1, 1) := by decide +kernel
theorem dX6_house_107 : decode cX6_house 107 = .ok (.iconst 0, 1) := by decide +kernel
theorem dX6_house_108 : decode cX6_house 108 = .ok (.invokevirtual 139, 3) := by decide +kernel
theorem dX6_house_111 : decode cX6_house 111 = .ok (.sipush (-2000), 3) := by decide +kernel
theorem dX6_house_114 : decode cX6_house 114 = .ok (.aload_n 0, 1) := by decide +kernel
theorem dX6_house_115 : decode cX6_house 115 = .ok (.getfield 40, 3) := by decide +kernel
theorem dX6_house_118 : decode cX6_house 118 = .ok (.iload_n 2, 1) := by decide +kernel
theorem dX6_house_119 : decode cX6_house 119 = .ok (.iaload, 1) := by decide +kernel
theorem dX6_house_120 : decode cX6_house 120 = .ok (.isub, 1) := by decide +kernel
theorem dX6_house_121 : decode cX6_house 121 = .ok (.ireturn, 1) := by decide +kernel
theorem dX6_house_122 : decode cX6_house 122 = .ok (.iinc 2 1, 3) := by decide +kernel
theorem dX6_house_125 : decode cX6_house 125 = .ok (.goto (-39), 3) := by decide +kernel
theorem dX6_house_128 : decode cX6_house 128 = .ok (.aload_n 0, 1) := by decide +kernel
theorem dX6_house_129 : decode cX6_house 129 = .ok (.getfield 107, 3) := by decide +kernel
theorem dX6_house_132 : decode cX6_house 132 = .ok (.ireturn, 1) := by decide +kernel
theorem dX6_image_0 : decode cX6_image 0 = .ok (.aload_n 0, 1) := by decide +kernel
theorem dX6_image_1 : decode cX6_image 1 = .ok (.iconst 1, 1) := by decide +kernel
theorem dX6_image_2 : decode cX6_image 2 = .ok (.putfield 160, 3) := by decide +kernel
theorem dX6_image_5 : decode cX6_image 5 = .ok (.aload_n 0, 1) := by decide +kernel
theorem dX6_image_6 : decode cX6_image 6 = .ok (.iconst 0, 1) := by decide +kernel
theorem dX6_image_7 : decode cX6_image 7 = .ok (.iconst 1, 1) := by decide +kernel
theorem dX6_image_8 : decode cX6_image 8 = .ok (.invokevirtual 139, 3) := by decide +kernel
theorem dX6_image_11 : decode cX6_image 11 = .ok (.aload_n 0, 1) := by decide +kernel
theorem dX6_image_12 : decode cX6_image 12 = .ok (.getfield 128, 3) := by decide +kernel
theorem dX6_image_15 : decode cX6_image 15 = .ok (.ireturn, 1) := by decide +kernel
theorem dX6_init_0 : decode cX6_init 0 = .ok (.aload_n 0, 1) := by decide +kernel
theorem dX6_init_1 : decode cX6_init 1 = .ok (.invokespecial 1, 3) := by decide +kernel
theorem dX6_init_4 : decode cX6_init 4 = .ok (.aload_n 0, 1) := by decide +kernel
theorem dX6_init_5 : decode cX6_init 5 = .ok (.bipush 7, 2) := by decide +kernel
theorem dX6_init_7 : decode cX6_init 7 = .ok (.newarray .int, 2) := by decide +kernel
theorem dX6_init_9 : decode cX6_init 9 = .ok (.putfield 7, 3) := by decide +kernel
theorem dX6_init_12 : decode cX6_init 12 = .ok (.aload_n 0, 1) := by decide +kernel
theorem dX6_init_13 : decode cX6_init 13 = .ok (.bipush 6, 2) := by decide +kernel
theorem dX6_init_15 : decode cX6_init 15 = .ok (.newarray .int, 2) := by decide +kernel
theorem dX6_init_17 : decode cX6_init 17 = .ok (.putfield 13, 3) := by decide +kernel
theorem dX6_init_20 : decode cX6_init 20 = .ok (.aload_n 0, 1) := by decide +kernel
theorem dX6_init_21 : decode cX6_init 21 = .ok (.iconst 3, 1) := by decide +kernel
theorem dX6_init_22 : decode cX6_init 22 = .ok (.newarray .int, 2) := by decide +kernel
theorem dX6_init_24 : decode cX6_init 24 = .ok (.putfield 16, 3) := by decide +kernel
theorem dX6_init_27 : decode cX6_init 27 = .ok (.aload_n 0, 1) := by decide +kernel
theorem dX6_init_28 : decode cX6_init 28 = .ok (.bipush 7, 2) := by decide +kernel
theorem dX6_init_30 : decode cX6_init 30 = .ok (.newarray .int, 2) := by decide +kernel
theorem dX6_init_32 : decode cX6_init 32 = .ok (.putfield 19, 3) := by decide +kernel
theorem dX6_init_35 : decode cX6_init 35 = .ok (.aload_n 0, 1) := by decide +kernel
theorem dX6_init_36 : decode cX6_init 36 = .ok (.bipush 7, 2) := by decide +kernel
theorem dX6_init_38 : decode cX6_init 38 = .ok (.newarray .int, 2) := by decide +kernel
theorem dX6_init_40 : decode cX6_init 40 = .ok (.putfield 22, 3) := by decide +kernel
theorem dX6_init_43 : decode cX6_init 43 = .ok (.aload_n 0, 1) := by decide +kernel
theorem dX6_init_44 : decode cX6_init 44 = .ok (.bipush 7, 2) := by decide +kernel
theorem dX6_init_46 : decode cX6_init 46 = .ok (.newarray .int, 2) := by decide +kernel
theorem dX6_init_48 : decode cX6_init 48 = .ok (.putfield 25, 3) := by decide +kernel
theorem dX6_init_51 : decode cX6_init 51 = .ok (.aload_n 0, 1) := by decide +kernel
theorem dX6_init_52 : decode cX6_init 52 = .ok (.bipush 7, 2) := by decide +kernel
theorem dX6_init_54 : decode cX6_init 54 = .ok (.newarray .int, 2) := by decide +kernel
theorem dX6_init_56 : decode cX6_init 56 = .ok (.putfield 28, 3) := by decide +kernel
theorem dX6_init_59 : decode cX6_init 59 = .ok (.aload_n 0, 1) := by decide +kernel
theorem dX6_init_60 : decode cX6_init 60 = .ok (.bipush 7, 2) := by decide +kernel
theorem dX6_init_62 : decode cX6_init 62 = .ok (.newarray .int, 2) := by decide +kernel
theorem dX6_init_64 : decode cX6_init 64 = .ok (.putfield 31, 3) := by decide +kernel
theorem dX6_init_67 : decode cX6_init 67 = .ok (.aload_n 0, 1) := by decide +kernel
theorem dX6_init_68 : decode cX6_init 68 = .ok (.bipush 96, 2) := by decide +kernel
theorem dX6_init_70 : decode cX6_init 70 = .ok (.newarray .int, 2) := by decide +kernel
theorem dX6_init_72 : decode cX6_init 72 = .ok (.putfield 34, 3) := by decide +kernel
theorem dX6_init_75 : decode cX6_init 75 = .ok (.aload_n 0, 1) := by decide +kernel
theorem dX6_init_76 : decode cX6_init 76 = .ok (.bipush 48, 2) := by decide +kernel
theorem dX6_init_78 : decode cX6_init 78 = .ok (.newarray .int, 2) := by decide +kernel
theorem dX6_init_80 : decode cX6_init 80 = .ok (.putfield 37, 3) := by decide +kernel
theorem dX6_init_83 : decode cX6_init 83 = .ok (.aload_n 0, 1) := by decide +kernel
theorem dX6_init_84 : decode cX6_init 84 = .ok (.bipush 48, 2) := by decide +kernel
theorem dX6_init_86 : decode cX6_init 86 = .ok (.newarray .int, 2) := by decide +kernel
theorem dX6_init_88 : decode cX6_init 88 = .ok (.putfield 40, 3) := by decide +kernel
theorem dX6_init_91 : decode cX6_init 91 = .ok (.aload_n 0, 1) := by decide +kernel
theorem dX6_init_92 : decode cX6_init 92 = .ok (.sipush 192, 3) := by decide +kernel
theorem dX6_init_95 : decode cX6_init 95 = .ok (.newarray .int, 2) := by decide +kernel
theorem dX6_init_97 : decode cX6_init 97 = .ok (.putfield 43, 3) := by decide +kernel
theorem dX6_init_100 : decode cX6_init 100 = .ok (.aload_n 0, 1) := by decide +kernel
theorem dX6_init_101 : decode cX6_init 101 = .ok (.bipush 100, 2) := by decide +kernel
theorem dX6_init_103 : decode cX6_init 103 = .ok (.newarray .int, 2) := by decide +kernel
theorem dX6_init_105 : decode cX6_init 105 = .ok (.putfield 46, 3) := by decide +kernel
theorem dX6_init_108 : decode cX6_init 108 = .ok (.aload_n 0, 1) := by decide +kernel
theorem dX6_init_109 : decode cX6_init 109 = .ok (.bipush 7, 2) := by decide +kernel
theorem dX6_init_111 : decode cX6_init 111 = .ok (.newarray .int, 2) := by decide +kernel
theorem dX6_init_113 : decode cX6_init 113 = .ok (.putfield 49, 3) := by decide +kernel
theorem dX6_init_116 : decode cX6_init 116 = .ok (.aload_n 0, 1) := by decide +kernel
theorem dX6_init_117 : decode cX6_init 117 = .ok (.bipush 7, 2) := by decide +kernel
theorem dX6_init_119 : decode cX6_init 119 = .ok (.newarray .int, 2) := by decide +kernel
theorem dX6_init_121 : decode cX6_init 121 = .ok (.putfield 52, 3) := by decide +kernel
theorem dX6_init_124 : decode cX6_init 124 = .ok (.aload_n 0, 1) := by decide +kernel
theorem dX6_init_125 : decode cX6_init 125 = .ok (.iconst 4, 1) := by decide +kernel
theorem dX6_init_126 : decode cX6_init 126 = .ok (.newarray .int, 2) := by decide +kernel
theorem dX6_init_128 : decode cX6_init 128 = .ok (.putfield 55, 3) := by decide +kernel
theorem dX6_init_131 : decode cX6_init 131 = .ok (.aload_n 0, 1) := by decide +kernel
theorem dX6_init_132 : decode cX6_init 132 = .ok (.bipush 12, 2) := by decide +kernel
theorem dX6_init_134 : decode cX6_init 134 = .ok (.newarray .int, 2) := by decide +kernel
theorem dX6_init_136 : decode cX6_init 136 = .ok (.putfield 58, 3) := by decide +kernel
theorem dX6_init_139 : decode cX6_init 139 = .ok (.iconst 0, 1) := by decide +kernel
theorem dX6_init_140 : decode cX6_init 140 = .ok (.istore_n 1, 1) := by decide +kernel
theorem dX6_init_141 : decode cX6_init 141 = .ok (.iload_n 1, 1) := by decide +kernel
theorem dX6_init_142 : decode cX6_init 142 = .ok (.bipush 6, 2) := by decide +kernel
theorem dX6_init_144 : decode cX6_init 144 = .ok (.if_icmp .ge 17, 3) := by decide +kernel
theorem dX6_init_147 : decode cX6_init 147 = .ok (.aload_n 0, 1) := by decide +kernel
theorem dX6_init_148 : decode cX6_init 148 = .ok (.getfield 13, 3) := by decide +kernel
theorem dX6_init_151 : decode cX6_init 151 = .ok (.iload_n 1, 1) := by decide +kernel
theorem dX6_init_152 : decode cX6_init 152 = .ok (.bipush 9, 2) := by decide +kernel
theorem dX6_init_154 : decode cX6_init 154 = .ok (.iastore, 1) := by decide +kernel
theorem dX6_init_155 : decode cX6_init 155 = .ok (.iinc 1 1, 3) := by decide +kernel
theorem dX6_init_158 : decode cX6_init 158 = .ok (.goto (-17), 3) := by decide +kernel
theorem dX6_init_161 : decode cX6_init 161 = .ok (.aload_n 0, 1) := by decide +kernel
theorem dX6_init_162 : decode cX6_init 162 = .ok (.getfield 16, 3) := by decide +kernel
theorem dX6_init_165 : decode cX6_init 165 = .ok (.iconst 1, 1) := by decide +kernel
theorem dX6_init_166 : decode cX6_init 166 = .ok (.bipush 6, 2) := by decide +kernel
theorem dX6_init_168 : decode cX6_init 168 = .ok (.iastore, 1) := by decide +kernel
theorem dX6_init_169 : decode cX6_init 169 = .ok (.aload_n 0, 1) := by decide +kernel
theorem dX6_init_170 : decode cX6_init 170 = .ok (.getfield 16, 3) := by decide +kernel
theorem dX6_init_173 : decode cX6_init 173 = .ok (.iconst 2, 1) := by decide +kernel
theorem dX6_init_174 : decode cX6_init 174 = .ok (.bipush 6, 2) := by decide +kernel
theorem dX6_init_176 : decode cX6_init 176 = .ok (.iastore, 1) := by decide +kernel
theorem dX6_init_177 : decode cX6_init 177 = .ok (.aload_n 0, 1) := by decide +kernel
theorem dX6_init_178 : decode cX6_init 178 = .ok (.iconst 2, 1) := by decide +kernel
theorem dX6_init_179 : decode cX6_init 179 = .ok (.putfield 61, 3) := by decide +kernel
theorem dX6_init_182 : decode cX6_init 182 = .ok (.return_, 1) := by decide +kernel
theorem dX6_innocent_0 : decode cX6_innocent 0 = .ok (.aload_n 0, 1) := by decide +kernel
theorem dX6_innocent_1 : decode cX6_innocent 1 = .ok (.getfield 65, 3) := by decide +kernel
theorem dX6_innocent_4 : decode cX6_innocent 4 = .ok (.iconst 5, 1) := by decide +kernel
theorem dX6_innocent_5 : decode cX6_innocent 5 = .ok (.if_icmp .le 10, 3) := by decide +kernel
theorem dX6_innocent_8 : decode cX6_innocent 8 = .ok (.aload_n 0, 1) := by decide +kernel
theorem dX6_innocent_9 : decode cX6_innocent 9 = .ok (.bipush (-3), 2) := by decide +kernel
theorem dX6_innocent_11 : decode cX6_innocent 11 = .ok (.invokevirtual 79, 3) := by decide +kernel
theorem dX6_innocent_14 : decode cX6_innocent 14 = .ok (.ireturn, 1) := by decide +kernel
theorem dX6_innocent_15 : decode cX6_innocent 15 = .ok (.aload_n 0, 1) := by decide +kernel
theorem dX6_innocent_16 : decode cX6_innocent 16 = .ok (.bipush 63, 2) := by decide +kernel
theorem dX6_innocent_18 : decode cX6_innocent 18 = .ok (.iconst 1, 1) := by decide +kernel
theorem dX6_innocent_19 : decode cX6_innocent 19 = .ok (.invokevirtual 203, 3) := by decide +kernel
theorem dX6_innocent_22 : decode cX6_innocent 22 = .ok (.aload_n 0, 1) := by decide +kernel
theorem dX6_innocent_23 : decode cX6_innocent 23 = .ok (.getfield 187, 3) := by decide +kernel
theorem dX6_innocent_26 : decode cX6_innocent 26 = .ok (.ifCond .ge 8, 3) := by decide +kernel
theorem dX6_innocent_29 : decode cX6_innocent 29 = .ok (.bipush (-9), 2) := by decide +kernel
theorem dX6_innocent_31 : decode cX6_innocent 31 = .ok (.goto 10, 3) := by decide +kernel
theorem dX6_innocent_34 : decode cX6_innocent 34 = .ok (.bipush 6, 2) := by decide +kernel
theorem dX6_innocent_36 : decode cX6_innocent 36 = .ok (.aload_n 0, 1) := by decide +kernel
theorem dX6_innocent_37 : decode cX6_innocent 37 = .ok (.getfield 187, 3) := by decide +kernel
theorem dX6_innocent_40 : decode cX6_innocent 40 = .ok (.isub, 1) := by decide +kernel
theorem dX6_innocent_41 : decode cX6_innocent 41 = .ok (.ireturn, 1) := by decide +kernel
theorem dX6_isFloor_0 : decode cX6_isFloor 0 = .ok (.iload_n 0, 1) := by decide +kernel
theorem dX6_isFloor_1 : decode cX6_isFloor 1 = .ok (.iconst 1, 1) := by decide +kernel
theorem dX6_isFloor_2 : decode cX6_isFloor 2 = .ok (.if_icmp .eq 8, 3) := by decide +kernel
theorem dX6_isFloor_5 : decode cX6_isFloor 5 = .ok (.iload_n 0, 1) := by decide +kernel
theorem dX6_isFloor_6 : decode cX6_isFloor 6 = .ok (.iconst 2, 1) := by decide +kernel
theorem dX6_isFloor_7 : decode cX6_isFloor 7 = .ok (.if_icmp .ne 7, 3) := by decide +kernel
theorem dX6_isFloor_10 : decode cX6_isFloor 10 = .ok (.iconst 1, 1) := by decide +kernel
theorem dX6_isFloor_11 : decode cX6_isFloor 11 = .ok (.goto 4, 3) := by decide +kernel
theorem dX6_isFloor_14 : decode cX6_isFloor 14 = .ok (.iconst 0, 1) := by decide +kernel
theorem dX6_isFloor_15 : decode cX6_isFloor 15 = .ok (.ireturn, 1) := by decide +kernel
theorem dX6_isIn_0 : decode cX6_isIn 0 = .ok (.iload_n 0, 1) := by decide +kernel
theorem dX6_isIn_1 : decode cX6_isIn 1 = .ok (.iload_n 1, 1) := by decide +kernel
theorem dX6_isIn_2 : decode cX6_isIn 2 = .ok (.if_icmp .lt 12, 3) := by decide +kernel
theorem dX6_isIn_5 : decode cX6_isIn 5 = .ok (.iload_n 0, 1) := by decide +kernel
theorem dX6_isIn_6 : decode cX6_isIn 6 = .ok (.iload_n 2, 1) := by decide +kernel
theorem dX6_isIn_7 : decode cX6_isIn 7 = .ok (.if_icmp .gt 7, 3) := by decide +kernel
theorem dX6_isIn_10 : decode cX6_isIn 10 = .ok (.iconst 1, 1) := by decide +kernel
theorem dX6_isIn_11 : decode cX6_isIn 11 = .ok (.goto 4, 3) := by decide +kernel
theorem dX6_isIn_14 : decode cX6_isIn 14 = .ok (.iconst 0, 1) := by decide +kernel
theorem dX6_isIn_15 : decode cX6_isIn 15 = .ok (.ireturn, 1) := by decide +kernel
theorem dX6_isLetter_0 : decode cX6_isLetter 0 = .ok (.iload_n 0, 1) := by decide +kernel
theorem dX6_isLetter_1 : decode cX6_isLetter 1 = .ok (.bipush 105, 2) := by decide +kernel
theorem dX6_isLetter_3 : decode cX6_isLetter 3 = .ok (.if_icmp .eq 39, 3) := by decide +kernel
theorem dX6_isLetter_6 : decode cX6_isLetter 6 = .ok (.iload_n 0, 1) := by decide +kernel
theorem dX6_isLetter_7 : decode cX6_isLetter 7 = .ok (.bipush 109, 2) := by decide +kernel
theorem dX6_isLetter_9 : decode cX6_isLetter 9 = .ok (.if_icmp .eq 33, 3) := by decide +kernel
theorem dX6_isLetter_12 : decode cX6_isLetter 12 = .ok (.iload_n 0, 1) := by decide +kernel
theorem dX6_isLetter_13 : decode cX6_isLetter 13 = .ok (.bipush 115, 2) := by decide +kernel
theorem dX6_isLetter_15 : decode cX6_isLetter 15 = .ok (.if_icmp .eq 27, 3) := by decide +kernel
theorem dX6_isLetter_18 : decode cX6_isLetter 18 = .ok (.iload_n 0, 1) := by decide +kernel
theorem dX6_isLetter_19 : decode cX6_isLetter 19 = .ok (.bipush 114, 2) := by decide +kernel
theorem dX6_isLetter_21 : decode cX6_isLetter 21 = .ok (.if_icmp .eq 21, 3) := by decide +kernel
theorem dX6_isLetter_24 : decode cX6_isLetter 24 = .ok (.iload_n 0, 1) := by decide +kernel
theorem dX6_isLetter_25 : decode cX6_isLetter 25 = .ok (.bipush 121, 2) := by decide +kernel
theorem dX6_isLetter_27 : decode cX6_isLetter 27 = .ok (.if_icmp .eq 15, 3) := by decide +kernel
theorem dX6_isLetter_30 : decode cX6_isLetter 30 = .ok (.iload_n 0, 1) := by decide +kernel
theorem dX6_isLetter_31 : decode cX6_isLetter 31 = .ok (.bipush 104, 2) := by decide +kernel
theorem dX6_isLetter_33 : decode cX6_isLetter 33 = .ok (.if_icmp .eq 9, 3) := by decide +kernel
theorem dX6_isLetter_36 : decode cX6_isLetter 36 = .ok (.iload_n 0, 1) := by decide +kernel
theorem dX6_isLetter_37 : decode cX6_isLetter 37 = .ok (.bipush 112, 2) := by decide +kernel
theorem dX6_isLetter_39 : decode cX6_isLetter 39 = .ok (.if_icmp .ne 7, 3) := by decide +kernel
theorem dX6_isLetter_42 : decode cX6_isLetter 42 = .ok (.iconst 1, 1) := by decide +kernel
theorem dX6_isLetter_43 : decode cX6_isLetter 43 = .ok (.goto 4, 3) := by decide +kernel
theorem dX6_isLetter_46 : decode cX6_isLetter 46 = .ok (.iconst 0, 1) := by decide +kernel
theorem dX6_isLetter_47 : decode cX6_isLetter 47 = .ok (.ireturn, 1) := by decide +kernel
theorem dX6_isPiece_0 : decode cX6_isPiece 0 = .ok (.iload_n 1, 1) := by decide +kernel
theorem dX6_isPiece_1 : decode cX6_isPiece 1 = .ok (.ifCond .lt 15, 3) := by decide +kernel
theorem dX6_isPiece_4 : decode cX6_isPiece 4 = .ok (.iload_n 1, 1) := by decide +kernel
theorem dX6_isPiece_5 : decode cX6_isPiece 5 = .ok (.aload_n 0, 1) := by decide +kernel
theorem dX6_isPiece_6 : decode cX6_isPiece 6 = .ok (.getfield 65, 3) := by decide +kernel
theorem dX6_isPiece_9 : decode cX6_isPiece 9 = .ok (.if_icmp .ge 7, 3) := by decide +kernel
theorem dX6_isPiece_12 : decode cX6_isPiece 12 = .ok (.iconst 1, 1) := by decide +kernel
theorem dX6_isPiece_13 : decode cX6_isPiece 13 = .ok (.goto 4, 3) := by decide +kernel
theorem dX6_isPiece_16 : decode cX6_isPiece 16 = .ok (.iconst 0, 1) := by decide +kernel
theorem dX6_isPiece_17 : decode cX6_isPiece 17 = .ok (.ireturn, 1) := by decide +kernel
theorem dX6_isPlace_0 : decode cX6_isPlace 0 = .ok (.iload_n 0, 1) := by decide +kernel
theorem dX6_isPlace_1 : decode cX6_isPlace 1 = .ok (.invokestatic 68, 3) := by decide +kernel
theorem dX6_isPlace_4 : decode cX6_isPlace 4 = .ok (.ifCond .ne 9, 3) := by decide +kernel
theorem dX6_isPlace_7 : decode cX6_isPlace 7 = .ok (.iload_n 0, 1) := by decide +kernel
theorem dX6_isPlace_8 : decode cX6_isPlace 8 = .ok (.bipush 9, 2) := by decide +kernel
theorem dX6_isPlace_10 : decode cX6_isPlace 10 = .ok (.if_icmp .ne 7, 3) := by decide +kernel
theorem dX6_isPlace_13 : decode cX6_isPlace 13 = .ok (.iconst 1, 1) := by decide +kernel
theorem dX6_isPlace_14 : decode cX6_isPlace 14 = .ok (.goto 4, 3) := by decide +kernel
theorem dX6_isPlace_17 : decode cX6_isPlace 17 = .ok (.iconst 0, 1) := by decide +kernel
theorem dX6_isPlace_18 : decode cX6_isPlace 18 = .ok (.ireturn, 1) := by decide +kernel
theorem dX6_isPlaced_0 : decode cX6_isPlaced 0 = .ok (.iload_n 2, 1) := by decide +kernel
theorem dX6_isPlaced_1 : decode cX6_isPlaced 1 = .ok (.istore_n 3, 1) := by decide +kernel
theorem dX6_isPlaced_2 : decode cX6_isPlaced 2 = .ok (.aload_n 0, 1) := by decide +kernel
theorem dX6_isPlaced_3 : decode cX6_isPlaced 3 = .ok (.getfield 65, 3) := by decide +kernel
theorem dX6_isPlaced_6 : decode cX6_isPlaced 6 = .ok (.iconst 1, 1) := by decide +kernel
theorem dX6_isPlaced_7 : decode cX6_isPlaced 7 = .ok (.isub, 1) := by decide +kernel
theorem dX6_isPlaced_8 : decode cX6_isPlaced 8 = .ok (.istore 4, 2) := by decide +kernel
theorem dX6_isPlaced_10 : decode cX6_isPlaced 10 = .ok (.iload 4, 2) := by decide +kernel
theorem dX6_isPlaced_12 : decode cX6_isPlaced 12 = .ok (.ifCond .lt 25, 3) := by decide +kernel
theorem dX6_isPlaced_15 : decode cX6_isPlaced 15 = .ok (.aload_n 0, 1) := by decide +kernel
theorem dX6_isPlaced_16 : decode cX6_isPlaced 16 = .ok (.getfield 31, 3) := by decide +kernel
theorem dX6_isPlaced_19 : decode cX6_isPlaced 19 = .ok (.iload 4, 2) := by decide +kernel
theorem dX6_isPlaced_21 : decode cX6_isPlaced 21 = .ok (.iload_n 3, 1) := by decide +kernel
theorem dX6_isPlaced_22 : decode cX6_isPlaced 22 = .ok (.bipush 6, 2) := by decide +kernel
theorem dX6_isPlaced_24 : decode cX6_isPlaced 24 = .ok (.irem, 1) := by decide +kernel
theorem dX6_isPlaced_25 : decode cX6_isPlaced 25 = .ok (.iastore, 1) := by decide +kernel
theorem dX6_isPlaced_26 : decode cX6_isPlaced 26 = .ok (.iload_n 3, 1) := by decide +kernel
theorem dX6_isPlaced_27 : decode cX6_isPlaced 27 = .ok (.bipush 6, 2) := by decide +kernel
theorem dX6_isPlaced_29 : decode cX6_isPlaced 29 = .ok (.idiv, 1) := by decide +kernel
theorem dX6_isPlaced_30 : decode cX6_isPlaced 30 = .ok (.istore_n 3, 1) := by decide +kernel
theorem dX6_isPlaced_31 : decode cX6_isPlaced 31 = .ok (.iinc 4 (-1), 3) := by decide +kernel
theorem dX6_isPlaced_34 : decode cX6_isPlaced 34 = .ok (.goto (-24), 3) := by decide +kernel
theorem dX6_isPlaced_37 : decode cX6_isPlaced 37 = .ok (.iconst 0, 1) := by decide +kernel
theorem dX6_isPlaced_38 : decode cX6_isPlaced 38 = .ok (.istore 4, 2) := by decide +kernel
theorem dX6_isPlaced_40 : decode cX6_isPlaced 40 = .ok (.iload 4, 2) := by decide +kernel
theorem dX6_isPlaced_42 : decode cX6_isPlaced 42 = .ok (.aload_n 0, 1) := by decide +kernel
theorem dX6_isPlaced_43 : decode cX6_isPlaced 43 = .ok (.getfield 65, 3) := by decide +kernel
theorem dX6_isPlaced_46 : decode cX6_isPlaced 46 = .ok (.if_icmp .ge 25, 3) := by decide +kernel
theorem dX6_isPlaced_49 : decode cX6_isPlaced 49 = .ok (.iload_n 1, 1) := by decide +kernel
theorem dX6_isPlaced_50 : decode cX6_isPlaced 50 = .ok (.aload_n 0, 1) := by decide +kernel
theorem dX6_isPlaced_51 : decode cX6_isPlaced 51 = .ok (.getfield 31, 3) := by decide +kernel
theorem dX6_isPlaced_54 : decode cX6_isPlaced 54 = .ok (.iload 4, 2) := by decide +kernel
theorem dX6_isPlaced_56 : decode cX6_isPlaced 56 = .ok (.iaload, 1) := by decide +kernel
theorem dX6_isPlaced_57 : decode cX6_isPlaced 57 = .ok (.invokestatic 181, 3) := by decide +kernel
theorem dX6_isPlaced_60 : decode cX6_isPlaced 60 = .ok (.ifCond .ne 5, 3) := by decide +kernel
theorem dX6_isPlaced_63 : decode cX6_isPlaced 63 = .ok (.iconst 0, 1) := by decide +kernel
theorem dX6_isPlaced_64 : decode cX6_isPlaced 64 = .ok (.ireturn, 1) := by decide +kernel
theorem dX6_isPlaced_65 : decode cX6_isPlaced 65 = .ok (.iinc 4 1, 3) := by decide +kernel
theorem dX6_isPlaced_68 : decode cX6_isPlaced 68 = .ok (.goto (-28), 3) := by decide +kernel
theorem dX6_isPlaced_71 : decode cX6_isPlaced 71 = .ok (.iconst 0, 1) := by decide +kernel
theorem dX6_isPlaced_72 : decode cX6_isPlaced 72 = .ok (.istore 4, 2) := by decide +kernel
theorem dX6_isPlaced_74 : decode cX6_isPlaced 74 = .ok (.iload 4, 2) := by decide +kernel
theorem dX6_isPlaced_76 : decode cX6_isPlaced 76 = .ok (.bipush 6, 2) := by decide +kernel
theorem dX6_isPlaced_78 : decode cX6_isPlaced 78 = .ok (.if_icmp .ge 27, 3) := by decide +kernel
theorem dX6_isPlaced_81 : decode cX6_isPlaced 81 = .ok (.aload_n 0, 1) := by decide +kernel
theorem dX6_isPlaced_82 : decode cX6_isPlaced 82 = .ok (.iload 4, 2) := by decide +kernel
theorem dX6_isPlaced_84 : decode cX6_isPlaced 84 = .ok (.invokevirtual 125, 3) := by decide +kernel
theorem dX6_isPlaced_87 : decode cX6_isPlaced 87 = .ok (.aload_n 0, 1) := by decide +kernel
theorem dX6_isPlaced_88 : decode cX6_isPlaced 88 = .ok (.getfield 13, 3) := by decide +kernel
theorem dX6_isPlaced_91 : decode cX6_isPlaced 91 = .ok (.iload 4, 2) := by decide +kernel
theorem dX6_isPlaced_93 : decode cX6_isPlaced 93 = .ok (.iaload, 1) := by decide +kernel
theorem dX6_isPlaced_94 : decode cX6_isPlaced 94 = .ok (.if_icmp .le 5, 3) := by decide +kernel
theorem dX6_isPlaced_97 : decode cX6_isPlaced 97 = .ok (.iconst 0, 1) := by decide +kernel
theorem dX6_isPlaced_98 : decode cX6_isPlaced 98 = .ok (.ireturn, 1) := by decide +kernel
theorem dX6_isPlaced_99 : decode cX6_isPlaced 99 = .ok (.iinc 4 1, 3) := by decide +kernel
theorem dX6_isPlaced_102 : decode cX6_isPlaced 102 = .ok (.goto (-28), 3) := by decide +kernel
theorem dX6_isPlaced_105 : decode cX6_isPlaced 105 = .ok (.iconst 1, 1) := by decide +kernel
theorem dX6_isPlaced_106 : decode cX6_isPlaced 106 = .ok (.ireturn, 1) := by decide +kernel
theorem dX6_isRoom_0 : decode cX6_isRoom 0 = .ok (.iload_n 0, 1) := by decide +kernel
theorem dX6_isRoom_1 : decode cX6_isRoom 1 = .ok (.ifCond .lt 13, 3) := by decide +kernel
theorem dX6_isRoom_4 : decode cX6_isRoom 4 = .ok (.iload_n 0, 1) := by decide +kernel
theorem dX6_isRoom_5 : decode cX6_isRoom 5 = .ok (.bipush 6, 2) := by decide +kernel
theorem dX6_isRoom_7 : decode cX6_isRoom 7 = .ok (.if_icmp .ge 7, 3) := by decide +kernel
theorem dX6_isRoom_10 : decode cX6_isRoom 10 = .ok (.iconst 1, 1) := by decide +kernel
theorem dX6_isRoom_11 : decode cX6_isRoom 11 = .ok (.goto 4, 3) := by decide +kernel
theorem dX6_isRoom_14 : decode cX6_isRoom 14 = .ok (.iconst 0, 1) := by decide +kernel
theorem dX6_isRoom_15 : decode cX6_isRoom 15 = .ok (.ireturn, 1) := by decide +kernel
theorem dX6_judge_0 : decode cX6_judge 0 = .ok (.aload_n 0, 1) := by decide +kernel
theorem dX6_judge_1 : decode cX6_judge 1 = .ok (.invokevirtual 252, 3) := by decide +kernel
theorem dX6_judge_4 : decode cX6_judge 4 = .ok (.istore_n 1, 1) := by decide +kernel
theorem dX6_judge_5 : decode cX6_judge 5 = .ok (.aload_n 0, 1) := by decide +kernel
theorem dX6_judge_6 : decode cX6_judge 6 = .ok (.iconst 0, 1) := by decide +kernel
theorem dX6_judge_7 : decode cX6_judge 7 = .ok (.putfield 249, 3) := by decide +kernel
theorem dX6_judge_10 : decode cX6_judge 10 = .ok (.iload_n 1, 1) := by decide +kernel
theorem dX6_judge_11 : decode cX6_judge 11 = .ok (.ireturn, 1) := by decide +kernel
theorem dX6_kindOf_0 : decode cX6_kindOf 0 = .ok (.iload_n 0, 1) := by decide +kernel
theorem dX6_kindOf_1 : decode cX6_kindOf 1 = .ok (.lookupswitch 71 #[(99, 65), (112, 59), (115, 61), (116, 69), (118, 63), (119, 67)], 59) := by decide +kernel
theorem dX6_kindOf_60 : decode cX6_kindOf 60 = .ok (.iconst 0, 1) := by decide +kernel
theorem dX6_kindOf_61 : decode cX6_kindOf 61 = .ok (.ireturn, 1) := by decide +kernel
theorem dX6_kindOf_62 : decode cX6_kindOf 62 = .ok (.iconst 1, 1) := by decide +kernel
theorem dX6_kindOf_63 : decode cX6_kindOf 63 = .ok (.ireturn, 1) := by decide +kernel
theorem dX6_kindOf_64 : decode cX6_kindOf 64 = .ok (.iconst 2, 1) := by decide +kernel
theorem dX6_kindOf_65 : decode cX6_kindOf 65 = .ok (.ireturn, 1) := by decide +kernel
theorem dX6_kindOf_66 : decode cX6_kindOf 66 = .ok (.iconst 3, 1) := by decide +kernel
theorem dX6_kindOf_67 : decode cX6_kindOf 67 = .ok (.ireturn, 1) := by decide +kernel
theorem dX6_kindOf_68 : decode cX6_kindOf 68 = .ok (.iconst 4, 1) := by decide +kernel
theorem dX6_kindOf_69 : decode cX6_kindOf 69 = .ok (.ireturn, 1) := by decide +kernel
theorem dX6_kindOf_70 : decode cX6_kindOf 70 = .ok (.iconst 5, 1) := by decide +kernel
theorem dX6_kindOf_71 : decode cX6_kindOf 71 = .ok (.ireturn, 1) := by decide +kernel
theorem dX6_kindOf_72 : decode cX6_kindOf 72 = .ok (.iconst (-1), 1) := by decide +kernel
theorem dX6_kindOf_73 : decode cX6_kindOf 73 = .ok (.ireturn, 1) := by decide +kernel
theorem dX6_later_0 : decode cX6_later 0 = .ok (.iload_n 1, 1) := by decide +kernel
theorem dX6_later_1 : decode cX6_later 1 = .ok (.iconst 0, 1) := by decide +kernel
theorem dX6_later_2 : decode cX6_later 2 = .ok (.sipush 200, 3) := by decide +kernel
theorem dX6_later_5 : decode cX6_later 5 = .ok (.invokestatic 72, 3) := by decide +kernel
theorem dX6_later_8 : decode cX6_later 8 = .ok (.istore_n 2, 1) := by decide +kernel
theorem dX6_later_9 : decode cX6_later 9 = .ok (.iload_n 2, 1) := by decide +kernel
theorem dX6_later_10 : decode cX6_later 10 = .ok (.ifCond .eq 11, 3) := by decide +kernel
theorem dX6_later_13 : decode cX6_later 13 = .ok (.aload_n 0, 1) := by decide +kernel
theorem dX6_later_14 : decode cX6_later 14 = .ok (.iload_n 2, 1) := by decide +kernel
theorem dX6_later_15 : decode cX6_later 15 = .ok (.invokevirtual 79, 3) := by decide +kernel
theorem dX6_later_18 : decode cX6_later 18 = .ok (.goto 8, 3) := by decide +kernel
theorem dX6_later_21 : decode cX6_later 21 = .ok (.aload_n 0, 1) := by decide +kernel
theorem dX6_later_22 : decode cX6_later 22 = .ok (.iload_n 1, 1) := by decide +kernel
theorem dX6_later_23 : decode cX6_later 23 = .ok (.invokevirtual 240, 3) := by decide +kernel
theorem dX6_later_26 : decode cX6_later 26 = .ok (.ireturn, 1) := by decide +kernel
theorem dX6_leaves_0 : decode cX6_leaves 0 = .ok (.aload_n 0, 1) := by decide +kernel
theorem dX6_leaves_1 : decode cX6_leaves 1 = .ok (.dup, 1) := by decide +kernel
theorem dX6_leaves_2 : decode cX6_leaves 2 = .ok (.getfield 65, 3) := by decide +kernel
theorem dX6_leaves_5 : decode cX6_leaves 5 = .ok (.iconst 1, 1) := by decide +kernel
theorem dX6_leaves_6 : decode cX6_leaves 6 = .ok (.isub, 1) := by decide +kernel
theorem dX6_leaves_7 : decode cX6_leaves 7 = .ok (.putfield 65, 3) := by decide +kernel
theorem dX6_leaves_10 : decode cX6_leaves 10 = .ok (.iload_n 1, 1) := by decide +kernel
theorem dX6_leaves_11 : decode cX6_leaves 11 = .ok (.istore_n 2, 1) := by decide +kernel
theorem dX6_leaves_12 : decode cX6_leaves 12 = .ok (.iload_n 2, 1) := by decide +kernel
theorem dX6_leaves_13 : decode cX6_leaves 13 = .ok (.aload_n 0, 1) := by decide +kernel
theorem dX6_leaves_14 : decode cX6_leaves 14 = .ok (.getfield 65, 3) := by decide +kernel
theorem dX6_leaves_17 : decode cX6_leaves 17 = .ok (.if_icmp .ge 79, 3) := by decide +kernel
theorem dX6_leaves_20 : decode cX6_leaves 20 = .ok (.aload_n 0, 1) := by decide +kernel
theorem dX6_leaves_21 : decode cX6_leaves 21 = .ok (.getfield 19, 3) := by decide +kernel
theorem dX6_leaves_24 : decode cX6_leaves 24 = .ok (.iload_n 2, 1) := by decide +kernel
theorem dX6_leaves_25 : decode cX6_leaves 25 = .ok (.aload_n 0, 1) := by decide +kernel
theorem dX6_leaves_26 : decode cX6_leaves 26 = .ok (.getfield 19, 3) := by decide +kernel
theorem dX6_leaves_29 : decode cX6_leaves 29 = .ok (.iload_n 2, 1) := by decide +kernel
theorem dX6_leaves_30 : decode cX6_leaves 30 = .ok (.iconst 1, 1) := by decide +kernel
theorem dX6_leaves_31 : decode cX6_leaves 31 = .ok (.iadd, 1) := by decide +kernel
theorem dX6_leaves_32 : decode cX6_leaves 32 = .ok (.iaload, 1) := by decide +kernel
theorem dX6_leaves_33 : decode cX6_leaves 33 = .ok (.iastore, 1) := by decide +kernel
theorem dX6_leaves_34 : decode cX6_leaves 34 = .ok (.aload_n 0, 1) := by decide +kernel
theorem dX6_leaves_35 : decode cX6_leaves 35 = .ok (.getfield 22, 3) := by decide +kernel
theorem dX6_leaves_38 : decode cX6_leaves 38 = .ok (.iload_n 2, 1) := by decide +kernel
theorem dX6_leaves_39 : decode cX6_leaves 39 = .ok (.aload_n 0, 1) := by decide +kernel
theorem dX6_leaves_40 : decode cX6_leaves 40 = .ok (.getfield 22, 3) := by decide +kernel
theorem dX6_leaves_43 : decode cX6_leaves 43 = .ok (.iload_n 2, 1) := by decide +kernel
theorem dX6_leaves_44 : decode cX6_leaves 44 = .ok (.iconst 1, 1) := by decide +kernel
theorem dX6_leaves_45 : decode cX6_leaves 45 = .ok (.iadd, 1) := by decide +kernel
theorem dX6_leaves_46 : decode cX6_leaves 46 = .ok (.iaload, 1) := by decide +kernel
theorem dX6_leaves_47 : decode cX6_leaves 47 = .ok (.iastore, 1) := by decide +kernel
theorem dX6_leaves_48 : decode cX6_leaves 48 = .ok (.aload_n 0, 1) := by decide +kernel
theorem dX6_leaves_49 : decode cX6_leaves 49 = .ok (.getfield 25, 3) := by decide +kernel
theorem dX6_leaves_52 : decode cX6_leaves 52 = .ok (.iload_n 2, 1) := by decide +kernel
theorem dX6_leaves_53 : decode cX6_leaves 53 = .ok (.aload_n 0, 1) := by decide +kernel
theorem dX6_leaves_54 : decode cX6_leaves 54 = .ok (.getfield 25, 3) := by decide +kernel
theorem dX6_leaves_57 : decode cX6_leaves 57 = .ok (.iload_n 2, 1) := by decide +kernel
theorem dX6_leaves_58 : decode cX6_leaves 58 = .ok (.iconst 1, 1) := by decide +kernel
theorem dX6_leaves_59 : decode cX6_leaves 59 = .ok (.iadd, 1) := by decide +kernel
theorem dX6_leaves_60 : decode cX6_leaves 60 = .ok (.iaload, 1) := by decide +kernel
theorem dX6_leaves_61 : decode cX6_leaves 61 = .ok (.iastore, 1) := by decide +kernel
theorem dX6_leaves_62 : decode cX6_leaves 62 = .ok (.aload_n 0, 1) := by decide +kernel
theorem dX6_leaves_63 : decode cX6_leaves 63 = .ok (.getfield 28, 3) := by decide +kernel
theorem dX6_leaves_66 : decode cX6_leaves 66 = .ok (.iload_n 2, 1) := by decide +kernel
theorem dX6_leaves_67 : decode cX6_leaves 67 = .ok (.aload_n 0, 1) := by decide +kernel
theorem dX6_leaves_68 : decode cX6_leaves 68 = .ok (.getfield 28, 3) := by decide +kernel
theorem dX6_leaves_71 : decode cX6_leaves 71 = .ok (.iload_n 2, 1) := by decide +kernel
theorem dX6_leaves_72 : decode cX6_leaves 72 = .ok (.iconst 1, 1) := by decide +kernel
theorem dX6_leaves_73 : decode cX6_leaves 73 = .ok (.iadd, 1) := by decide +kernel
theorem dX6_leaves_74 : decode cX6_leaves 74 = .ok (.iaload, 1) := by decide +kernel
theorem dX6_leaves_75 : decode cX6_leaves 75 = .ok (.iastore, 1) := by decide +kernel
theorem dX6_leaves_76 : decode cX6_leaves 76 = .ok (.aload_n 0, 1) := by decide +kernel
theorem dX6_leaves_77 : decode cX6_leaves 77 = .ok (.getfield 31, 3) := by decide +kernel
theorem dX6_leaves_80 : decode cX6_leaves 80 = .ok (.iload_n 2, 1) := by decide +kernel
theorem dX6_leaves_81 : decode cX6_leaves 81 = .ok (.aload_n 0, 1) := by decide +kernel
theorem dX6_leaves_82 : decode cX6_leaves 82 = .ok (.getfield 31, 3) := by decide +kernel
theorem dX6_leaves_85 : decode cX6_leaves 85 = .ok (.iload_n 2, 1) := by decide +kernel
theorem dX6_leaves_86 : decode cX6_leaves 86 = .ok (.iconst 1, 1) := by decide +kernel
theorem dX6_leaves_87 : decode cX6_leaves 87 = .ok (.iadd, 1) := by decide +kernel
theorem dX6_leaves_88 : decode cX6_leaves 88 = .ok (.iaload, 1) := by decide +kernel
theorem dX6_leaves_89 : decode cX6_leaves 89 = .ok (.iastore, 1) := by decide +kernel
theorem dX6_leaves_90 : decode cX6_leaves 90 = .ok (.iinc 2 1, 3) := by decide +kernel
theorem dX6_leaves_93 : decode cX6_leaves 93 = .ok (.goto (-81), 3) := by decide +kernel
theorem dX6_leaves_96 : decode cX6_leaves 96 = .ok (.return_, 1) := by decide +kernel
theorem dX6_letter_0 : decode cX6_letter 0 = .ok (.iload_n 1, 1) := by decide +kernel
theorem dX6_letter_1 : decode cX6_letter 1 = .ok (.iconst 0, 1) := by decide +kernel
theorem dX6_letter_2 : decode cX6_letter 2 = .ok (.sipush 255, 3) := by decide +kernel
theorem dX6_letter_5 : decode cX6_letter 5 = .ok (.invokestatic 72, 3) := by decide +kernel
theorem dX6_letter_8 : decode cX6_letter 8 = .ok (.istore_n 2, 1) := by decide +kernel
theorem dX6_letter_9 : decode cX6_letter 9 = .ok (.iload_n 2, 1) := by decide +kernel
theorem dX6_letter_10 : decode cX6_letter 10 = .ok (.ifCond .ne 15, 3) := by decide +kernel
theorem dX6_letter_13 : decode cX6_letter 13 = .ok (.aload_n 0, 1) := by decide +kernel
theorem dX6_letter_14 : decode cX6_letter 14 = .ok (.getfield 76, 3) := by decide +kernel
theorem dX6_letter_17 : decode cX6_letter 17 = .ok (.bipush 96, 2) := by decide +kernel
theorem dX6_letter_19 : decode cX6_letter 19 = .ok (.if_icmp .ne 6, 3) := by decide +kernel
theorem dX6_letter_22 : decode cX6_letter 22 = .ok (.bipush (-6), 2) := by decide +kernel
theorem dX6_letter_24 : decode cX6_letter 24 = .ok (.istore_n 2, 1) := by decide +kernel
theorem dX6_letter_25 : decode cX6_letter 25 = .ok (.iload_n 2, 1) := by decide +kernel
theorem dX6_letter_26 : decode cX6_letter 26 = .ok (.ifCond .eq 9, 3) := by decide +kernel
theorem dX6_letter_29 : decode cX6_letter 29 = .ok (.aload_n 0, 1) := by decide +kernel
theorem dX6_letter_30 : decode cX6_letter 30 = .ok (.iload_n 2, 1) := by decide +kernel
theorem dX6_letter_31 : decode cX6_letter 31 = .ok (.invokevirtual 79, 3) := by decide +kernel
theorem dX6_letter_34 : decode cX6_letter 34 = .ok (.ireturn, 1) := by decide +kernel
theorem dX6_letter_35 : decode cX6_letter 35 = .ok (.aload_n 0, 1) := by decide +kernel
theorem dX6_letter_36 : decode cX6_letter 36 = .ok (.getfield 34, 3) := by decide +kernel
theorem dX6_letter_39 : decode cX6_letter 39 = .ok (.aload_n 0, 1) := by decide +kernel
theorem dX6_letter_40 : decode cX6_letter 40 = .ok (.getfield 76, 3) := by decide +kernel
theorem dX6_letter_43 : decode cX6_letter 43 = .ok (.iload_n 1, 1) := by decide +kernel
theorem dX6_letter_44 : decode cX6_letter 44 = .ok (.iastore, 1) := by decide +kernel
theorem dX6_letter_45 : decode cX6_letter 45 = .ok (.aload_n 0, 1) := by decide +kernel
theorem dX6_letter_46 : decode cX6_letter 46 = .ok (.dup, 1) := by decide +kernel
theorem dX6_letter_47 : decode cX6_letter 47 = .ok (.getfield 76, 3) := by decide +kernel
theorem dX6_letter_50 : decode cX6_letter 50 = .ok (.iconst 1, 1) := by decide +kernel
theorem dX6_letter_51 : decode cX6_letter 51 = .ok (.iadd, 1) := by decide +kernel
theorem dX6_letter_52 : decode cX6_letter 52 = .ok (.putfield 76, 3) := by decide +kernel
theorem dX6_letter_55 : decode cX6_letter 55 = .ok (.aload_n 0, 1) := by decide +kernel
theorem dX6_letter_56 : decode cX6_letter 56 = .ok (.getfield 76, 3) := by decide +kernel
theorem dX6_letter_59 : decode cX6_letter 59 = .ok (.ireturn, 1) := by decide +kernel
theorem dX6_lots_0 : decode cX6_lots 0 = .ok (.iload_n 1, 1) := by decide +kernel
theorem dX6_lots_1 : decode cX6_lots 1 = .ok (.iconst 1, 1) := by decide +kernel
theorem dX6_lots_2 : decode cX6_lots 2 = .ok (.bipush 20, 2) := by decide +kernel
theorem dX6_lots_4 : decode cX6_lots 4 = .ok (.invokestatic 72, 3) := by decide +kernel
theorem dX6_lots_7 : decode cX6_lots 7 = .ok (.istore_n 3, 1) := by decide +kernel
theorem dX6_lots_8 : decode cX6_lots 8 = .ok (.iload_n 3, 1) := by decide +kernel
theorem dX6_lots_9 : decode cX6_lots 9 = .ok (.ifCond .eq 9, 3) := by decide +kernel
theorem dX6_lots_12 : decode cX6_lots 12 = .ok (.aload_n 0, 1) := by decide +kernel
theorem dX6_lots_13 : decode cX6_lots 13 = .ok (.iload_n 3, 1) := by decide +kernel
theorem dX6_lots_14 : decode cX6_lots 14 = .ok (.invokevirtual 79, 3) := by decide +kernel
theorem dX6_lots_17 : decode cX6_lots 17 = .ok (.ireturn, 1) := by decide +kernel
theorem dX6_lots_18 : decode cX6_lots 18 = .ok (.aload_n 0, 1) := by decide +kernel
theorem dX6_lots_19 : decode cX6_lots 19 = .ok (.iconst 1, 1) := by decide +kernel
theorem dX6_lots_20 : decode cX6_lots 20 = .ok (.iconst 1, 1) := by decide +kernel
theorem dX6_lots_21 : decode cX6_lots 21 = .ok (.invokevirtual 139, 3) := by decide +kernel
theorem dX6_lots_24 : decode cX6_lots 24 = .ok (.iload_n 2, 1) := by decide +kernel
theorem dX6_lots_25 : decode cX6_lots 25 = .ok (.istore 4, 2) := by decide +kernel
theorem dX6_lots_27 : decode cX6_lots 27 = .ok (.iconst 0, 1) := by decide +kernel
theorem dX6_lots_28 : decode cX6_lots 28 = .ok (.istore 5, 2) := by decide +kernel
theorem dX6_lots_30 : decode cX6_lots 30 = .ok (.iconst 0, 1) := by decide +kernel
theorem dX6_lots_31 : decode cX6_lots 31 = .ok (.istore 6, 2) := by decide +kernel
theorem dX6_lots_33 : decode cX6_lots 33 = .ok (.iload 6, 2) := by decide +kernel
theorem dX6_lots_35 : decode cX6_lots 35 = .ok (.iload_n 1, 1) := by decide +kernel
theorem dX6_lots_36 : decode cX6_lots 36 = .ok (.if_icmp .ge 71, 3) := by decide +kernel
theorem dX6_lots_39 : decode cX6_lots 39 = .ok (.iconst 0, 1) := by decide +kernel
theorem dX6_lots_40 : decode cX6_lots 40 = .ok (.istore 7, 2) := by decide +kernel
theorem dX6_lots_42 : decode cX6_lots 42 = .ok (.iload 7, 2) := by decide +kernel
theorem dX6_lots_44 : decode cX6_lots 44 = .ok (.aload_n 0, 1) := by decide +kernel
theorem dX6_lots_45 : decode cX6_lots 45 = .ok (.getfield 65, 3) := by decide +kernel
theorem dX6_lots_48 : decode cX6_lots 48 = .ok (.if_icmp .ge 40, 3) := by decide +kernel
theorem dX6_lots_51 : decode cX6_lots 51 = .ok (.iload 4, 2) := by decide +kernel
theorem dX6_lots_53 : decode cX6_lots 53 = .ok (.ldc 255, 2) := by decide +kernel
theorem dX6_lots_55 : decode cX6_lots 55 = .ok (.imul, 1) := by decide +kernel
theorem dX6_lots_56 : decode cX6_lots 56 = .ok (.ldc_w 256, 3) := by decide +kernel
theorem dX6_lots_59 : decode cX6_lots 59 = .ok (.iadd, 1) := by decide +kernel
theorem dX6_lots_60 : decode cX6_lots 60 = .ok (.istore 4, 2) := by decide +kernel
theorem dX6_lots_62 : decode cX6_lots 62 = .ok (.aload_n 0, 1) := by decide +kernel
theorem dX6_lots_63 : decode cX6_lots 63 = .ok (.getfield 31, 3) := by decide +kernel
theorem dX6_lots_66 : decode cX6_lots 66 = .ok (.iload 7, 2) := by decide +kernel
theorem dX6_lots_68 : decode cX6_lots 68 = .ok (.iload 4, 2) := by decide +kernel
theorem dX6_lots_70 : decode cX6_lots 70 = .ok (.ldc_w 257, 3) := by decide +kernel
theorem dX6_lots_73 : decode cX6_lots 73 = .ok (.iand, 1) := by decide +kernel
theorem dX6_lots_74 : decode cX6_lots 74 = .ok (.sipush 256, 3) := by decide +kernel
theorem dX6_lots_77 : decode cX6_lots 77 = .ok (.idiv, 1) := by decide +kernel
theorem dX6_lots_78 : decode cX6_lots 78 = .ok (.bipush 6, 2) := by decide +kernel
theorem dX6_lots_80 : decode cX6_lots 80 = .ok (.irem, 1) := by decide +kernel
theorem dX6_lots_81 : decode cX6_lots 81 = .ok (.iastore, 1) := by decide +kernel
theorem dX6_lots_82 : decode cX6_lots 82 = .ok (.iinc 7 1, 3) := by decide +kernel
theorem dX6_lots_85 : decode cX6_lots 85 = .ok (.goto (-43), 3) := by decide +kernel
theorem dX6_lots_88 : decode cX6_lots 88 = .ok (.iload 5, 2) := by decide +kernel
theorem dX6_lots_90 : decode cX6_lots 90 = .ok (.aload_n 0, 1) := by decide +kernel
theorem dX6_lots_91 : decode cX6_lots 91 = .ok (.aload_n 0, 1) := by decide +kernel
theorem dX6_lots_92 : decode cX6_lots 92 = .ok (.invokevirtual 197, 3) := by decide +kernel
theorem dX6_lots_95 : decode cX6_lots 95 = .ok (.invokevirtual 178, 3) := by decide +kernel
theorem dX6_lots_98 : decode cX6_lots 98 = .ok (.iadd, 1) := by decide +kernel
theorem dX6_lots_99 : decode cX6_lots 99 = .ok (.istore 5, 2) := by decide +kernel
theorem dX6_lots_101 : decode cX6_lots 101 = .ok (.iinc 6 1, 3) := by decide +kernel
theorem dX6_lots_104 : decode cX6_lots 104 = .ok (.goto (-71), 3) := by decide +kernel
theorem dX6_lots_107 : decode cX6_lots 107 = .ok (.aload_n 0, 1) := by decide +kernel
theorem dX6_lots_108 : decode cX6_lots 108 = .ok (.iconst 1, 1) := by decide +kernel
theorem dX6_lots_109 : decode cX6_lots 109 = .ok (.iconst 0, 1) := by decide +kernel
theorem dX6_lots_110 : decode cX6_lots 110 = .ok (.invokevirtual 139, 3) := by decide +kernel
theorem dX6_lots_113 : decode cX6_lots 113 = .ok (.iload 5, 2) := by decide +kernel
theorem dX6_lots_115 : decode cX6_lots 115 = .ok (.ireturn, 1) := by decide +kernel
theorem dX6_makes_0 : decode cX6_makes 0 = .ok (.iconst 0, 1) := by decide +kernel
theorem dX6_makes_1 : decode cX6_makes 1 = .ok (.istore_n 3, 1) := by decide +kernel
theorem dX6_makes_2 : decode cX6_makes 2 = .ok (.iload_n 3, 1) := by decide +kernel
theorem dX6_makes_3 : decode cX6_makes 3 = .ok (.bipush 10, 2) := by decide +kernel
theorem dX6_makes_5 : decode cX6_makes 5 = .ok (.if_icmp .ge 31, 3) := by decide +kernel
theorem dX6_makes_8 : decode cX6_makes 8 = .ok (.iload_n 3, 1) := by decide +kernel
theorem dX6_makes_9 : decode cX6_makes 9 = .ok (.aload_n 0, 1) := by decide +kernel
theorem dX6_makes_10 : decode cX6_makes 10 = .ok (.getfield 25, 3) := by decide +kernel
theorem dX6_makes_13 : decode cX6_makes 13 = .ok (.iload_n 1, 1) := by decide +kernel
theorem dX6_makes_14 : decode cX6_makes 14 = .ok (.iaload, 1) := by decide +kernel
theorem dX6_makes_15 : decode cX6_makes 15 = .ok (.if_icmp .eq 15, 3) := by decide +kernel
theorem dX6_makes_18 : decode cX6_makes 18 = .ok (.aload_n 0, 1) := by decide +kernel
theorem dX6_makes_19 : decode cX6_makes 19 = .ok (.iload_n 1, 1) := by decide +kernel
theorem dX6_makes_20 : decode cX6_makes 20 = .ok (.iload_n 3, 1) := by decide +kernel
theorem dX6_makes_21 : decode cX6_makes 21 = .ok (.invokevirtual 237, 3) := by decide +kernel
theorem dX6_makes_24 : decode cX6_makes 24 = .ok (.iload_n 2, 1) := by decide +kernel
theorem dX6_makes_25 : decode cX6_makes 25 = .ok (.if_icmp .ne 5, 3) := by decide +kernel
theorem dX6_makes_28 : decode cX6_makes 28 = .ok (.iconst 1, 1) := by decide +kernel
theorem dX6_makes_29 : decode cX6_makes 29 = .ok (.ireturn, 1) := by decide +kernel
theorem dX6_makes_30 : decode cX6_makes 30 = .ok (.iinc 3 1, 3) := by decide +kernel
theorem dX6_makes_33 : decode cX6_makes 33 = .ok (.goto (-31), 3) := by decide +kernel
theorem dX6_makes_36 : decode cX6_makes 36 = .ok (.iconst 0, 1) := by decide +kernel
theorem dX6_makes_37 : decode cX6_makes 37 = .ok (.ireturn, 1) := by decide +kernel
theorem dX6_mildest_0 : decode cX6_mildest 0 = .ok (.bipush (-9), 2) := by decide +kernel
theorem dX6_mildest_2 : decode cX6_mildest 2 = .ok (.istore_n 2, 1) := by decide +kernel
theorem dX6_mildest_3 : decode cX6_mildest 3 = .ok (.iconst 0, 1) := by decide +kernel
theorem dX6_mildest_4 : decode cX6_mildest 4 = .ok (.istore_n 3, 1) := by decide +kernel
theorem dX6_mildest_5 : decode cX6_mildest 5 = .ok (.iload_n 3, 1) := by decide +kernel
theorem dX6_mildest_6 : decode cX6_mildest 6 = .ok (.aload_n 0, 1) := by decide +kernel
theorem dX6_mildest_7 : decode cX6_mildest 7 = .ok (.getfield 65, 3) := by decide +kernel
theorem dX6_mildest_10 : decode cX6_mildest 10 = .ok (.if_icmp .ge 36, 3) := by decide +kernel
theorem dX6_mildest_13 : decode cX6_mildest 13 = .ok (.iload_n 1, 1) := by decide +kernel
theorem dX6_mildest_14 : decode cX6_mildest 14 = .ok (.iload_n 3, 1) := by decide +kernel
theorem dX6_mildest_15 : decode cX6_mildest 15 = .ok (.invokestatic 181, 3) := by decide +kernel
theorem dX6_mildest_18 : decode cX6_mildest 18 = .ok (.ifCond .ne 22, 3) := by decide +kernel
theorem dX6_mildest_21 : decode cX6_mildest 21 = .ok (.iload_n 2, 1) := by decide +kernel
theorem dX6_mildest_22 : decode cX6_mildest 22 = .ok (.ifCond .lt 16, 3) := by decide +kernel
theorem dX6_mildest_25 : decode cX6_mildest 25 = .ok (.aload_n 0, 1) := by decide +kernel
theorem dX6_mildest_26 : decode cX6_mildest 26 = .ok (.iload_n 3, 1) := by decide +kernel
theorem dX6_mildest_27 : decode cX6_mildest 27 = .ok (.invokevirtual 169, 3) := by decide +kernel
theorem dX6_mildest_30 : decode cX6_mildest 30 = .ok (.aload_n 0, 1) := by decide +kernel
theorem dX6_mildest_31 : decode cX6_mildest 31 = .ok (.iload_n 2, 1) := by decide +kernel
theorem dX6_mildest_32 : decode cX6_mildest 32 = .ok (.invokevirtual 169, 3) := by decide +kernel
theorem dX6_mildest_35 : decode cX6_mildest 35 = .ok (.if_icmp .ge 5, 3) := by decide +kernel
theorem dX6_mildest_38 : decode cX6_mildest 38 = .ok (.iload_n 3, 1) := by decide +kernel
theorem dX6_mildest_39 : decode cX6_mildest 39 = .ok (.istore_n 2, 1) := by decide +kernel
theorem dX6_mildest_40 : decode cX6_mildest 40 = .ok (.iinc 3 1, 3) := by decide +kernel
theorem dX6_mildest_43 : decode cX6_mildest 43 = .ok (.goto (-38), 3) := by decide +kernel
theorem dX6_mildest_46 : decode cX6_mildest 46 = .ok (.iload_n 2, 1) := by decide +kernel
theorem dX6_mildest_47 : decode cX6_mildest 47 = .ok (.ireturn, 1) := by decide +kernel
theorem dX6_next_0 : decode cX6_next 0 = .ok (.aload_n 0, 1) := by decide +kernel
theorem dX6_next_1 : decode cX6_next 1 = .ok (.getfield 83, 3) := by decide +kernel
theorem dX6_next_4 : decode cX6_next 4 = .ok (.aload_n 0, 1) := by decide +kernel
theorem dX6_next_5 : decode cX6_next 5 = .ok (.getfield 76, 3) := by decide +kernel
theorem dX6_next_8 : decode cX6_next 8 = .ok (.if_icmp .ge 15, 3) := by decide +kernel
theorem dX6_next_11 : decode cX6_next 11 = .ok (.aload_n 0, 1) := by decide +kernel
theorem dX6_next_12 : decode cX6_next 12 = .ok (.getfield 34, 3) := by decide +kernel
theorem dX6_next_15 : decode cX6_next 15 = .ok (.aload_n 0, 1) := by decide +kernel
theorem dX6_next_16 : decode cX6_next 16 = .ok (.getfield 83, 3) := by decide +kernel
theorem dX6_next_19 : decode cX6_next 19 = .ok (.iaload, 1) := by decide +kernel
theorem dX6_next_20 : decode cX6_next 20 = .ok (.goto 4, 3) := by decide +kernel
theorem dX6_next_23 : decode cX6_next 23 = .ok (.iconst (-1), 1) := by decide +kernel
theorem dX6_next_24 : decode cX6_next 24 = .ok (.ireturn, 1) := by decide +kernel
theorem dX6_no_0 : decode cX6_no 0 = .ok (.aload_n 0, 1) := by decide +kernel
theorem dX6_no_1 : decode cX6_no 1 = .ok (.getfield 7, 3) := by decide +kernel
theorem dX6_no_4 : decode cX6_no 4 = .ok (.iload_n 1, 1) := by decide +kernel
theorem dX6_no_5 : decode cX6_no 5 = .ok (.ineg, 1) := by decide +kernel
theorem dX6_no_6 : decode cX6_no 6 = .ok (.dup2, 1) := by decide +kernel
theorem dX6_no_7 : decode cX6_no 7 = .ok (.iaload, 1) := by decide +kernel
theorem dX6_no_8 : decode cX6_no 8 = .ok (.iconst 1, 1) := by decide +kernel
theorem dX6_no_9 : decode cX6_no 9 = .ok (.iadd, 1) := by decide +kernel
theorem dX6_no_10 : decode cX6_no 10 = .ok (.iastore, 1) := by decide +kernel
theorem dX6_no_11 : decode cX6_no 11 = .ok (.iload_n 1, 1) := by decide +kernel
theorem dX6_no_12 : decode cX6_no 12 = .ok (.ireturn, 1) := by decide +kernel
theorem dX6_notShare_0 : decode cX6_notShare 0 = .ok (.iload_n 1, 1) := by decide +kernel
theorem dX6_notShare_1 : decode cX6_notShare 1 = .ok (.iconst (-1), 1) := by decide +kernel
theorem dX6_notShare_2 : decode cX6_notShare 2 = .ok (.if_icmp .ge 8, 3) := by decide +kernel
theorem dX6_notShare_5 : decode cX6_notShare 5 = .ok (.bipush (-4), 2) := by decide +kernel
theorem dX6_notShare_7 : decode cX6_notShare 7 = .ok (.goto 16, 3) := by decide +kernel
theorem dX6_notShare_10 : decode cX6_notShare 10 = .ok (.iload_n 1, 1) := by decide +kernel
theorem dX6_notShare_11 : decode cX6_notShare 11 = .ok (.aload_n 0, 1) := by decide +kernel
theorem dX6_notShare_12 : decode cX6_notShare 12 = .ok (.getfield 65, 3) := by decide +kernel
theorem dX6_notShare_15 : decode cX6_notShare 15 = .ok (.if_icmp .lt 7, 3) := by decide +kernel
theorem dX6_notShare_18 : decode cX6_notShare 18 = .ok (.iconst (-1), 1) := by decide +kernel
theorem dX6_notShare_19 : decode cX6_notShare 19 = .ok (.goto 4, 3) := by decide +kernel
theorem dX6_notShare_22 : decode cX6_notShare 22 = .ok (.iconst 0, 1) := by decide +kernel
theorem dX6_notShare_23 : decode cX6_notShare 23 = .ok (.ireturn, 1) := by decide +kernel
theorem dX6_on_0 : decode cX6_on 0 = .ok (.aload_n 0, 1) := by decide +kernel
theorem dX6_on_1 : decode cX6_on 1 = .ok (.getfield 160, 3) := by decide +kernel
theorem dX6_on_4 : decode cX6_on 4 = .ok (.ifCond .ne 10, 3) := by decide +kernel
theorem dX6_on_7 : decode cX6_on 7 = .ok (.aload_n 0, 1) := by decide +kernel
theorem dX6_on_8 : decode cX6_on 8 = .ok (.bipush (-3), 2) := by decide +kernel
theorem dX6_on_10 : decode cX6_on 10 = .ok (.invokevirtual 79, 3) := by decide +kernel
theorem dX6_on_13 : decode cX6_on 13 = .ok (.ireturn, 1) := by decide +kernel
theorem dX6_on_14 : decode cX6_on 14 = .ok (.aload_n 0, 1) := by decide +kernel
theorem dX6_on_15 : decode cX6_on 15 = .ok (.iconst 0, 1) := by decide +kernel
theorem dX6_on_16 : decode cX6_on 16 = .ok (.iconst 0, 1) := by decide +kernel
theorem dX6_on_17 : decode cX6_on 17 = .ok (.invokevirtual 139, 3) := by decide +kernel
theorem dX6_on_20 : decode cX6_on 20 = .ok (.aload_n 0, 1) := by decide +kernel
theorem dX6_on_21 : decode cX6_on 21 = .ok (.getfield 128, 3) := by decide +kernel
theorem dX6_on_24 : decode cX6_on 24 = .ok (.ireturn, 1) := by decide +kernel
theorem dX6_passOne_0 : decode cX6_passOne 0 = .ok (.aload_n 0, 1) := by decide +kernel
theorem dX6_passOne_1 : decode cX6_passOne 1 = .ok (.getfield 146, 3) := by decide +kernel
theorem dX6_passOne_4 : decode cX6_passOne 4 = .ok (.ifCond .eq 7, 3) := by decide +kernel
theorem dX6_passOne_7 : decode cX6_passOne 7 = .ok (.iload_n 1, 1) := by decide +kernel
theorem dX6_passOne_8 : decode cX6_passOne 8 = .ok (.goto 12, 3) := by decide +kernel
theorem dX6_passOne_11 : decode cX6_passOne 11 = .ok (.aload_n 0, 1) := by decide +kernel
theorem dX6_passOne_12 : decode cX6_passOne 12 = .ok (.getfield 46, 3) := by decide +kernel
theorem dX6_passOne_15 : decode cX6_passOne 15 = .ok (.aload_n 0, 1) := by decide +kernel
theorem dX6_passOne_16 : decode cX6_passOne 16 = .ok (.getfield 150, 3) := by decide +kernel
theorem dX6_passOne_19 : decode cX6_passOne 19 = .ok (.iaload, 1) := by decide +kernel
theorem dX6_passOne_20 : decode cX6_passOne 20 = .ok (.istore_n 2, 1) := by decide +kernel
theorem dX6_passOne_21 : decode cX6_passOne 21 = .ok (.aload_n 0, 1) := by decide +kernel
theorem dX6_passOne_22 : decode cX6_passOne 22 = .ok (.getfield 146, 3) := by decide +kernel
theorem dX6_passOne_25 : decode cX6_passOne 25 = .ok (.ifCond .eq 13, 3) := by decide +kernel
theorem dX6_passOne_28 : decode cX6_passOne 28 = .ok (.aload_n 0, 1) := by decide +kernel
theorem dX6_passOne_29 : decode cX6_passOne 29 = .ok (.getfield 46, 3) := by decide +kernel
theorem dX6_passOne_32 : decode cX6_passOne 32 = .ok (.aload_n 0, 1) := by decide +kernel
theorem dX6_passOne_33 : decode cX6_passOne 33 = .ok (.getfield 150, 3) := by decide +kernel
theorem dX6_passOne_36 : decode cX6_passOne 36 = .ok (.iload_n 1, 1) := by decide +kernel
theorem dX6_passOne_37 : decode cX6_passOne 37 = .ok (.iastore, 1) := by decide +kernel
theorem dX6_passOne_38 : decode cX6_passOne 38 = .ok (.aload_n 0, 1) := by decide +kernel
theorem dX6_passOne_39 : decode cX6_passOne 39 = .ok (.dup, 1) := by decide +kernel
theorem dX6_passOne_40 : decode cX6_passOne 40 = .ok (.getfield 150, 3) := by decide +kernel
theorem dX6_passOne_43 : decode cX6_passOne 43 = .ok (.iconst 1, 1) := by decide +kernel
theorem dX6_passOne_44 : decode cX6_passOne 44 = .ok (.iadd, 1) := by decide +kernel
theorem dX6_passOne_45 : decode cX6_passOne 45 = .ok (.putfield 150, 3) := by decide +kernel
theorem dX6_passOne_48 : decode cX6_passOne 48 = .ok (.iload_n 2, 1) := by decide +kernel
theorem dX6_passOne_49 : decode cX6_passOne 49 = .ok (.ireturn, 1) := by decide +kernel
theorem dX6_passes_0 : decode cX6_passes 0 = .ok (.iconst 0, 1) := by decide +kernel
theorem dX6_passes_1 : decode cX6_passes 1 = .ok (.istore_n 2, 1) := by decide +kernel
theorem dX6_passes_2 : decode cX6_passes 2 = .ok (.iload_n 2, 1) := by decide +kernel
theorem dX6_passes_3 : decode cX6_passes 3 = .ok (.aload_n 1, 1) := by decide +kernel
theorem dX6_passes_4 : decode cX6_passes 4 = .ok (.arraylength, 1) := by decide +kernel
theorem dX6_passes_5 : decode cX6_passes 5 = .ok (.if_icmp .ge 53, 3) := by decide +kernel
theorem dX6_passes_8 : decode cX6_passes 8 = .ok (.aload_n 0, 1) := by decide +kernel
theorem dX6_passes_9 : decode cX6_passes 9 = .ok (.getfield 146, 3) := by decide +kernel
theorem dX6_passes_12 : decode cX6_passes 12 = .ok (.ifCond .eq 18, 3) := by decide +kernel
theorem dX6_passes_15 : decode cX6_passes 15 = .ok (.aload_n 0, 1) := by decide +kernel
theorem dX6_passes_16 : decode cX6_passes 16 = .ok (.getfield 46, 3) := by decide +kernel
theorem dX6_passes_19 : decode cX6_passes 19 = .ok (.aload_n 0, 1) := by decide +kernel
theorem dX6_passes_20 : decode cX6_passes 20 = .ok (.getfield 150, 3) := by decide +kernel
theorem dX6_passes_23 : decode cX6_passes 23 = .ok (.aload_n 1, 1) := by decide +kernel
theorem dX6_passes_24 : decode cX6_passes 24 = .ok (.iload_n 2, 1) := by decide +kernel
theorem dX6_passes_25 : decode cX6_passes 25 = .ok (.iaload, 1) := by decide +kernel
theorem dX6_passes_26 : decode cX6_passes 26 = .ok (.iastore, 1) := by decide +kernel
theorem dX6_passes_27 : decode cX6_passes 27 = .ok (.goto 15, 3) := by decide +kernel
theorem dX6_passes_30 : decode cX6_passes 30 = .ok (.aload_n 1, 1) := by decide +kernel
theorem dX6_passes_31 : decode cX6_passes 31 = .ok (.iload_n 2, 1) := by decide +kernel
theorem dX6_passes_32 : decode cX6_passes 32 = .ok (.aload_n 0, 1) := by decide +kernel
theorem dX6_passes_33 : decode cX6_passes 33 = .ok (.getfield 46, 3) := by decide +kernel
theorem dX6_passes_36 : decode cX6_passes 36 = .ok (.aload_n 0, 1) := by decide +kernel
theorem dX6_passes_37 : decode cX6_passes 37 = .ok (.getfield 150, 3) := by decide +kernel
theorem dX6_passes_40 : decode cX6_passes 40 = .ok (.iaload, 1) := by decide +kernel
theorem dX6_passes_41 : decode cX6_passes 41 = .ok (.iastore, 1) := by decide +kernel
theorem dX6_passes_42 : decode cX6_passes 42 = .ok (.aload_n 0, 1) := by decide +kernel
theorem dX6_passes_43 : decode cX6_passes 43 = .ok (.dup, 1) := by decide +kernel
theorem dX6_passes_44 : decode cX6_passes 44 = .ok (.getfield 150, 3) := by decide +kernel
theorem dX6_passes_47 : decode cX6_passes 47 = .ok (.iconst 1, 1) := by decide +kernel
theorem dX6_passes_48 : decode cX6_passes 48 = .ok (.iadd, 1) := by decide +kernel
theorem dX6_passes_49 : decode cX6_passes 49 = .ok (.putfield 150, 3) := by decide +kernel
theorem dX6_passes_52 : decode cX6_passes 52 = .ok (.iinc 2 1, 3) := by decide +kernel
theorem dX6_passes_55 : decode cX6_passes 55 = .ok (.goto (-53), 3) := by decide +kernel
theorem dX6_passes_58 : decode cX6_passes 58 = .ok (.return_, 1) := by decide +kernel
theorem dX6_passesAll_0 : decode cX6_passesAll 0 = .ok (.aload_n 0, 1) := by decide +kernel
theorem dX6_passesAll_1 : decode cX6_passesAll 1 = .ok (.bipush 50, 2) := by decide +kernel
theorem dX6_passesAll_3 : decode cX6_passesAll 3 = .ok (.iload_n 1, 1) := by decide +kernel
theorem dX6_passesAll_4 : decode cX6_passesAll 4 = .ok (.imul, 1) := by decide +kernel
theorem dX6_passesAll_5 : decode cX6_passesAll 5 = .ok (.putfield 150, 3) := by decide +kernel
theorem dX6_passesAll_8 : decode cX6_passesAll 8 = .ok (.aload_n 0, 1) := by decide +kernel
theorem dX6_passesAll_9 : decode cX6_passesAll 9 = .ok (.iload_n 2, 1) := by decide +kernel
theorem dX6_passesAll_10 : decode cX6_passesAll 10 = .ok (.putfield 146, 3) := by decide +kernel
theorem dX6_passesAll_13 : decode cX6_passesAll 13 = .ok (.aload_n 0, 1) := by decide +kernel
theorem dX6_passesAll_14 : decode cX6_passesAll 14 = .ok (.aload_n 0, 1) := by decide +kernel
theorem dX6_passesAll_15 : decode cX6_passesAll 15 = .ok (.getfield 13, 3) := by decide +kernel
theorem dX6_passesAll_18 : decode cX6_passesAll 18 = .ok (.invokevirtual 153, 3) := by decide +kernel
theorem dX6_passesAll_21 : decode cX6_passesAll 21 = .ok (.aload_n 0, 1) := by decide +kernel
theorem dX6_passesAll_22 : decode cX6_passesAll 22 = .ok (.aload_n 0, 1) := by decide +kernel
theorem dX6_passesAll_23 : decode cX6_passesAll 23 = .ok (.getfield 16, 3) := by decide +kernel
theorem dX6_passesAll_26 : decode cX6_passesAll 26 = .ok (.invokevirtual 153, 3) := by decide +kernel
theorem dX6_passesAll_29 : decode cX6_passesAll 29 = .ok (.aload_n 0, 1) := by decide +kernel
theorem dX6_passesAll_30 : decode cX6_passesAll 30 = .ok (.aload_n 0, 1) := by decide +kernel
theorem dX6_passesAll_31 : decode cX6_passesAll 31 = .ok (.getfield 19, 3) := by decide +kernel
theorem dX6_passesAll_34 : decode cX6_passesAll 34 = .ok (.invokevirtual 153, 3) := by decide +kernel
theorem dX6_passesAll_37 : decode cX6_passesAll 37 = .ok (.aload_n 0, 1) := by decide +kernel
theorem dX6_passesAll_38 : decode cX6_passesAll 38 = .ok (.aload_n 0, 1) := by decide +kernel
theorem dX6_passesAll_39 : decode cX6_passesAll 39 = .ok (.getfield 22, 3) := by decide +kernel
theorem dX6_passesAll_42 : decode cX6_passesAll 42 = .ok (.invokevirtual 153, 3) := by decide +kernel
theorem dX6_passesAll_45 : decode cX6_passesAll 45 = .ok (.aload_n 0, 1) := by decide +kernel
theorem dX6_passesAll_46 : decode cX6_passesAll 46 = .ok (.aload_n 0, 1) := by decide +kernel
theorem dX6_passesAll_47 : decode cX6_passesAll 47 = .ok (.getfield 25, 3) := by decide +kernel
theorem dX6_passesAll_50 : decode cX6_passesAll 50 = .ok (.invokevirtual 153, 3) := by decide +kernel
theorem dX6_passesAll_53 : decode cX6_passesAll 53 = .ok (.aload_n 0, 1) := by decide +kernel
theorem dX6_passesAll_54 : decode cX6_passesAll 54 = .ok (.aload_n 0, 1) := by decide +kernel
theorem dX6_passesAll_55 : decode cX6_passesAll 55 = .ok (.getfield 28, 3) := by decide +kernel
theorem dX6_passesAll_58 : decode cX6_passesAll 58 = .ok (.invokevirtual 153, 3) := by decide +kernel
theorem dX6_passesAll_61 : decode cX6_passesAll 61 = .ok (.aload_n 0, 1) := by decide +kernel
theorem dX6_passesAll_62 : decode cX6_passesAll 62 = .ok (.aload_n 0, 1) := by decide +kernel
theorem dX6_passesAll_63 : decode cX6_passesAll 63 = .ok (.getfield 31, 3) := by decide +kernel
theorem dX6_passesAll_66 : decode cX6_passesAll 66 = .ok (.invokevirtual 153, 3) := by decide +kernel
theorem dX6_passesAll_69 : decode cX6_passesAll 69 = .ok (.aload_n 0, 1) := by decide +kernel
theorem dX6_passesAll_70 : decode cX6_passesAll 70 = .ok (.aload_n 0, 1) := by decide +kernel
theorem dX6_passesAll_71 : decode cX6_passesAll 71 = .ok (.aload_n 0, 1) := by decide +kernel
theorem dX6_passesAll_72 : decode cX6_passesAll 72 = .ok (.getfield 65, 3) := by decide +kernel
theorem dX6_passesAll_75 : decode cX6_passesAll 75 = .ok (.invokevirtual 157, 3) := by decide +kernel
theorem dX6_passesAll_78 : decode cX6_passesAll 78 = .ok (.putfield 65, 3) := by decide +kernel
theorem dX6_passesAll_81 : decode cX6_passesAll 81 = .ok (.aload_n 0, 1) := by decide +kernel
theorem dX6_passesAll_82 : decode cX6_passesAll 82 = .ok (.aload_n 0, 1) := by decide +kernel
theorem dX6_passesAll_83 : decode cX6_passesAll 83 = .ok (.aload_n 0, 1) := by decide +kernel
theorem dX6_passesAll_84 : decode cX6_passesAll 84 = .ok (.getfield 61, 3) := by decide +kernel
theorem dX6_passesAll_87 : decode cX6_passesAll 87 = .ok (.invokevirtual 157, 3) := by decide +kernel
theorem dX6_passesAll_90 : decode cX6_passesAll 90 = .ok (.putfield 61, 3) := by decide +kernel
theorem dX6_passesAll_93 : decode cX6_passesAll 93 = .ok (.aload_n 0, 1) := by decide +kernel
theorem dX6_passesAll_94 : decode cX6_passesAll 94 = .ok (.aload_n 0, 1) := by decide +kernel
theorem dX6_passesAll_95 : decode cX6_passesAll 95 = .ok (.aload_n 0, 1) := by decide +kernel
theorem dX6_passesAll_96 : decode cX6_passesAll 96 = .ok (.getfield 128, 3) := by decide +kernel
theorem dX6_passesAll_99 : decode cX6_passesAll 99 = .ok (.invokevirtual 157, 3) := by decide +kernel
theorem dX6_passesAll_102 : decode cX6_passesAll 102 = .ok (.putfield 128, 3) := by decide +kernel
theorem dX6_passesAll_105 : decode cX6_passesAll 105 = .ok (.return_, 1) := by decide +kernel
theorem dX6_piece_0 : decode cX6_piece 0 = .ok (.aload_n 0, 1) := by decide +kernel
theorem dX6_piece_1 : decode cX6_piece 1 = .ok (.iload_n 1, 1) := by decide +kernel
theorem dX6_piece_2 : decode cX6_piece 2 = .ok (.invokevirtual 116, 3) := by decide +kernel
theorem dX6_piece_5 : decode cX6_piece 5 = .ok (.ifCond .ne 9, 3) := by decide +kernel
theorem dX6_piece_8 : decode cX6_piece 8 = .ok (.aload_n 0, 1) := by decide +kernel
theorem dX6_piece_9 : decode cX6_piece 9 = .ok (.iconst (-1), 1) := by decide +kernel
theorem dX6_piece_10 : decode cX6_piece 10 = .ok (.invokevirtual 79, 3) := by decide +kernel
theorem dX6_piece_13 : decode cX6_piece 13 = .ok (.ireturn, 1) := by decide +kernel
theorem dX6_piece_14 : decode cX6_piece 14 = .ok (.iload_n 2, 1) := by decide +kernel
theorem dX6_piece_15 : decode cX6_piece 15 = .ok (.tableswitch 88 0 6 #[41, 48, 55, 62, 69, 76, 82], 41) := by decide +kernel
theorem dX6_piece_56 : decode cX6_piece 56 = .ok (.aload_n 0, 1) := by decide +kernel
theorem dX6_piece_57 : decode cX6_piece 57 = .ok (.getfield 19, 3) := by decide +kernel
theorem dX6_piece_60 : decode cX6_piece 60 = .ok (.iload_n 1, 1) := by decide +kernel
theorem dX6_piece_61 : decode cX6_piece 61 = .ok (.iaload, 1) := by decide +kernel
theorem dX6_piece_62 : decode cX6_piece 62 = .ok (.ireturn, 1) := by decide +kernel
theorem dX6_piece_63 : decode cX6_piece 63 = .ok (.aload_n 0, 1) := by decide +kernel
theorem dX6_piece_64 : decode cX6_piece 64 = .ok (.getfield 22, 3) := by decide +kernel
theorem dX6_piece_67 : decode cX6_piece 67 = .ok (.iload_n 1, 1) := by decide +kernel
theorem dX6_piece_68 : decode cX6_piece 68 = .ok (.iaload, 1) := by decide +kernel
theorem dX6_piece_69 : decode cX6_piece 69 = .ok (.ireturn, 1) := by decide +kernel
theorem dX6_piece_70 : decode cX6_piece 70 = .ok (.aload_n 0, 1) := by decide +kernel
theorem dX6_piece_71 : decode cX6_piece 71 = .ok (.getfield 25, 3) := by decide +kernel
theorem dX6_piece_74 : decode cX6_piece 74 = .ok (.iload_n 1, 1) := by decide +kernel
theorem dX6_piece_75 : decode cX6_piece 75 = .ok (.iaload, 1) := by decide +kernel
theorem dX6_piece_76 : decode cX6_piece 76 = .ok (.ireturn, 1) := by decide +kernel
theorem dX6_piece_77 : decode cX6_piece 77 = .ok (.aload_n 0, 1) := by decide +kernel
theorem dX6_piece_78 : decode cX6_piece 78 = .ok (.getfield 28, 3) := by decide +kernel
theorem dX6_piece_81 : decode cX6_piece 81 = .ok (.iload_n 1, 1) := by decide +kernel
theorem dX6_piece_82 : decode cX6_piece 82 = .ok (.iaload, 1) := by decide +kernel
theorem dX6_piece_83 : decode cX6_piece 83 = .ok (.ireturn, 1) := by decide +kernel
theorem dX6_piece_84 : decode cX6_piece 84 = .ok (.aload_n 0, 1) := by decide +kernel
theorem dX6_piece_85 : decode cX6_piece 85 = .ok (.getfield 31, 3) := by decide +kernel
theorem dX6_piece_88 : decode cX6_piece 88 = .ok (.iload_n 1, 1) := by decide +kernel
theorem dX6_piece_89 : decode cX6_piece 89 = .ok (.iaload, 1) := by decide +kernel
theorem dX6_piece_90 : decode cX6_piece 90 = .ok (.ireturn, 1) := by decide +kernel
theorem dX6_piece_91 : decode cX6_piece 91 = .ok (.aload_n 0, 1) := by decide +kernel
theorem dX6_piece_92 : decode cX6_piece 92 = .ok (.iload_n 1, 1) := by decide +kernel
theorem dX6_piece_93 : decode cX6_piece 93 = .ok (.invokevirtual 169, 3) := by decide +kernel
theorem dX6_piece_96 : decode cX6_piece 96 = .ok (.ireturn, 1) := by decide +kernel
theorem dX6_piece_97 : decode cX6_piece 97 = .ok (.aload_n 0, 1) := by decide +kernel
theorem dX6_piece_98 : decode cX6_piece 98 = .ok (.iload_n 1, 1) := by decide +kernel
theorem dX6_piece_99 : decode cX6_piece 99 = .ok (.invokevirtual 172, 3) := by decide +kernel
theorem dX6_piece_102 : decode cX6_piece 102 = .ok (.ireturn, 1) := by decide +kernel
theorem dX6_piece_103 : decode cX6_piece 103 = .ok (.aload_n 0, 1) := by decide +kernel
theorem dX6_piece_104 : decode cX6_piece 104 = .ok (.bipush (-2), 2) := by decide +kernel
theorem dX6_piece_106 : decode cX6_piece 106 = .ok (.invokevirtual 79, 3) := by decide +kernel
theorem dX6_piece_109 : decode cX6_piece 109 = .ok (.ireturn, 1) := by decide +kernel
theorem dX6_placing_0 : decode cX6_placing 0 = .ok (.iload_n 1, 1) := by decide +kernel
theorem dX6_placing_1 : decode cX6_placing 1 = .ok (.iconst 1, 1) := by decide +kernel
theorem dX6_placing_2 : decode cX6_placing 2 = .ok (.if_icmp .lt 8, 3) := by decide +kernel
theorem dX6_placing_5 : decode cX6_placing 5 = .ok (.iload_n 3, 1) := by decide +kernel
theorem dX6_placing_6 : decode cX6_placing 6 = .ok (.iconst (-1), 1) := by decide +kernel
theorem dX6_placing_7 : decode cX6_placing 7 = .ok (.if_icmp .ge 8, 3) := by decide +kernel
theorem dX6_placing_10 : decode cX6_placing 10 = .ok (.bipush (-4), 2) := by decide +kernel
theorem dX6_placing_12 : decode cX6_placing 12 = .ok (.goto 54, 3) := by decide +kernel
theorem dX6_placing_15 : decode cX6_placing 15 = .ok (.iload_n 1, 1) := by decide +kernel
theorem dX6_placing_16 : decode cX6_placing 16 = .ok (.bipush 63, 2) := by decide +kernel
theorem dX6_placing_18 : decode cX6_placing 18 = .ok (.if_icmp .le 8, 3) := by decide +kernel
theorem dX6_placing_21 : decode cX6_placing 21 = .ok (.bipush (-6), 2) := by decide +kernel
theorem dX6_placing_23 : decode cX6_placing 23 = .ok (.goto 43, 3) := by decide +kernel
theorem dX6_placing_26 : decode cX6_placing 26 = .ok (.iload_n 2, 1) := by decide +kernel
theorem dX6_placing_27 : decode cX6_placing 27 = .ok (.iconst 0, 1) := by decide +kernel
theorem dX6_placing_28 : decode cX6_placing 28 = .ok (.iconst 1, 1) := by decide +kernel
theorem dX6_placing_29 : decode cX6_placing 29 = .ok (.invokestatic 90, 3) := by decide +kernel
theorem dX6_placing_32 : decode cX6_placing 32 = .ok (.ifCond .ne 8, 3) := by decide +kernel
theorem dX6_placing_35 : decode cX6_placing 35 = .ok (.bipush (-2), 2) := by decide +kernel
theorem dX6_placing_37 : decode cX6_placing 37 = .ok (.goto 29, 3) := by decide +kernel
theorem dX6_placing_40 : decode cX6_placing 40 = .ok (.aload_n 0, 1) := by decide +kernel
theorem dX6_placing_41 : decode cX6_placing 41 = .ok (.getfield 65, 3) := by decide +kernel
theorem dX6_placing_44 : decode cX6_placing 44 = .ok (.iconst 5, 1) := by decide +kernel
theorem dX6_placing_45 : decode cX6_placing 45 = .ok (.if_icmp .le 8, 3) := by decide +kernel
theorem dX6_placing_48 : decode cX6_placing 48 = .ok (.bipush (-3), 2) := by decide +kernel
theorem dX6_placing_50 : decode cX6_placing 50 = .ok (.goto 16, 3) := by decide +kernel
theorem dX6_placing_53 : decode cX6_placing 53 = .ok (.iload_n 3, 1) := by decide +kernel
theorem dX6_placing_54 : decode cX6_placing 54 = .ok (.aload_n 0, 1) := by decide +kernel
theorem dX6_placing_55 : decode cX6_placing 55 = .ok (.getfield 65, 3) := by decide +kernel
theorem dX6_placing_58 : decode cX6_placing 58 = .ok (.if_icmp .lt 7, 3) := by decide +kernel
theorem dX6_placing_61 : decode cX6_placing 61 = .ok (.iconst (-1), 1) := by decide +kernel
theorem dX6_placing_62 : decode cX6_placing 62 = .ok (.goto 4, 3) := by decide +kernel
theorem dX6_placing_65 : decode cX6_placing 65 = .ok (.iconst 0, 1) := by decide +kernel
theorem dX6_placing_66 : decode cX6_placing 66 = .ok (.istore 4, 2) := by decide +kernel
theorem dX6_placing_68 : decode cX6_placing 68 = .ok (.iload 4, 2) := by decide +kernel
theorem dX6_placing_70 : decode cX6_placing 70 = .ok (.ifCond .eq 10, 3) := by decide +kernel
theorem dX6_placing_73 : decode cX6_placing 73 = .ok (.aload_n 0, 1) := by decide +kernel
theorem dX6_placing_74 : decode cX6_placing 74 = .ok (.iload 4, 2) := by decide +kernel
theorem dX6_placing_76 : decode cX6_placing 76 = .ok (.invokevirtual 79, 3) := by decide +kernel
theorem dX6_placing_79 : decode cX6_placing 79 = .ok (.ireturn, 1) := by decide +kernel
theorem dX6_placing_80 : decode cX6_placing 80 = .ok (.aload_n 0, 1) := by decide +kernel
theorem dX6_placing_81 : decode cX6_placing 81 = .ok (.iload_n 1, 1) := by decide +kernel
theorem dX6_placing_82 : decode cX6_placing 82 = .ok (.iload_n 2, 1) := by decide +kernel
theorem dX6_placing_83 : decode cX6_placing 83 = .ok (.invokevirtual 203, 3) := by decide +kernel
theorem dX6_placing_86 : decode cX6_placing 86 = .ok (.iload_n 3, 1) := by decide +kernel
theorem dX6_placing_87 : decode cX6_placing 87 = .ok (.ifCond .lt 10, 3) := by decide +kernel
theorem dX6_placing_90 : decode cX6_placing 90 = .ok (.aload_n 0, 1) := by decide +kernel
theorem dX6_placing_91 : decode cX6_placing 91 = .ok (.getfield 187, 3) := by decide +kernel
theorem dX6_placing_94 : decode cX6_placing 94 = .ok (.ifCond .ge 10, 3) := by decide +kernel
theorem dX6_placing_97 : decode cX6_placing 97 = .ok (.aload_n 0, 1) := by decide +kernel
theorem dX6_placing_98 : decode cX6_placing 98 = .ok (.getfield 187, 3) := by decide +kernel
theorem dX6_placing_101 : decode cX6_placing 101 = .ok (.goto 9, 3) := by decide +kernel
theorem dX6_placing_104 : decode cX6_placing 104 = .ok (.aload_n 0, 1) := by decide +kernel
theorem dX6_placing_105 : decode cX6_placing 105 = .ok (.getfield 49, 3) := by decide +kernel
theorem dX6_placing_108 : decode cX6_placing 108 = .ok (.iload_n 3, 1) := by decide +kernel
theorem dX6_placing_109 : decode cX6_placing 109 = .ok (.iaload, 1) := by decide +kernel
theorem dX6_placing_110 : decode cX6_placing 110 = .ok (.ireturn, 1) := by decide +kernel
theorem dX6_polish_0 : decode cX6_polish 0 = .ok (.aload_n 0, 1) := by decide +kernel
theorem dX6_polish_1 : decode cX6_polish 1 = .ok (.iload_n 1, 1) := by decide +kernel
theorem dX6_polish_2 : decode cX6_polish 2 = .ok (.invokevirtual 116, 3) := by decide +kernel
theorem dX6_polish_5 : decode cX6_polish 5 = .ok (.ifCond .ne 7, 3) := by decide +kernel
theorem dX6_polish_8 : decode cX6_polish 8 = .ok (.iconst (-1), 1) := by decide +kernel
theorem dX6_polish_9 : decode cX6_polish 9 = .ok (.goto 20, 3) := by decide +kernel
theorem dX6_polish_12 : decode cX6_polish 12 = .ok (.aload_n 0, 1) := by decide +kernel
theorem dX6_polish_13 : decode cX6_polish 13 = .ok (.getfield 25, 3) := by decide +kernel
theorem dX6_polish_16 : decode cX6_polish 16 = .ok (.iload_n 1, 1) := by decide +kernel
theorem dX6_polish_17 : decode cX6_polish 17 = .ok (.iaload, 1) := by decide +kernel
theorem dX6_polish_18 : decode cX6_polish 18 = .ok (.bipush 9, 2) := by decide +kernel
theorem dX6_polish_20 : decode cX6_polish 20 = .ok (.if_icmp .ne 8, 3) := by decide +kernel
theorem dX6_polish_23 : decode cX6_polish 23 = .ok (.bipush (-3), 2) := by decide +kernel
theorem dX6_polish_25 : decode cX6_polish 25 = .ok (.goto 4, 3) := by decide +kernel
theorem dX6_polish_28 : decode cX6_polish 28 = .ok (.iconst 0, 1) := by decide +kernel
theorem dX6_polish_29 : decode cX6_polish 29 = .ok (.istore_n 2, 1) := by decide +kernel
theorem dX6_polish_30 : decode cX6_polish 30 = .ok (.iload_n 2, 1) := by decide +kernel
theorem dX6_polish_31 : decode cX6_polish 31 = .ok (.ifCond .eq 9, 3) := by decide +kernel
theorem dX6_polish_34 : decode cX6_polish 34 = .ok (.aload_n 0, 1) := by decide +kernel
theorem dX6_polish_35 : decode cX6_polish 35 = .ok (.iload_n 2, 1) := by decide +kernel
theorem dX6_polish_36 : decode cX6_polish 36 = .ok (.invokevirtual 79, 3) := by decide +kernel
theorem dX6_polish_39 : decode cX6_polish 39 = .ok (.ireturn, 1) := by decide +kernel
theorem dX6_polish_40 : decode cX6_polish 40 = .ok (.aload_n 0, 1) := by decide +kernel
theorem dX6_polish_41 : decode cX6_polish 41 = .ok (.getfield 25, 3) := by decide +kernel
theorem dX6_polish_44 : decode cX6_polish 44 = .ok (.iload_n 1, 1) := by decide +kernel
theorem dX6_polish_45 : decode cX6_polish 45 = .ok (.dup2, 1) := by decide +kernel
theorem dX6_polish_46 : decode cX6_polish 46 = .ok (.iaload, 1) := by decide +kernel
theorem dX6_polish_47 : decode cX6_polish 47 = .ok (.iconst 1, 1) := by decide +kernel
theorem dX6_polish_48 : decode cX6_polish 48 = .ok (.iadd, 1) := by decide +kernel
theorem dX6_polish_49 : decode cX6_polish 49 = .ok (.iastore, 1) := by decide +kernel
theorem dX6_polish_50 : decode cX6_polish 50 = .ok (.aload_n 0, 1) := by decide +kernel
theorem dX6_polish_51 : decode cX6_polish 51 = .ok (.getfield 25, 3) := by decide +kernel
theorem dX6_polish_54 : decode cX6_polish 54 = .ok (.iload_n 1, 1) := by decide +kernel
theorem dX6_polish_55 : decode cX6_polish 55 = .ok (.iaload, 1) := by decide +kernel
theorem dX6_polish_56 : decode cX6_polish 56 = .ok (.ireturn, 1) := by decide +kernel
theorem dX6_poorest_0 : decode cX6_poorest 0 = .ok (.iconst 0, 1) := by decide +kernel
theorem dX6_poorest_1 : decode cX6_poorest 1 = .ok (.istore_n 1, 1) := by decide +kernel
theorem dX6_poorest_2 : decode cX6_poorest 2 = .ok (.iconst 1, 1) := by decide +kernel
theorem dX6_poorest_3 : decode cX6_poorest 3 = .ok (.istore_n 2, 1) := by decide +kernel
theorem dX6_poorest_4 : decode cX6_poorest 4 = .ok (.iload_n 2, 1) := by decide +kernel
theorem dX6_poorest_5 : decode cX6_poorest 5 = .ok (.aload_n 0, 1) := by decide +kernel
theorem dX6_poorest_6 : decode cX6_poorest 6 = .ok (.getfield 61, 3) := by decide +kernel
theorem dX6_poorest_9 : decode cX6_poorest 9 = .ok (.if_icmp .ge 30, 3) := by decide +kernel
theorem dX6_poorest_12 : decode cX6_poorest 12 = .ok (.aload_n 0, 1) := by decide +kernel
theorem dX6_poorest_13 : decode cX6_poorest 13 = .ok (.getfield 55, 3) := by decide +kernel
theorem dX6_poorest_16 : decode cX6_poorest 16 = .ok (.iload_n 2, 1) := by decide +kernel
theorem dX6_poorest_17 : decode cX6_poorest 17 = .ok (.iaload, 1) := by decide +kernel
theorem dX6_poorest_18 : decode cX6_poorest 18 = .ok (.aload_n 0, 1) := by decide +kernel
theorem dX6_poorest_19 : decode cX6_poorest 19 = .ok (.getfield 55, 3) := by decide +kernel
theorem dX6_poorest_22 : decode cX6_poorest 22 = .ok (.iload_n 1, 1) := by decide +kernel
theorem dX6_poorest_23 : decode cX6_poorest 23 = .ok (.iaload, 1) := by decide +kernel
theorem dX6_poorest_24 : decode cX6_poorest 24 = .ok (.if_icmp .ge 7, 3) := by decide +kernel
theorem dX6_poorest_27 : decode cX6_poorest 27 = .ok (.iload_n 2, 1) := by decide +kernel
theorem dX6_poorest_28 : decode cX6_poorest 28 = .ok (.goto 4, 3) := by decide +kernel
theorem dX6_poorest_31 : decode cX6_poorest 31 = .ok (.iload_n 1, 1) := by decide +kernel
theorem dX6_poorest_32 : decode cX6_poorest 32 = .ok (.istore_n 1, 1) := by decide +kernel
theorem dX6_poorest_33 : decode cX6_poorest 33 = .ok (.iinc 2 1, 3) := by decide +kernel
theorem dX6_poorest_36 : decode cX6_poorest 36 = .ok (.goto (-32), 3) := by decide +kernel
theorem dX6_poorest_39 : decode cX6_poorest 39 = .ok (.iload_n 1, 1) := by decide +kernel
theorem dX6_poorest_40 : decode cX6_poorest 40 = .ok (.ireturn, 1) := by decide +kernel
theorem dX6_power_0 : decode cX6_power 0 = .ok (.iconst 1, 1) := by decide +kernel
theorem dX6_power_1 : decode cX6_power 1 = .ok (.istore_n 2, 1) := by decide +kernel
theorem dX6_power_2 : decode cX6_power 2 = .ok (.iconst 0, 1) := by decide +kernel
theorem dX6_power_3 : decode cX6_power 3 = .ok (.istore_n 3, 1) := by decide +kernel
theorem dX6_power_4 : decode cX6_power 4 = .ok (.iload_n 3, 1) := by decide +kernel
theorem dX6_power_5 : decode cX6_power 5 = .ok (.iload_n 1, 1) := by decide +kernel
theorem dX6_power_6 : decode cX6_power 6 = .ok (.if_icmp .ge 13, 3) := by decide +kernel
theorem dX6_power_9 : decode cX6_power 9 = .ok (.iload_n 2, 1) := by decide +kernel
theorem dX6_power_10 : decode cX6_power 10 = .ok (.iload_n 0, 1) := by decide +kernel
theorem dX6_power_11 : decode cX6_power 11 = .ok (.imul, 1) := by decide +kernel
theorem dX6_power_12 : decode cX6_power 12 = .ok (.istore_n 2, 1) := by decide +kernel
theorem dX6_power_13 : decode cX6_power 13 = .ok (.iinc 3 1, 3) := by decide +kernel
theorem dX6_power_16 : decode cX6_power 16 = .ok (.goto (-12), 3) := by decide +kernel
theorem dX6_power_19 : decode cX6_power 19 = .ok (.iload_n 2, 1) := by decide +kernel
theorem dX6_power_20 : decode cX6_power 20 = .ok (.ireturn, 1) := by decide +kernel
theorem dX6_readsAll_0 : decode cX6_readsAll 0 = .ok (.iload_n 1, 1) := by decide +kernel
theorem dX6_readsAll_1 : decode cX6_readsAll 1 = .ok (.lookupswitch 116 #[(105, 51), (109, 57), (114, 83), (115, 57), (121, 109)], 51) := by decide +kernel
theorem dX6_readsAll_52 : decode cX6_readsAll 52 = .ok (.aload_n 0, 1) := by decide +kernel
theorem dX6_readsAll_53 : decode cX6_readsAll 53 = .ok (.iload_n 2, 1) := by decide +kernel
theorem dX6_readsAll_54 : decode cX6_readsAll 54 = .ok (.invokevirtual 101, 3) := by decide +kernel
theorem dX6_readsAll_57 : decode cX6_readsAll 57 = .ok (.ireturn, 1) := by decide +kernel
theorem dX6_readsAll_58 : decode cX6_readsAll 58 = .ok (.aload_n 0, 1) := by decide +kernel
theorem dX6_readsAll_59 : decode cX6_readsAll 59 = .ok (.iload_n 2, 1) := by decide +kernel
theorem dX6_readsAll_60 : decode cX6_readsAll 60 = .ok (.iconst 1, 1) := by decide +kernel
theorem dX6_readsAll_61 : decode cX6_readsAll 61 = .ok (.invokevirtual 97, 3) := by decide +kernel
theorem dX6_readsAll_64 : decode cX6_readsAll 64 = .ok (.ifCond .eq 18, 3) := by decide +kernel
theorem dX6_readsAll_67 : decode cX6_readsAll 67 = .ok (.aload_n 0, 1) := by decide +kernel
theorem dX6_readsAll_68 : decode cX6_readsAll 68 = .ok (.iload_n 2, 1) := by decide +kernel
theorem dX6_readsAll_69 : decode cX6_readsAll 69 = .ok (.iconst 1, 1) := by decide +kernel
theorem dX6_readsAll_70 : decode cX6_readsAll 70 = .ok (.iadd, 1) := by decide +kernel
theorem dX6_readsAll_71 : decode cX6_readsAll 71 = .ok (.iconst 1, 1) := by decide +kernel
theorem dX6_readsAll_72 : decode cX6_readsAll 72 = .ok (.invokevirtual 97, 3) := by decide +kernel
theorem dX6_readsAll_75 : decode cX6_readsAll 75 = .ok (.ifCond .eq 7, 3) := by decide +kernel
theorem dX6_readsAll_78 : decode cX6_readsAll 78 = .ok (.iconst 1, 1) := by decide +kernel
theorem dX6_readsAll_79 : decode cX6_readsAll 79 = .ok (.goto 4, 3) := by decide +kernel
theorem dX6_readsAll_82 : decode cX6_readsAll 82 = .ok (.iconst 0, 1) := by decide +kernel
theorem dX6_readsAll_83 : decode cX6_readsAll 83 = .ok (.ireturn, 1) := by decide +kernel
theorem dX6_readsAll_84 : decode cX6_readsAll 84 = .ok (.aload_n 0, 1) := by decide +kernel
theorem dX6_readsAll_85 : decode cX6_readsAll 85 = .ok (.iload_n 2, 1) := by decide +kernel
theorem dX6_readsAll_86 : decode cX6_readsAll 86 = .ok (.iconst 1, 1) := by decide +kernel
theorem dX6_readsAll_87 : decode cX6_readsAll 87 = .ok (.invokevirtual 97, 3) := by decide +kernel
theorem dX6_readsAll_90 : decode cX6_readsAll 90 = .ok (.ifCond .eq 18, 3) := by decide +kernel
theorem dX6_readsAll_93 : decode cX6_readsAll 93 = .ok (.aload_n 0, 1) := by decide +kernel
theorem dX6_readsAll_94 : decode cX6_readsAll 94 = .ok (.iload_n 2, 1) := by decide +kernel
theorem dX6_readsAll_95 : decode cX6_readsAll 95 = .ok (.iconst 1, 1) := by decide +kernel
theorem dX6_readsAll_96 : decode cX6_readsAll 96 = .ok (.iadd, 1) := by decide +kernel
theorem dX6_readsAll_97 : decode cX6_readsAll 97 = .ok (.iconst 2, 1) := by decide +kernel
theorem dX6_readsAll_98 : decode cX6_readsAll 98 = .ok (.invokevirtual 97, 3) := by decide +kernel
theorem dX6_readsAll_101 : decode cX6_readsAll 101 = .ok (.ifCond .eq 7, 3) := by decide +kernel
theorem dX6_readsAll_104 : decode cX6_readsAll 104 = .ok (.iconst 1, 1) := by decide +kernel
theorem dX6_readsAll_105 : decode cX6_readsAll 105 = .ok (.goto 4, 3) := by decide +kernel
theorem dX6_readsAll_108 : decode cX6_readsAll 108 = .ok (.iconst 0, 1) := by decide +kernel
theorem dX6_readsAll_109 : decode cX6_readsAll 109 = .ok (.ireturn, 1) := by decide +kernel
theorem dX6_readsAll_110 : decode cX6_readsAll 110 = .ok (.aload_n 0, 1) := by decide +kernel
theorem dX6_readsAll_111 : decode cX6_readsAll 111 = .ok (.iload_n 2, 1) := by decide +kernel
theorem dX6_readsAll_112 : decode cX6_readsAll 112 = .ok (.iconst 2, 1) := by decide +kernel
theorem dX6_readsAll_113 : decode cX6_readsAll 113 = .ok (.invokevirtual 97, 3) := by decide +kernel
theorem dX6_readsAll_116 : decode cX6_readsAll 116 = .ok (.ireturn, 1) := by decide +kernel
theorem dX6_readsAll_117 : decode cX6_readsAll 117 = .ok (.aload_n 0, 1) := by decide +kernel
theorem dX6_readsAll_118 : decode cX6_readsAll 118 = .ok (.iload_n 2, 1) := by decide +kernel
theorem dX6_readsAll_119 : decode cX6_readsAll 119 = .ok (.iconst 1, 1) := by decide +kernel
theorem dX6_readsAll_120 : decode cX6_readsAll 120 = .ok (.invokevirtual 97, 3) := by decide +kernel
theorem dX6_readsAll_123 : decode cX6_readsAll 123 = .ok (.ireturn, 1) := by decide +kernel
theorem dX6_readsDigits_0 : decode cX6_readsDigits 0 = .ok (.iconst 0, 1) := by decide +kernel
theorem dX6_readsDigits_1 : decode cX6_readsDigits 1 = .ok (.istore_n 3, 1) := by decide +kernel
theorem dX6_readsDigits_2 : decode cX6_readsDigits 2 = .ok (.iconst 0, 1) := by decide +kernel
theorem dX6_readsDigits_3 : decode cX6_readsDigits 3 = .ok (.istore 4, 2) := by decide +kernel
theorem dX6_readsDigits_5 : decode cX6_readsDigits 5 = .ok (.iload 4, 2) := by decide +kernel
theorem dX6_readsDigits_7 : decode cX6_readsDigits 7 = .ok (.iload_n 2, 1) := by decide +kernel
theorem dX6_readsDigits_8 : decode cX6_readsDigits 8 = .ok (.if_icmp .ge 48, 3) := by decide +kernel
theorem dX6_readsDigits_11 : decode cX6_readsDigits 11 = .ok (.aload_n 0, 1) := by decide +kernel
theorem dX6_readsDigits_12 : decode cX6_readsDigits 12 = .ok (.invokevirtual 86, 3) := by decide +kernel
theorem dX6_readsDigits_15 : decode cX6_readsDigits 15 = .ok (.bipush 48, 2) := by decide +kernel
theorem dX6_readsDigits_17 : decode cX6_readsDigits 17 = .ok (.bipush 57, 2) := by decide +kernel
theorem dX6_readsDigits_19 : decode cX6_readsDigits 19 = .ok (.invokestatic 90, 3) := by decide +kernel
theorem dX6_readsDigits_22 : decode cX6_readsDigits 22 = .ok (.ifCond .ne 5, 3) := by decide +kernel
theorem dX6_readsDigits_25 : decode cX6_readsDigits 25 = .ok (.iconst 0, 1) := by decide +kernel
theorem dX6_readsDigits_26 : decode cX6_readsDigits 26 = .ok (.ireturn, 1) := by decide +kernel
theorem dX6_readsDigits_27 : decode cX6_readsDigits 27 = .ok (.bipush 10, 2) := by decide +kernel
theorem dX6_readsDigits_29 : decode cX6_readsDigits 29 = .ok (.iload_n 3, 1) := by decide +kernel
theorem dX6_readsDigits_30 : decode cX6_readsDigits 30 = .ok (.imul, 1) := by decide +kernel
theorem dX6_readsDigits_31 : decode cX6_readsDigits 31 = .ok (.aload_n 0, 1) := by decide +kernel
theorem dX6_readsDigits_32 : decode cX6_readsDigits 32 = .ok (.invokevirtual 86, 3) := by decide +kernel
theorem dX6_readsDigits_35 : decode cX6_readsDigits 35 = .ok (.iadd, 1) := by decide +kernel
theorem dX6_readsDigits_36 : decode cX6_readsDigits 36 = .ok (.bipush 48, 2) := by decide +kernel
theorem dX6_readsDigits_38 : decode cX6_readsDigits 38 = .ok (.isub, 1) := by decide +kernel
theorem dX6_readsDigits_39 : decode cX6_readsDigits 39 = .ok (.istore_n 3, 1) := by decide +kernel
theorem dX6_readsDigits_40 : decode cX6_readsDigits 40 = .ok (.aload_n 0, 1) := by decide +kernel
theorem dX6_readsDigits_41 : decode cX6_readsDigits 41 = .ok (.dup, 1) := by decide +kernel
theorem dX6_readsDigits_42 : decode cX6_readsDigits 42 = .ok (.getfield 83, 3) := by decide +kernel
theorem dX6_readsDigits_45 : decode cX6_readsDigits 45 = .ok (.iconst 1, 1) := by decide +kernel
theorem dX6_readsDigits_46 : decode cX6_readsDigits 46 = .ok (.iadd, 1) := by decide +kernel
theorem dX6_readsDigits_47 : decode cX6_readsDigits 47 = .ok (.putfield 83, 3) := by decide +kernel
theorem dX6_readsDigits_50 : decode cX6_readsDigits 50 = .ok (.iinc 4 1, 3) := by decide +kernel
theorem dX6_readsDigits_53 : decode cX6_readsDigits 53 = .ok (.goto (-48), 3) := by decide +kernel
theorem dX6_readsDigits_56 : decode cX6_readsDigits 56 = .ok (.aload_n 0, 1) := by decide +kernel
theorem dX6_readsDigits_57 : decode cX6_readsDigits 57 = .ok (.getfield 43, 3) := by decide +kernel
theorem dX6_readsDigits_60 : decode cX6_readsDigits 60 = .ok (.iload_n 1, 1) := by decide +kernel
theorem dX6_readsDigits_61 : decode cX6_readsDigits 61 = .ok (.iload_n 3, 1) := by decide +kernel
theorem dX6_readsDigits_62 : decode cX6_readsDigits 62 = .ok (.iastore, 1) := by decide +kernel
theorem dX6_readsDigits_63 : decode cX6_readsDigits 63 = .ok (.iconst 1, 1) := by decide +kernel
theorem dX6_readsDigits_64 : decode cX6_readsDigits 64 = .ok (.ireturn, 1) := by decide +kernel
theorem dX6_readsPiece_0 : decode cX6_readsPiece 0 = .ok (.aload_n 0, 1) := by decide +kernel
theorem dX6_readsPiece_1 : decode cX6_readsPiece 1 = .ok (.getfield 43, 3) := by decide +kernel
theorem dX6_readsPiece_4 : decode cX6_readsPiece 4 = .ok (.iload_n 1, 1) := by decide +kernel
theorem dX6_readsPiece_5 : decode cX6_readsPiece 5 = .ok (.aload_n 0, 1) := by decide +kernel
theorem dX6_readsPiece_6 : decode cX6_readsPiece 6 = .ok (.invokevirtual 86, 3) := by decide +kernel
theorem dX6_readsPiece_9 : decode cX6_readsPiece 9 = .ok (.invokestatic 94, 3) := by decide +kernel
theorem dX6_readsPiece_12 : decode cX6_readsPiece 12 = .ok (.iastore, 1) := by decide +kernel
theorem dX6_readsPiece_13 : decode cX6_readsPiece 13 = .ok (.aload_n 0, 1) := by decide +kernel
theorem dX6_readsPiece_14 : decode cX6_readsPiece 14 = .ok (.getfield 43, 3) := by decide +kernel
theorem dX6_readsPiece_17 : decode cX6_readsPiece 17 = .ok (.iload_n 1, 1) := by decide +kernel
theorem dX6_readsPiece_18 : decode cX6_readsPiece 18 = .ok (.iaload, 1) := by decide +kernel
theorem dX6_readsPiece_19 : decode cX6_readsPiece 19 = .ok (.ifCond .ge 5, 3) := by decide +kernel
theorem dX6_readsPiece_22 : decode cX6_readsPiece 22 = .ok (.iconst 0, 1) := by decide +kernel
theorem dX6_readsPiece_23 : decode cX6_readsPiece 23 = .ok (.ireturn, 1) := by decide +kernel
theorem dX6_readsPiece_24 : decode cX6_readsPiece 24 = .ok (.aload_n 0, 1) := by decide +kernel
theorem dX6_readsPiece_25 : decode cX6_readsPiece 25 = .ok (.dup, 1) := by decide +kernel
theorem dX6_readsPiece_26 : decode cX6_readsPiece 26 = .ok (.getfield 83, 3) := by decide +kernel
theorem dX6_readsPiece_29 : decode cX6_readsPiece 29 = .ok (.iconst 1, 1) := by decide +kernel
theorem dX6_readsPiece_30 : decode cX6_readsPiece 30 = .ok (.iadd, 1) := by decide +kernel
theorem dX6_readsPiece_31 : decode cX6_readsPiece 31 = .ok (.putfield 83, 3) := by decide +kernel
theorem dX6_readsPiece_34 : decode cX6_readsPiece 34 = .ok (.aload_n 0, 1) := by decide +kernel
theorem dX6_readsPiece_35 : decode cX6_readsPiece 35 = .ok (.iload_n 1, 1) := by decide +kernel
theorem dX6_readsPiece_36 : decode cX6_readsPiece 36 = .ok (.iconst 1, 1) := by decide +kernel
theorem dX6_readsPiece_37 : decode cX6_readsPiece 37 = .ok (.iadd, 1) := by decide +kernel
theorem dX6_readsPiece_38 : decode cX6_readsPiece 38 = .ok (.iconst 1, 1) := by decide +kernel
theorem dX6_readsPiece_39 : decode cX6_readsPiece 39 = .ok (.invokevirtual 97, 3) := by decide +kernel
theorem dX6_readsPiece_42 : decode cX6_readsPiece 42 = .ok (.ifCond .eq 29, 3) := by decide +kernel
theorem dX6_readsPiece_45 : decode cX6_readsPiece 45 = .ok (.aload_n 0, 1) := by decide +kernel
theorem dX6_readsPiece_46 : decode cX6_readsPiece 46 = .ok (.iload_n 1, 1) := by decide +kernel
theorem dX6_readsPiece_47 : decode cX6_readsPiece 47 = .ok (.iconst 2, 1) := by decide +kernel
theorem dX6_readsPiece_48 : decode cX6_readsPiece 48 = .ok (.iadd, 1) := by decide +kernel
theorem dX6_readsPiece_49 : decode cX6_readsPiece 49 = .ok (.iconst 1, 1) := by decide +kernel
theorem dX6_readsPiece_50 : decode cX6_readsPiece 50 = .ok (.invokevirtual 97, 3) := by decide +kernel
theorem dX6_readsPiece_53 : decode cX6_readsPiece 53 = .ok (.ifCond .eq 18, 3) := by decide +kernel
theorem dX6_readsPiece_56 : decode cX6_readsPiece 56 = .ok (.aload_n 0, 1) := by decide +kernel
theorem dX6_readsPiece_57 : decode cX6_readsPiece 57 = .ok (.iload_n 1, 1) := by decide +kernel
theorem dX6_readsPiece_58 : decode cX6_readsPiece 58 = .ok (.iconst 3, 1) := by decide +kernel
theorem dX6_readsPiece_59 : decode cX6_readsPiece 59 = .ok (.iadd, 1) := by decide +kernel
theorem dX6_readsPiece_60 : decode cX6_readsPiece 60 = .ok (.iconst 2, 1) := by decide +kernel
theorem dX6_readsPiece_61 : decode cX6_readsPiece 61 = .ok (.invokevirtual 97, 3) := by decide +kernel
theorem dX6_readsPiece_64 : decode cX6_readsPiece 64 = .ok (.ifCond .eq 7, 3) := by decide +kernel
theorem dX6_readsPiece_67 : decode cX6_readsPiece 67 = .ok (.iconst 1, 1) := by decide +kernel
theorem dX6_readsPiece_68 : decode cX6_readsPiece 68 = .ok (.goto 4, 3) := by decide +kernel
theorem dX6_readsPiece_71 : decode cX6_readsPiece 71 = .ok (.iconst 0, 1) := by decide +kernel
theorem dX6_readsPiece_72 : decode cX6_readsPiece 72 = .ok (.ireturn, 1) := by decide +kernel
theorem dX6_roomsUsed_0 : decode cX6_roomsUsed 0 = .ok (.iconst 0, 1) := by decide +kernel
theorem dX6_roomsUsed_1 : decode cX6_roomsUsed 1 = .ok (.istore_n 1, 1) := by decide +kernel
theorem dX6_roomsUsed_2 : decode cX6_roomsUsed 2 = .ok (.iconst 0, 1) := by decide +kernel
theorem dX6_roomsUsed_3 : decode cX6_roomsUsed 3 = .ok (.istore_n 2, 1) := by decide +kernel
theorem dX6_roomsUsed_4 : decode cX6_roomsUsed 4 = .ok (.iload_n 2, 1) := by decide +kernel
theorem dX6_roomsUsed_5 : decode cX6_roomsUsed 5 = .ok (.aload_n 0, 1) := by decide +kernel
theorem dX6_roomsUsed_6 : decode cX6_roomsUsed 6 = .ok (.getfield 65, 3) := by decide +kernel
theorem dX6_roomsUsed_9 : decode cX6_roomsUsed 9 = .ok (.if_icmp .ge 20, 3) := by decide +kernel
theorem dX6_roomsUsed_12 : decode cX6_roomsUsed 12 = .ok (.iload_n 1, 1) := by decide +kernel
theorem dX6_roomsUsed_13 : decode cX6_roomsUsed 13 = .ok (.iconst 1, 1) := by decide +kernel
theorem dX6_roomsUsed_14 : decode cX6_roomsUsed 14 = .ok (.aload_n 0, 1) := by decide +kernel
theorem dX6_roomsUsed_15 : decode cX6_roomsUsed 15 = .ok (.getfield 31, 3) := by decide +kernel
theorem dX6_roomsUsed_18 : decode cX6_roomsUsed 18 = .ok (.iload_n 2, 1) := by decide +kernel
theorem dX6_roomsUsed_19 : decode cX6_roomsUsed 19 = .ok (.iaload, 1) := by decide +kernel
theorem dX6_roomsUsed_20 : decode cX6_roomsUsed 20 = .ok (.ishl, 1) := by decide +kernel
theorem dX6_roomsUsed_21 : decode cX6_roomsUsed 21 = .ok (.ior, 1) := by decide +kernel
theorem dX6_roomsUsed_22 : decode cX6_roomsUsed 22 = .ok (.istore_n 1, 1) := by decide +kernel
theorem dX6_roomsUsed_23 : decode cX6_roomsUsed 23 = .ok (.iinc 2 1, 3) := by decide +kernel
theorem dX6_roomsUsed_26 : decode cX6_roomsUsed 26 = .ok (.goto (-22), 3) := by decide +kernel
theorem dX6_roomsUsed_29 : decode cX6_roomsUsed 29 = .ok (.iload_n 1, 1) := by decide +kernel
theorem dX6_roomsUsed_30 : decode cX6_roomsUsed 30 = .ok (.invokestatic 184, 3) := by decide +kernel
theorem dX6_roomsUsed_33 : decode cX6_roomsUsed 33 = .ok (.ireturn, 1) := by decide +kernel
theorem dX6_row_0 : decode cX6_row 0 = .ok (.iload_n 1, 1) := by decide +kernel
theorem dX6_row_1 : decode cX6_row 1 = .ok (.iconst 0, 1) := by decide +kernel
theorem dX6_row_2 : decode cX6_row 2 = .ok (.bipush 99, 2) := by decide +kernel
theorem dX6_row_4 : decode cX6_row 4 = .ok (.invokestatic 72, 3) := by decide +kernel
theorem dX6_row_7 : decode cX6_row 7 = .ok (.istore_n 2, 1) := by decide +kernel
theorem dX6_row_8 : decode cX6_row 8 = .ok (.iload_n 2, 1) := by decide +kernel
theorem dX6_row_9 : decode cX6_row 9 = .ok (.ifCond .ne 15, 3) := by decide +kernel
theorem dX6_row_12 : decode cX6_row 12 = .ok (.aload_n 0, 1) := by decide +kernel
theorem dX6_row_13 : decode cX6_row 13 = .ok (.getfield 249, 3) := by decide +kernel
theorem dX6_row_16 : decode cX6_row 16 = .ok (.bipush 12, 2) := by decide +kernel
theorem dX6_row_18 : decode cX6_row 18 = .ok (.if_icmp .ne 6, 3) := by decide +kernel
theorem dX6_row_21 : decode cX6_row 21 = .ok (.bipush (-6), 2) := by decide +kernel
theorem dX6_row_23 : decode cX6_row 23 = .ok (.istore_n 2, 1) := by decide +kernel
theorem dX6_row_24 : decode cX6_row 24 = .ok (.iload_n 2, 1) := by decide +kernel
theorem dX6_row_25 : decode cX6_row 25 = .ok (.ifCond .eq 9, 3) := by decide +kernel
theorem dX6_row_28 : decode cX6_row 28 = .ok (.aload_n 0, 1) := by decide +kernel
theorem dX6_row_29 : decode cX6_row 29 = .ok (.iload_n 2, 1) := by decide +kernel
theorem dX6_row_30 : decode cX6_row 30 = .ok (.invokevirtual 79, 3) := by decide +kernel
theorem dX6_row_33 : decode cX6_row 33 = .ok (.ireturn, 1) := by decide +kernel
theorem dX6_row_34 : decode cX6_row 34 = .ok (.aload_n 0, 1) := by decide +kernel
theorem dX6_row_35 : decode cX6_row 35 = .ok (.getfield 58, 3) := by decide +kernel
theorem dX6_row_38 : decode cX6_row 38 = .ok (.aload_n 0, 1) := by decide +kernel
theorem dX6_row_39 : decode cX6_row 39 = .ok (.getfield 249, 3) := by decide +kernel
theorem dX6_row_42 : decode cX6_row 42 = .ok (.iload_n 1, 1) := by decide +kernel
theorem dX6_row_43 : decode cX6_row 43 = .ok (.iastore, 1) := by decide +kernel
theorem dX6_row_44 : decode cX6_row 44 = .ok (.aload_n 0, 1) := by decide +kernel
theorem dX6_row_45 : decode cX6_row 45 = .ok (.dup, 1) := by decide +kernel
theorem dX6_row_46 : decode cX6_row 46 = .ok (.getfield 249, 3) := by decide +kernel
theorem dX6_row_49 : decode cX6_row 49 = .ok (.iconst 1, 1) := by decide +kernel
theorem dX6_row_50 : decode cX6_row 50 = .ok (.iadd, 1) := by decide +kernel
theorem dX6_row_51 : decode cX6_row 51 = .ok (.putfield 249, 3) := by decide +kernel
theorem dX6_row_54 : decode cX6_row 54 = .ok (.aload_n 0, 1) := by decide +kernel
theorem dX6_row_55 : decode cX6_row 55 = .ok (.getfield 249, 3) := by decide +kernel
theorem dX6_row_58 : decode cX6_row 58 = .ok (.ireturn, 1) := by decide +kernel
theorem dX6_sell_0 : decode cX6_sell 0 = .ok (.iload_n 1, 1) := by decide +kernel
theorem dX6_sell_1 : decode cX6_sell 1 = .ok (.iconst 0, 1) := by decide +kernel
theorem dX6_sell_2 : decode cX6_sell 2 = .ok (.iconst 1, 1) := by decide +kernel
theorem dX6_sell_3 : decode cX6_sell 3 = .ok (.invokestatic 90, 3) := by decide +kernel
theorem dX6_sell_6 : decode cX6_sell 6 = .ok (.ifCond .ne 10, 3) := by decide +kernel
theorem dX6_sell_9 : decode cX6_sell 9 = .ok (.aload_n 0, 1) := by decide +kernel
theorem dX6_sell_10 : decode cX6_sell 10 = .ok (.bipush (-2), 2) := by decide +kernel
theorem dX6_sell_12 : decode cX6_sell 12 = .ok (.invokevirtual 79, 3) := by decide +kernel
theorem dX6_sell_15 : decode cX6_sell 15 = .ok (.ireturn, 1) := by decide +kernel
theorem dX6_sell_16 : decode cX6_sell 16 = .ok (.bipush (-9), 2) := by decide +kernel
theorem dX6_sell_18 : decode cX6_sell 18 = .ok (.istore_n 2, 1) := by decide +kernel
theorem dX6_sell_19 : decode cX6_sell 19 = .ok (.bipush (-9), 2) := by decide +kernel
theorem dX6_sell_21 : decode cX6_sell 21 = .ok (.istore_n 3, 1) := by decide +kernel
theorem dX6_sell_22 : decode cX6_sell 22 = .ok (.iconst 0, 1) := by decide +kernel
theorem dX6_sell_23 : decode cX6_sell 23 = .ok (.istore 4, 2) := by decide +kernel
theorem dX6_sell_25 : decode cX6_sell 25 = .ok (.iload 4, 2) := by decide +kernel
theorem dX6_sell_27 : decode cX6_sell 27 = .ok (.aload_n 0, 1) := by decide +kernel
theorem dX6_sell_28 : decode cX6_sell 28 = .ok (.getfield 65, 3) := by decide +kernel
theorem dX6_sell_31 : decode cX6_sell 31 = .ok (.if_icmp .ge 38, 3) := by decide +kernel
theorem dX6_sell_34 : decode cX6_sell 34 = .ok (.aload_n 0, 1) := by decide +kernel
theorem dX6_sell_35 : decode cX6_sell 35 = .ok (.iload 4, 2) := by decide +kernel
theorem dX6_sell_37 : decode cX6_sell 37 = .ok (.bipush (-9), 2) := by decide +kernel
theorem dX6_sell_39 : decode cX6_sell 39 = .ok (.invokevirtual 234, 3) := by decide +kernel
theorem dX6_sell_42 : decode cX6_sell 42 = .ok (.istore 5, 2) := by decide +kernel
theorem dX6_sell_44 : decode cX6_sell 44 = .ok (.iload_n 2, 1) := by decide +kernel
theorem dX6_sell_45 : decode cX6_sell 45 = .ok (.ifCond .lt 12, 3) := by decide +kernel
theorem dX6_sell_48 : decode cX6_sell 48 = .ok (.iload 5, 2) := by decide +kernel
theorem dX6_sell_50 : decode cX6_sell 50 = .ok (.iload_n 3, 1) := by decide +kernel
theorem dX6_sell_51 : decode cX6_sell 51 = .ok (.if_icmp .lt 6, 3) := by decide +kernel
theorem dX6_sell_54 : decode cX6_sell 54 = .ok (.goto 9, 3) := by decide +kernel
theorem dX6_sell_57 : decode cX6_sell 57 = .ok (.iload 4, 2) := by decide +kernel
theorem dX6_sell_59 : decode cX6_sell 59 = .ok (.istore_n 2, 1) := by decide +kernel
theorem dX6_sell_60 : decode cX6_sell 60 = .ok (.iload 5, 2) := by decide +kernel
theorem dX6_sell_62 : decode cX6_sell 62 = .ok (.istore_n 3, 1) := by decide +kernel
theorem dX6_sell_63 : decode cX6_sell 63 = .ok (.iinc 4 1, 3) := by decide +kernel
theorem dX6_sell_66 : decode cX6_sell 66 = .ok (.goto (-41), 3) := by decide +kernel
theorem dX6_sell_69 : decode cX6_sell 69 = .ok (.iload_n 1, 1) := by decide +kernel
theorem dX6_sell_70 : decode cX6_sell 70 = .ok (.ifCond .ne 7, 3) := by decide +kernel
theorem dX6_sell_73 : decode cX6_sell 73 = .ok (.iload_n 2, 1) := by decide +kernel
theorem dX6_sell_74 : decode cX6_sell 74 = .ok (.goto 4, 3) := by decide +kernel
theorem dX6_sell_77 : decode cX6_sell 77 = .ok (.iload_n 3, 1) := by decide +kernel
theorem dX6_sell_78 : decode cX6_sell 78 = .ok (.ireturn, 1) := by decide +kernel
theorem dX6_shares_0 : decode cX6_shares 0 = .ok (.aload_n 0, 1) := by decide +kernel
theorem dX6_shares_1 : decode cX6_shares 1 = .ok (.iload_n 1, 1) := by decide +kernel
theorem dX6_shares_2 : decode cX6_shares 2 = .ok (.invokevirtual 216, 3) := by decide +kernel
theorem dX6_shares_5 : decode cX6_shares 5 = .ok (.istore_n 2, 1) := by decide +kernel
theorem dX6_shares_6 : decode cX6_shares 6 = .ok (.iload_n 2, 1) := by decide +kernel
theorem dX6_shares_7 : decode cX6_shares 7 = .ok (.ifCond .eq 9, 3) := by decide +kernel
theorem dX6_shares_10 : decode cX6_shares 10 = .ok (.aload_n 0, 1) := by decide +kernel
theorem dX6_shares_11 : decode cX6_shares 11 = .ok (.iload_n 2, 1) := by decide +kernel
theorem dX6_shares_12 : decode cX6_shares 12 = .ok (.invokevirtual 79, 3) := by decide +kernel
theorem dX6_shares_15 : decode cX6_shares 15 = .ok (.ireturn, 1) := by decide +kernel
theorem dX6_shares_16 : decode cX6_shares 16 = .ok (.aload_n 0, 1) := by decide +kernel
theorem dX6_shares_17 : decode cX6_shares 17 = .ok (.invokevirtual 219, 3) := by decide +kernel
theorem dX6_shares_20 : decode cX6_shares 20 = .ok (.istore_n 3, 1) := by decide +kernel
theorem dX6_shares_21 : decode cX6_shares 21 = .ok (.iload_n 1, 1) := by decide +kernel
theorem dX6_shares_22 : decode cX6_shares 22 = .ok (.ifCond .ge 7, 3) := by decide +kernel
theorem dX6_shares_25 : decode cX6_shares 25 = .ok (.iload_n 3, 1) := by decide +kernel
theorem dX6_shares_26 : decode cX6_shares 26 = .ok (.goto 9, 3) := by decide +kernel
theorem dX6_shares_29 : decode cX6_shares 29 = .ok (.aload_n 0, 1) := by decide +kernel
theorem dX6_shares_30 : decode cX6_shares 30 = .ok (.getfield 52, 3) := by decide +kernel
theorem dX6_shares_33 : decode cX6_shares 33 = .ok (.iload_n 1, 1) := by decide +kernel
theorem dX6_shares_34 : decode cX6_shares 34 = .ok (.iaload, 1) := by decide +kernel
theorem dX6_shares_35 : decode cX6_shares 35 = .ok (.ireturn, 1) := by decide +kernel
theorem dX6_sharesBy_0 : decode cX6_sharesBy 0 = .ok (.iload_n 1, 1) := by decide +kernel
theorem dX6_sharesBy_1 : decode cX6_sharesBy 1 = .ok (.istore_n 2, 1) := by decide +kernel
theorem dX6_sharesBy_2 : decode cX6_sharesBy 2 = .ok (.aload_n 0, 1) := by decide +kernel
theorem dX6_sharesBy_3 : decode cX6_sharesBy 3 = .ok (.getfield 65, 3) := by decide +kernel
theorem dX6_sharesBy_6 : decode cX6_sharesBy 6 = .ok (.iconst 1, 1) := by decide +kernel
theorem dX6_sharesBy_7 : decode cX6_sharesBy 7 = .ok (.isub, 1) := by decide +kernel
theorem dX6_sharesBy_8 : decode cX6_sharesBy 8 = .ok (.istore_n 3, 1) := by decide +kernel
theorem dX6_sharesBy_9 : decode cX6_sharesBy 9 = .ok (.iload_n 3, 1) := by decide +kernel
theorem dX6_sharesBy_10 : decode cX6_sharesBy 10 = .ok (.ifCond .lt 28, 3) := by decide +kernel
theorem dX6_sharesBy_13 : decode cX6_sharesBy 13 = .ok (.aload_n 0, 1) := by decide +kernel
theorem dX6_sharesBy_14 : decode cX6_sharesBy 14 = .ok (.getfield 52, 3) := by decide +kernel
theorem dX6_sharesBy_17 : decode cX6_sharesBy 17 = .ok (.iload_n 3, 1) := by decide +kernel
theorem dX6_sharesBy_18 : decode cX6_sharesBy 18 = .ok (.iload_n 2, 1) := by decide +kernel
theorem dX6_sharesBy_19 : decode cX6_sharesBy 19 = .ok (.aload_n 0, 1) := by decide +kernel
theorem dX6_sharesBy_20 : decode cX6_sharesBy 20 = .ok (.getfield 61, 3) := by decide +kernel
theorem dX6_sharesBy_23 : decode cX6_sharesBy 23 = .ok (.irem, 1) := by decide +kernel
theorem dX6_sharesBy_24 : decode cX6_sharesBy 24 = .ok (.iastore, 1) := by decide +kernel
theorem dX6_sharesBy_25 : decode cX6_sharesBy 25 = .ok (.iload_n 2, 1) := by decide +kernel
theorem dX6_sharesBy_26 : decode cX6_sharesBy 26 = .ok (.aload_n 0, 1) := by decide +kernel
theorem dX6_sharesBy_27 : decode cX6_sharesBy 27 = .ok (.getfield 61, 3) := by decide +kernel
theorem dX6_sharesBy_30 : decode cX6_sharesBy 30 = .ok (.idiv, 1) := by decide +kernel
theorem dX6_sharesBy_31 : decode cX6_sharesBy 31 = .ok (.istore_n 2, 1) := by decide +kernel
theorem dX6_sharesBy_32 : decode cX6_sharesBy 32 = .ok (.iinc 3 (-1), 3) := by decide +kernel
theorem dX6_sharesBy_35 : decode cX6_sharesBy 35 = .ok (.goto (-26), 3) := by decide +kernel
theorem dX6_sharesBy_38 : decode cX6_sharesBy 38 = .ok (.aload_n 0, 1) := by decide +kernel
theorem dX6_sharesBy_39 : decode cX6_sharesBy 39 = .ok (.invokevirtual 207, 3) := by decide +kernel
theorem dX6_sharesBy_42 : decode cX6_sharesBy 42 = .ok (.return_, 1) := by decide +kernel
theorem dX6_size_0 : decode cX6_size 0 = .ok (.iload_n 1, 1) := by decide +kernel
theorem dX6_size_1 : decode cX6_size 1 = .ok (.invokestatic 68, 3) := by decide +kernel
theorem dX6_size_4 : decode cX6_size 4 = .ok (.ifCond .ne 7, 3) := by decide +kernel
theorem dX6_size_7 : decode cX6_size 7 = .ok (.iconst (-1), 1) := by decide +kernel
theorem dX6_size_8 : decode cX6_size 8 = .ok (.goto 10, 3) := by decide +kernel
theorem dX6_size_11 : decode cX6_size 11 = .ok (.iload_n 2, 1) := by decide +kernel
theorem dX6_size_12 : decode cX6_size 12 = .ok (.iconst 0, 1) := by decide +kernel
theorem dX6_size_13 : decode cX6_size 13 = .ok (.bipush 20, 2) := by decide +kernel
theorem dX6_size_15 : decode cX6_size 15 = .ok (.invokestatic 72, 3) := by decide +kernel
theorem dX6_size_18 : decode cX6_size 18 = .ok (.istore_n 3, 1) := by decide +kernel
theorem dX6_size_19 : decode cX6_size 19 = .ok (.iload_n 3, 1) := by decide +kernel
theorem dX6_size_20 : decode cX6_size 20 = .ok (.ifCond .ne 15, 3) := by decide +kernel
theorem dX6_size_23 : decode cX6_size 23 = .ok (.iload_n 2, 1) := by decide +kernel
theorem dX6_size_24 : decode cX6_size 24 = .ok (.aload_n 0, 1) := by decide +kernel
theorem dX6_size_25 : decode cX6_size 25 = .ok (.iload_n 1, 1) := by decide +kernel
theorem dX6_size_26 : decode cX6_size 26 = .ok (.invokevirtual 125, 3) := by decide +kernel
theorem dX6_size_29 : decode cX6_size 29 = .ok (.if_icmp .ge 6, 3) := by decide +kernel
theorem dX6_size_32 : decode cX6_size 32 = .ok (.bipush (-3), 2) := by decide +kernel
theorem dX6_size_34 : decode cX6_size 34 = .ok (.istore_n 3, 1) := by decide +kernel
theorem dX6_size_35 : decode cX6_size 35 = .ok (.iload_n 3, 1) := by decide +kernel
theorem dX6_size_36 : decode cX6_size 36 = .ok (.ifCond .eq 9, 3) := by decide +kernel
theorem dX6_size_39 : decode cX6_size 39 = .ok (.aload_n 0, 1) := by decide +kernel
theorem dX6_size_40 : decode cX6_size 40 = .ok (.iload_n 3, 1) := by decide +kernel
theorem dX6_size_41 : decode cX6_size 41 = .ok (.invokevirtual 79, 3) := by decide +kernel
theorem dX6_size_44 : decode cX6_size 44 = .ok (.ireturn, 1) := by decide +kernel
theorem dX6_size_45 : decode cX6_size 45 = .ok (.aload_n 0, 1) := by decide +kernel
theorem dX6_size_46 : decode cX6_size 46 = .ok (.getfield 13, 3) := by decide +kernel
theorem dX6_size_49 : decode cX6_size 49 = .ok (.iload_n 1, 1) := by decide +kernel
theorem dX6_size_50 : decode cX6_size 50 = .ok (.iaload, 1) := by decide +kernel
theorem dX6_size_51 : decode cX6_size 51 = .ok (.istore 4, 2) := by decide +kernel
theorem dX6_size_53 : decode cX6_size 53 = .ok (.aload_n 0, 1) := by decide +kernel
theorem dX6_size_54 : decode cX6_size 54 = .ok (.getfield 13, 3) := by decide +kernel
theorem dX6_size_57 : decode cX6_size 57 = .ok (.iload_n 1, 1) := by decide +kernel
theorem dX6_size_58 : decode cX6_size 58 = .ok (.iload_n 2, 1) := by decide +kernel
theorem dX6_size_59 : decode cX6_size 59 = .ok (.iastore, 1) := by decide +kernel
theorem dX6_size_60 : decode cX6_size 60 = .ok (.iload 4, 2) := by decide +kernel
theorem dX6_size_62 : decode cX6_size 62 = .ok (.ireturn, 1) := by decide +kernel
theorem dX6_stands_0 : decode cX6_stands 0 = .ok (.aload_n 0, 1) := by decide +kernel
theorem dX6_stands_1 : decode cX6_stands 1 = .ok (.iload_n 1, 1) := by decide +kernel
theorem dX6_stands_2 : decode cX6_stands 2 = .ok (.invokevirtual 116, 3) := by decide +kernel
theorem dX6_stands_5 : decode cX6_stands 5 = .ok (.ifCond .eq 10, 3) := by decide +kernel
theorem dX6_stands_8 : decode cX6_stands 8 = .ok (.iload_n 2, 1) := by decide +kernel
theorem dX6_stands_9 : decode cX6_stands 9 = .ok (.invokestatic 119, 3) := by decide +kernel
theorem dX6_stands_12 : decode cX6_stands 12 = .ok (.ifCond .ne 9, 3) := by decide +kernel
theorem dX6_stands_15 : decode cX6_stands 15 = .ok (.aload_n 0, 1) := by decide +kernel
theorem dX6_stands_16 : decode cX6_stands 16 = .ok (.iconst (-1), 1) := by decide +kernel
theorem dX6_stands_17 : decode cX6_stands 17 = .ok (.invokevirtual 79, 3) := by decide +kernel
theorem dX6_stands_20 : decode cX6_stands 20 = .ok (.ireturn, 1) := by decide +kernel
theorem dX6_stands_21 : decode cX6_stands 21 = .ok (.aload_n 0, 1) := by decide +kernel
theorem dX6_stands_22 : decode cX6_stands 22 = .ok (.iload_n 1, 1) := by decide +kernel
theorem dX6_stands_23 : decode cX6_stands 23 = .ok (.iload_n 2, 1) := by decide +kernel
theorem dX6_stands_24 : decode cX6_stands 24 = .ok (.invokevirtual 122, 3) := by decide +kernel
theorem dX6_stands_27 : decode cX6_stands 27 = .ok (.ifCond .eq 7, 3) := by decide +kernel
theorem dX6_stands_30 : decode cX6_stands 30 = .ok (.iconst 1, 1) := by decide +kernel
theorem dX6_stands_31 : decode cX6_stands 31 = .ok (.goto 4, 3) := by decide +kernel
theorem dX6_stands_34 : decode cX6_stands 34 = .ok (.iconst 0, 1) := by decide +kernel
theorem dX6_stands_35 : decode cX6_stands 35 = .ok (.ireturn, 1) := by decide +kernel
theorem dX6_statement_0 : decode cX6_statement 0 = .ok (.aload_n 0, 1) := by decide +kernel
theorem dX6_statement_1 : decode cX6_statement 1 = .ok (.invokevirtual 86, 3) := by decide +kernel
theorem dX6_statement_4 : decode cX6_statement 4 = .ok (.istore_n 1, 1) := by decide +kernel
theorem dX6_statement_5 : decode cX6_statement 5 = .ok (.iload_n 1, 1) := by decide +kernel
theorem dX6_statement_6 : decode cX6_statement 6 = .ok (.invokestatic 104, 3) := by decide +kernel
theorem dX6_statement_9 : decode cX6_statement 9 = .ok (.ifCond .ne 5, 3) := by decide +kernel
theorem dX6_statement_12 : decode cX6_statement 12 = .ok (.iconst 0, 1) := by decide +kernel
theorem dX6_statement_13 : decode cX6_statement 13 = .ok (.ireturn, 1) := by decide +kernel
theorem dX6_statement_14 : decode cX6_statement 14 = .ok (.aload_n 0, 1) := by decide +kernel
theorem dX6_statement_15 : decode cX6_statement 15 = .ok (.getfield 37, 3) := by decide +kernel
theorem dX6_statement_18 : decode cX6_statement 18 = .ok (.aload_n 0, 1) := by decide +kernel
theorem dX6_statement_19 : decode cX6_statement 19 = .ok (.getfield 107, 3) := by decide +kernel
theorem dX6_statement_22 : decode cX6_statement 22 = .ok (.iload_n 1, 1) := by decide +kernel
theorem dX6_statement_23 : decode cX6_statement 23 = .ok (.iastore, 1) := by decide +kernel
theorem dX6_statement_24 : decode cX6_statement 24 = .ok (.aload_n 0, 1) := by decide +kernel
theorem dX6_statement_25 : decode cX6_statement 25 = .ok (.getfield 40, 3) := by decide +kernel
theorem dX6_statement_28 : decode cX6_statement 28 = .ok (.aload_n 0, 1) := by decide +kernel
theorem dX6_statement_29 : decode cX6_statement 29 = .ok (.getfield 107, 3) := by decide +kernel
theorem dX6_statement_32 : decode cX6_statement 32 = .ok (.aload_n 0, 1) := by decide +kernel
theorem dX6_statement_33 : decode cX6_statement 33 = .ok (.getfield 83, 3) := by decide +kernel
theorem dX6_statement_36 : decode cX6_statement 36 = .ok (.iastore, 1) := by decide +kernel
theorem dX6_statement_37 : decode cX6_statement 37 = .ok (.aload_n 0, 1) := by decide +kernel
theorem dX6_statement_38 : decode cX6_statement 38 = .ok (.dup, 1) := by decide +kernel
theorem dX6_statement_39 : decode cX6_statement 39 = .ok (.getfield 83, 3) := by decide +kernel
theorem dX6_statement_42 : decode cX6_statement 42 = .ok (.iconst 1, 1) := by decide +kernel
theorem dX6_statement_43 : decode cX6_statement 43 = .ok (.iadd, 1) := by decide +kernel
theorem dX6_statement_44 : decode cX6_statement 44 = .ok (.putfield 83, 3) := by decide +kernel
theorem dX6_statement_47 : decode cX6_statement 47 = .ok (.aload_n 0, 1) := by decide +kernel
theorem dX6_statement_48 : decode cX6_statement 48 = .ok (.iload_n 1, 1) := by decide +kernel
theorem dX6_statement_49 : decode cX6_statement 49 = .ok (.iconst 4, 1) := by decide +kernel
theorem dX6_statement_50 : decode cX6_statement 50 = .ok (.aload_n 0, 1) := by decide +kernel
theorem dX6_statement_51 : decode cX6_statement 51 = .ok (.getfield 107, 3) := by decide +kernel
theorem dX6_statement_54 : decode cX6_statement 54 = .ok (.imul, 1) := by decide +kernel
theorem dX6_statement_55 : decode cX6_statement 55 = .ok (.invokevirtual 110, 3) := by decide +kernel
theorem dX6_statement_58 : decode cX6_statement 58 = .ok (.ifCond .eq 12, 3) := by decide +kernel
theorem dX6_statement_61 : decode cX6_statement 61 = .ok (.aload_n 0, 1) := by decide +kernel
theorem dX6_statement_62 : decode cX6_statement 62 = .ok (.invokevirtual 86, 3) := by decide +kernel
theorem dX6_statement_65 : decode cX6_statement 65 = .ok (.bipush 59, 2) := by decide +kernel
theorem dX6_statement_67 : decode cX6_statement 67 = .ok (.if_icmp .eq 5, 3) := by decide +kernel
theorem dX6_statement_70 : decode cX6_statement 70 = .ok (.iconst 0, 1) := by decide +kernel
theorem dX6_statement_71 : decode cX6_statement 71 = .ok (.ireturn, 1) := by decide +kernel
theorem dX6_statement_72 : decode cX6_statement 72 = .ok (.aload_n 0, 1) := by decide +kernel
theorem dX6_statement_73 : decode cX6_statement 73 = .ok (.dup, 1) := by decide +kernel
theorem dX6_statement_74 : decode cX6_statement 74 = .ok (.getfield 83, 3) := by decide +kernel
theorem dX6_statement_77 : decode cX6_statement 77 = .ok (.iconst 1, 1) := by decide +kernel
theorem dX6_statement_78 : decode cX6_statement 78 = .ok (.iadd, 1) := by decide +kernel
theorem dX6_statement_79 : decode cX6_statement 79 = .ok (.putfield 83, 3) := by decide +kernel
theorem dX6_statement_82 : decode cX6_statement 82 = .ok (.iconst 1, 1) := by decide +kernel
theorem dX6_statement_83 : decode cX6_statement 83 = .ok (.ireturn, 1) := by decide +kernel
theorem dX6_suiteOf_0 : decode cX6_suiteOf 0 = .ok (.aload_n 0, 1) := by decide +kernel
theorem dX6_suiteOf_1 : decode cX6_suiteOf 1 = .ok (.getfield 25, 3) := by decide +kernel
theorem dX6_suiteOf_4 : decode cX6_suiteOf 4 = .ok (.iload_n 1, 1) := by decide +kernel
theorem dX6_suiteOf_5 : decode cX6_suiteOf 5 = .ok (.iaload, 1) := by decide +kernel
theorem dX6_suiteOf_6 : decode cX6_suiteOf 6 = .ok (.istore_n 2, 1) := by decide +kernel
theorem dX6_suiteOf_7 : decode cX6_suiteOf 7 = .ok (.iconst 0, 1) := by decide +kernel
theorem dX6_suiteOf_8 : decode cX6_suiteOf 8 = .ok (.istore_n 3, 1) := by decide +kernel
theorem dX6_suiteOf_9 : decode cX6_suiteOf 9 = .ok (.iload_n 3, 1) := by decide +kernel
theorem dX6_suiteOf_10 : decode cX6_suiteOf 10 = .ok (.aload_n 0, 1) := by decide +kernel
theorem dX6_suiteOf_11 : decode cX6_suiteOf 11 = .ok (.getfield 65, 3) := by decide +kernel
theorem dX6_suiteOf_14 : decode cX6_suiteOf 14 = .ok (.if_icmp .ge 68, 3) := by decide +kernel
theorem dX6_suiteOf_17 : decode cX6_suiteOf 17 = .ok (.iload_n 2, 1) := by decide +kernel
theorem dX6_suiteOf_18 : decode cX6_suiteOf 18 = .ok (.iload_n 3, 1) := by decide +kernel
theorem dX6_suiteOf_19 : decode cX6_suiteOf 19 = .ok (.iload_n 1, 1) := by decide +kernel
theorem dX6_suiteOf_20 : decode cX6_suiteOf 20 = .ok (.if_icmp .eq 53, 3) := by decide +kernel
theorem dX6_suiteOf_23 : decode cX6_suiteOf 23 = .ok (.aload_n 0, 1) := by decide +kernel
theorem dX6_suiteOf_24 : decode cX6_suiteOf 24 = .ok (.getfield 31, 3) := by decide +kernel
theorem dX6_suiteOf_27 : decode cX6_suiteOf 27 = .ok (.iload_n 1, 1) := by decide +kernel
theorem dX6_suiteOf_28 : decode cX6_suiteOf 28 = .ok (.iaload, 1) := by decide +kernel
theorem dX6_suiteOf_29 : decode cX6_suiteOf 29 = .ok (.bipush 9, 2) := by decide +kernel
theorem dX6_suiteOf_31 : decode cX6_suiteOf 31 = .ok (.if_icmp .eq 42, 3) := by decide +kernel
theorem dX6_suiteOf_34 : decode cX6_suiteOf 34 = .ok (.aload_n 0, 1) := by decide +kernel
theorem dX6_suiteOf_35 : decode cX6_suiteOf 35 = .ok (.getfield 31, 3) := by decide +kernel
theorem dX6_suiteOf_38 : decode cX6_suiteOf 38 = .ok (.iload_n 3, 1) := by decide +kernel
theorem dX6_suiteOf_39 : decode cX6_suiteOf 39 = .ok (.iaload, 1) := by decide +kernel
theorem dX6_suiteOf_40 : decode cX6_suiteOf 40 = .ok (.aload_n 0, 1) := by decide +kernel
theorem dX6_suiteOf_41 : decode cX6_suiteOf 41 = .ok (.getfield 31, 3) := by decide +kernel
theorem dX6_suiteOf_44 : decode cX6_suiteOf 44 = .ok (.iload_n 1, 1) := by decide +kernel
theorem dX6_suiteOf_45 : decode cX6_suiteOf 45 = .ok (.iaload, 1) := by decide +kernel
theorem dX6_suiteOf_46 : decode cX6_suiteOf 46 = .ok (.if_icmp .ne 27, 3) := by decide +kernel
theorem dX6_suiteOf_49 : decode cX6_suiteOf 49 = .ok (.aload_n 0, 1) := by decide +kernel
theorem dX6_suiteOf_50 : decode cX6_suiteOf 50 = .ok (.getfield 19, 3) := by decide +kernel
theorem dX6_suiteOf_53 : decode cX6_suiteOf 53 = .ok (.iload_n 3, 1) := by decide +kernel
theorem dX6_suiteOf_54 : decode cX6_suiteOf 54 = .ok (.iaload, 1) := by decide +kernel
theorem dX6_suiteOf_55 : decode cX6_suiteOf 55 = .ok (.iconst 1, 1) := by decide +kernel
theorem dX6_suiteOf_56 : decode cX6_suiteOf 56 = .ok (.if_icmp .eq 13, 3) := by decide +kernel
theorem dX6_suiteOf_59 : decode cX6_suiteOf 59 = .ok (.aload_n 0, 1) := by decide +kernel
theorem dX6_suiteOf_60 : decode cX6_suiteOf 60 = .ok (.getfield 19, 3) := by decide +kernel
theorem dX6_suiteOf_63 : decode cX6_suiteOf 63 = .ok (.iload_n 3, 1) := by decide +kernel
theorem dX6_suiteOf_64 : decode cX6_suiteOf 64 = .ok (.iaload, 1) := by decide +kernel
theorem dX6_suiteOf_65 : decode cX6_suiteOf 65 = .ok (.iconst 4, 1) := by decide +kernel
theorem dX6_suiteOf_66 : decode cX6_suiteOf 66 = .ok (.if_icmp .ne 7, 3) := by decide +kernel
theorem dX6_suiteOf_69 : decode cX6_suiteOf 69 = .ok (.iconst 2, 1) := by decide +kernel
theorem dX6_suiteOf_70 : decode cX6_suiteOf 70 = .ok (.goto 4, 3) := by decide +kernel
theorem dX6_suiteOf_73 : decode cX6_suiteOf 73 = .ok (.iconst 0, 1) := by decide +kernel
theorem dX6_suiteOf_74 : decode cX6_suiteOf 74 = .ok (.iadd, 1) := by decide +kernel
theorem dX6_suiteOf_75 : decode cX6_suiteOf 75 = .ok (.istore_n 2, 1) := by decide +kernel
theorem dX6_suiteOf_76 : decode cX6_suiteOf 76 = .ok (.iinc 3 1, 3) := by decide +kernel
theorem dX6_suiteOf_79 : decode cX6_suiteOf 79 = .ok (.goto (-70), 3) := by decide +kernel
theorem dX6_suiteOf_82 : decode cX6_suiteOf 82 = .ok (.iload_n 2, 1) := by decide +kernel
theorem dX6_suiteOf_83 : decode cX6_suiteOf 83 = .ok (.ireturn, 1) := by decide +kernel
theorem dX6_veneerOf_0 : decode cX6_veneerOf 0 = .ok (.aload_n 0, 1) := by decide +kernel
theorem dX6_veneerOf_1 : decode cX6_veneerOf 1 = .ok (.getfield 25, 3) := by decide +kernel
theorem dX6_veneerOf_4 : decode cX6_veneerOf 4 = .ok (.iload_n 1, 1) := by decide +kernel
theorem dX6_veneerOf_5 : decode cX6_veneerOf 5 = .ok (.iaload, 1) := by decide +kernel
theorem dX6_veneerOf_6 : decode cX6_veneerOf 6 = .ok (.iconst 2, 1) := by decide +kernel
theorem dX6_veneerOf_7 : decode cX6_veneerOf 7 = .ok (.idiv, 1) := by decide +kernel
theorem dX6_veneerOf_8 : decode cX6_veneerOf 8 = .ok (.aload_n 0, 1) := by decide +kernel
theorem dX6_veneerOf_9 : decode cX6_veneerOf 9 = .ok (.getfield 65, 3) := by decide +kernel
theorem dX6_veneerOf_12 : decode cX6_veneerOf 12 = .ok (.iconst 1, 1) := by decide +kernel
theorem dX6_veneerOf_13 : decode cX6_veneerOf 13 = .ok (.if_icmp .ne 7, 3) := by decide +kernel
theorem dX6_veneerOf_16 : decode cX6_veneerOf 16 = .ok (.iconst 0, 1) := by decide +kernel
theorem dX6_veneerOf_17 : decode cX6_veneerOf 17 = .ok (.goto 16, 3) := by decide +kernel
theorem dX6_veneerOf_20 : decode cX6_veneerOf 20 = .ok (.aload_n 0, 1) := by decide +kernel
theorem dX6_veneerOf_21 : decode cX6_veneerOf 21 = .ok (.getfield 25, 3) := by decide +kernel
theorem dX6_veneerOf_24 : decode cX6_veneerOf 24 = .ok (.iload_n 1, 1) := by decide +kernel
theorem dX6_veneerOf_25 : decode cX6_veneerOf 25 = .ok (.iconst 1, 1) := by decide +kernel
theorem dX6_veneerOf_26 : decode cX6_veneerOf 26 = .ok (.iadd, 1) := by decide +kernel
theorem dX6_veneerOf_27 : decode cX6_veneerOf 27 = .ok (.aload_n 0, 1) := by decide +kernel
theorem dX6_veneerOf_28 : decode cX6_veneerOf 28 = .ok (.getfield 65, 3) := by decide +kernel
theorem dX6_veneerOf_31 : decode cX6_veneerOf 31 = .ok (.irem, 1) := by decide +kernel
theorem dX6_veneerOf_32 : decode cX6_veneerOf 32 = .ok (.iaload, 1) := by decide +kernel
theorem dX6_veneerOf_33 : decode cX6_veneerOf 33 = .ok (.iadd, 1) := by decide +kernel
theorem dX6_veneerOf_34 : decode cX6_veneerOf 34 = .ok (.ireturn, 1) := by decide +kernel
theorem dX6_whose_0 : decode cX6_whose 0 = .ok (.iload_n 1, 1) := by decide +kernel
theorem dX6_whose_1 : decode cX6_whose 1 = .ok (.iconst 0, 1) := by decide +kernel
theorem dX6_whose_2 : decode cX6_whose 2 = .ok (.sipush 999, 3) := by decide +kernel
theorem dX6_whose_5 : decode cX6_whose 5 = .ok (.invokestatic 72, 3) := by decide +kernel
theorem dX6_whose_8 : decode cX6_whose 8 = .ok (.istore_n 2, 1) := by decide +kernel
theorem dX6_whose_9 : decode cX6_whose 9 = .ok (.iload_n 2, 1) := by decide +kernel
theorem dX6_whose_10 : decode cX6_whose 10 = .ok (.ifCond .eq 9, 3) := by decide +kernel
theorem dX6_whose_13 : decode cX6_whose 13 = .ok (.aload_n 0, 1) := by decide +kernel
theorem dX6_whose_14 : decode cX6_whose 14 = .ok (.iload_n 2, 1) := by decide +kernel
theorem dX6_whose_15 : decode cX6_whose 15 = .ok (.invokevirtual 79, 3) := by decide +kernel
theorem dX6_whose_18 : decode cX6_whose 18 = .ok (.ireturn, 1) := by decide +kernel
theorem dX6_whose_19 : decode cX6_whose 19 = .ok (.iconst 0, 1) := by decide +kernel
theorem dX6_whose_20 : decode cX6_whose 20 = .ok (.istore_n 3, 1) := by decide +kernel
theorem dX6_whose_21 : decode cX6_whose 21 = .ok (.iconst 0, 1) := by decide +kernel
theorem dX6_whose_22 : decode cX6_whose 22 = .ok (.istore 4, 2) := by decide +kernel
theorem dX6_whose_24 : decode cX6_whose 24 = .ok (.iload 4, 2) := by decide +kernel
theorem dX6_whose_26 : decode cX6_whose 26 = .ok (.aload_n 0, 1) := by decide +kernel
theorem dX6_whose_27 : decode cX6_whose 27 = .ok (.getfield 65, 3) := by decide +kernel
theorem dX6_whose_30 : decode cX6_whose 30 = .ok (.if_icmp .ge 30, 3) := by decide +kernel
theorem dX6_whose_33 : decode cX6_whose 33 = .ok (.iload_n 3, 1) := by decide +kernel
theorem dX6_whose_34 : decode cX6_whose 34 = .ok (.aload_n 0, 1) := by decide +kernel
theorem dX6_whose_35 : decode cX6_whose 35 = .ok (.iload 4, 2) := by decide +kernel
theorem dX6_whose_37 : decode cX6_whose 37 = .ok (.iload_n 1, 1) := by decide +kernel
theorem dX6_whose_38 : decode cX6_whose 38 = .ok (.invokevirtual 243, 3) := by decide +kernel
theorem dX6_whose_41 : decode cX6_whose 41 = .ok (.ifCond .eq 10, 3) := by decide +kernel
theorem dX6_whose_44 : decode cX6_whose 44 = .ok (.iconst 1, 1) := by decide +kernel
theorem dX6_whose_45 : decode cX6_whose 45 = .ok (.iload 4, 2) := by decide +kernel
theorem dX6_whose_47 : decode cX6_whose 47 = .ok (.ishl, 1) := by decide +kernel
theorem dX6_whose_48 : decode cX6_whose 48 = .ok (.goto 4, 3) := by decide +kernel
theorem dX6_whose_51 : decode cX6_whose 51 = .ok (.iconst 0, 1) := by decide +kernel
theorem dX6_whose_52 : decode cX6_whose 52 = .ok (.ior, 1) := by decide +kernel
theorem dX6_whose_53 : decode cX6_whose 53 = .ok (.istore_n 3, 1) := by decide +kernel
theorem dX6_whose_54 : decode cX6_whose 54 = .ok (.iinc 4 1, 3) := by decide +kernel
theorem dX6_whose_57 : decode cX6_whose 57 = .ok (.goto (-33), 3) := by decide +kernel
theorem dX6_whose_60 : decode cX6_whose 60 = .ok (.iload_n 3, 1) := by decide +kernel
theorem dX6_whose_61 : decode cX6_whose 61 = .ok (.ireturn, 1) := by decide +kernel
theorem dX6_wide_0 : decode cX6_wide 0 = .ok (.iload_n 1, 1) := by decide +kernel
theorem dX6_wide_1 : decode cX6_wide 1 = .ok (.invokestatic 175, 3) := by decide +kernel
theorem dX6_wide_4 : decode cX6_wide 4 = .ok (.ifCond .ne 7, 3) := by decide +kernel
theorem dX6_wide_7 : decode cX6_wide 7 = .ok (.iconst (-1), 1) := by decide +kernel
theorem dX6_wide_8 : decode cX6_wide 8 = .ok (.goto 10, 3) := by decide +kernel
theorem dX6_wide_11 : decode cX6_wide 11 = .ok (.iload_n 2, 1) := by decide +kernel
theorem dX6_wide_12 : decode cX6_wide 12 = .ok (.iconst 0, 1) := by decide +kernel
theorem dX6_wide_13 : decode cX6_wide 13 = .ok (.bipush 9, 2) := by decide +kernel
theorem dX6_wide_15 : decode cX6_wide 15 = .ok (.invokestatic 72, 3) := by decide +kernel
theorem dX6_wide_18 : decode cX6_wide 18 = .ok (.istore_n 3, 1) := by decide +kernel
theorem dX6_wide_19 : decode cX6_wide 19 = .ok (.iload_n 3, 1) := by decide +kernel
theorem dX6_wide_20 : decode cX6_wide 20 = .ok (.ifCond .eq 9, 3) := by decide +kernel
theorem dX6_wide_23 : decode cX6_wide 23 = .ok (.aload_n 0, 1) := by decide +kernel
theorem dX6_wide_24 : decode cX6_wide 24 = .ok (.iload_n 3, 1) := by decide +kernel
theorem dX6_wide_25 : decode cX6_wide 25 = .ok (.invokevirtual 79, 3) := by decide +kernel
theorem dX6_wide_28 : decode cX6_wide 28 = .ok (.ireturn, 1) := by decide +kernel
theorem dX6_wide_29 : decode cX6_wide 29 = .ok (.aload_n 0, 1) := by decide +kernel
theorem dX6_wide_30 : decode cX6_wide 30 = .ok (.getfield 16, 3) := by decide +kernel
theorem dX6_wide_33 : decode cX6_wide 33 = .ok (.iload_n 1, 1) := by decide +kernel
theorem dX6_wide_34 : decode cX6_wide 34 = .ok (.iaload, 1) := by decide +kernel
theorem dX6_wide_35 : decode cX6_wide 35 = .ok (.istore 4, 2) := by decide +kernel
theorem dX6_wide_37 : decode cX6_wide 37 = .ok (.aload_n 0, 1) := by decide +kernel
theorem dX6_wide_38 : decode cX6_wide 38 = .ok (.getfield 16, 3) := by decide +kernel
theorem dX6_wide_41 : decode cX6_wide 41 = .ok (.iload_n 1, 1) := by decide +kernel
theorem dX6_wide_42 : decode cX6_wide 42 = .ok (.iload_n 2, 1) := by decide +kernel
theorem dX6_wide_43 : decode cX6_wide 43 = .ok (.iastore, 1) := by decide +kernel
theorem dX6_wide_44 : decode cX6_wide 44 = .ok (.iload 4, 2) := by decide +kernel
theorem dX6_wide_46 : decode cX6_wide 46 = .ok (.ireturn, 1) := by decide +kernel
theorem dX6_wideOf_0 : decode cX6_wideOf 0 = .ok (.aload_n 0, 1) := by decide +kernel
theorem dX6_wideOf_1 : decode cX6_wideOf 1 = .ok (.getfield 19, 3) := by decide +kernel
theorem dX6_wideOf_4 : decode cX6_wideOf 4 = .ok (.iload_n 1, 1) := by decide +kernel
theorem dX6_wideOf_5 : decode cX6_wideOf 5 = .ok (.iaload, 1) := by decide +kernel
theorem dX6_wideOf_6 : decode cX6_wideOf 6 = .ok (.iconst 4, 1) := by decide +kernel
theorem dX6_wideOf_7 : decode cX6_wideOf 7 = .ok (.if_icmp .ne 8, 3) := by decide +kernel
theorem dX6_wideOf_10 : decode cX6_wideOf 10 = .ok (.bipush 10, 2) := by decide +kernel
theorem dX6_wideOf_12 : decode cX6_wideOf 12 = .ok (.goto 51, 3) := by decide +kernel
theorem dX6_wideOf_15 : decode cX6_wideOf 15 = .ok (.aload_n 0, 1) := by decide +kernel
theorem dX6_wideOf_16 : decode cX6_wideOf 16 = .ok (.getfield 19, 3) := by decide +kernel
theorem dX6_wideOf_19 : decode cX6_wideOf 19 = .ok (.iload_n 1, 1) := by decide +kernel
theorem dX6_wideOf_20 : decode cX6_wideOf 20 = .ok (.iaload, 1) := by decide +kernel
theorem dX6_wideOf_21 : decode cX6_wideOf 21 = .ok (.iconst 2, 1) := by decide +kernel
theorem dX6_wideOf_22 : decode cX6_wideOf 22 = .ok (.if_icmp .ne 14, 3) := by decide +kernel
theorem dX6_wideOf_25 : decode cX6_wideOf 25 = .ok (.aload_n 0, 1) := by decide +kernel
theorem dX6_wideOf_26 : decode cX6_wideOf 26 = .ok (.getfield 22, 3) := by decide +kernel
theorem dX6_wideOf_29 : decode cX6_wideOf 29 = .ok (.iload_n 1, 1) := by decide +kernel
theorem dX6_wideOf_30 : decode cX6_wideOf 30 = .ok (.iaload, 1) := by decide +kernel
theorem dX6_wideOf_31 : decode cX6_wideOf 31 = .ok (.iconst 1, 1) := by decide +kernel
theorem dX6_wideOf_32 : decode cX6_wideOf 32 = .ok (.isub, 1) := by decide +kernel
theorem dX6_wideOf_33 : decode cX6_wideOf 33 = .ok (.goto 30, 3) := by decide +kernel
theorem dX6_wideOf_36 : decode cX6_wideOf 36 = .ok (.aload_n 0, 1) := by decide +kernel
theorem dX6_wideOf_37 : decode cX6_wideOf 37 = .ok (.getfield 19, 3) := by decide +kernel
theorem dX6_wideOf_40 : decode cX6_wideOf 40 = .ok (.iload_n 1, 1) := by decide +kernel
theorem dX6_wideOf_41 : decode cX6_wideOf 41 = .ok (.iaload, 1) := by decide +kernel
theorem dX6_wideOf_42 : decode cX6_wideOf 42 = .ok (.iconst 3, 1) := by decide +kernel
theorem dX6_wideOf_43 : decode cX6_wideOf 43 = .ok (.if_icmp .ne 14, 3) := by decide +kernel
theorem dX6_wideOf_46 : decode cX6_wideOf 46 = .ok (.aload_n 0, 1) := by decide +kernel
theorem dX6_wideOf_47 : decode cX6_wideOf 47 = .ok (.getfield 22, 3) := by decide +kernel
theorem dX6_wideOf_50 : decode cX6_wideOf 50 = .ok (.iload_n 1, 1) := by decide +kernel
theorem dX6_wideOf_51 : decode cX6_wideOf 51 = .ok (.iaload, 1) := by decide +kernel
theorem dX6_wideOf_52 : decode cX6_wideOf 52 = .ok (.iconst 2, 1) := by decide +kernel
theorem dX6_wideOf_53 : decode cX6_wideOf 53 = .ok (.idiv, 1) := by decide +kernel
theorem dX6_wideOf_54 : decode cX6_wideOf 54 = .ok (.goto 9, 3) := by decide +kernel
theorem dX6_wideOf_57 : decode cX6_wideOf 57 = .ok (.aload_n 0, 1) := by decide +kernel
theorem dX6_wideOf_58 : decode cX6_wideOf 58 = .ok (.getfield 22, 3) := by decide +kernel
theorem dX6_wideOf_61 : decode cX6_wideOf 61 = .ok (.iload_n 1, 1) := by decide +kernel
theorem dX6_wideOf_62 : decode cX6_wideOf 62 = .ok (.iaload, 1) := by decide +kernel
theorem dX6_wideOf_63 : decode cX6_wideOf 63 = .ok (.ireturn, 1) := by decide +kernel
theorem dX6_wider_0 : decode cX6_wider 0 = .ok (.iload_n 1, 1) := by decide +kernel
theorem dX6_wider_1 : decode cX6_wider 1 = .ok (.invokestatic 175, 3) := by decide +kernel
theorem dX6_wider_4 : decode cX6_wider 4 = .ok (.ifCond .eq 18, 3) := by decide +kernel
theorem dX6_wider_7 : decode cX6_wider 7 = .ok (.aload_n 0, 1) := by decide +kernel
theorem dX6_wider_8 : decode cX6_wider 8 = .ok (.iload_n 2, 1) := by decide +kernel
theorem dX6_wider_9 : decode cX6_wider 9 = .ok (.invokevirtual 116, 3) := by decide +kernel
theorem dX6_wider_12 : decode cX6_wider 12 = .ok (.ifCond .eq 10, 3) := by decide +kernel
theorem dX6_wider_15 : decode cX6_wider 15 = .ok (.iload_n 3, 1) := by decide +kernel
theorem dX6_wider_16 : decode cX6_wider 16 = .ok (.invokestatic 68, 3) := by decide +kernel
theorem dX6_wider_19 : decode cX6_wider 19 = .ok (.ifCond .ne 9, 3) := by decide +kernel
theorem dX6_wider_22 : decode cX6_wider 22 = .ok (.aload_n 0, 1) := by decide +kernel
theorem dX6_wider_23 : decode cX6_wider 23 = .ok (.iconst (-1), 1) := by decide +kernel
theorem dX6_wider_24 : decode cX6_wider 24 = .ok (.invokevirtual 79, 3) := by decide +kernel
theorem dX6_wider_27 : decode cX6_wider 27 = .ok (.ireturn, 1) := by decide +kernel
theorem dX6_wider_28 : decode cX6_wider 28 = .ok (.aload_n 0, 1) := by decide +kernel
theorem dX6_wider_29 : decode cX6_wider 29 = .ok (.getfield 16, 3) := by decide +kernel
theorem dX6_wider_32 : decode cX6_wider 32 = .ok (.iload_n 1, 1) := by decide +kernel
theorem dX6_wider_33 : decode cX6_wider 33 = .ok (.iaload, 1) := by decide +kernel
theorem dX6_wider_34 : decode cX6_wider 34 = .ok (.istore 4, 2) := by decide +kernel
theorem dX6_wider_36 : decode cX6_wider 36 = .ok (.bipush (-9), 2) := by decide +kernel
theorem dX6_wider_38 : decode cX6_wider 38 = .ok (.istore 5, 2) := by decide +kernel
theorem dX6_wider_40 : decode cX6_wider 40 = .ok (.bipush 9, 2) := by decide +kernel
theorem dX6_wider_42 : decode cX6_wider 42 = .ok (.istore 6, 2) := by decide +kernel
theorem dX6_wider_44 : decode cX6_wider 44 = .ok (.iload 6, 2) := by decide +kernel
theorem dX6_wider_46 : decode cX6_wider 46 = .ok (.ifCond .lt 35, 3) := by decide +kernel
theorem dX6_wider_49 : decode cX6_wider 49 = .ok (.aload_n 0, 1) := by decide +kernel
theorem dX6_wider_50 : decode cX6_wider 50 = .ok (.getfield 16, 3) := by decide +kernel
theorem dX6_wider_53 : decode cX6_wider 53 = .ok (.iload_n 1, 1) := by decide +kernel
theorem dX6_wider_54 : decode cX6_wider 54 = .ok (.iload 6, 2) := by decide +kernel
theorem dX6_wider_56 : decode cX6_wider 56 = .ok (.iastore, 1) := by decide +kernel
theorem dX6_wider_57 : decode cX6_wider 57 = .ok (.aload_n 0, 1) := by decide +kernel
theorem dX6_wider_58 : decode cX6_wider 58 = .ok (.iload_n 2, 1) := by decide +kernel
theorem dX6_wider_59 : decode cX6_wider 59 = .ok (.iload_n 3, 1) := by decide +kernel
theorem dX6_wider_60 : decode cX6_wider 60 = .ok (.invokevirtual 122, 3) := by decide +kernel
theorem dX6_wider_63 : decode cX6_wider 63 = .ok (.ifCond .eq 8, 3) := by decide +kernel
theorem dX6_wider_66 : decode cX6_wider 66 = .ok (.iload 6, 2) := by decide +kernel
theorem dX6_wider_68 : decode cX6_wider 68 = .ok (.goto 5, 3) := by decide +kernel
theorem dX6_wider_71 : decode cX6_wider 71 = .ok (.iload 5, 2) := by decide +kernel
theorem dX6_wider_73 : decode cX6_wider 73 = .ok (.istore 5, 2) := by decide +kernel
theorem dX6_wider_75 : decode cX6_wider 75 = .ok (.iinc 6 (-1), 3) := by decide +kernel
theorem dX6_wider_78 : decode cX6_wider 78 = .ok (.goto (-34), 3) := by decide +kernel
theorem dX6_wider_81 : decode cX6_wider 81 = .ok (.aload_n 0, 1) := by decide +kernel
theorem dX6_wider_82 : decode cX6_wider 82 = .ok (.getfield 16, 3) := by decide +kernel
theorem dX6_wider_85 : decode cX6_wider 85 = .ok (.iload_n 1, 1) := by decide +kernel
theorem dX6_wider_86 : decode cX6_wider 86 = .ok (.iload 4, 2) := by decide +kernel
theorem dX6_wider_88 : decode cX6_wider 88 = .ok (.iastore, 1) := by decide +kernel
theorem dX6_wider_89 : decode cX6_wider 89 = .ok (.iload 5, 2) := by decide +kernel
theorem dX6_wider_91 : decode cX6_wider 91 = .ok (.ireturn, 1) := by decide +kernel
theorem dX6_worst_0 : decode cX6_worst 0 = .ok (.iconst 0, 1) := by decide +kernel
theorem dX6_worst_1 : decode cX6_worst 1 = .ok (.istore_n 1, 1) := by decide +kernel
theorem dX6_worst_2 : decode cX6_worst 2 = .ok (.iconst 1, 1) := by decide +kernel
theorem dX6_worst_3 : decode cX6_worst 3 = .ok (.istore_n 2, 1) := by decide +kernel
theorem dX6_worst_4 : decode cX6_worst 4 = .ok (.iload_n 2, 1) := by decide +kernel
theorem dX6_worst_5 : decode cX6_worst 5 = .ok (.bipush 6, 2) := by decide +kernel
theorem dX6_worst_7 : decode cX6_worst 7 = .ok (.if_icmp .ge 28, 3) := by decide +kernel
theorem dX6_worst_10 : decode cX6_worst 10 = .ok (.aload_n 0, 1) := by decide +kernel
theorem dX6_worst_11 : decode cX6_worst 11 = .ok (.iload_n 2, 1) := by decide +kernel
theorem dX6_worst_12 : decode cX6_worst 12 = .ok (.invokevirtual 178, 3) := by decide +kernel
theorem dX6_worst_15 : decode cX6_worst 15 = .ok (.aload_n 0, 1) := by decide +kernel
theorem dX6_worst_16 : decode cX6_worst 16 = .ok (.iload_n 1, 1) := by decide +kernel
theorem dX6_worst_17 : decode cX6_worst 17 = .ok (.invokevirtual 178, 3) := by decide +kernel
theorem dX6_worst_20 : decode cX6_worst 20 = .ok (.if_icmp .le 7, 3) := by decide +kernel
theorem dX6_worst_23 : decode cX6_worst 23 = .ok (.iload_n 2, 1) := by decide +kernel
theorem dX6_worst_24 : decode cX6_worst 24 = .ok (.goto 4, 3) := by decide +kernel
theorem dX6_worst_27 : decode cX6_worst 27 = .ok (.iload_n 1, 1) := by decide +kernel
theorem dX6_worst_28 : decode cX6_worst 28 = .ok (.istore_n 1, 1) := by decide +kernel
theorem dX6_worst_29 : decode cX6_worst 29 = .ok (.iinc 2 1, 3) := by decide +kernel
theorem dX6_worst_32 : decode cX6_worst 32 = .ok (.goto (-28), 3) := by decide +kernel
theorem dX6_worst_35 : decode cX6_worst 35 = .ok (.iload_n 1, 1) := by decide +kernel
theorem dX6_worst_36 : decode cX6_worst 36 = .ok (.ireturn, 1) := by decide +kernel
theorem dX6_years_0 : decode cX6_years 0 = .ok (.iload_n 1, 1) := by decide +kernel
theorem dX6_years_1 : decode cX6_years 1 = .ok (.iconst 1, 1) := by decide +kernel
theorem dX6_years_2 : decode cX6_years 2 = .ok (.bipush 60, 2) := by decide +kernel
theorem dX6_years_4 : decode cX6_years 4 = .ok (.invokestatic 72, 3) := by decide +kernel
theorem dX6_years_7 : decode cX6_years 7 = .ok (.istore_n 2, 1) := by decide +kernel
theorem dX6_years_8 : decode cX6_years 8 = .ok (.iload_n 2, 1) := by decide +kernel
theorem dX6_years_9 : decode cX6_years 9 = .ok (.ifCond .ne 18, 3) := by decide +kernel
theorem dX6_years_12 : decode cX6_years 12 = .ok (.aload_n 0, 1) := by decide +kernel
theorem dX6_years_13 : decode cX6_years 13 = .ok (.getfield 128, 3) := by decide +kernel
theorem dX6_years_16 : decode cX6_years 16 = .ok (.iload_n 1, 1) := by decide +kernel
theorem dX6_years_17 : decode cX6_years 17 = .ok (.iadd, 1) := by decide +kernel
theorem dX6_years_18 : decode cX6_years 18 = .ok (.sipush 999, 3) := by decide +kernel
theorem dX6_years_21 : decode cX6_years 21 = .ok (.if_icmp .le 6, 3) := by decide +kernel
theorem dX6_years_24 : decode cX6_years 24 = .ok (.bipush (-6), 2) := by decide +kernel
theorem dX6_years_26 : decode cX6_years 26 = .ok (.istore_n 2, 1) := by decide +kernel
theorem dX6_years_27 : decode cX6_years 27 = .ok (.iload_n 2, 1) := by decide +kernel
theorem dX6_years_28 : decode cX6_years 28 = .ok (.ifCond .eq 9, 3) := by decide +kernel
theorem dX6_years_31 : decode cX6_years 31 = .ok (.aload_n 0, 1) := by decide +kernel
theorem dX6_years_32 : decode cX6_years 32 = .ok (.iload_n 2, 1) := by decide +kernel
theorem dX6_years_33 : decode cX6_years 33 = .ok (.invokevirtual 79, 3) := by decide +kernel
theorem dX6_years_36 : decode cX6_years 36 = .ok (.ireturn, 1) := by decide +kernel
theorem dX6_years_37 : decode cX6_years 37 = .ok (.aload_n 0, 1) := by decide +kernel
theorem dX6_years_38 : decode cX6_years 38 = .ok (.iload_n 1, 1) := by decide +kernel
theorem dX6_years_39 : decode cX6_years 39 = .ok (.invokevirtual 131, 3) := by decide +kernel
theorem dX6_years_42 : decode cX6_years 42 = .ok (.aload_n 0, 1) := by decide +kernel
theorem dX6_years_43 : decode cX6_years 43 = .ok (.getfield 128, 3) := by decide +kernel
theorem dX6_years_46 : decode cX6_years 46 = .ok (.ireturn, 1) := by decide +kernel
end
section
/-! what an answer is, and how a call's answer goes on -/
section BASE
variable {X : CxT} {pc : Nat} {lv lv' : List (Nat × Value)} {st rest : List Value} {σ σ' : St}
theorem V.top {x : Int32} (k : ∀ y, y = x → V X pc lv (.int y :: st) σ) : V X pc lv (.int x :: st) σ := k x rfl
theorem V.nm (k : ∀ τ, τ = σ → V X pc lv st τ) : V X pc lv st σ := k σ rfl
theorem V.eqs (e : σ = σ') (k : V X pc lv st σ') : V X pc lv st σ := e ▸ k
theorem V.tp {x y : Int32} (e : x = y) (k : V X pc lv (.int y :: st) σ) : V X pc lv (.int x :: st) σ := e ▸ k
theorem V.lvs (e : lv = lv') (k : V X pc lv' st σ) : V X pc lv st σ := e ▸ k
end BASE
noncomputable def bI (p : Prop) : Int32 := @ite _ p (Classical.propDecidable p) 1 0
theorem bI_0 {p : Prop} (h : bI p = 0) : ¬ p := fun q => by simp [bI, q] at h
theorem bI_n {p : Prop} (h : ¬ bI p = 0) : p := by
  by_cases q : p
  · exact q
  · simp [bI, q] at h
theorem bI_t {p : Prop} (h : p) : (1 : Int32) = bI p := by simp [bI, h]
theorem bI_f {p : Prop} (h : ¬ p) : (0 : Int32) = bI p := by simp [bI, h]
theorem bI_nar {p : Prop} : narrow .boolean (.int (bI p)) = .int (bI p) := by
  by_cases q : p
  · simp only [bI, if_pos q]; rfl
  · simp only [bI, if_neg q]; rfl
def fI (v : Int32) (σ' : St) : Option Value → St → Prop := fun r τ => r = some (.int v) ∧ τ = σ'
def fV (σ' : St) : Option Value → St → Prop := fun r τ => r = none ∧ τ = σ'
def fR (k : Nat) (σ' : St) : Option Value → St → Prop := fun r τ => r = some (.ref k) ∧ τ = σ'
def rI (post : Int32 → St → Prop) : Option Value → St → Prop := fun r τ => ∃ v, r = some (.int v) ∧ post v τ
def rV (post : St → Prop) : Option Value → St → Prop := fun r τ => r = none ∧ post τ
theorem fI_of {v w : Int32} {σ τ : St} (h : v = w) (e : σ = τ) : fI w τ (some (.int v)) σ := ⟨by rw [h], e⟩
theorem fV_of {σ τ : St} (e : σ = τ) : fV τ none σ := ⟨rfl, e⟩
section BASE2
variable {X : CxT} {pc : Nat} {lv lv' : List (Nat × Value)} {st rest : List Value} {σ σ' : St}
theorem kI {v : Int32} (k : V X pc lv (.int v :: rest) σ') : ∀ r τ, fI v σ' r τ → V X pc lv (r.toList ++ rest) τ := by
  rintro r τ ⟨rfl, rfl⟩; exact k
theorem kV (k : V X pc lv rest σ') : ∀ r τ, fV σ' r τ → V X pc lv (r.toList ++ rest) τ := by
  rintro r τ ⟨rfl, rfl⟩; exact k
theorem kR {j : Nat} (k : V X pc lv (.ref j :: rest) σ') : ∀ r τ, fR j σ' r τ → V X pc lv (r.toList ++ rest) τ := by
  rintro r τ ⟨rfl, rfl⟩; exact k
theorem krI {post : Int32 → St → Prop} (k : ∀ v τ, post v τ → V X pc lv (.int v :: rest) τ) : ∀ r τ, rI post r τ → V X pc lv (r.toList ++ rest) τ := by
  rintro r τ ⟨v, rfl, h⟩; exact k v τ h
theorem krV {post : St → Prop} (k : ∀ τ, post τ → V X pc lv rest τ) : ∀ r τ, rV post r τ → V X pc lv (r.toList ++ rest) τ := by
  rintro r τ ⟨rfl, h⟩; exact k τ h
end BASE2
theorem nI_inc (i : Nat) : nI i + Int32.ofInt 1 = nI (i + 1) := nI_1 i
theorem nI_lit (n : Nat) : (OfNat.ofNat n : Int32) = nI n := rfl
/-- a sum, and what a loop gathers -/
def sumN (f : Nat → Int32) : Nat → Int32
  | 0 => 0
  | i + 1 => sumN f i + f i
theorem sumN_congr {f g : Nat → Int32} {n : Nat} (h : ∀ i, i < n → f i = g i) : sumN f n = sumN g n := by
  induction n with
  | zero => rfl
  | succ n ih => simp only [sumN, ih (fun i hi => h i (by omega)), h n (by omega)]
theorem s2_get (σ : St) (k j : Nat) (v : Int32) (a b : Nat) : s2 σ k j v a b = if a = k ∧ b = j then v else σ a b := by
  unfold s2
  by_cases h : a = k
  · subst h; by_cases g : b = j <;> simp [upd, g]
  · simp [h]
theorem nI_lt_iff {a b : Nat} (ha : a < 2 ^ 31) (hb : b < 2 ^ 31) : nI a < nI b ↔ a < b := nI_ltI ha hb
end
section
/-! the check's class: small ones -/
def bnd (v a b : Int32) : Int32 := if v < a then -4 else if b < v then -6 else 0
def isInP (v a b : Int32) : Prop := ¬ v < a ∧ ¬ b < v
def roomP (r : Int32) : Prop := ¬ r < 0 ∧ r < 6
def placeP (r : Int32) : Prop := roomP r ∨ r = 9
def floorP (f : Int32) : Prop := f = 1 ∨ f = 2
def pieceP (p n : Int32) : Prop := ¬ p < 0 ∧ p < n
def hasP (s k : Int32) : Prop := s >>> (k &&& 31) &&& 1 = 1
theorem kX6_isIn (v a b : Int32) (σ : St) : Ct yX6_isIn cX6_isIn 3 (some .boolean) 0 [.int v, .int a, .int b] σ (fI (bI (isInP v a b)) σ) := by
  refine ct_of plX6 rfl (Nat.le_of_ble_eq_true rfl) (fun X hX C => ?_)
  show V X 0 [(0, .int v), (1, .int a), (2, .int b)] [] σ
  refine v_iload_n C dX6_isIn_0 rfl rfl rfl ?_
  refine v_iload_n C dX6_isIn_1 rfl rfl rfl ?_
  refine v_icmp_lt (tgt := 14) C dX6_isIn_2 (by decide) rfl (fun c2 => ?_) (fun c2 => ?_)
  · skip
    refine v_iconst (v := 0) C dX6_isIn_14 (by decide) rfl ?_
    exact v_zret C rfl dX6_isIn_15 (by rw [hX]; exact fI_of (by first | exact bI_t (by simp [isInP, c2]; done) | exact bI_f (by simp [isInP, c2]; done)) rfl)
  · skip
    refine v_iload_n C dX6_isIn_5 rfl rfl rfl ?_
    refine v_iload_n C dX6_isIn_6 rfl rfl rfl ?_
    refine v_icmp_gt (tgt := 14) C dX6_isIn_7 (by decide) rfl (fun c7 => ?_) (fun c7 => ?_)
    · skip
      refine v_iconst (v := 0) C dX6_isIn_14 (by decide) rfl ?_
      exact v_zret C rfl dX6_isIn_15 (by rw [hX]; exact fI_of (by first | exact bI_t (by simp [isInP, c2, c7]; done) | exact bI_f (by simp [isInP, c2, c7]; done)) rfl)
    · skip
      refine v_iconst (v := 1) C dX6_isIn_10 (by decide) rfl ?_
      refine v_goto (tgt := 15) C dX6_isIn_11 (by decide) ?_
      exact v_zret C rfl dX6_isIn_15 (by rw [hX]; exact fI_of (by first | exact bI_t (by simp [isInP, c2, c7]; done) | exact bI_f (by simp [isInP, c2, c7]; done)) rfl)
theorem kX6_bound (v a b : Int32) (σ : St) : Ct yX6_bound cX6_bound 3 (some .int) 0 [.int v, .int a, .int b] σ (fI (bnd v a b) σ) := by
  refine ct_of plX6 rfl (Nat.le_of_ble_eq_true rfl) (fun X hX C => ?_)
  show V X 0 [(0, .int v), (1, .int a), (2, .int b)] [] σ
  refine v_iload_n C dX6_bound_0 rfl rfl rfl ?_
  refine v_iload_n C dX6_bound_1 rfl rfl rfl ?_
  refine v_icmp_ge (tgt := 10) C dX6_bound_2 (by decide) rfl (fun c2 => ?_) (fun c2 => ?_)
  · skip
    refine v_iload_n C dX6_bound_10 rfl rfl rfl ?_
    refine v_iload_n C dX6_bound_11 rfl rfl rfl ?_
    refine v_icmp_le (tgt := 20) C dX6_bound_12 (by decide) rfl (fun c12 => ?_) (fun c12 => ?_)
    · skip
      refine v_iconst (v := 0) C dX6_bound_20 (by decide) rfl ?_
      exact v_iret C dX6_bound_21 (by rw [hX]; exact fI_of (by first | rfl | (simp [bnd, c2, c12]; done)) rfl)
    · skip
      refine v_bipush (v := -6) C dX6_bound_15 (by decide) rfl ?_
      refine v_goto (tgt := 21) C dX6_bound_17 (by decide) ?_
      exact v_iret C dX6_bound_21 (by rw [hX]; exact fI_of (by first | rfl | (simp [bnd, c2, c12]; done)) rfl)
  · skip
    refine v_bipush (v := -4) C dX6_bound_5 (by decide) rfl ?_
    refine v_goto (tgt := 21) C dX6_bound_7 (by decide) ?_
    exact v_iret C dX6_bound_21 (by rw [hX]; exact fI_of (by first | rfl | (simp [bnd, c2]; done)) rfl)
theorem kX6_has (v a : Int32) (σ : St) : Ct yX6_has cX6_has 2 (some .boolean) 0 [.int v, .int a] σ (fI (bI (hasP v a)) σ) := by
  refine ct_of plX6 rfl (Nat.le_of_ble_eq_true rfl) (fun X hX C => ?_)
  show V X 0 [(0, .int v), (1, .int a)] [] σ
  refine v_iload_n C dX6_has_0 rfl rfl rfl ?_
  refine v_iload_n C dX6_has_1 rfl rfl rfl ?_
  refine v_ishr C dX6_has_2 rfl ?_
  refine v_iconst (v := 1) C dX6_has_3 (by decide) rfl ?_
  refine v_iand C dX6_has_4 rfl ?_
  refine v_iconst (v := 1) C dX6_has_5 (by decide) rfl ?_
  refine v_icmp_ne (tgt := 13) C dX6_has_6 (by decide) rfl (fun c6 => ?_) (fun c6 => ?_)
  · skip
    refine v_iconst (v := 0) C dX6_has_13 (by decide) rfl ?_
    exact v_zret C rfl dX6_has_14 (by rw [hX]; exact fI_of (by first | exact bI_t (by simp [hasP, c6]; done) | exact bI_f (by simp [hasP, c6]; done)) rfl)
  · skip
    refine v_iconst (v := 1) C dX6_has_9 (by decide) rfl ?_
    refine v_goto (tgt := 14) C dX6_has_10 (by decide) ?_
    exact v_zret C rfl dX6_has_14 (by rw [hX]; exact fI_of (by first | exact bI_t (by simp [hasP, c6]; done) | exact bI_f (by simp [hasP, c6]; done)) rfl)
theorem kX6_isRoom (v : Int32) (σ : St) : Ct yX6_isRoom cX6_isRoom 1 (some .boolean) 0 [.int v] σ (fI (bI (roomP v)) σ) := by
  refine ct_of plX6 rfl (Nat.le_of_ble_eq_true rfl) (fun X hX C => ?_)
  show V X 0 [(0, .int v)] [] σ
  refine v_iload_n C dX6_isRoom_0 rfl rfl rfl ?_
  refine v_if_lt (tgt := 14) C dX6_isRoom_1 (by decide) rfl (fun c1 => ?_) (fun c1 => ?_)
  · skip
    refine v_iconst (v := 0) C dX6_isRoom_14 (by decide) rfl ?_
    exact v_zret C rfl dX6_isRoom_15 (by rw [hX]; exact fI_of (by first | exact bI_t (by simp [roomP, c1]; done) | exact bI_f (by simp [roomP, c1]; done)) rfl)
  · skip
    refine v_iload_n C dX6_isRoom_4 rfl rfl rfl ?_
    refine v_bipush (v := 6) C dX6_isRoom_5 (by decide) rfl ?_
    refine v_icmp_ge (tgt := 14) C dX6_isRoom_7 (by decide) rfl (fun c7 => ?_) (fun c7 => ?_)
    · skip
      refine v_iconst (v := 0) C dX6_isRoom_14 (by decide) rfl ?_
      exact v_zret C rfl dX6_isRoom_15 (by rw [hX]; exact fI_of (by first | exact bI_t (by simp [roomP, c1, c7]; done) | exact bI_f (by simp [roomP, c1, c7]; done)) rfl)
    · skip
      refine v_iconst (v := 1) C dX6_isRoom_10 (by decide) rfl ?_
      refine v_goto (tgt := 15) C dX6_isRoom_11 (by decide) ?_
      exact v_zret C rfl dX6_isRoom_15 (by rw [hX]; exact fI_of (by first | exact bI_t (by simp [roomP, c1, c7]; done) | exact bI_f (by simp [roomP, c1, c7]; done)) rfl)
theorem kX6_isPlace (v : Int32) (σ : St) : Ct yX6_isPlace cX6_isPlace 1 (some .boolean) 1 [.int v] σ (fI (bI (placeP v)) σ) := by
  refine ct_of plX6 rfl (Nat.le_of_ble_eq_true rfl) (fun X hX C => ?_)
  show V X 0 [(0, .int v)] [] σ
  refine v_iload_n C dX6_isPlace_0 rfl rfl rfl ?_
  refine v_callS C (As := [.int v]) (rest := []) (kX6_isRoom v σ) rfl (Nat.le_of_ble_eq_true rfl) (Nat.le_of_ble_eq_true rfl) ⟨mlX6_68, mfX6_isRoom⟩ dkX6_isRoom (Nat.le_of_ble_eq_true rfl) dX6_isPlace_1 rfl (kI ?_)
  refine v_if_ne (tgt := 13) C dX6_isPlace_4 (by decide) rfl (fun c4 => ?_) (fun c4 => ?_)
  · skip
    have c4 := bI_n c4
    refine v_iconst (v := 1) C dX6_isPlace_13 (by decide) rfl ?_
    refine v_goto (tgt := 18) C dX6_isPlace_14 (by decide) ?_
    exact v_zret C rfl dX6_isPlace_18 (by rw [hX]; exact fI_of (by first | exact bI_t (by simp [placeP, c4]; done) | exact bI_f (by simp [placeP, c4]; done)) rfl)
  · skip
    have c4 := bI_0 c4
    refine v_iload_n C dX6_isPlace_7 rfl rfl rfl ?_
    refine v_bipush (v := 9) C dX6_isPlace_8 (by decide) rfl ?_
    refine v_icmp_ne (tgt := 17) C dX6_isPlace_10 (by decide) rfl (fun c10 => ?_) (fun c10 => ?_)
    · skip
      refine v_iconst (v := 0) C dX6_isPlace_17 (by decide) rfl ?_
      exact v_zret C rfl dX6_isPlace_18 (by rw [hX]; exact fI_of (by first | exact bI_t (by simp [placeP, c4, c10]; done) | exact bI_f (by simp [placeP, c4, c10]; done)) rfl)
    · skip
      refine v_iconst (v := 1) C dX6_isPlace_13 (by decide) rfl ?_
      refine v_goto (tgt := 18) C dX6_isPlace_14 (by decide) ?_
      exact v_zret C rfl dX6_isPlace_18 (by rw [hX]; exact fI_of (by first | exact bI_t (by simp [placeP, c4, c10]; done) | exact bI_f (by simp [placeP, c4, c10]; done)) rfl)
theorem kX6_isFloor (v : Int32) (σ : St) : Ct yX6_isFloor cX6_isFloor 1 (some .boolean) 0 [.int v] σ (fI (bI (floorP v)) σ) := by
  refine ct_of plX6 rfl (Nat.le_of_ble_eq_true rfl) (fun X hX C => ?_)
  show V X 0 [(0, .int v)] [] σ
  refine v_iload_n C dX6_isFloor_0 rfl rfl rfl ?_
  refine v_iconst (v := 1) C dX6_isFloor_1 (by decide) rfl ?_
  refine v_icmp_eq (tgt := 10) C dX6_isFloor_2 (by decide) rfl (fun c2 => ?_) (fun c2 => ?_)
  · skip
    refine v_iconst (v := 1) C dX6_isFloor_10 (by decide) rfl ?_
    refine v_goto (tgt := 15) C dX6_isFloor_11 (by decide) ?_
    exact v_zret C rfl dX6_isFloor_15 (by rw [hX]; exact fI_of (by first | exact bI_t (by simp [floorP, c2]; done) | exact bI_f (by simp [floorP, c2]; done)) rfl)
  · skip
    refine v_iload_n C dX6_isFloor_5 rfl rfl rfl ?_
    refine v_iconst (v := 2) C dX6_isFloor_6 (by decide) rfl ?_
    refine v_icmp_ne (tgt := 14) C dX6_isFloor_7 (by decide) rfl (fun c7 => ?_) (fun c7 => ?_)
    · skip
      refine v_iconst (v := 0) C dX6_isFloor_14 (by decide) rfl ?_
      exact v_zret C rfl dX6_isFloor_15 (by rw [hX]; exact fI_of (by first | exact bI_t (by simp [floorP, c2, c7]; done) | exact bI_f (by simp [floorP, c2, c7]; done)) rfl)
    · skip
      refine v_iconst (v := 1) C dX6_isFloor_10 (by decide) rfl ?_
      refine v_goto (tgt := 15) C dX6_isFloor_11 (by decide) ?_
      exact v_zret C rfl dX6_isFloor_15 (by rw [hX]; exact fI_of (by first | exact bI_t (by simp [floorP, c2, c7]; done) | exact bI_f (by simp [floorP, c2, c7]; done)) rfl)
theorem kX6_isPiece (v : Int32) (σ : St) : Ct yX6_isPiece cX6_isPiece 2 (some .boolean) 0 [.ref 0, .int v] σ (fI (bI (pieceP v (σ 0 8))) σ) := by
  refine ct_of plX6 rfl (Nat.le_of_ble_eq_true rfl) (fun X hX C => ?_)
  show V X 0 [(0, .ref 0), (1, .int v)] [] σ
  refine v_iload_n C dX6_isPiece_0 rfl rfl rfl ?_
  refine v_if_lt (tgt := 16) C dX6_isPiece_1 (by decide) rfl (fun c1 => ?_) (fun c1 => ?_)
  · skip
    refine v_iconst (v := 0) C dX6_isPiece_16 (by decide) rfl ?_
    exact v_zret C rfl dX6_isPiece_17 (by rw [hX]; exact fI_of (by first | exact bI_t (by simp [pieceP, c1]; done) | exact bI_f (by simp [pieceP, c1]; done)) rfl)
  · skip
    refine v_iload_n C dX6_isPiece_4 rfl rfl rfl ?_
    refine v_aload_n C dX6_isPiece_5 rfl rfl rfl ?_
    refine v_getI C (Nat.le_of_ble_eq_true rfl) rfl rfl hinX6 8 (Nat.le_of_ble_eq_true rfl) lkX6_65 rfl dX6_isPiece_6 rfl ?_
    refine v_icmp_ge (tgt := 16) C dX6_isPiece_9 (by decide) rfl (fun c9 => ?_) (fun c9 => ?_)
    · skip
      refine v_iconst (v := 0) C dX6_isPiece_16 (by decide) rfl ?_
      exact v_zret C rfl dX6_isPiece_17 (by rw [hX]; exact fI_of (by first | exact bI_t (by simp [pieceP, c1, c9]; done) | exact bI_f (by simp [pieceP, c1, c9]; done)) rfl)
    · skip
      refine v_iconst (v := 1) C dX6_isPiece_12 (by decide) rfl ?_
      refine v_goto (tgt := 17) C dX6_isPiece_13 (by decide) ?_
      exact v_zret C rfl dX6_isPiece_17 (by rw [hX]; exact fI_of (by first | exact bI_t (by simp [pieceP, c1, c9]; done) | exact bI_f (by simp [pieceP, c1, c9]; done)) rfl)
theorem kX6_notShare (v : Int32) (σ : St) : Ct yX6_notShare cX6_notShare 2 (some .int) 0 [.ref 0, .int v] σ (fI (if v < -1 then -4 else if v < σ 0 8 then 0 else -1) σ) := by
  refine ct_of plX6 rfl (Nat.le_of_ble_eq_true rfl) (fun X hX C => ?_)
  show V X 0 [(0, .ref 0), (1, .int v)] [] σ
  refine v_iload_n C dX6_notShare_0 rfl rfl rfl ?_
  refine v_iconst (v := -1) C dX6_notShare_1 (by decide) rfl ?_
  refine v_icmp_ge (tgt := 10) C dX6_notShare_2 (by decide) rfl (fun c2 => ?_) (fun c2 => ?_)
  · skip
    refine v_iload_n C dX6_notShare_10 rfl rfl rfl ?_
    refine v_aload_n C dX6_notShare_11 rfl rfl rfl ?_
    refine v_getI C (Nat.le_of_ble_eq_true rfl) rfl rfl hinX6 8 (Nat.le_of_ble_eq_true rfl) lkX6_65 rfl dX6_notShare_12 rfl ?_
    refine v_icmp_lt (tgt := 22) C dX6_notShare_15 (by decide) rfl (fun c15 => ?_) (fun c15 => ?_)
    · skip
      refine v_iconst (v := 0) C dX6_notShare_22 (by decide) rfl ?_
      exact v_iret C dX6_notShare_23 (by rw [hX]; exact fI_of (by first | rfl | (simp [c2, c15]; done)) rfl)
    · skip
      refine v_iconst (v := -1) C dX6_notShare_18 (by decide) rfl ?_
      refine v_goto (tgt := 23) C dX6_notShare_19 (by decide) ?_
      exact v_iret C dX6_notShare_23 (by rw [hX]; exact fI_of (by first | rfl | (simp [c2, c15]; done)) rfl)
  · skip
    refine v_bipush (v := -4) C dX6_notShare_5 (by decide) rfl ?_
    refine v_goto (tgt := 23) C dX6_notShare_7 (by decide) ?_
    exact v_iret C dX6_notShare_23 (by rw [hX]; exact fI_of (by first | rfl | (simp [c2]; done)) rfl)
end
section
/-! the check's class: blame, bulk, width -/
def suiG (kd pl : Nat → Int32) (p q : Nat) : Int32 := if ¬ q = p ∧ ¬ pl p = 9 ∧ pl q = pl p ∧ (kd q = 1 ∨ kd q = 4) then 2 else 0
def suiF (kd ft pl : Nat → Int32) (n p : Nat) : Int32 := ft p + sumN (suiG kd pl p) n
def venF (ft : Nat → Int32) (n p : Nat) : Int32 := ft p / 2 + (if n = 1 then 0 else ft ((p + 1) % n))
def blaF (kd ft ag pl : Nat → Int32) (n p : Nat) : Int32 :=
  if kd p = 1 then suiF kd ft pl n p else if kd p = 2 then venF ft n p else if kd p = 3 then ft p + ag p / 10 else if kd p = 4 then suiF kd ft pl n p + ft p else if kd p = 5 then venF ft n p / 2 else ft p
def widF (kd bk : Nat → Int32) (p : Nat) : Int32 := if kd p = 4 then 10 else if kd p = 2 then bk p - 1 else if kd p = 3 then bk p / 2 else bk p
def binG (kd ft ag pl : Nat → Int32) (n : Nat) (r : Int32) (p : Nat) : Int32 := if r = 10 ∨ pl p = r then blaF kd ft ag pl n p else 0
def binF (kd ft ag pl : Nat → Int32) (n : Nat) (r : Int32) : Int32 := sumN (binG kd ft ag pl n r) n
def bulG (bk pl : Nat → Int32) (r : Int32) (p : Nat) : Int32 := if pl p = r then bk p else 0
def bulF (bk pl : Nat → Int32) (n : Nat) (r : Int32) : Int32 := sumN (bulG bk pl r) n
theorem kX6_suiteOf (n p : Nat) (σ : St) (hn : σ 0 8 = nI n) (h7 : n ≤ 7) (hp : p < n) : Ct yX6_suiteOf cX6_suiteOf 4 (some .int) 0 [.ref 0, .int (nI p)] σ (fI (suiF (σ 4) (σ 6) (σ 8) n p) σ) := by
  refine ct_of plX6 rfl (Nat.le_of_ble_eq_true rfl) (fun X hX C => ?_)
  show V X 0 [(0, .ref 0), (1, .int (nI p))] [] σ
  refine v_aload_n C dX6_suiteOf_0 rfl rfl rfl ?_
  refine v_getR C (Nat.le_of_ble_eq_true rfl) rfl rfl hinX6 5 (Nat.le_of_ble_eq_true rfl) lkX6_25 rfl dX6_suiteOf_1 rfl ?_
  refine v_iload_n C dX6_suiteOf_4 rfl rfl rfl ?_
  refine v_iald (i := p) C (Nat.le_of_ble_eq_true rfl) rfl rfl (by omega) (by decide) dX6_suiteOf_5 rfl ?_
  refine V.top (fun v6_1 ev6_1 => ?_)
  refine v_istore_n (lv' := [(2, .int v6_1), (0, .ref 0), (1, .int (nI p))]) C dX6_suiteOf_6 rfl (Nat.le_of_ble_eq_true rfl) rfl rfl ?_
  refine v_iconst (v := 0) C dX6_suiteOf_7 (by decide) rfl ?_
  refine v_istore_n (lv' := [(3, .int 0), (2, .int v6_1), (0, .ref 0), (1, .int (nI p))]) C dX6_suiteOf_8 rfl (Nat.le_of_ble_eq_true rfl) rfl rfl ?_
  have lp9 : ∀ (k i : Nat) (x2 : Int32) , n < i + k → i ≤ n → x2 = σ 6 p + sumN (suiG (σ 4) (σ 8) p) i → V X 9 [(3, .int (nI i)), (2, .int x2), (0, .ref 0), (1, .int (nI p))] [] σ := by
    intro k
    induction k with
    | zero => intro i x2 h1 h2; omega
    | succ k ih =>
      intro i x2 h1 h2 ex2
      refine v_iload_n C dX6_suiteOf_9 rfl rfl rfl ?_
      refine v_aload_n C dX6_suiteOf_10 rfl rfl rfl ?_
      refine v_getI C (Nat.le_of_ble_eq_true rfl) rfl rfl hinX6 8 (Nat.le_of_ble_eq_true rfl) lkX6_65 rfl dX6_suiteOf_11 rfl ?_
      refine V.tp hn ?_
      refine v_icmp_ge (tgt := 82) C dX6_suiteOf_14 (by decide) rfl (fun c14 => ?_) (fun c14 => ?_)
      · skip
        have c14 := mt (nI_ltI (a := i) (b := n) (by omega) (by omega)).mpr c14
        refine v_iload_n C dX6_suiteOf_82 rfl rfl rfl ?_
        exact v_iret C dX6_suiteOf_83 (by rw [hX]; exact fI_of (by rw [ex2, suiF, show i = n by omega]) rfl)
      · skip
        have c14 := (nI_ltI (a := i) (b := n) (by omega) (by omega)).mp c14
        refine v_iload_n C dX6_suiteOf_17 rfl rfl rfl ?_
        refine v_iload_n C dX6_suiteOf_18 rfl rfl rfl ?_
        refine v_iload_n C dX6_suiteOf_19 rfl rfl rfl ?_
        refine v_icmp_eq (tgt := 73) C dX6_suiteOf_20 (by decide) rfl (fun c20 => ?_) (fun c20 => ?_)
        · skip
          have c20 := (nI_eq (a := i) (b := p) (by omega) (by omega)).mp c20
          refine v_iconst (v := 0) C dX6_suiteOf_73 (by decide) rfl ?_
          refine v_iadd C dX6_suiteOf_74 rfl ?_
          refine V.top (fun v75_2 ev75_2 => ?_)
          refine v_istore_n (lv' := [(2, .int v75_2), (3, .int (nI i)), (0, .ref 0), (1, .int (nI p))]) C dX6_suiteOf_75 rfl (Nat.le_of_ble_eq_true rfl) rfl rfl ?_
          refine v_iinc (lv' := [(3, .int (nI (i + 1))), (2, .int v75_2), (0, .ref 0), (1, .int (nI p))]) C dX6_suiteOf_76 rfl (nI_inc i) (Nat.le_of_ble_eq_true rfl) rfl rfl ?_
          refine v_goto (tgt := 9) C dX6_suiteOf_79 (by decide) ?_
          exact V.sub [0, 1, 2, 3] rfl (ih (i + 1) _ (by omega) (by omega) (by rw [ev75_2, ex2]; simp [sumN, suiG, Int32.add_assoc, c14, c20]))
        · skip
          have c20 := mt (nI_eq (a := i) (b := p) (by omega) (by omega)).mpr c20
          refine v_aload_n C dX6_suiteOf_23 rfl rfl rfl ?_
          refine v_getR C (Nat.le_of_ble_eq_true rfl) rfl rfl hinX6 7 (Nat.le_of_ble_eq_true rfl) lkX6_31 rfl dX6_suiteOf_24 rfl ?_
          refine v_iload_n C dX6_suiteOf_27 rfl rfl rfl ?_
          refine v_iald (i := p) C (Nat.le_of_ble_eq_true rfl) rfl rfl (by omega) (by decide) dX6_suiteOf_28 rfl ?_
          refine v_bipush (v := 9) C dX6_suiteOf_29 (by decide) rfl ?_
          refine v_icmp_eq (tgt := 73) C dX6_suiteOf_31 (by decide) rfl (fun c31 => ?_) (fun c31 => ?_)
          · skip
            refine v_iconst (v := 0) C dX6_suiteOf_73 (by decide) rfl ?_
            refine v_iadd C dX6_suiteOf_74 rfl ?_
            refine V.top (fun v75_3 ev75_3 => ?_)
            refine v_istore_n (lv' := [(2, .int v75_3), (3, .int (nI i)), (0, .ref 0), (1, .int (nI p))]) C dX6_suiteOf_75 rfl (Nat.le_of_ble_eq_true rfl) rfl rfl ?_
            refine v_iinc (lv' := [(3, .int (nI (i + 1))), (2, .int v75_3), (0, .ref 0), (1, .int (nI p))]) C dX6_suiteOf_76 rfl (nI_inc i) (Nat.le_of_ble_eq_true rfl) rfl rfl ?_
            refine v_goto (tgt := 9) C dX6_suiteOf_79 (by decide) ?_
            exact V.sub [0, 1, 2, 3] rfl (ih (i + 1) _ (by omega) (by omega) (by rw [ev75_3, ex2]; simp [sumN, suiG, Int32.add_assoc, c14, c20, c31]))
          · skip
            refine v_aload_n C dX6_suiteOf_34 rfl rfl rfl ?_
            refine v_getR C (Nat.le_of_ble_eq_true rfl) rfl rfl hinX6 7 (Nat.le_of_ble_eq_true rfl) lkX6_31 rfl dX6_suiteOf_35 rfl ?_
            refine v_iload_n C dX6_suiteOf_38 rfl rfl rfl ?_
            refine v_iald (i := i) C (Nat.le_of_ble_eq_true rfl) rfl rfl (by omega) (by decide) dX6_suiteOf_39 rfl ?_
            refine v_aload_n C dX6_suiteOf_40 rfl rfl rfl ?_
            refine v_getR C (Nat.le_of_ble_eq_true rfl) rfl rfl hinX6 7 (Nat.le_of_ble_eq_true rfl) lkX6_31 rfl dX6_suiteOf_41 rfl ?_
            refine v_iload_n C dX6_suiteOf_44 rfl rfl rfl ?_
            refine v_iald (i := p) C (Nat.le_of_ble_eq_true rfl) rfl rfl (by omega) (by decide) dX6_suiteOf_45 rfl ?_
            refine v_icmp_ne (tgt := 73) C dX6_suiteOf_46 (by decide) rfl (fun c46 => ?_) (fun c46 => ?_)
            · skip
              refine v_iconst (v := 0) C dX6_suiteOf_73 (by decide) rfl ?_
              refine v_iadd C dX6_suiteOf_74 rfl ?_
              refine V.top (fun v75_4 ev75_4 => ?_)
              refine v_istore_n (lv' := [(2, .int v75_4), (3, .int (nI i)), (0, .ref 0), (1, .int (nI p))]) C dX6_suiteOf_75 rfl (Nat.le_of_ble_eq_true rfl) rfl rfl ?_
              refine v_iinc (lv' := [(3, .int (nI (i + 1))), (2, .int v75_4), (0, .ref 0), (1, .int (nI p))]) C dX6_suiteOf_76 rfl (nI_inc i) (Nat.le_of_ble_eq_true rfl) rfl rfl ?_
              refine v_goto (tgt := 9) C dX6_suiteOf_79 (by decide) ?_
              exact V.sub [0, 1, 2, 3] rfl (ih (i + 1) _ (by omega) (by omega) (by rw [ev75_4, ex2]; simp [sumN, suiG, Int32.add_assoc, c14, c20, c31, c46]))
            · skip
              refine v_aload_n C dX6_suiteOf_49 rfl rfl rfl ?_
              refine v_getR C (Nat.le_of_ble_eq_true rfl) rfl rfl hinX6 3 (Nat.le_of_ble_eq_true rfl) lkX6_19 rfl dX6_suiteOf_50 rfl ?_
              refine v_iload_n C dX6_suiteOf_53 rfl rfl rfl ?_
              refine v_iald (i := i) C (Nat.le_of_ble_eq_true rfl) rfl rfl (by omega) (by decide) dX6_suiteOf_54 rfl ?_
              refine v_iconst (v := 1) C dX6_suiteOf_55 (by decide) rfl ?_
              refine v_icmp_eq (tgt := 69) C dX6_suiteOf_56 (by decide) rfl (fun c56 => ?_) (fun c56 => ?_)
              · skip
                refine v_iconst (v := 2) C dX6_suiteOf_69 (by decide) rfl ?_
                refine v_goto (tgt := 74) C dX6_suiteOf_70 (by decide) ?_
                refine v_iadd C dX6_suiteOf_74 rfl ?_
                refine V.top (fun v75_5 ev75_5 => ?_)
                refine v_istore_n (lv' := [(2, .int v75_5), (3, .int (nI i)), (0, .ref 0), (1, .int (nI p))]) C dX6_suiteOf_75 rfl (Nat.le_of_ble_eq_true rfl) rfl rfl ?_
                refine v_iinc (lv' := [(3, .int (nI (i + 1))), (2, .int v75_5), (0, .ref 0), (1, .int (nI p))]) C dX6_suiteOf_76 rfl (nI_inc i) (Nat.le_of_ble_eq_true rfl) rfl rfl ?_
                refine v_goto (tgt := 9) C dX6_suiteOf_79 (by decide) ?_
                exact V.sub [0, 1, 2, 3] rfl (ih (i + 1) _ (by omega) (by omega) (by rw [ev75_5, ex2]; simp [sumN, suiG, Int32.add_assoc, c14, c20, c31, c46, c56]))
              · skip
                refine v_aload_n C dX6_suiteOf_59 rfl rfl rfl ?_
                refine v_getR C (Nat.le_of_ble_eq_true rfl) rfl rfl hinX6 3 (Nat.le_of_ble_eq_true rfl) lkX6_19 rfl dX6_suiteOf_60 rfl ?_
                refine v_iload_n C dX6_suiteOf_63 rfl rfl rfl ?_
                refine v_iald (i := i) C (Nat.le_of_ble_eq_true rfl) rfl rfl (by omega) (by decide) dX6_suiteOf_64 rfl ?_
                refine v_iconst (v := 4) C dX6_suiteOf_65 (by decide) rfl ?_
                refine v_icmp_ne (tgt := 73) C dX6_suiteOf_66 (by decide) rfl (fun c66 => ?_) (fun c66 => ?_)
                · skip
                  refine v_iconst (v := 0) C dX6_suiteOf_73 (by decide) rfl ?_
                  refine v_iadd C dX6_suiteOf_74 rfl ?_
                  refine V.top (fun v75_6 ev75_6 => ?_)
                  refine v_istore_n (lv' := [(2, .int v75_6), (3, .int (nI i)), (0, .ref 0), (1, .int (nI p))]) C dX6_suiteOf_75 rfl (Nat.le_of_ble_eq_true rfl) rfl rfl ?_
                  refine v_iinc (lv' := [(3, .int (nI (i + 1))), (2, .int v75_6), (0, .ref 0), (1, .int (nI p))]) C dX6_suiteOf_76 rfl (nI_inc i) (Nat.le_of_ble_eq_true rfl) rfl rfl ?_
                  refine v_goto (tgt := 9) C dX6_suiteOf_79 (by decide) ?_
                  exact V.sub [0, 1, 2, 3] rfl (ih (i + 1) _ (by omega) (by omega) (by rw [ev75_6, ex2]; simp [sumN, suiG, Int32.add_assoc, c14, c20, c31, c46, c56, c66]))
                · skip
                  refine v_iconst (v := 2) C dX6_suiteOf_69 (by decide) rfl ?_
                  refine v_goto (tgt := 74) C dX6_suiteOf_70 (by decide) ?_
                  refine v_iadd C dX6_suiteOf_74 rfl ?_
                  refine V.top (fun v75_7 ev75_7 => ?_)
                  refine v_istore_n (lv' := [(2, .int v75_7), (3, .int (nI i)), (0, .ref 0), (1, .int (nI p))]) C dX6_suiteOf_75 rfl (Nat.le_of_ble_eq_true rfl) rfl rfl ?_
                  refine v_iinc (lv' := [(3, .int (nI (i + 1))), (2, .int v75_7), (0, .ref 0), (1, .int (nI p))]) C dX6_suiteOf_76 rfl (nI_inc i) (Nat.le_of_ble_eq_true rfl) rfl rfl ?_
                  refine v_goto (tgt := 9) C dX6_suiteOf_79 (by decide) ?_
                  exact V.sub [0, 1, 2, 3] rfl (ih (i + 1) _ (by omega) (by omega) (by rw [ev75_7, ex2]; simp [sumN, suiG, Int32.add_assoc, c14, c20, c31, c46, c56, c66]))
  exact V.sub [0, 1, 2, 3] rfl (lp9 (n + 1) 0 v6_1 (by omega) (by omega) (by rw [ev6_1]; simp [sumN]))
theorem kX6_veneerOf (n p : Nat) (σ : St) (hn : σ 0 8 = nI n) (h7 : n ≤ 7) (hp : p < n) : Ct yX6_veneerOf cX6_veneerOf 2 (some .int) 0 [.ref 0, .int (nI p)] σ (fI (venF (σ 6) n p) σ) := by
  refine ct_of plX6 rfl (Nat.le_of_ble_eq_true rfl) (fun X hX C => ?_)
  show V X 0 [(0, .ref 0), (1, .int (nI p))] [] σ
  refine v_aload_n C dX6_veneerOf_0 rfl rfl rfl ?_
  refine v_getR C (Nat.le_of_ble_eq_true rfl) rfl rfl hinX6 5 (Nat.le_of_ble_eq_true rfl) lkX6_25 rfl dX6_veneerOf_1 rfl ?_
  refine v_iload_n C dX6_veneerOf_4 rfl rfl rfl ?_
  refine v_iald (i := p) C (Nat.le_of_ble_eq_true rfl) rfl rfl (by omega) (by decide) dX6_veneerOf_5 rfl ?_
  refine v_iconst (v := 2) C dX6_veneerOf_6 (by decide) rfl ?_
  refine v_idiv C dX6_veneerOf_7 (by decide) rfl ?_
  refine v_aload_n C dX6_veneerOf_8 rfl rfl rfl ?_
  refine v_getI C (Nat.le_of_ble_eq_true rfl) rfl rfl hinX6 8 (Nat.le_of_ble_eq_true rfl) lkX6_65 rfl dX6_veneerOf_9 rfl ?_
  refine V.tp hn ?_
  refine v_iconst (v := 1) C dX6_veneerOf_12 (by decide) rfl ?_
  refine v_icmp_ne (tgt := 20) C dX6_veneerOf_13 (by decide) rfl (fun c13 => ?_) (fun c13 => ?_)
  · skip
    have c13 := mt (nI_eq (a := n) (b := 1) (by omega) (by omega)).mpr c13
    refine v_aload_n C dX6_veneerOf_20 rfl rfl rfl ?_
    refine v_getR C (Nat.le_of_ble_eq_true rfl) rfl rfl hinX6 5 (Nat.le_of_ble_eq_true rfl) lkX6_25 rfl dX6_veneerOf_21 rfl ?_
    refine v_iload_n C dX6_veneerOf_24 rfl rfl rfl ?_
    refine v_iconst (v := 1) C dX6_veneerOf_25 (by decide) rfl ?_
    refine v_iadd C dX6_veneerOf_26 rfl ?_
    refine v_aload_n C dX6_veneerOf_27 rfl rfl rfl ?_
    refine v_getI C (Nat.le_of_ble_eq_true rfl) rfl rfl hinX6 8 (Nat.le_of_ble_eq_true rfl) lkX6_65 rfl dX6_veneerOf_28 rfl ?_
    refine V.tp hn ?_
    refine v_irem C dX6_veneerOf_31 (nI_ne0 (by omega) (by omega)) rfl ?_
    refine v_iald (i := ((p + 1) % n)) C (Nat.le_of_ble_eq_true rfl) rfl (by rw [show nI p + 1 = nI (p + 1) from nI_1 p]; exact pk_rem (by omega) (by omega) (by omega)) (by have := Nat.mod_lt (p + 1) (show 0 < n by omega); omega) (by decide) dX6_veneerOf_32 rfl ?_
    refine v_iadd C dX6_veneerOf_33 rfl ?_
    exact v_iret C dX6_veneerOf_34 (by rw [hX]; exact fI_of (by simp [venF, c13]) rfl)
  · skip
    have c13 := (nI_eq (a := n) (b := 1) (by omega) (by omega)).mp c13
    refine v_iconst (v := 0) C dX6_veneerOf_16 (by decide) rfl ?_
    refine v_goto (tgt := 33) C dX6_veneerOf_17 (by decide) ?_
    refine v_iadd C dX6_veneerOf_33 rfl ?_
    exact v_iret C dX6_veneerOf_34 (by rw [hX]; exact fI_of (by simp [venF, c13]) rfl)
theorem kX6_blameOf (n p : Nat) (σ : St) (hn : σ 0 8 = nI n) (h7 : n ≤ 7) (hp : p < n) : Ct yX6_blameOf cX6_blameOf 2 (some .int) 1 [.ref 0, .int (nI p)] σ (fI (blaF (σ 4) (σ 6) (σ 7) (σ 8) n p) σ) := by
  refine ct_of plX6 rfl (Nat.le_of_ble_eq_true rfl) (fun X hX C => ?_)
  show V X 0 [(0, .ref 0), (1, .int (nI p))] [] σ
  refine v_aload_n C dX6_blameOf_0 rfl rfl rfl ?_
  refine v_getR C (Nat.le_of_ble_eq_true rfl) rfl rfl hinX6 3 (Nat.le_of_ble_eq_true rfl) lkX6_19 rfl dX6_blameOf_1 rfl ?_
  refine v_iload_n C dX6_blameOf_4 rfl rfl rfl ?_
  refine v_iald (i := p) C (Nat.le_of_ble_eq_true rfl) rfl rfl (by omega) (by decide) dX6_blameOf_5 rfl ?_
  by_cases s6_1 : σ 4 p = 1
  · refine V.tp s6_1 ?_
    refine v_tableIn (off := 34) (tgt := 40) C dX6_blameOf_6 (by decide) (by decide) rfl (by decide) ?_
    refine v_aload_n C dX6_blameOf_40 rfl rfl rfl ?_
    refine v_iload_n C dX6_blameOf_41 rfl rfl rfl ?_
    refine v_callV C (Nat.le_of_ble_eq_true rfl) rfl rfl (As := [.int (nI p)]) (rest := []) (kX6_suiteOf n p σ hn h7 (by omega)) rfl (Nat.le_of_ble_eq_true rfl) (Nat.le_of_ble_eq_true rfl) ⟨mlX6_163, mfX6_suiteOf⟩ dkX6_suiteOf (Nat.le_of_ble_eq_true rfl) dX6_blameOf_42 rfl (kI ?_)
    exact v_iret C dX6_blameOf_45 (by rw [hX]; exact fI_of (by simp [blaF, s6_1]) rfl)
  by_cases s6_2 : σ 4 p = 2
  · refine V.tp s6_2 ?_
    refine v_tableIn (off := 40) (tgt := 46) C dX6_blameOf_6 (by decide) (by decide) rfl (by decide) ?_
    refine v_aload_n C dX6_blameOf_46 rfl rfl rfl ?_
    refine v_iload_n C dX6_blameOf_47 rfl rfl rfl ?_
    refine v_callV C (Nat.le_of_ble_eq_true rfl) rfl rfl (As := [.int (nI p)]) (rest := []) (kX6_veneerOf n p σ hn h7 (by omega)) rfl (Nat.le_of_ble_eq_true rfl) (Nat.le_of_ble_eq_true rfl) ⟨mlX6_166, mfX6_veneerOf⟩ dkX6_veneerOf (Nat.le_of_ble_eq_true rfl) dX6_blameOf_48 rfl (kI ?_)
    exact v_iret C dX6_blameOf_51 (by rw [hX]; exact fI_of (by simp [blaF, s6_1, s6_2]) rfl)
  by_cases s6_3 : σ 4 p = 3
  · refine V.tp s6_3 ?_
    refine v_tableIn (off := 46) (tgt := 52) C dX6_blameOf_6 (by decide) (by decide) rfl (by decide) ?_
    refine v_aload_n C dX6_blameOf_52 rfl rfl rfl ?_
    refine v_getR C (Nat.le_of_ble_eq_true rfl) rfl rfl hinX6 5 (Nat.le_of_ble_eq_true rfl) lkX6_25 rfl dX6_blameOf_53 rfl ?_
    refine v_iload_n C dX6_blameOf_56 rfl rfl rfl ?_
    refine v_iald (i := p) C (Nat.le_of_ble_eq_true rfl) rfl rfl (by omega) (by decide) dX6_blameOf_57 rfl ?_
    refine v_aload_n C dX6_blameOf_58 rfl rfl rfl ?_
    refine v_getR C (Nat.le_of_ble_eq_true rfl) rfl rfl hinX6 6 (Nat.le_of_ble_eq_true rfl) lkX6_28 rfl dX6_blameOf_59 rfl ?_
    refine v_iload_n C dX6_blameOf_62 rfl rfl rfl ?_
    refine v_iald (i := p) C (Nat.le_of_ble_eq_true rfl) rfl rfl (by omega) (by decide) dX6_blameOf_63 rfl ?_
    refine v_bipush (v := 10) C dX6_blameOf_64 (by decide) rfl ?_
    refine v_idiv C dX6_blameOf_66 (by decide) rfl ?_
    refine v_iadd C dX6_blameOf_67 rfl ?_
    exact v_iret C dX6_blameOf_68 (by rw [hX]; exact fI_of (by simp [blaF, s6_1, s6_2, s6_3]) rfl)
  by_cases s6_4 : σ 4 p = 4
  · refine V.tp s6_4 ?_
    refine v_tableIn (off := 63) (tgt := 69) C dX6_blameOf_6 (by decide) (by decide) rfl (by decide) ?_
    refine v_aload_n C dX6_blameOf_69 rfl rfl rfl ?_
    refine v_iload_n C dX6_blameOf_70 rfl rfl rfl ?_
    refine v_callV C (Nat.le_of_ble_eq_true rfl) rfl rfl (As := [.int (nI p)]) (rest := []) (kX6_suiteOf n p σ hn h7 (by omega)) rfl (Nat.le_of_ble_eq_true rfl) (Nat.le_of_ble_eq_true rfl) ⟨mlX6_163, mfX6_suiteOf⟩ dkX6_suiteOf (Nat.le_of_ble_eq_true rfl) dX6_blameOf_71 rfl (kI ?_)
    refine v_aload_n C dX6_blameOf_74 rfl rfl rfl ?_
    refine v_getR C (Nat.le_of_ble_eq_true rfl) rfl rfl hinX6 5 (Nat.le_of_ble_eq_true rfl) lkX6_25 rfl dX6_blameOf_75 rfl ?_
    refine v_iload_n C dX6_blameOf_78 rfl rfl rfl ?_
    refine v_iald (i := p) C (Nat.le_of_ble_eq_true rfl) rfl rfl (by omega) (by decide) dX6_blameOf_79 rfl ?_
    refine v_iadd C dX6_blameOf_80 rfl ?_
    exact v_iret C dX6_blameOf_81 (by rw [hX]; exact fI_of (by simp [blaF, s6_1, s6_2, s6_3, s6_4]) rfl)
  by_cases s6_5 : σ 4 p = 5
  · refine V.tp s6_5 ?_
    refine v_tableIn (off := 76) (tgt := 82) C dX6_blameOf_6 (by decide) (by decide) rfl (by decide) ?_
    refine v_aload_n C dX6_blameOf_82 rfl rfl rfl ?_
    refine v_iload_n C dX6_blameOf_83 rfl rfl rfl ?_
    refine v_callV C (Nat.le_of_ble_eq_true rfl) rfl rfl (As := [.int (nI p)]) (rest := []) (kX6_veneerOf n p σ hn h7 (by omega)) rfl (Nat.le_of_ble_eq_true rfl) (Nat.le_of_ble_eq_true rfl) ⟨mlX6_166, mfX6_veneerOf⟩ dkX6_veneerOf (Nat.le_of_ble_eq_true rfl) dX6_blameOf_84 rfl (kI ?_)
    refine v_iconst (v := 2) C dX6_blameOf_87 (by decide) rfl ?_
    refine v_idiv C dX6_blameOf_88 (by decide) rfl ?_
    exact v_iret C dX6_blameOf_89 (by rw [hX]; exact fI_of (by simp [blaF, s6_1, s6_2, s6_3, s6_4, s6_5]) rfl)
  refine v_tableOut (tgt := 90) C dX6_blameOf_6 (by have e0 := lv_neT s6_1 (a := 1) (by decide); have e1 := lv_neT s6_2 (a := 2) (by decide); have e2 := lv_neT s6_3 (a := 3) (by decide); have e3 := lv_neT s6_4 (a := 4) (by decide); have e4 := lv_neT s6_5 (a := 5) (by decide); omega) (by decide) ?_
  refine v_aload_n C dX6_blameOf_90 rfl rfl rfl ?_
  refine v_getR C (Nat.le_of_ble_eq_true rfl) rfl rfl hinX6 5 (Nat.le_of_ble_eq_true rfl) lkX6_25 rfl dX6_blameOf_91 rfl ?_
  refine v_iload_n C dX6_blameOf_94 rfl rfl rfl ?_
  refine v_iald (i := p) C (Nat.le_of_ble_eq_true rfl) rfl rfl (by omega) (by decide) dX6_blameOf_95 rfl ?_
  exact v_iret C dX6_blameOf_96 (by rw [hX]; exact fI_of (by simp [blaF, s6_1, s6_2, s6_3, s6_4, s6_5]) rfl)
theorem kX6_wideOf (n p : Nat) (σ : St) (h7 : n ≤ 7) (hp : p < n) : Ct yX6_wideOf cX6_wideOf 2 (some .int) 0 [.ref 0, .int (nI p)] σ (fI (widF (σ 4) (σ 5) p) σ) := by
  refine ct_of plX6 rfl (Nat.le_of_ble_eq_true rfl) (fun X hX C => ?_)
  show V X 0 [(0, .ref 0), (1, .int (nI p))] [] σ
  refine v_aload_n C dX6_wideOf_0 rfl rfl rfl ?_
  refine v_getR C (Nat.le_of_ble_eq_true rfl) rfl rfl hinX6 3 (Nat.le_of_ble_eq_true rfl) lkX6_19 rfl dX6_wideOf_1 rfl ?_
  refine v_iload_n C dX6_wideOf_4 rfl rfl rfl ?_
  refine v_iald (i := p) C (Nat.le_of_ble_eq_true rfl) rfl rfl (by omega) (by decide) dX6_wideOf_5 rfl ?_
  refine v_iconst (v := 4) C dX6_wideOf_6 (by decide) rfl ?_
  refine v_icmp_ne (tgt := 15) C dX6_wideOf_7 (by decide) rfl (fun c7 => ?_) (fun c7 => ?_)
  · skip
    refine v_aload_n C dX6_wideOf_15 rfl rfl rfl ?_
    refine v_getR C (Nat.le_of_ble_eq_true rfl) rfl rfl hinX6 3 (Nat.le_of_ble_eq_true rfl) lkX6_19 rfl dX6_wideOf_16 rfl ?_
    refine v_iload_n C dX6_wideOf_19 rfl rfl rfl ?_
    refine v_iald (i := p) C (Nat.le_of_ble_eq_true rfl) rfl rfl (by omega) (by decide) dX6_wideOf_20 rfl ?_
    refine v_iconst (v := 2) C dX6_wideOf_21 (by decide) rfl ?_
    refine v_icmp_ne (tgt := 36) C dX6_wideOf_22 (by decide) rfl (fun c22 => ?_) (fun c22 => ?_)
    · skip
      refine v_aload_n C dX6_wideOf_36 rfl rfl rfl ?_
      refine v_getR C (Nat.le_of_ble_eq_true rfl) rfl rfl hinX6 3 (Nat.le_of_ble_eq_true rfl) lkX6_19 rfl dX6_wideOf_37 rfl ?_
      refine v_iload_n C dX6_wideOf_40 rfl rfl rfl ?_
      refine v_iald (i := p) C (Nat.le_of_ble_eq_true rfl) rfl rfl (by omega) (by decide) dX6_wideOf_41 rfl ?_
      refine v_iconst (v := 3) C dX6_wideOf_42 (by decide) rfl ?_
      refine v_icmp_ne (tgt := 57) C dX6_wideOf_43 (by decide) rfl (fun c43 => ?_) (fun c43 => ?_)
      · skip
        refine v_aload_n C dX6_wideOf_57 rfl rfl rfl ?_
        refine v_getR C (Nat.le_of_ble_eq_true rfl) rfl rfl hinX6 4 (Nat.le_of_ble_eq_true rfl) lkX6_22 rfl dX6_wideOf_58 rfl ?_
        refine v_iload_n C dX6_wideOf_61 rfl rfl rfl ?_
        refine v_iald (i := p) C (Nat.le_of_ble_eq_true rfl) rfl rfl (by omega) (by decide) dX6_wideOf_62 rfl ?_
        exact v_iret C dX6_wideOf_63 (by rw [hX]; exact fI_of (by simp [widF, c7, c22, c43]) rfl)
      · skip
        refine v_aload_n C dX6_wideOf_46 rfl rfl rfl ?_
        refine v_getR C (Nat.le_of_ble_eq_true rfl) rfl rfl hinX6 4 (Nat.le_of_ble_eq_true rfl) lkX6_22 rfl dX6_wideOf_47 rfl ?_
        refine v_iload_n C dX6_wideOf_50 rfl rfl rfl ?_
        refine v_iald (i := p) C (Nat.le_of_ble_eq_true rfl) rfl rfl (by omega) (by decide) dX6_wideOf_51 rfl ?_
        refine v_iconst (v := 2) C dX6_wideOf_52 (by decide) rfl ?_
        refine v_idiv C dX6_wideOf_53 (by decide) rfl ?_
        refine v_goto (tgt := 63) C dX6_wideOf_54 (by decide) ?_
        exact v_iret C dX6_wideOf_63 (by rw [hX]; exact fI_of (by simp [widF, c7, c22, c43]) rfl)
    · skip
      refine v_aload_n C dX6_wideOf_25 rfl rfl rfl ?_
      refine v_getR C (Nat.le_of_ble_eq_true rfl) rfl rfl hinX6 4 (Nat.le_of_ble_eq_true rfl) lkX6_22 rfl dX6_wideOf_26 rfl ?_
      refine v_iload_n C dX6_wideOf_29 rfl rfl rfl ?_
      refine v_iald (i := p) C (Nat.le_of_ble_eq_true rfl) rfl rfl (by omega) (by decide) dX6_wideOf_30 rfl ?_
      refine v_iconst (v := 1) C dX6_wideOf_31 (by decide) rfl ?_
      refine v_isub C dX6_wideOf_32 rfl ?_
      refine v_goto (tgt := 63) C dX6_wideOf_33 (by decide) ?_
      exact v_iret C dX6_wideOf_63 (by rw [hX]; exact fI_of (by simp [widF, c7, c22]) rfl)
  · skip
    refine v_bipush (v := 10) C dX6_wideOf_10 (by decide) rfl ?_
    refine v_goto (tgt := 63) C dX6_wideOf_12 (by decide) ?_
    exact v_iret C dX6_wideOf_63 (by rw [hX]; exact fI_of (by simp [widF, c7]) rfl)
theorem kX6_blameIn (n : Nat) (r : Int32) (σ : St) (hn : σ 0 8 = nI n) (h7 : n ≤ 7) : Ct yX6_blameIn cX6_blameIn 4 (some .int) 2 [.ref 0, .int r] σ (fI (binF (σ 4) (σ 6) (σ 7) (σ 8) n r) σ) := by
  refine ct_of plX6 rfl (Nat.le_of_ble_eq_true rfl) (fun X hX C => ?_)
  show V X 0 [(0, .ref 0), (1, .int r)] [] σ
  refine v_iconst (v := 0) C dX6_blameIn_0 (by decide) rfl ?_
  refine v_istore_n (lv' := [(2, .int 0), (0, .ref 0), (1, .int r)]) C dX6_blameIn_1 rfl (Nat.le_of_ble_eq_true rfl) rfl rfl ?_
  refine v_iconst (v := 0) C dX6_blameIn_2 (by decide) rfl ?_
  refine v_istore_n (lv' := [(3, .int 0), (2, .int 0), (0, .ref 0), (1, .int r)]) C dX6_blameIn_3 rfl (Nat.le_of_ble_eq_true rfl) rfl rfl ?_
  have lp4 : ∀ (k i : Nat) (x2 : Int32) , n < i + k → i ≤ n → x2 = sumN (binG (σ 4) (σ 6) (σ 7) (σ 8) n r) i → V X 4 [(3, .int (nI i)), (2, .int x2), (0, .ref 0), (1, .int r)] [] σ := by
    intro k
    induction k with
    | zero => intro i x2 h1 h2; omega
    | succ k ih =>
      intro i x2 h1 h2 ex2
      refine v_iload_n C dX6_blameIn_4 rfl rfl rfl ?_
      refine v_aload_n C dX6_blameIn_5 rfl rfl rfl ?_
      refine v_getI C (Nat.le_of_ble_eq_true rfl) rfl rfl hinX6 8 (Nat.le_of_ble_eq_true rfl) lkX6_65 rfl dX6_blameIn_6 rfl ?_
      refine V.tp hn ?_
      refine v_icmp_ge (tgt := 46) C dX6_blameIn_9 (by decide) rfl (fun c9 => ?_) (fun c9 => ?_)
      · skip
        have c9 := mt (nI_ltI (a := i) (b := n) (by omega) (by omega)).mpr c9
        refine v_iload_n C dX6_blameIn_46 rfl rfl rfl ?_
        exact v_iret C dX6_blameIn_47 (by rw [hX]; exact fI_of (by rw [ex2, binF, show i = n by omega]) rfl)
      · skip
        have c9 := (nI_ltI (a := i) (b := n) (by omega) (by omega)).mp c9
        refine v_iload_n C dX6_blameIn_12 rfl rfl rfl ?_
        refine v_iload_n C dX6_blameIn_13 rfl rfl rfl ?_
        refine v_bipush (v := 10) C dX6_blameIn_14 (by decide) rfl ?_
        refine v_icmp_eq (tgt := 29) C dX6_blameIn_16 (by decide) rfl (fun c16 => ?_) (fun c16 => ?_)
        · skip
          refine v_aload_n C dX6_blameIn_29 rfl rfl rfl ?_
          refine v_iload_n C dX6_blameIn_30 rfl rfl rfl ?_
          refine v_callV C (Nat.le_of_ble_eq_true rfl) rfl rfl (As := [.int (nI i)]) (rest := [.int x2]) (kX6_blameOf n i σ hn h7 (by omega)) rfl (Nat.le_of_ble_eq_true rfl) (Nat.le_of_ble_eq_true rfl) ⟨mlX6_169, mfX6_blameOf⟩ dkX6_blameOf (Nat.le_of_ble_eq_true rfl) dX6_blameIn_31 rfl (kI ?_)
          refine v_goto (tgt := 38) C dX6_blameIn_34 (by decide) ?_
          refine v_iadd C dX6_blameIn_38 rfl ?_
          refine V.top (fun v39_1 ev39_1 => ?_)
          refine v_istore_n (lv' := [(2, .int v39_1), (3, .int (nI i)), (0, .ref 0), (1, .int r)]) C dX6_blameIn_39 rfl (Nat.le_of_ble_eq_true rfl) rfl rfl ?_
          refine v_iinc (lv' := [(3, .int (nI (i + 1))), (2, .int v39_1), (0, .ref 0), (1, .int r)]) C dX6_blameIn_40 rfl (nI_inc i) (Nat.le_of_ble_eq_true rfl) rfl rfl ?_
          refine v_goto (tgt := 4) C dX6_blameIn_43 (by decide) ?_
          exact V.sub [0, 1, 2, 3] rfl (ih (i + 1) _ (by omega) (by omega) (by rw [ev39_1, ex2]; simp [sumN, binG, Int32.add_assoc, c9, c16]))
        · skip
          refine v_aload_n C dX6_blameIn_19 rfl rfl rfl ?_
          refine v_getR C (Nat.le_of_ble_eq_true rfl) rfl rfl hinX6 7 (Nat.le_of_ble_eq_true rfl) lkX6_31 rfl dX6_blameIn_20 rfl ?_
          refine v_iload_n C dX6_blameIn_23 rfl rfl rfl ?_
          refine v_iald (i := i) C (Nat.le_of_ble_eq_true rfl) rfl rfl (by omega) (by decide) dX6_blameIn_24 rfl ?_
          refine v_iload_n C dX6_blameIn_25 rfl rfl rfl ?_
          refine v_icmp_ne (tgt := 37) C dX6_blameIn_26 (by decide) rfl (fun c26 => ?_) (fun c26 => ?_)
          · skip
            refine v_iconst (v := 0) C dX6_blameIn_37 (by decide) rfl ?_
            refine v_iadd C dX6_blameIn_38 rfl ?_
            refine V.top (fun v39_2 ev39_2 => ?_)
            refine v_istore_n (lv' := [(2, .int v39_2), (3, .int (nI i)), (0, .ref 0), (1, .int r)]) C dX6_blameIn_39 rfl (Nat.le_of_ble_eq_true rfl) rfl rfl ?_
            refine v_iinc (lv' := [(3, .int (nI (i + 1))), (2, .int v39_2), (0, .ref 0), (1, .int r)]) C dX6_blameIn_40 rfl (nI_inc i) (Nat.le_of_ble_eq_true rfl) rfl rfl ?_
            refine v_goto (tgt := 4) C dX6_blameIn_43 (by decide) ?_
            exact V.sub [0, 1, 2, 3] rfl (ih (i + 1) _ (by omega) (by omega) (by rw [ev39_2, ex2]; simp [sumN, binG, Int32.add_assoc, c9, c16, c26]))
          · skip
            refine v_aload_n C dX6_blameIn_29 rfl rfl rfl ?_
            refine v_iload_n C dX6_blameIn_30 rfl rfl rfl ?_
            refine v_callV C (Nat.le_of_ble_eq_true rfl) rfl rfl (As := [.int (nI i)]) (rest := [.int x2]) (kX6_blameOf n i σ hn h7 (by omega)) rfl (Nat.le_of_ble_eq_true rfl) (Nat.le_of_ble_eq_true rfl) ⟨mlX6_169, mfX6_blameOf⟩ dkX6_blameOf (Nat.le_of_ble_eq_true rfl) dX6_blameIn_31 rfl (kI ?_)
            refine v_goto (tgt := 38) C dX6_blameIn_34 (by decide) ?_
            refine v_iadd C dX6_blameIn_38 rfl ?_
            refine V.top (fun v39_3 ev39_3 => ?_)
            refine v_istore_n (lv' := [(2, .int v39_3), (3, .int (nI i)), (0, .ref 0), (1, .int r)]) C dX6_blameIn_39 rfl (Nat.le_of_ble_eq_true rfl) rfl rfl ?_
            refine v_iinc (lv' := [(3, .int (nI (i + 1))), (2, .int v39_3), (0, .ref 0), (1, .int r)]) C dX6_blameIn_40 rfl (nI_inc i) (Nat.le_of_ble_eq_true rfl) rfl rfl ?_
            refine v_goto (tgt := 4) C dX6_blameIn_43 (by decide) ?_
            exact V.sub [0, 1, 2, 3] rfl (ih (i + 1) _ (by omega) (by omega) (by rw [ev39_3, ex2]; simp [sumN, binG, Int32.add_assoc, c9, c16, c26]))
  exact V.sub [0, 1, 2, 3] rfl (lp4 (n + 1) 0 0 (by omega) (by omega) (rfl))
theorem kX6_bulkIn (n : Nat) (r : Int32) (σ : St) (hn : σ 0 8 = nI n) (h7 : n ≤ 7) : Ct yX6_bulkIn cX6_bulkIn 4 (some .int) 0 [.ref 0, .int r] σ (fI (bulF (σ 5) (σ 8) n r) σ) := by
  refine ct_of plX6 rfl (Nat.le_of_ble_eq_true rfl) (fun X hX C => ?_)
  show V X 0 [(0, .ref 0), (1, .int r)] [] σ
  refine v_iconst (v := 0) C dX6_bulkIn_0 (by decide) rfl ?_
  refine v_istore_n (lv' := [(2, .int 0), (0, .ref 0), (1, .int r)]) C dX6_bulkIn_1 rfl (Nat.le_of_ble_eq_true rfl) rfl rfl ?_
  refine v_iconst (v := 0) C dX6_bulkIn_2 (by decide) rfl ?_
  refine v_istore_n (lv' := [(3, .int 0), (2, .int 0), (0, .ref 0), (1, .int r)]) C dX6_bulkIn_3 rfl (Nat.le_of_ble_eq_true rfl) rfl rfl ?_
  have lp4 : ∀ (k i : Nat) (x2 : Int32) , n < i + k → i ≤ n → x2 = sumN (bulG (σ 5) (σ 8) r) i → V X 4 [(3, .int (nI i)), (2, .int x2), (0, .ref 0), (1, .int r)] [] σ := by
    intro k
    induction k with
    | zero => intro i x2 h1 h2; omega
    | succ k ih =>
      intro i x2 h1 h2 ex2
      refine v_iload_n C dX6_bulkIn_4 rfl rfl rfl ?_
      refine v_aload_n C dX6_bulkIn_5 rfl rfl rfl ?_
      refine v_getI C (Nat.le_of_ble_eq_true rfl) rfl rfl hinX6 8 (Nat.le_of_ble_eq_true rfl) lkX6_65 rfl dX6_bulkIn_6 rfl ?_
      refine V.tp hn ?_
      refine v_icmp_ge (tgt := 41) C dX6_bulkIn_9 (by decide) rfl (fun c9 => ?_) (fun c9 => ?_)
      · skip
        have c9 := mt (nI_ltI (a := i) (b := n) (by omega) (by omega)).mpr c9
        refine v_iload_n C dX6_bulkIn_41 rfl rfl rfl ?_
        exact v_iret C dX6_bulkIn_42 (by rw [hX]; exact fI_of (by rw [ex2, bulF, show i = n by omega]) rfl)
      · skip
        have c9 := (nI_ltI (a := i) (b := n) (by omega) (by omega)).mp c9
        refine v_iload_n C dX6_bulkIn_12 rfl rfl rfl ?_
        refine v_aload_n C dX6_bulkIn_13 rfl rfl rfl ?_
        refine v_getR C (Nat.le_of_ble_eq_true rfl) rfl rfl hinX6 7 (Nat.le_of_ble_eq_true rfl) lkX6_31 rfl dX6_bulkIn_14 rfl ?_
        refine v_iload_n C dX6_bulkIn_17 rfl rfl rfl ?_
        refine v_iald (i := i) C (Nat.le_of_ble_eq_true rfl) rfl rfl (by omega) (by decide) dX6_bulkIn_18 rfl ?_
        refine v_iload_n C dX6_bulkIn_19 rfl rfl rfl ?_
        refine v_icmp_ne (tgt := 32) C dX6_bulkIn_20 (by decide) rfl (fun c20 => ?_) (fun c20 => ?_)
        · skip
          refine v_iconst (v := 0) C dX6_bulkIn_32 (by decide) rfl ?_
          refine v_iadd C dX6_bulkIn_33 rfl ?_
          refine V.top (fun v34_1 ev34_1 => ?_)
          refine v_istore_n (lv' := [(2, .int v34_1), (3, .int (nI i)), (0, .ref 0), (1, .int r)]) C dX6_bulkIn_34 rfl (Nat.le_of_ble_eq_true rfl) rfl rfl ?_
          refine v_iinc (lv' := [(3, .int (nI (i + 1))), (2, .int v34_1), (0, .ref 0), (1, .int r)]) C dX6_bulkIn_35 rfl (nI_inc i) (Nat.le_of_ble_eq_true rfl) rfl rfl ?_
          refine v_goto (tgt := 4) C dX6_bulkIn_38 (by decide) ?_
          exact V.sub [0, 1, 2, 3] rfl (ih (i + 1) _ (by omega) (by omega) (by rw [ev34_1, ex2]; simp [sumN, bulG, Int32.add_assoc, c9, c20]))
        · skip
          refine v_aload_n C dX6_bulkIn_23 rfl rfl rfl ?_
          refine v_getR C (Nat.le_of_ble_eq_true rfl) rfl rfl hinX6 4 (Nat.le_of_ble_eq_true rfl) lkX6_22 rfl dX6_bulkIn_24 rfl ?_
          refine v_iload_n C dX6_bulkIn_27 rfl rfl rfl ?_
          refine v_iald (i := i) C (Nat.le_of_ble_eq_true rfl) rfl rfl (by omega) (by decide) dX6_bulkIn_28 rfl ?_
          refine v_goto (tgt := 33) C dX6_bulkIn_29 (by decide) ?_
          refine v_iadd C dX6_bulkIn_33 rfl ?_
          refine V.top (fun v34_2 ev34_2 => ?_)
          refine v_istore_n (lv' := [(2, .int v34_2), (3, .int (nI i)), (0, .ref 0), (1, .int r)]) C dX6_bulkIn_34 rfl (Nat.le_of_ble_eq_true rfl) rfl rfl ?_
          refine v_iinc (lv' := [(3, .int (nI (i + 1))), (2, .int v34_2), (0, .ref 0), (1, .int r)]) C dX6_bulkIn_35 rfl (nI_inc i) (Nat.le_of_ble_eq_true rfl) rfl rfl ?_
          refine v_goto (tgt := 4) C dX6_bulkIn_38 (by decide) ?_
          exact V.sub [0, 1, 2, 3] rfl (ih (i + 1) _ (by omega) (by omega) (by rw [ev34_2, ex2]; simp [sumN, bulG, Int32.add_assoc, c9, c20]))
  exact V.sub [0, 1, 2, 3] rfl (lp4 (n + 1) 0 0 (by omega) (by omega) (rfl))
end
section
/-! the check's class: refusals, carrying, years -/
theorem room_nat {r : Int32} (h : roomP r) : r = nI r.toNatClampNeg ∧ r.toNatClampNeg < 6 := by
  obtain ⟨j, hj, e⟩ := vp_in_of (n := 6) (x := r) (by
    intro q
    rcases q with q | q
    · exact h.1 q
    · have h2 := h.2
      have h1 := h.1
      rw [Int32.lt_iff_toInt_lt] at h1 h2
      rw [show (0 : Int32).toInt = 0 from rfl] at h1
      rw [show (6 : Int32).toInt = 6 from rfl] at h2
      have : r.toNatClampNeg = r.toInt.toNat := rfl
      omega) (by decide)
  subst e
  rw [nI_clamp (by omega)]
  exact ⟨rfl, hj⟩
def noS (σ : St) (j : Nat) : St := s2 σ 1 j (σ 1 j + 1)
def gbP (a r : Int32) (f : Nat) : Prop := ¬ a = 9 ∧ ¬ (a / 2 < nI f ↔ r / 2 < nI f)
def blkP (kd bk sr : Nat → Int32) (a r : Int32) (p f : Nat) : Prop := gbP a r f ∧ sr f < widF kd bk p
def carP (kd bk pl sz sr : Nat → Int32) (n p : Nat) (r : Int32) : Prop := ¬ r = pl p ∧ (r = 9 ∨ (¬ sz r.toNatClampNeg < bulF bk pl n r + bk p ∧ ∀ f, 1 ≤ f → f < 3 → ¬ blkP kd bk sr (pl p) r p f))
theorem bnd_cases (v a b : Int32) : (bnd v a b = -4 ∧ v < a) ∨ (bnd v a b = -6 ∧ ¬ v < a ∧ b < v) ∨ (bnd v a b = 0 ∧ ¬ v < a ∧ ¬ b < v) := by
  unfold bnd
  by_cases h1 : v < a
  · left; simp [h1]
  · by_cases h2 : b < v
    · right; left; simp [h1, h2]
    · right; right; simp [h1, h2]
def setR (σ : St) (k : Nat) (f : Nat → Int32) : St := fun a => if a = k then f else σ a
theorem setR_get (σ : St) (k : Nat) (f : Nat → Int32) (a : Nat) : setR σ k f a = if a = k then f else σ a := rfl
theorem s2_row (σ : St) (k j : Nat) (v : Int32) (a : Nat) : s2 σ k j v a = if a = k then upd (σ k) j v else σ a := rfl
def pre (i : Nat) (g f : Nat → Int32) : Nat → Int32 := fun p => if p < i then g p else f p
theorem pre_0 (g f : Nat → Int32) : pre 0 g f = f := by funext p; simp [pre]
theorem pre_upd (i : Nat) (g f : Nat → Int32) {v : Int32} (h : v = g i) : upd (pre i g f) i v = pre (i + 1) g f := by
  subst h
  funext p
  unfold upd pre
  by_cases h1 : p = i
  · subst h1; simp
  · by_cases h2 : p < i
    · simp [h1, h2, show p < i + 1 by omega]
    · simp [h1, h2, show ¬ p < i + 1 by omega]
theorem pre_at (i : Nat) (g f : Nat → Int32) : pre i g f i = f i := by simp [pre]
theorem kX6_no (w : Int32) (j : Nat) (σ : St) (hj : -w = nI j) (hj7 : j < 7) : Ct yX6_no cX6_no 2 (some .int) 0 [.ref 0, .int w] σ (fI w (noS σ j)) := by
  refine ct_of plX6 rfl (Nat.le_of_ble_eq_true rfl) (fun X hX C => ?_)
  show V X 0 [(0, .ref 0), (1, .int w)] [] σ
  refine v_aload_n C dX6_no_0 rfl rfl rfl ?_
  refine v_getR C (Nat.le_of_ble_eq_true rfl) rfl rfl hinX6 0 (Nat.le_of_ble_eq_true rfl) lkX6_7 rfl dX6_no_1 rfl ?_
  refine v_iload_n C dX6_no_4 rfl rfl rfl ?_
  refine v_ineg C dX6_no_5 rfl ?_
  refine v_dup2 C dX6_no_6 rfl rfl rfl ?_
  refine v_iald (i := j) C (Nat.le_of_ble_eq_true rfl) rfl hj hj7 (by decide) dX6_no_7 rfl ?_
  refine v_iconst (v := 1) C dX6_no_8 (by decide) rfl ?_
  refine v_iadd C dX6_no_9 rfl ?_
  refine v_iast (i := j) C (Nat.le_of_ble_eq_true rfl) rfl hj hj7 (by decide) dX6_no_10 rfl ?_
  refine V.nm (fun τ10_1 eτ10_1 => ?_)
  refine v_iload_n C dX6_no_11 rfl rfl rfl ?_
  exact v_iret C dX6_no_12 (by rw [hX]; exact fI_of rfl eτ10_1)
theorem kX6_canCarry (n p : Nat) (r : Int32) (σ : St) (hn : σ 0 8 = nI n) (h7 : n ≤ 7) (hp : p < n) (hr : placeP r) : Ct yX6_canCarry cX6_canCarry 6 (some .boolean) 1 [.ref 0, .int (nI p), .int r] σ (fI (bI (carP (σ 4) (σ 5) (σ 8) (σ 2) (σ 3) n p r)) σ) := by
  refine ct_of plX6 rfl (Nat.le_of_ble_eq_true rfl) (fun X hX C => ?_)
  show V X 0 [(0, .ref 0), (1, .int (nI p)), (2, .int r)] [] σ
  refine v_aload_n C dX6_canCarry_0 rfl rfl rfl ?_
  refine v_getR C (Nat.le_of_ble_eq_true rfl) rfl rfl hinX6 7 (Nat.le_of_ble_eq_true rfl) lkX6_31 rfl dX6_canCarry_1 rfl ?_
  refine v_iload_n C dX6_canCarry_4 rfl rfl rfl ?_
  refine v_iald (i := p) C (Nat.le_of_ble_eq_true rfl) rfl rfl (by omega) (by decide) dX6_canCarry_5 rfl ?_
  refine V.top (fun v6_1 ev6_1 => ?_)
  refine v_istore_n (lv' := [(3, .int v6_1), (0, .ref 0), (1, .int (nI p)), (2, .int r)]) C dX6_canCarry_6 rfl (Nat.le_of_ble_eq_true rfl) rfl rfl ?_
  refine v_iload_n C dX6_canCarry_7 rfl rfl rfl ?_
  refine v_iload_n C dX6_canCarry_8 rfl rfl rfl ?_
  refine v_icmp_ne (tgt := 14) C dX6_canCarry_9 (by decide) rfl (fun c9 => ?_) (fun c9 => ?_)
  · skip
    refine v_iload_n C dX6_canCarry_14 rfl rfl rfl ?_
    refine v_bipush (v := 9) C dX6_canCarry_15 (by decide) rfl ?_
    refine v_icmp_ne (tgt := 22) C dX6_canCarry_17 (by decide) rfl (fun c17 => ?_) (fun c17 => ?_)
    · skip
      have hrm : roomP r := hr.elim id (fun q => absurd q c17)
      refine v_aload_n C dX6_canCarry_22 rfl rfl rfl ?_
      refine v_iload_n C dX6_canCarry_23 rfl rfl rfl ?_
      refine v_callV C (Nat.le_of_ble_eq_true rfl) rfl rfl (As := [.int r]) (rest := []) (kX6_bulkIn n r σ hn h7) rfl (Nat.le_of_ble_eq_true rfl) (Nat.le_of_ble_eq_true rfl) ⟨mlX6_125, mfX6_bulkIn⟩ dkX6_bulkIn (Nat.le_of_ble_eq_true rfl) dX6_canCarry_24 rfl (kI ?_)
      refine v_aload_n C dX6_canCarry_27 rfl rfl rfl ?_
      refine v_getR C (Nat.le_of_ble_eq_true rfl) rfl rfl hinX6 4 (Nat.le_of_ble_eq_true rfl) lkX6_22 rfl dX6_canCarry_28 rfl ?_
      refine v_iload_n C dX6_canCarry_31 rfl rfl rfl ?_
      refine v_iald (i := p) C (Nat.le_of_ble_eq_true rfl) rfl rfl (by omega) (by decide) dX6_canCarry_32 rfl ?_
      refine v_iadd C dX6_canCarry_33 rfl ?_
      refine v_aload_n C dX6_canCarry_34 rfl rfl rfl ?_
      refine v_getR C (Nat.le_of_ble_eq_true rfl) rfl rfl hinX6 1 (Nat.le_of_ble_eq_true rfl) lkX6_13 rfl dX6_canCarry_35 rfl ?_
      refine v_iload_n C dX6_canCarry_38 rfl rfl rfl ?_
      refine v_iald (i := r.toNatClampNeg) C (Nat.le_of_ble_eq_true rfl) rfl (room_nat hrm).1 (room_nat hrm).2 (by decide) dX6_canCarry_39 rfl ?_
      refine v_icmp_le (tgt := 45) C dX6_canCarry_40 (by decide) rfl (fun c40 => ?_) (fun c40 => ?_)
      · skip
        refine v_iconst (v := 1) C dX6_canCarry_45 (by decide) rfl ?_
        refine v_istore (lv' := [(4, .int 1), (3, .int v6_1), (0, .ref 0), (1, .int (nI p)), (2, .int r)]) C dX6_canCarry_46 (Nat.le_of_ble_eq_true rfl) rfl rfl ?_
        have lp48 : ∀ (k i : Nat)  , 3 < i + k → i ≤ 3 → (∀ g, 1 ≤ g → g < i → ¬ blkP (σ 4) (σ 5) (σ 3) (σ 8 p) r p g) → (1 ≤ i) → V X 48 [(4, .int (nI i)), (3, .int v6_1), (0, .ref 0), (1, .int (nI p)), (2, .int r)] [] σ := by
          intro k
          induction k with
          | zero => intro i  h1 h2; omega
          | succ k ih =>
            intro i  h1 h2  hb hi1
            refine v_iload C dX6_canCarry_48 rfl rfl ?_
            refine v_iconst (v := 3) C dX6_canCarry_50 (by decide) rfl ?_
            refine v_icmp_ge (tgt := 124) C dX6_canCarry_51 (by decide) rfl (fun c51 => ?_) (fun c51 => ?_)
            · skip
              have c51 := mt (nI_ltI (a := i) (b := 3) (by omega) (by omega)).mpr c51
              refine v_iconst (v := 1) C dX6_canCarry_124 (by decide) rfl ?_
              exact v_zret C rfl dX6_canCarry_125 (by rw [hX]; exact fI_of (bI_t ⟨by rw [← ev6_1]; exact c9, Or.inr ⟨c40, fun f h1 h2 => hb f h1 (by omega)⟩⟩) rfl)
            · skip
              have c51 := (nI_ltI (a := i) (b := 3) (by omega) (by omega)).mp c51
              refine v_iload_n C dX6_canCarry_54 rfl rfl rfl ?_
              refine v_bipush (v := 9) C dX6_canCarry_55 (by decide) rfl ?_
              refine v_icmp_eq (tgt := 93) C dX6_canCarry_57 (by decide) rfl (fun c57 => ?_) (fun c57 => ?_)
              · skip
                refine v_iconst (v := 0) C dX6_canCarry_93 (by decide) rfl ?_
                refine v_istore (lv' := [(5, .int 0), (4, .int (nI i)), (3, .int v6_1), (0, .ref 0), (1, .int (nI p)), (2, .int r)]) C dX6_canCarry_94 (Nat.le_of_ble_eq_true rfl) rfl rfl ?_
                refine v_iload C dX6_canCarry_96 rfl rfl ?_
                refine v_if_eq (tgt := 118) C dX6_canCarry_98 (by decide) rfl (fun _ => ?_) (fun q => absurd (by decide) q)
                refine v_iinc (lv' := [(4, .int (nI (i + 1))), (5, .int 0), (3, .int v6_1), (0, .ref 0), (1, .int (nI p)), (2, .int r)]) C dX6_canCarry_118 rfl (nI_inc i) (Nat.le_of_ble_eq_true rfl) rfl rfl ?_
                refine v_goto (tgt := 48) C dX6_canCarry_121 (by decide) ?_
                exact V.sub [0, 2, 3, 4, 5] rfl (ih (i + 1)  (by omega) (by omega)  (by intro g h3 h4; exact (Classical.em (g = i)).elim (fun h5 => by rw [h5, ← ev6_1]; simp [blkP, gbP, c57]) (fun h5 => hb g h3 (by omega))) (by omega))
              · skip
                refine v_iload_n C dX6_canCarry_60 rfl rfl rfl ?_
                refine v_iconst (v := 2) C dX6_canCarry_61 (by decide) rfl ?_
                refine v_idiv C dX6_canCarry_62 (by decide) rfl ?_
                refine v_iload C dX6_canCarry_63 rfl rfl ?_
                refine v_icmp_ge (tgt := 72) C dX6_canCarry_65 (by decide) rfl (fun c65 => ?_) (fun c65 => ?_)
                · skip
                  refine v_iconst (v := 0) C dX6_canCarry_72 (by decide) rfl ?_
                  refine v_iload_n C dX6_canCarry_73 rfl rfl rfl ?_
                  refine v_iconst (v := 2) C dX6_canCarry_74 (by decide) rfl ?_
                  refine v_idiv C dX6_canCarry_75 (by decide) rfl ?_
                  refine v_iload C dX6_canCarry_76 rfl rfl ?_
                  refine v_icmp_ge (tgt := 85) C dX6_canCarry_78 (by decide) rfl (fun c78 => ?_) (fun c78 => ?_)
                  · skip
                    refine v_iconst (v := 0) C dX6_canCarry_85 (by decide) rfl ?_
                    refine v_icmp_eq (tgt := 93) C dX6_canCarry_86 (by decide) rfl (fun _ => ?_) (fun q => absurd (by decide) q)
                    refine v_iconst (v := 0) C dX6_canCarry_93 (by decide) rfl ?_
                    refine v_istore (lv' := [(5, .int 0), (4, .int (nI i)), (3, .int v6_1), (0, .ref 0), (1, .int (nI p)), (2, .int r)]) C dX6_canCarry_94 (Nat.le_of_ble_eq_true rfl) rfl rfl ?_
                    refine v_iload C dX6_canCarry_96 rfl rfl ?_
                    refine v_if_eq (tgt := 118) C dX6_canCarry_98 (by decide) rfl (fun _ => ?_) (fun q => absurd (by decide) q)
                    refine v_iinc (lv' := [(4, .int (nI (i + 1))), (5, .int 0), (3, .int v6_1), (0, .ref 0), (1, .int (nI p)), (2, .int r)]) C dX6_canCarry_118 rfl (nI_inc i) (Nat.le_of_ble_eq_true rfl) rfl rfl ?_
                    refine v_goto (tgt := 48) C dX6_canCarry_121 (by decide) ?_
                    exact V.sub [0, 2, 3, 4, 5] rfl (ih (i + 1)  (by omega) (by omega)  (by intro g h3 h4; exact (Classical.em (g = i)).elim (fun h5 => by rw [h5, ← ev6_1]; simp [blkP, gbP, c57, c65, c78]) (fun h5 => hb g h3 (by omega))) (by omega))
                  · skip
                    refine v_iconst (v := 1) C dX6_canCarry_81 (by decide) rfl ?_
                    refine v_goto (tgt := 86) C dX6_canCarry_82 (by decide) ?_
                    refine v_icmp_eq (tgt := 93) C dX6_canCarry_86 (by decide) rfl (fun q => absurd q (by decide)) (fun _ => ?_)
                    refine v_iconst (v := 1) C dX6_canCarry_89 (by decide) rfl ?_
                    refine v_goto (tgt := 94) C dX6_canCarry_90 (by decide) ?_
                    refine v_istore (lv' := [(5, .int 1), (4, .int (nI i)), (3, .int v6_1), (0, .ref 0), (1, .int (nI p)), (2, .int r)]) C dX6_canCarry_94 (Nat.le_of_ble_eq_true rfl) rfl rfl ?_
                    refine v_iload C dX6_canCarry_96 rfl rfl ?_
                    refine v_if_eq (tgt := 118) C dX6_canCarry_98 (by decide) rfl (fun q => absurd q (by decide)) (fun _ => ?_)
                    refine v_aload_n C dX6_canCarry_101 rfl rfl rfl ?_
                    refine v_iload_n C dX6_canCarry_102 rfl rfl rfl ?_
                    refine v_callV C (Nat.le_of_ble_eq_true rfl) rfl rfl (As := [.int (nI p)]) (rest := []) (kX6_wideOf n p σ h7 (by omega)) rfl (Nat.le_of_ble_eq_true rfl) (Nat.le_of_ble_eq_true rfl) ⟨mlX6_172, mfX6_wideOf⟩ dkX6_wideOf (Nat.le_of_ble_eq_true rfl) dX6_canCarry_103 rfl (kI ?_)
                    refine v_aload_n C dX6_canCarry_106 rfl rfl rfl ?_
                    refine v_getR C (Nat.le_of_ble_eq_true rfl) rfl rfl hinX6 2 (Nat.le_of_ble_eq_true rfl) lkX6_16 rfl dX6_canCarry_107 rfl ?_
                    refine v_iload C dX6_canCarry_110 rfl rfl ?_
                    refine v_iald (i := i) C (Nat.le_of_ble_eq_true rfl) rfl rfl (by omega) (by decide) dX6_canCarry_112 rfl ?_
                    refine v_icmp_le (tgt := 118) C dX6_canCarry_113 (by decide) rfl (fun c113 => ?_) (fun c113 => ?_)
                    · skip
                      refine v_iinc (lv' := [(4, .int (nI (i + 1))), (5, .int 1), (3, .int v6_1), (0, .ref 0), (1, .int (nI p)), (2, .int r)]) C dX6_canCarry_118 rfl (nI_inc i) (Nat.le_of_ble_eq_true rfl) rfl rfl ?_
                      refine v_goto (tgt := 48) C dX6_canCarry_121 (by decide) ?_
                      exact V.sub [0, 2, 3, 4, 5] rfl (ih (i + 1)  (by omega) (by omega)  (by intro g h3 h4; exact (Classical.em (g = i)).elim (fun h5 => by rw [h5, ← ev6_1]; simp [blkP, gbP, c57, c65, c78, c113]) (fun h5 => hb g h3 (by omega))) (by omega))
                    · skip
                      refine v_iconst (v := 0) C dX6_canCarry_116 (by decide) rfl ?_
                      exact v_zret C rfl dX6_canCarry_117 (by rw [hX]; exact fI_of (bI_f (fun q => q.2.elim (fun q => c17 q) (fun q => q.2 i (by omega) (by omega) (by rw [← ev6_1]; simp [blkP, gbP, c57, c65, c78, c113])))) rfl)
                · skip
                  refine v_iconst (v := 1) C dX6_canCarry_68 (by decide) rfl ?_
                  refine v_goto (tgt := 73) C dX6_canCarry_69 (by decide) ?_
                  refine v_iload_n C dX6_canCarry_73 rfl rfl rfl ?_
                  refine v_iconst (v := 2) C dX6_canCarry_74 (by decide) rfl ?_
                  refine v_idiv C dX6_canCarry_75 (by decide) rfl ?_
                  refine v_iload C dX6_canCarry_76 rfl rfl ?_
                  refine v_icmp_ge (tgt := 85) C dX6_canCarry_78 (by decide) rfl (fun c78 => ?_) (fun c78 => ?_)
                  · skip
                    refine v_iconst (v := 0) C dX6_canCarry_85 (by decide) rfl ?_
                    refine v_icmp_eq (tgt := 93) C dX6_canCarry_86 (by decide) rfl (fun q => absurd q (by decide)) (fun _ => ?_)
                    refine v_iconst (v := 1) C dX6_canCarry_89 (by decide) rfl ?_
                    refine v_goto (tgt := 94) C dX6_canCarry_90 (by decide) ?_
                    refine v_istore (lv' := [(5, .int 1), (4, .int (nI i)), (3, .int v6_1), (0, .ref 0), (1, .int (nI p)), (2, .int r)]) C dX6_canCarry_94 (Nat.le_of_ble_eq_true rfl) rfl rfl ?_
                    refine v_iload C dX6_canCarry_96 rfl rfl ?_
                    refine v_if_eq (tgt := 118) C dX6_canCarry_98 (by decide) rfl (fun q => absurd q (by decide)) (fun _ => ?_)
                    refine v_aload_n C dX6_canCarry_101 rfl rfl rfl ?_
                    refine v_iload_n C dX6_canCarry_102 rfl rfl rfl ?_
                    refine v_callV C (Nat.le_of_ble_eq_true rfl) rfl rfl (As := [.int (nI p)]) (rest := []) (kX6_wideOf n p σ h7 (by omega)) rfl (Nat.le_of_ble_eq_true rfl) (Nat.le_of_ble_eq_true rfl) ⟨mlX6_172, mfX6_wideOf⟩ dkX6_wideOf (Nat.le_of_ble_eq_true rfl) dX6_canCarry_103 rfl (kI ?_)
                    refine v_aload_n C dX6_canCarry_106 rfl rfl rfl ?_
                    refine v_getR C (Nat.le_of_ble_eq_true rfl) rfl rfl hinX6 2 (Nat.le_of_ble_eq_true rfl) lkX6_16 rfl dX6_canCarry_107 rfl ?_
                    refine v_iload C dX6_canCarry_110 rfl rfl ?_
                    refine v_iald (i := i) C (Nat.le_of_ble_eq_true rfl) rfl rfl (by omega) (by decide) dX6_canCarry_112 rfl ?_
                    refine v_icmp_le (tgt := 118) C dX6_canCarry_113 (by decide) rfl (fun c113 => ?_) (fun c113 => ?_)
                    · skip
                      refine v_iinc (lv' := [(4, .int (nI (i + 1))), (5, .int 1), (3, .int v6_1), (0, .ref 0), (1, .int (nI p)), (2, .int r)]) C dX6_canCarry_118 rfl (nI_inc i) (Nat.le_of_ble_eq_true rfl) rfl rfl ?_
                      refine v_goto (tgt := 48) C dX6_canCarry_121 (by decide) ?_
                      exact V.sub [0, 2, 3, 4, 5] rfl (ih (i + 1)  (by omega) (by omega)  (by intro g h3 h4; exact (Classical.em (g = i)).elim (fun h5 => by rw [h5, ← ev6_1]; simp [blkP, gbP, c57, c65, c78, c113]) (fun h5 => hb g h3 (by omega))) (by omega))
                    · skip
                      refine v_iconst (v := 0) C dX6_canCarry_116 (by decide) rfl ?_
                      exact v_zret C rfl dX6_canCarry_117 (by rw [hX]; exact fI_of (bI_f (fun q => q.2.elim (fun q => c17 q) (fun q => q.2 i (by omega) (by omega) (by rw [← ev6_1]; simp [blkP, gbP, c57, c65, c78, c113])))) rfl)
                  · skip
                    refine v_iconst (v := 1) C dX6_canCarry_81 (by decide) rfl ?_
                    refine v_goto (tgt := 86) C dX6_canCarry_82 (by decide) ?_
                    refine v_icmp_eq (tgt := 93) C dX6_canCarry_86 (by decide) rfl (fun _ => ?_) (fun q => absurd (by decide) q)
                    refine v_iconst (v := 0) C dX6_canCarry_93 (by decide) rfl ?_
                    refine v_istore (lv' := [(5, .int 0), (4, .int (nI i)), (3, .int v6_1), (0, .ref 0), (1, .int (nI p)), (2, .int r)]) C dX6_canCarry_94 (Nat.le_of_ble_eq_true rfl) rfl rfl ?_
                    refine v_iload C dX6_canCarry_96 rfl rfl ?_
                    refine v_if_eq (tgt := 118) C dX6_canCarry_98 (by decide) rfl (fun _ => ?_) (fun q => absurd (by decide) q)
                    refine v_iinc (lv' := [(4, .int (nI (i + 1))), (5, .int 0), (3, .int v6_1), (0, .ref 0), (1, .int (nI p)), (2, .int r)]) C dX6_canCarry_118 rfl (nI_inc i) (Nat.le_of_ble_eq_true rfl) rfl rfl ?_
                    refine v_goto (tgt := 48) C dX6_canCarry_121 (by decide) ?_
                    exact V.sub [0, 2, 3, 4, 5] rfl (ih (i + 1)  (by omega) (by omega)  (by intro g h3 h4; exact (Classical.em (g = i)).elim (fun h5 => by rw [h5, ← ev6_1]; simp [blkP, gbP, c57, c65, c78]) (fun h5 => hb g h3 (by omega))) (by omega))
        exact V.sub [0, 1, 2, 3, 4] rfl (lp48 (3 + 1) 1  (by omega) (by omega)  (by intro g h3 h4; omega) (by omega))
      · skip
        refine v_iconst (v := 0) C dX6_canCarry_43 (by decide) rfl ?_
        exact v_zret C rfl dX6_canCarry_44 (by rw [hX]; exact fI_of (by first | exact bI_t (by rw [carP, ← ev6_1]; simp [c9, c17, c40]; done) | exact bI_f (by rw [carP, ← ev6_1]; simp [c9, c17, c40]; done)) rfl)
    · skip
      refine v_iconst (v := 1) C dX6_canCarry_20 (by decide) rfl ?_
      exact v_zret C rfl dX6_canCarry_21 (by rw [hX]; exact fI_of (bI_t ⟨by rw [← ev6_1]; exact c9, Or.inl c17⟩) rfl)
  · skip
    refine v_iconst (v := 0) C dX6_canCarry_12 (by decide) rfl ?_
    exact v_zret C rfl dX6_canCarry_13 (by rw [hX]; exact fI_of (by first | exact bI_t (by rw [carP, ← ev6_1]; simp [c9]; done) | exact bI_f (by rw [carP, ← ev6_1]; simp [c9]; done)) rfl)
end
section
/-! the check's class: years -/
def ageS (ag : Nat → Int32) : Nat → Int32 := fun p => ag p + (if ag p < 99 then 1 else 0)
def fauS (kd : Nat → Int32) (y : Int32) (ft : Nat → Int32) : Nat → Int32 := fun p => ft p - (if y - y / 10 * 10 = 0 ∧ ¬ kd p = 3 ∧ 0 < ft p then 1 else 0)
def yrP (σ : St) (q : Nat) : St := setR (setR (s2 σ 0 10 (σ 0 10 + 1)) 7 (pre q (ageS (σ 7)) (σ 7))) 6 (pre q (fauS (σ 4) (σ 0 10 + 1) (σ 6)) (σ 6))
def yrs (n : Nat) (σ : St) : Nat → St
  | 0 => σ
  | k + 1 => yrP (yrs n σ k) n
theorem yrP_0 (σ : St) : yrP σ 0 = s2 σ 0 10 (σ 0 10 + 1) := by
  funext a
  simp only [yrP, pre_0, setR]
  by_cases h6 : a = 6
  · subst h6; simp [s2]
  · by_cases h7 : a = 7
    · subst h7; simp [s2]
    · simp [h6, h7]
theorem yrP_6 (σ : St) (q : Nat) : yrP σ q 6 = pre q (fauS (σ 4) (σ 0 10 + 1) (σ 6)) (σ 6) := by simp [yrP, setR]
theorem yrP_7 (σ : St) (q : Nat) : yrP σ q 7 = pre q (ageS (σ 7)) (σ 7) := by simp [yrP, setR]
theorem yrP_o (σ : St) (q a : Nat) (h6 : a ≠ 6) (h7 : a ≠ 7) (h0 : a ≠ 0) : yrP σ q a = σ a := by simp [yrP, setR, h6, h7, s2, h0]
theorem yrP_y (σ : St) (q : Nat) : yrP σ q 0 10 = σ 0 10 + 1 := by simp [yrP, setR, s2, upd]
theorem yrP_z (σ : St) (q j : Nat) (h : j ≠ 10) : yrP σ q 0 j = σ 0 j := by simp [yrP, setR, s2, upd, h]
theorem yrP_step {σ : St} {q : Nat} {v1 v2 : Int32} (h1 : v1 = ageS (σ 7) q) (h2 : v2 = fauS (σ 4) (σ 0 10 + 1) (σ 6) q) : s2 (s2 (yrP σ q) 7 q v1) 6 q v2 = yrP σ (q + 1) := by
  funext a
  by_cases h6 : a = 6
  · subst h6
    rw [s2_eq, s2_ne (by decide), yrP_6, yrP_6, pre_upd _ _ _ h2]
  · rw [s2_ne h6]
    by_cases h7 : a = 7
    · subst h7
      rw [s2_eq, yrP_7, yrP_7, pre_upd _ _ _ h1]
    · rw [s2_ne h7]
      by_cases h0 : a = 0
      · subst h0; simp [yrP, setR]
      · rw [yrP_o _ _ _ h6 h7 h0, yrP_o _ _ _ h6 h7 h0]
theorem yrs_o (n : Nat) (σ : St) (a : Nat) (h6 : a ≠ 6) (h7 : a ≠ 7) (h0 : a ≠ 0) : ∀ k, yrs n σ k a = σ a
  | 0 => rfl
  | k + 1 => by rw [yrs, yrP_o _ _ _ h6 h7 h0, yrs_o n σ a h6 h7 h0 k]
theorem yrs_z (n : Nat) (σ : St) (j : Nat) (h : j ≠ 10) : ∀ k, yrs n σ k 0 j = σ 0 j
  | 0 => rfl
  | k + 1 => by rw [yrs, yrP_z _ _ _ h, yrs_z n σ j h k]
theorem kX6_goes (n m : Nat) (σ : St) (hn : σ 0 8 = nI n) (h7 : n ≤ 7) (hm : m < 1000) : Ct yX6_goes cX6_goes 4 none 0 [.ref 0, .int (nI m)] σ (fV (yrs n σ m)) := by
  refine ct_of plX6 rfl (Nat.le_of_ble_eq_true rfl) (fun X hX C => ?_)
  show V X 0 [(0, .ref 0), (1, .int (nI m))] [] σ
  refine v_iconst (v := 0) C dX6_goes_0 (by decide) rfl ?_
  refine v_istore_n (lv' := [(2, .int 0), (0, .ref 0), (1, .int (nI m))]) C dX6_goes_1 rfl (Nat.le_of_ble_eq_true rfl) rfl rfl ?_
  have lp2 : ∀ (k i : Nat)  (τ : St), m < i + k → i ≤ m → τ = yrs n σ i → V X 2 [(2, .int (nI i)), (0, .ref 0), (1, .int (nI m))] [] τ := by
    intro k
    induction k with
    | zero => intro i  τ h1 h2; omega
    | succ k ih2 =>
      intro i  τ h1 h2  eτ
      refine v_iload_n C dX6_goes_2 rfl rfl rfl ?_
      refine v_iload_n C dX6_goes_3 rfl rfl rfl ?_
      refine v_icmp_ge (tgt := 107) C dX6_goes_4 (by decide) rfl (fun c4 => ?_) (fun c4 => ?_)
      · skip
        have c4 := mt (nI_ltI (a := i) (b := m) (by omega) (by omega)).mpr c4
        exact v_vret C dX6_goes_107 (by rw [hX]; exact fV_of (by rw [eτ, show i = m by omega]))
      · skip
        have c4 := (nI_ltI (a := i) (b := m) (by omega) (by omega)).mp c4
        refine v_aload_n C dX6_goes_7 rfl rfl rfl ?_
        refine v_dup C dX6_goes_8 rfl rfl ?_
        refine v_getI C (Nat.le_of_ble_eq_true rfl) rfl rfl hinX6 10 (Nat.le_of_ble_eq_true rfl) lkX6_128 rfl dX6_goes_9 rfl ?_
        refine v_iconst (v := 1) C dX6_goes_12 (by decide) rfl ?_
        refine v_iadd C dX6_goes_13 rfl ?_
        refine v_put (ty := .int) C (Nat.le_of_ble_eq_true rfl) rfl rfl hinX6 tyX6_ok nmX6 10 (Nat.le_of_ble_eq_true rfl) lkX6_128 rfl (by decide +kernel) rfl rfl rfl dX6_goes_14 rfl ?_
        refine V.nm (fun τ14_1 eτ14_1 => ?_)
        refine v_iconst (v := 0) C dX6_goes_17 (by decide) rfl ?_
        refine v_istore_n (lv' := [(3, .int 0), (2, .int (nI i)), (0, .ref 0), (1, .int (nI m))]) C dX6_goes_18 rfl (Nat.le_of_ble_eq_true rfl) rfl rfl ?_
        have lp19 : ∀ (k q : Nat)  (υ : St), n < q + k → q ≤ n → υ = yrP (yrs n σ i) q → V X 19 [(3, .int (nI q)), (2, .int (nI i)), (0, .ref 0), (1, .int (nI m))] [] υ := by
          intro k
          induction k with
          | zero => intro q  υ h1 h2; omega
          | succ k ih19 =>
            intro q  υ h1 h2  eυ
            have hnu : υ 0 8 = nI n := by rw [eυ, yrP_z _ _ _ (by decide), yrs_z _ _ _ (by decide), hn]
            have f7 : υ 7 q = yrs n σ i 7 q := by rw [eυ, yrP_7, pre_at]
            have f6 : υ 6 q = yrs n σ i 6 q := by rw [eυ, yrP_6, pre_at]
            have f4 : υ 4 = yrs n σ i 4 := by rw [eυ, yrP_o _ _ _ (by decide) (by decide) (by decide)]
            have f10 : υ 0 10 = yrs n σ i 0 10 + 1 := by rw [eυ, yrP_y]
            refine v_iload_n C dX6_goes_19 rfl rfl rfl ?_
            refine v_aload_n C dX6_goes_20 rfl rfl rfl ?_
            refine v_getI C (Nat.le_of_ble_eq_true rfl) rfl rfl hinX6 8 (Nat.le_of_ble_eq_true rfl) lkX6_65 rfl dX6_goes_21 rfl ?_
            refine V.tp hnu ?_
            refine v_icmp_ge (tgt := 101) C dX6_goes_24 (by decide) rfl (fun c24 => ?_) (fun c24 => ?_)
            · skip
              have c24 := mt (nI_ltI (a := q) (b := n) (by omega) (by omega)).mpr c24
              refine v_iinc (lv' := [(2, .int (nI (i + 1))), (3, .int (nI q)), (0, .ref 0), (1, .int (nI m))]) C dX6_goes_101 rfl (nI_inc i) (Nat.le_of_ble_eq_true rfl) rfl rfl ?_
              refine v_goto (tgt := 2) C dX6_goes_104 (by decide) ?_
              exact V.sub [0, 2, 3] rfl (ih2 (i + 1)  _ (by omega) (by omega)  (by rw [eυ, show q = n by omega]; rfl))
            · skip
              have c24 := (nI_ltI (a := q) (b := n) (by omega) (by omega)).mp c24
              refine v_aload_n C dX6_goes_27 rfl rfl rfl ?_
              refine v_getR C (Nat.le_of_ble_eq_true rfl) rfl rfl hinX6 6 (Nat.le_of_ble_eq_true rfl) lkX6_28 rfl dX6_goes_28 rfl ?_
              refine v_iload_n C dX6_goes_31 rfl rfl rfl ?_
              refine v_dup2 C dX6_goes_32 rfl rfl rfl ?_
              refine v_iald (i := q) C (Nat.le_of_ble_eq_true rfl) rfl rfl (by omega) (by decide) dX6_goes_33 rfl ?_
              refine v_aload_n C dX6_goes_34 rfl rfl rfl ?_
              refine v_getR C (Nat.le_of_ble_eq_true rfl) rfl rfl hinX6 6 (Nat.le_of_ble_eq_true rfl) lkX6_28 rfl dX6_goes_35 rfl ?_
              refine v_iload_n C dX6_goes_38 rfl rfl rfl ?_
              refine v_iald (i := q) C (Nat.le_of_ble_eq_true rfl) rfl rfl (by omega) (by decide) dX6_goes_39 rfl ?_
              refine v_bipush (v := 99) C dX6_goes_40 (by decide) rfl ?_
              refine v_icmp_ge (tgt := 49) C dX6_goes_42 (by decide) rfl (fun c42 => ?_) (fun c42 => ?_)
              · skip
                refine v_iconst (v := 0) C dX6_goes_49 (by decide) rfl ?_
                refine v_iadd C dX6_goes_50 rfl ?_
                refine v_iast (i := q) C (Nat.le_of_ble_eq_true rfl) rfl rfl (by omega) (by decide) dX6_goes_51 rfl ?_
                refine V.nm (fun τ51_2 eτ51_2 => ?_)
                have g6 : τ51_2 6 q = yrs n σ i 6 q := by rw [eτ51_2, s2_ne (by decide), f6]
                have g10 : τ51_2 0 10 = yrs n σ i 0 10 + 1 := by rw [eτ51_2, s2_ne (by decide), f10]
                have g4 : τ51_2 4 = yrs n σ i 4 := by rw [eτ51_2, s2_ne (by decide), f4]
                refine v_aload_n C dX6_goes_52 rfl rfl rfl ?_
                refine v_getR C (Nat.le_of_ble_eq_true rfl) rfl rfl hinX6 5 (Nat.le_of_ble_eq_true rfl) lkX6_25 rfl dX6_goes_53 rfl ?_
                refine v_iload_n C dX6_goes_56 rfl rfl rfl ?_
                refine v_dup2 C dX6_goes_57 rfl rfl rfl ?_
                refine v_iald (i := q) C (Nat.le_of_ble_eq_true rfl) rfl rfl (by omega) (by decide) dX6_goes_58 rfl ?_
                refine v_aload_n C dX6_goes_59 rfl rfl rfl ?_
                refine v_getI C (Nat.le_of_ble_eq_true rfl) rfl rfl hinX6 10 (Nat.le_of_ble_eq_true rfl) lkX6_128 rfl dX6_goes_60 rfl ?_
                refine v_bipush (v := 10) C dX6_goes_63 (by decide) rfl ?_
                refine v_irem C dX6_goes_65 (by decide) rfl ?_
                refine v_if_ne (tgt := 92) C dX6_goes_66 (by decide) rfl (fun c66 => ?_) (fun c66 => ?_)
                · skip
                  refine v_iconst (v := 0) C dX6_goes_92 (by decide) rfl ?_
                  refine v_isub C dX6_goes_93 rfl ?_
                  refine v_iast (i := q) C (Nat.le_of_ble_eq_true rfl) rfl rfl (by omega) (by decide) dX6_goes_94 rfl ?_
                  refine V.nm (fun τ94_3 eτ94_3 => ?_)
                  refine v_iinc (lv' := [(3, .int (nI (q + 1))), (2, .int (nI i)), (0, .ref 0), (1, .int (nI m))]) C dX6_goes_95 rfl (nI_inc q) (Nat.le_of_ble_eq_true rfl) rfl rfl ?_
                  refine v_goto (tgt := 19) C dX6_goes_98 (by decide) ?_
                  exact V.sub [0, 1, 2, 3] rfl (ih19 (q + 1)  _ (by omega) (by omega)  (eτ94_3.trans ((congrArg (fun z => s2 z 6 q _) (eτ51_2.trans (congrArg (fun z => s2 z 7 q _) eυ))).trans (yrP_step (by simp only [ageS]; rw [← f7]; simp [c42]) (by simp only [fauS]; rw [← g6, ← g10, ← g4]; simp [c66])))))
                · skip
                  refine v_aload_n C dX6_goes_69 rfl rfl rfl ?_
                  refine v_getR C (Nat.le_of_ble_eq_true rfl) rfl rfl hinX6 3 (Nat.le_of_ble_eq_true rfl) lkX6_19 rfl dX6_goes_70 rfl ?_
                  refine v_iload_n C dX6_goes_73 rfl rfl rfl ?_
                  refine v_iald (i := q) C (Nat.le_of_ble_eq_true rfl) rfl rfl (by omega) (by decide) dX6_goes_74 rfl ?_
                  refine v_iconst (v := 3) C dX6_goes_75 (by decide) rfl ?_
                  refine v_icmp_eq (tgt := 92) C dX6_goes_76 (by decide) rfl (fun c76 => ?_) (fun c76 => ?_)
                  · skip
                    refine v_iconst (v := 0) C dX6_goes_92 (by decide) rfl ?_
                    refine v_isub C dX6_goes_93 rfl ?_
                    refine v_iast (i := q) C (Nat.le_of_ble_eq_true rfl) rfl rfl (by omega) (by decide) dX6_goes_94 rfl ?_
                    refine V.nm (fun τ94_4 eτ94_4 => ?_)
                    refine v_iinc (lv' := [(3, .int (nI (q + 1))), (2, .int (nI i)), (0, .ref 0), (1, .int (nI m))]) C dX6_goes_95 rfl (nI_inc q) (Nat.le_of_ble_eq_true rfl) rfl rfl ?_
                    refine v_goto (tgt := 19) C dX6_goes_98 (by decide) ?_
                    exact V.sub [0, 1, 2, 3] rfl (ih19 (q + 1)  _ (by omega) (by omega)  (eτ94_4.trans ((congrArg (fun z => s2 z 6 q _) (eτ51_2.trans (congrArg (fun z => s2 z 7 q _) eυ))).trans (yrP_step (by simp only [ageS]; rw [← f7]; simp [c42]) (by simp only [fauS]; rw [← g6, ← g10, ← g4]; simp [c66, c76])))))
                  · skip
                    refine v_aload_n C dX6_goes_79 rfl rfl rfl ?_
                    refine v_getR C (Nat.le_of_ble_eq_true rfl) rfl rfl hinX6 5 (Nat.le_of_ble_eq_true rfl) lkX6_25 rfl dX6_goes_80 rfl ?_
                    refine v_iload_n C dX6_goes_83 rfl rfl rfl ?_
                    refine v_iald (i := q) C (Nat.le_of_ble_eq_true rfl) rfl rfl (by omega) (by decide) dX6_goes_84 rfl ?_
                    refine v_if_le (tgt := 92) C dX6_goes_85 (by decide) rfl (fun c85 => ?_) (fun c85 => ?_)
                    · skip
                      refine v_iconst (v := 0) C dX6_goes_92 (by decide) rfl ?_
                      refine v_isub C dX6_goes_93 rfl ?_
                      refine v_iast (i := q) C (Nat.le_of_ble_eq_true rfl) rfl rfl (by omega) (by decide) dX6_goes_94 rfl ?_
                      refine V.nm (fun τ94_5 eτ94_5 => ?_)
                      refine v_iinc (lv' := [(3, .int (nI (q + 1))), (2, .int (nI i)), (0, .ref 0), (1, .int (nI m))]) C dX6_goes_95 rfl (nI_inc q) (Nat.le_of_ble_eq_true rfl) rfl rfl ?_
                      refine v_goto (tgt := 19) C dX6_goes_98 (by decide) ?_
                      exact V.sub [0, 1, 2, 3] rfl (ih19 (q + 1)  _ (by omega) (by omega)  (eτ94_5.trans ((congrArg (fun z => s2 z 6 q _) (eτ51_2.trans (congrArg (fun z => s2 z 7 q _) eυ))).trans (yrP_step (by simp only [ageS]; rw [← f7]; simp [c42]) (by simp only [fauS]; rw [← g6, ← g10, ← g4]; simp [c66, c76, c85])))))
                    · skip
                      refine v_iconst (v := 1) C dX6_goes_88 (by decide) rfl ?_
                      refine v_goto (tgt := 93) C dX6_goes_89 (by decide) ?_
                      refine v_isub C dX6_goes_93 rfl ?_
                      refine v_iast (i := q) C (Nat.le_of_ble_eq_true rfl) rfl rfl (by omega) (by decide) dX6_goes_94 rfl ?_
                      refine V.nm (fun τ94_6 eτ94_6 => ?_)
                      refine v_iinc (lv' := [(3, .int (nI (q + 1))), (2, .int (nI i)), (0, .ref 0), (1, .int (nI m))]) C dX6_goes_95 rfl (nI_inc q) (Nat.le_of_ble_eq_true rfl) rfl rfl ?_
                      refine v_goto (tgt := 19) C dX6_goes_98 (by decide) ?_
                      exact V.sub [0, 1, 2, 3] rfl (ih19 (q + 1)  _ (by omega) (by omega)  (eτ94_6.trans ((congrArg (fun z => s2 z 6 q _) (eτ51_2.trans (congrArg (fun z => s2 z 7 q _) eυ))).trans (yrP_step (by simp only [ageS]; rw [← f7]; simp [c42]) (by simp only [fauS]; rw [← g6, ← g10, ← g4]; simp [c66, c76, c85])))))
              · skip
                refine v_iconst (v := 1) C dX6_goes_45 (by decide) rfl ?_
                refine v_goto (tgt := 50) C dX6_goes_46 (by decide) ?_
                refine v_iadd C dX6_goes_50 rfl ?_
                refine v_iast (i := q) C (Nat.le_of_ble_eq_true rfl) rfl rfl (by omega) (by decide) dX6_goes_51 rfl ?_
                refine V.nm (fun τ51_7 eτ51_7 => ?_)
                have g6 : τ51_7 6 q = yrs n σ i 6 q := by rw [eτ51_7, s2_ne (by decide), f6]
                have g10 : τ51_7 0 10 = yrs n σ i 0 10 + 1 := by rw [eτ51_7, s2_ne (by decide), f10]
                have g4 : τ51_7 4 = yrs n σ i 4 := by rw [eτ51_7, s2_ne (by decide), f4]
                refine v_aload_n C dX6_goes_52 rfl rfl rfl ?_
                refine v_getR C (Nat.le_of_ble_eq_true rfl) rfl rfl hinX6 5 (Nat.le_of_ble_eq_true rfl) lkX6_25 rfl dX6_goes_53 rfl ?_
                refine v_iload_n C dX6_goes_56 rfl rfl rfl ?_
                refine v_dup2 C dX6_goes_57 rfl rfl rfl ?_
                refine v_iald (i := q) C (Nat.le_of_ble_eq_true rfl) rfl rfl (by omega) (by decide) dX6_goes_58 rfl ?_
                refine v_aload_n C dX6_goes_59 rfl rfl rfl ?_
                refine v_getI C (Nat.le_of_ble_eq_true rfl) rfl rfl hinX6 10 (Nat.le_of_ble_eq_true rfl) lkX6_128 rfl dX6_goes_60 rfl ?_
                refine v_bipush (v := 10) C dX6_goes_63 (by decide) rfl ?_
                refine v_irem C dX6_goes_65 (by decide) rfl ?_
                refine v_if_ne (tgt := 92) C dX6_goes_66 (by decide) rfl (fun c66 => ?_) (fun c66 => ?_)
                · skip
                  refine v_iconst (v := 0) C dX6_goes_92 (by decide) rfl ?_
                  refine v_isub C dX6_goes_93 rfl ?_
                  refine v_iast (i := q) C (Nat.le_of_ble_eq_true rfl) rfl rfl (by omega) (by decide) dX6_goes_94 rfl ?_
                  refine V.nm (fun τ94_8 eτ94_8 => ?_)
                  refine v_iinc (lv' := [(3, .int (nI (q + 1))), (2, .int (nI i)), (0, .ref 0), (1, .int (nI m))]) C dX6_goes_95 rfl (nI_inc q) (Nat.le_of_ble_eq_true rfl) rfl rfl ?_
                  refine v_goto (tgt := 19) C dX6_goes_98 (by decide) ?_
                  exact V.sub [0, 1, 2, 3] rfl (ih19 (q + 1)  _ (by omega) (by omega)  (eτ94_8.trans ((congrArg (fun z => s2 z 6 q _) (eτ51_7.trans (congrArg (fun z => s2 z 7 q _) eυ))).trans (yrP_step (by simp only [ageS]; rw [← f7]; simp [c42]) (by simp only [fauS]; rw [← g6, ← g10, ← g4]; simp [c66])))))
                · skip
                  refine v_aload_n C dX6_goes_69 rfl rfl rfl ?_
                  refine v_getR C (Nat.le_of_ble_eq_true rfl) rfl rfl hinX6 3 (Nat.le_of_ble_eq_true rfl) lkX6_19 rfl dX6_goes_70 rfl ?_
                  refine v_iload_n C dX6_goes_73 rfl rfl rfl ?_
                  refine v_iald (i := q) C (Nat.le_of_ble_eq_true rfl) rfl rfl (by omega) (by decide) dX6_goes_74 rfl ?_
                  refine v_iconst (v := 3) C dX6_goes_75 (by decide) rfl ?_
                  refine v_icmp_eq (tgt := 92) C dX6_goes_76 (by decide) rfl (fun c76 => ?_) (fun c76 => ?_)
                  · skip
                    refine v_iconst (v := 0) C dX6_goes_92 (by decide) rfl ?_
                    refine v_isub C dX6_goes_93 rfl ?_
                    refine v_iast (i := q) C (Nat.le_of_ble_eq_true rfl) rfl rfl (by omega) (by decide) dX6_goes_94 rfl ?_
                    refine V.nm (fun τ94_9 eτ94_9 => ?_)
                    refine v_iinc (lv' := [(3, .int (nI (q + 1))), (2, .int (nI i)), (0, .ref 0), (1, .int (nI m))]) C dX6_goes_95 rfl (nI_inc q) (Nat.le_of_ble_eq_true rfl) rfl rfl ?_
                    refine v_goto (tgt := 19) C dX6_goes_98 (by decide) ?_
                    exact V.sub [0, 1, 2, 3] rfl (ih19 (q + 1)  _ (by omega) (by omega)  (eτ94_9.trans ((congrArg (fun z => s2 z 6 q _) (eτ51_7.trans (congrArg (fun z => s2 z 7 q _) eυ))).trans (yrP_step (by simp only [ageS]; rw [← f7]; simp [c42]) (by simp only [fauS]; rw [← g6, ← g10, ← g4]; simp [c66, c76])))))
                  · skip
                    refine v_aload_n C dX6_goes_79 rfl rfl rfl ?_
                    refine v_getR C (Nat.le_of_ble_eq_true rfl) rfl rfl hinX6 5 (Nat.le_of_ble_eq_true rfl) lkX6_25 rfl dX6_goes_80 rfl ?_
                    refine v_iload_n C dX6_goes_83 rfl rfl rfl ?_
                    refine v_iald (i := q) C (Nat.le_of_ble_eq_true rfl) rfl rfl (by omega) (by decide) dX6_goes_84 rfl ?_
                    refine v_if_le (tgt := 92) C dX6_goes_85 (by decide) rfl (fun c85 => ?_) (fun c85 => ?_)
                    · skip
                      refine v_iconst (v := 0) C dX6_goes_92 (by decide) rfl ?_
                      refine v_isub C dX6_goes_93 rfl ?_
                      refine v_iast (i := q) C (Nat.le_of_ble_eq_true rfl) rfl rfl (by omega) (by decide) dX6_goes_94 rfl ?_
                      refine V.nm (fun τ94_10 eτ94_10 => ?_)
                      refine v_iinc (lv' := [(3, .int (nI (q + 1))), (2, .int (nI i)), (0, .ref 0), (1, .int (nI m))]) C dX6_goes_95 rfl (nI_inc q) (Nat.le_of_ble_eq_true rfl) rfl rfl ?_
                      refine v_goto (tgt := 19) C dX6_goes_98 (by decide) ?_
                      exact V.sub [0, 1, 2, 3] rfl (ih19 (q + 1)  _ (by omega) (by omega)  (eτ94_10.trans ((congrArg (fun z => s2 z 6 q _) (eτ51_7.trans (congrArg (fun z => s2 z 7 q _) eυ))).trans (yrP_step (by simp only [ageS]; rw [← f7]; simp [c42]) (by simp only [fauS]; rw [← g6, ← g10, ← g4]; simp [c66, c76, c85])))))
                    · skip
                      refine v_iconst (v := 1) C dX6_goes_88 (by decide) rfl ?_
                      refine v_goto (tgt := 93) C dX6_goes_89 (by decide) ?_
                      refine v_isub C dX6_goes_93 rfl ?_
                      refine v_iast (i := q) C (Nat.le_of_ble_eq_true rfl) rfl rfl (by omega) (by decide) dX6_goes_94 rfl ?_
                      refine V.nm (fun τ94_11 eτ94_11 => ?_)
                      refine v_iinc (lv' := [(3, .int (nI (q + 1))), (2, .int (nI i)), (0, .ref 0), (1, .int (nI m))]) C dX6_goes_95 rfl (nI_inc q) (Nat.le_of_ble_eq_true rfl) rfl rfl ?_
                      refine v_goto (tgt := 19) C dX6_goes_98 (by decide) ?_
                      exact V.sub [0, 1, 2, 3] rfl (ih19 (q + 1)  _ (by omega) (by omega)  (eτ94_11.trans ((congrArg (fun z => s2 z 6 q _) (eτ51_7.trans (congrArg (fun z => s2 z 7 q _) eυ))).trans (yrP_step (by simp only [ageS]; rw [← f7]; simp [c42]) (by simp only [fauS]; rw [← g6, ← g10, ← g4]; simp [c66, c76, c85])))))
        exact V.sub [0, 1, 2, 3] rfl (lp19 (n + 1) 0  _ (by omega) (by omega)  (by rw [eτ14_1, eτ, yrP_0]))
  exact V.sub [0, 1, 2] rfl (lp2 (m + 1) 0  _ (by omega) (by omega)  (rfl))
/-! the check's class: what is kept, and put back -/
def cpK (σ : St) (c k i : Nat) : St := s2 (setR σ 13 (fun j => if c ≤ j ∧ j < c + i then σ k (j - c) else σ 13 j)) 0 21 (nI (c + i))
def cpB (σ : St) (c k i : Nat) : St := s2 (setR σ k (pre i (fun j => σ 13 (c + j)) (σ k))) 0 21 (nI (c + i))
theorem cpK_0 (σ : St) (c k : Nat) (h : σ 0 21 = nI c) : cpK σ c k 0 = σ := by
  funext a
  simp only [cpK]
  by_cases h0 : a = 0
  · subst h0
    rw [s2_eq]
    funext b
    by_cases h1 : b = 21
    · subst h1; simp [upd, h]
    · simp [upd, h1, setR]
  · rw [s2_ne h0]
    by_cases h13 : a = 13
    · subst h13
      funext j
      simp only [setR, if_pos]
      by_cases g : c ≤ j ∧ j < c + 0
      · omega
      · rw [if_neg g]
    · simp [setR, h13]
theorem cpB_0 (σ : St) (c k : Nat) (hk : k ≠ 0) (h : σ 0 21 = nI c) : cpB σ c k 0 = σ := by
  funext a
  simp only [cpB, pre_0]
  by_cases h0 : a = 0
  · subst h0
    rw [s2_eq]
    funext b
    by_cases h1 : b = 21
    · subst h1; simp [upd, h]
    · simp [upd, h1, setR, Ne.symm hk]
  · rw [s2_ne h0]
    by_cases h1 : a = k
    · subst h1; simp [setR]
    · simp [setR, h1]
theorem cpK_step (σ : St) (c k i : Nat) (hk : k ≠ 0) : s2 (s2 (cpK σ c k i) 13 (c + i) (σ k i)) 0 21 (nI (c + (i + 1))) = cpK σ c k (i + 1) := by
  funext a
  simp only [cpK]
  by_cases h0 : a = 0
  · subst h0
    funext b
    simp only [s2_get, setR]
    by_cases h1 : b = 21 <;> simp [h1]
  · rw [s2_ne h0, s2_ne h0]
    by_cases h13 : a = 13
    · subst h13
      funext j
      simp only [s2_get, setR, if_pos]
      by_cases g : j = c + i
      · subst g
        simp [show c ≤ c + i by omega, show c + i < c + (i + 1) by omega]
      · by_cases g2 : c ≤ j ∧ j < c + i
        · simp [g, g2, show c ≤ j ∧ j < c + (i + 1) by omega]
        · rw [if_neg (fun q => g q.2), if_neg (fun q => absurd q.1 (by decide)), if_neg g2, if_neg (by omega)]
    · rw [s2_ne h13, s2_ne h0]; simp [setR, h13]
theorem cpB_step (σ : St) (c k i : Nat) (hk : k ≠ 0) (hk2 : k ≠ 13) : s2 (s2 (cpB σ c k i) k i (σ 13 (c + i))) 0 21 (nI (c + (i + 1))) = cpB σ c k (i + 1) := by
  funext a
  simp only [cpB]
  by_cases h0 : a = 0
  · subst h0
    funext b
    simp only [s2_get, setR]
    by_cases h1 : b = 21 <;> simp [h1, Ne.symm hk]
  · rw [s2_ne h0, s2_ne h0]
    by_cases h1 : a = k
    · subst h1
      rw [s2_eq, s2_ne h0]
      simp only [setR, if_pos]
      exact pre_upd i _ _ rfl
    · rw [s2_ne h1, s2_ne h0]; simp [setR, h1]
theorem cpK_21 (σ : St) (c k i : Nat) : cpK σ c k i 0 21 = nI (c + i) := by simp [cpK, s2, upd]
theorem cpB_21 (σ : St) (c k i : Nat) : cpB σ c k i 0 21 = nI (c + i) := by simp [cpB, s2, upd]
theorem cpK_z (σ : St) (c k i j : Nat) (h : j ≠ 21) : cpK σ c k i 0 j = σ 0 j := by simp [cpK, s2, upd, h, setR]
theorem cpB_z (σ : St) (c k i j : Nat) (hk : k ≠ 0) (h : j ≠ 21) : cpB σ c k i 0 j = σ 0 j := by simp [cpB, s2, upd, h, setR, Ne.symm hk]
theorem cpK_o (σ : St) (c k i a : Nat) (h : a ≠ 0) (h2 : a ≠ 13) : cpK σ c k i a = σ a := by simp [cpK, s2, h, setR, h2]
theorem cpB_o (σ : St) (c k i a : Nat) (h : a ≠ 0) (h2 : a ≠ k) : cpB σ c k i a = σ a := by simp [cpB, s2, h, setR, h2]
theorem cpB_k (σ : St) (c k i : Nat) (h : k ≠ 0) : cpB σ c k i k = pre i (fun j => σ 13 (c + j)) (σ k) := by simp [cpB, s2, h, setR]
theorem kX6_passesK (r N c : Nat) (σ : St) (hr : r < NC) (hs : shp r = .inr N) (hr0 : r ≠ 0) (hr13 : r ≠ 13) (hk : σ 0 20 = 1) (hc : σ 0 21 = nI c) (hN : c + N ≤ 100) : Ct yX6_passes cX6_passes 3 none 0 [.ref 0, .ref r] σ (fV (cpK σ c r N)) := by
  refine ct_of plX6 rfl (Nat.le_of_ble_eq_true rfl) (fun X hX C => ?_)
  show V X 0 [(0, .ref 0), (1, .ref r)] [] σ
  refine v_iconst (v := 0) C dX6_passes_0 (by decide) rfl ?_
  refine v_istore_n (lv' := [(2, .int 0), (0, .ref 0), (1, .ref r)]) C dX6_passes_1 rfl (Nat.le_of_ble_eq_true rfl) rfl rfl ?_
  have lp2 : ∀ (k i : Nat)  (τ : St), N < i + k → i ≤ N → τ = cpK σ c r i → V X 2 [(2, .int (nI i)), (0, .ref 0), (1, .ref r)] [] τ := by
    intro k
    induction k with
    | zero => intro i  τ h1 h2; omega
    | succ k ih2 =>
      intro i  τ h1 h2  eτ
      have hc21 : τ 0 21 = nI (c + i) := by rw [eτ]; exact cpK_21 _ _ _ _
      have hk20 : τ 0 20 = 1 := by rw [eτ, cpK_z _ _ _ _ _ (by decide), hk]
      have hrr : τ r = σ r := by rw [eτ, cpK_o _ _ _ _ _ hr0 hr13]
      refine v_iload_n C dX6_passes_2 rfl rfl rfl ?_
      refine v_aload_n C dX6_passes_3 rfl rfl rfl ?_
      refine v_alen (v := nI N) C hr hs rfl dX6_passes_4 rfl ?_
      refine v_icmp_ge (tgt := 58) C dX6_passes_5 (by decide) rfl (fun c5 => ?_) (fun c5 => ?_)
      · skip
        have c5 := mt (nI_ltI (a := i) (b := N) (by omega) (by omega)).mpr c5
        exact v_vret C dX6_passes_58 (by rw [hX]; exact fV_of (by rw [eτ, show i = N by omega]))
      · skip
        have c5 := (nI_ltI (a := i) (b := N) (by omega) (by omega)).mp c5
        refine v_aload_n C dX6_passes_8 rfl rfl rfl ?_
        refine v_getI C (Nat.le_of_ble_eq_true rfl) rfl rfl hinX6 20 (Nat.le_of_ble_eq_true rfl) lkX6_146 rfl dX6_passes_9 rfl ?_
        refine V.tp hk20 ?_
        refine v_if_eq (tgt := 30) C dX6_passes_12 (by decide) rfl (fun q => absurd q (by decide)) (fun _ => ?_)
        refine v_aload_n C dX6_passes_15 rfl rfl rfl ?_
        refine v_getR C (Nat.le_of_ble_eq_true rfl) rfl rfl hinX6 18 (Nat.le_of_ble_eq_true rfl) lkX6_46 rfl dX6_passes_16 rfl ?_
        refine v_aload_n C dX6_passes_19 rfl rfl rfl ?_
        refine v_getI C (Nat.le_of_ble_eq_true rfl) rfl rfl hinX6 21 (Nat.le_of_ble_eq_true rfl) lkX6_150 rfl dX6_passes_20 rfl ?_
        refine V.tp hc21 ?_
        refine v_aload_n C dX6_passes_23 rfl rfl rfl ?_
        refine v_iload_n C dX6_passes_24 rfl rfl rfl ?_
        refine v_iald (i := i) C hr hs rfl (by omega) (by omega) dX6_passes_25 rfl ?_
        refine v_iast (i := c + i) C (Nat.le_of_ble_eq_true rfl) rfl rfl (by omega) (by decide) dX6_passes_26 rfl ?_
        refine V.nm (fun τ26_1 eτ26_1 => ?_)
        have ht21 : τ26_1 0 21 = nI (c + i) := by rw [eτ26_1, s2_ne (by decide)]; exact hc21
        refine v_goto (tgt := 42) C dX6_passes_27 (by decide) ?_
        refine v_aload_n C dX6_passes_42 rfl rfl rfl ?_
        refine v_dup C dX6_passes_43 rfl rfl ?_
        refine v_getI C (Nat.le_of_ble_eq_true rfl) rfl rfl hinX6 21 (Nat.le_of_ble_eq_true rfl) lkX6_150 rfl dX6_passes_44 rfl ?_
        refine V.tp ht21 ?_
        refine v_iconst (v := 1) C dX6_passes_47 (by decide) rfl ?_
        refine v_iadd C dX6_passes_48 rfl ?_
        refine V.tp (nI_add (c + i) 1) ?_
        refine v_put (ty := .int) C (Nat.le_of_ble_eq_true rfl) rfl rfl hinX6 tyX6_ok nmX6 21 (Nat.le_of_ble_eq_true rfl) lkX6_150 rfl (by decide +kernel) rfl rfl rfl dX6_passes_49 rfl ?_
        refine V.nm (fun τ49_2 eτ49_2 => ?_)
        refine v_iinc (lv' := [(2, .int (nI (i + 1))), (0, .ref 0), (1, .ref r)]) C dX6_passes_52 rfl (nI_inc i) (Nat.le_of_ble_eq_true rfl) rfl rfl ?_
        refine v_goto (tgt := 2) C dX6_passes_55 (by decide) ?_
        exact V.sub [0, 1, 2] rfl (ih2 (i + 1)  _ (by omega) (by omega)  (by rw [eτ49_2, eτ26_1, hrr, eτ]; exact cpK_step σ c r i hr0))
  exact V.sub [0, 1, 2] rfl (lp2 (N + 1) 0  _ (by omega) (by omega)  ((cpK_0 σ c r hc).symm))
theorem kX6_passesB (r N c : Nat) (σ : St) (hr : r < NC) (hs : shp r = .inr N) (hr0 : r ≠ 0) (hr13 : r ≠ 13) (hk : σ 0 20 = 0) (hc : σ 0 21 = nI c) (hN : c + N ≤ 100) : Ct yX6_passes cX6_passes 3 none 0 [.ref 0, .ref r] σ (fV (cpB σ c r N)) := by
  refine ct_of plX6 rfl (Nat.le_of_ble_eq_true rfl) (fun X hX C => ?_)
  show V X 0 [(0, .ref 0), (1, .ref r)] [] σ
  refine v_iconst (v := 0) C dX6_passes_0 (by decide) rfl ?_
  refine v_istore_n (lv' := [(2, .int 0), (0, .ref 0), (1, .ref r)]) C dX6_passes_1 rfl (Nat.le_of_ble_eq_true rfl) rfl rfl ?_
  have lp2 : ∀ (k i : Nat)  (τ : St), N < i + k → i ≤ N → τ = cpB σ c r i → V X 2 [(2, .int (nI i)), (0, .ref 0), (1, .ref r)] [] τ := by
    intro k
    induction k with
    | zero => intro i  τ h1 h2; omega
    | succ k ih2 =>
      intro i  τ h1 h2  eτ
      have hc21 : τ 0 21 = nI (c + i) := by rw [eτ]; exact cpB_21 _ _ _ _
      have hk20 : τ 0 20 = 0 := by rw [eτ, cpB_z _ _ _ _ _ hr0 (by decide), hk]
      have hrr : τ 13 = σ 13 := by rw [eτ, cpB_o _ _ _ _ _ (by decide) (Ne.symm hr13)]
      refine v_iload_n C dX6_passes_2 rfl rfl rfl ?_
      refine v_aload_n C dX6_passes_3 rfl rfl rfl ?_
      refine v_alen (v := nI N) C hr hs rfl dX6_passes_4 rfl ?_
      refine v_icmp_ge (tgt := 58) C dX6_passes_5 (by decide) rfl (fun c5 => ?_) (fun c5 => ?_)
      · skip
        have c5 := mt (nI_ltI (a := i) (b := N) (by omega) (by omega)).mpr c5
        exact v_vret C dX6_passes_58 (by rw [hX]; exact fV_of (by rw [eτ, show i = N by omega]))
      · skip
        have c5 := (nI_ltI (a := i) (b := N) (by omega) (by omega)).mp c5
        refine v_aload_n C dX6_passes_8 rfl rfl rfl ?_
        refine v_getI C (Nat.le_of_ble_eq_true rfl) rfl rfl hinX6 20 (Nat.le_of_ble_eq_true rfl) lkX6_146 rfl dX6_passes_9 rfl ?_
        refine V.tp hk20 ?_
        refine v_if_eq (tgt := 30) C dX6_passes_12 (by decide) rfl (fun _ => ?_) (fun q => absurd (by decide) q)
        refine v_aload_n C dX6_passes_30 rfl rfl rfl ?_
        refine v_iload_n C dX6_passes_31 rfl rfl rfl ?_
        refine v_aload_n C dX6_passes_32 rfl rfl rfl ?_
        refine v_getR C (Nat.le_of_ble_eq_true rfl) rfl rfl hinX6 18 (Nat.le_of_ble_eq_true rfl) lkX6_46 rfl dX6_passes_33 rfl ?_
        refine v_aload_n C dX6_passes_36 rfl rfl rfl ?_
        refine v_getI C (Nat.le_of_ble_eq_true rfl) rfl rfl hinX6 21 (Nat.le_of_ble_eq_true rfl) lkX6_150 rfl dX6_passes_37 rfl ?_
        refine V.tp hc21 ?_
        refine v_iald (i := c + i) C (Nat.le_of_ble_eq_true rfl) rfl rfl (by omega) (by decide) dX6_passes_40 rfl ?_
        refine v_iast (i := i) C hr hs rfl (by omega) (by omega) dX6_passes_41 rfl ?_
        refine V.nm (fun τ41_1 eτ41_1 => ?_)
        have ht21 : τ41_1 0 21 = nI (c + i) := by rw [eτ41_1, s2_ne (Ne.symm hr0)]; exact hc21
        refine v_aload_n C dX6_passes_42 rfl rfl rfl ?_
        refine v_dup C dX6_passes_43 rfl rfl ?_
        refine v_getI C (Nat.le_of_ble_eq_true rfl) rfl rfl hinX6 21 (Nat.le_of_ble_eq_true rfl) lkX6_150 rfl dX6_passes_44 rfl ?_
        refine V.tp ht21 ?_
        refine v_iconst (v := 1) C dX6_passes_47 (by decide) rfl ?_
        refine v_iadd C dX6_passes_48 rfl ?_
        refine V.tp (nI_add (c + i) 1) ?_
        refine v_put (ty := .int) C (Nat.le_of_ble_eq_true rfl) rfl rfl hinX6 tyX6_ok nmX6 21 (Nat.le_of_ble_eq_true rfl) lkX6_150 rfl (by decide +kernel) rfl rfl rfl dX6_passes_49 rfl ?_
        refine V.nm (fun τ49_2 eτ49_2 => ?_)
        refine v_iinc (lv' := [(2, .int (nI (i + 1))), (0, .ref 0), (1, .ref r)]) C dX6_passes_52 rfl (nI_inc i) (Nat.le_of_ble_eq_true rfl) rfl rfl ?_
        refine v_goto (tgt := 2) C dX6_passes_55 (by decide) ?_
        exact V.sub [0, 1, 2] rfl (ih2 (i + 1)  _ (by omega) (by omega)  (by rw [eτ49_2, eτ41_1, hrr, eτ]; exact cpB_step σ c r i hr0 hr13))
  exact V.sub [0, 1, 2] rfl (lp2 (N + 1) 0  _ (by omega) (by omega)  ((cpB_0 σ c r hr0 hc).symm))
def onK (σ : St) (c : Nat) (v : Int32) : St := s2 (s2 σ 13 c v) 0 21 (nI (c + 1))
theorem kX6_passOneK (c : Nat) (v : Int32) (σ : St) (hk : σ 0 20 = 1) (hc : σ 0 21 = nI c) (hN : c < 100) : Ct yX6_passOne cX6_passOne 3 (some .int) 0 [.ref 0, .int v] σ (fI v (onK σ c v)) := by
  refine ct_of plX6 rfl (Nat.le_of_ble_eq_true rfl) (fun X hX C => ?_)
  show V X 0 [(0, .ref 0), (1, .int v)] [] σ
  refine v_aload_n C dX6_passOne_0 rfl rfl rfl ?_
  refine v_getI C (Nat.le_of_ble_eq_true rfl) rfl rfl hinX6 20 (Nat.le_of_ble_eq_true rfl) lkX6_146 rfl dX6_passOne_1 rfl ?_
  refine V.tp hk ?_
  refine v_if_eq (tgt := 11) C dX6_passOne_4 (by decide) rfl (fun q => absurd q (by decide)) (fun _ => ?_)
  refine v_iload_n C dX6_passOne_7 rfl rfl rfl ?_
  refine v_goto (tgt := 20) C dX6_passOne_8 (by decide) ?_
  refine v_istore_n (lv' := [(2, .int v), (0, .ref 0), (1, .int v)]) C dX6_passOne_20 rfl (Nat.le_of_ble_eq_true rfl) rfl rfl ?_
  refine v_aload_n C dX6_passOne_21 rfl rfl rfl ?_
  refine v_getI C (Nat.le_of_ble_eq_true rfl) rfl rfl hinX6 20 (Nat.le_of_ble_eq_true rfl) lkX6_146 rfl dX6_passOne_22 rfl ?_
  refine V.tp hk ?_
  refine v_if_eq (tgt := 38) C dX6_passOne_25 (by decide) rfl (fun q => absurd q (by decide)) (fun _ => ?_)
  refine v_aload_n C dX6_passOne_28 rfl rfl rfl ?_
  refine v_getR C (Nat.le_of_ble_eq_true rfl) rfl rfl hinX6 18 (Nat.le_of_ble_eq_true rfl) lkX6_46 rfl dX6_passOne_29 rfl ?_
  refine v_aload_n C dX6_passOne_32 rfl rfl rfl ?_
  refine v_getI C (Nat.le_of_ble_eq_true rfl) rfl rfl hinX6 21 (Nat.le_of_ble_eq_true rfl) lkX6_150 rfl dX6_passOne_33 rfl ?_
  refine V.tp hc ?_
  refine v_iload_n C dX6_passOne_36 rfl rfl rfl ?_
  refine v_iast (i := c) C (Nat.le_of_ble_eq_true rfl) rfl rfl (by omega) (by decide) dX6_passOne_37 rfl ?_
  refine V.nm (fun τ37_1 eτ37_1 => ?_)
  have ht21 : τ37_1 0 21 = nI c := by rw [eτ37_1, s2_ne (by decide)]; exact hc
  refine v_aload_n C dX6_passOne_38 rfl rfl rfl ?_
  refine v_dup C dX6_passOne_39 rfl rfl ?_
  refine v_getI C (Nat.le_of_ble_eq_true rfl) rfl rfl hinX6 21 (Nat.le_of_ble_eq_true rfl) lkX6_150 rfl dX6_passOne_40 rfl ?_
  refine V.tp ht21 ?_
  refine v_iconst (v := 1) C dX6_passOne_43 (by decide) rfl ?_
  refine v_iadd C dX6_passOne_44 rfl ?_
  refine V.tp (nI_add c 1) ?_
  refine v_put (ty := .int) C (Nat.le_of_ble_eq_true rfl) rfl rfl hinX6 tyX6_ok nmX6 21 (Nat.le_of_ble_eq_true rfl) lkX6_150 rfl (by decide +kernel) rfl rfl rfl dX6_passOne_45 rfl ?_
  refine V.nm (fun τ45_2 eτ45_2 => ?_)
  refine v_iload_n C dX6_passOne_48 rfl rfl rfl ?_
  exact v_iret C dX6_passOne_49 (by rw [hX]; exact fI_of rfl (by rw [eτ45_2, eτ37_1]; rfl))
theorem kX6_passOneB (c : Nat) (v : Int32) (σ : St) (hk : σ 0 20 = 0) (hc : σ 0 21 = nI c) (hN : c < 100) : Ct yX6_passOne cX6_passOne 3 (some .int) 0 [.ref 0, .int v] σ (fI (σ 13 c) (s2 σ 0 21 (nI (c + 1)))) := by
  refine ct_of plX6 rfl (Nat.le_of_ble_eq_true rfl) (fun X hX C => ?_)
  show V X 0 [(0, .ref 0), (1, .int v)] [] σ
  refine v_aload_n C dX6_passOne_0 rfl rfl rfl ?_
  refine v_getI C (Nat.le_of_ble_eq_true rfl) rfl rfl hinX6 20 (Nat.le_of_ble_eq_true rfl) lkX6_146 rfl dX6_passOne_1 rfl ?_
  refine V.tp hk ?_
  refine v_if_eq (tgt := 11) C dX6_passOne_4 (by decide) rfl (fun _ => ?_) (fun q => absurd (by decide) q)
  refine v_aload_n C dX6_passOne_11 rfl rfl rfl ?_
  refine v_getR C (Nat.le_of_ble_eq_true rfl) rfl rfl hinX6 18 (Nat.le_of_ble_eq_true rfl) lkX6_46 rfl dX6_passOne_12 rfl ?_
  refine v_aload_n C dX6_passOne_15 rfl rfl rfl ?_
  refine v_getI C (Nat.le_of_ble_eq_true rfl) rfl rfl hinX6 21 (Nat.le_of_ble_eq_true rfl) lkX6_150 rfl dX6_passOne_16 rfl ?_
  refine V.tp hc ?_
  refine v_iald (i := c) C (Nat.le_of_ble_eq_true rfl) rfl rfl (by omega) (by decide) dX6_passOne_19 rfl ?_
  refine V.top (fun v20_1 ev20_1 => ?_)
  refine v_istore_n (lv' := [(2, .int v20_1), (0, .ref 0), (1, .int v)]) C dX6_passOne_20 rfl (Nat.le_of_ble_eq_true rfl) rfl rfl ?_
  refine v_aload_n C dX6_passOne_21 rfl rfl rfl ?_
  refine v_getI C (Nat.le_of_ble_eq_true rfl) rfl rfl hinX6 20 (Nat.le_of_ble_eq_true rfl) lkX6_146 rfl dX6_passOne_22 rfl ?_
  refine V.tp hk ?_
  refine v_if_eq (tgt := 38) C dX6_passOne_25 (by decide) rfl (fun _ => ?_) (fun q => absurd (by decide) q)
  refine v_aload_n C dX6_passOne_38 rfl rfl rfl ?_
  refine v_dup C dX6_passOne_39 rfl rfl ?_
  refine v_getI C (Nat.le_of_ble_eq_true rfl) rfl rfl hinX6 21 (Nat.le_of_ble_eq_true rfl) lkX6_150 rfl dX6_passOne_40 rfl ?_
  refine V.tp hc ?_
  refine v_iconst (v := 1) C dX6_passOne_43 (by decide) rfl ?_
  refine v_iadd C dX6_passOne_44 rfl ?_
  refine V.tp (nI_add c 1) ?_
  refine v_put (ty := .int) C (Nat.le_of_ble_eq_true rfl) rfl rfl hinX6 tyX6_ok nmX6 21 (Nat.le_of_ble_eq_true rfl) lkX6_150 rfl (by decide +kernel) rfl rfl rfl dX6_passOne_45 rfl ?_
  refine V.nm (fun τ45_2 eτ45_2 => ?_)
  refine v_iload_n C dX6_passOne_48 rfl rfl rfl ?_
  exact v_iret C dX6_passOne_49 (by rw [hX]; exact fI_of ev20_1 (by rw [eτ45_2]))
end
section
/-! the check's class: the whole state kept, and put back -/
def blk (σ : St) (j : Nat) : Int32 := if j < 6 then σ 2 j else if j < 9 then σ 3 (j - 6) else if j < 16 then σ 4 (j - 9) else if j < 23 then σ 5 (j - 16) else if j < 30 then σ 6 (j - 23) else if j < 37 then σ 7 (j - 30) else if j < 44 then σ 8 (j - 37) else if j = 44 then σ 0 8 else if j = 45 then σ 0 9 else σ 0 10
def Svp (σ : St) (c o : Nat) (τ : St) : Prop := (∀ a, a ≠ 0 → a ≠ 13 → τ a = σ a) ∧ (∀ j, j ≠ 20 → j ≠ 21 → τ 0 j = σ 0 j) ∧ τ 0 20 = 1 ∧ τ 0 21 = nI (c + o) ∧ (∀ j, j < o → τ 13 (c + j) = blk σ j) ∧ (∀ j, (j < c ∨ c + o ≤ j) → τ 13 j = σ 13 j)
theorem cpK_13 (σ : St) (c k i j : Nat) : cpK σ c k i 13 j = if c ≤ j ∧ j < c + i then σ k (j - c) else σ 13 j := by simp [cpK, s2, setR]
theorem Svp_pass {σ τ : St} {c o k N : Nat} (h : Svp σ c o τ) (h0 : k ≠ 0) (h13 : k ≠ 13) (hb : ∀ i, i < N → blk σ (o + i) = σ k i) : Svp σ c (o + N) (cpK τ (c + o) k N) := by
  obtain ⟨q1, q2, q3, q4, q5, q6⟩ := h
  refine ⟨fun a a0 a13 => by rw [cpK_o _ _ _ _ _ a0 a13]; exact q1 a a0 a13, fun j j1 j2 => by rw [cpK_z _ _ _ _ _ j2]; exact q2 j j1 j2, by rw [cpK_z _ _ _ _ _ (by decide)]; exact q3, by rw [cpK_21, Nat.add_assoc], fun j hj => ?_, fun j hj => ?_⟩
  · rw [cpK_13]
    by_cases g : c + o ≤ c + j ∧ c + j < c + o + N
    · rw [if_pos g, q1 k h0 h13, ← hb (c + j - (c + o)) (by omega)]
      congr 1; omega
    · rw [if_neg g]; exact q5 j (by omega)
  · rw [cpK_13, if_neg (by omega)]; exact q6 j (by omega)
theorem Svp_one {σ τ : St} {c o f : Nat} {v : Int32} (h : Svp σ c o τ) (hv : v = σ 0 f) (hb : blk σ o = σ 0 f) (h20 : f ≠ 20) (h21 : f ≠ 21) : Svp σ c (o + 1) (s2 (onK τ (c + o) v) 0 f v) := by
  obtain ⟨q1, q2, q3, q4, q5, q6⟩ := h
  subst hv
  refine ⟨fun a a0 a13 => by rw [s2_ne a0, onK, s2_ne a0, s2_ne a13]; exact q1 a a0 a13, fun j j1 j2 => ?_, ?_, ?_, fun j hj => ?_, fun j hj => ?_⟩
  · by_cases e : j = f
    · subst e; simp [s2, upd]
    · simp [s2, upd, e, onK, j2]; exact q2 j j1 j2
  · simp [s2, upd, Ne.symm h20, onK]; exact q3
  · simp [s2, upd, Ne.symm h21, onK, Nat.add_assoc]
  · by_cases e : j = o
    · subst e; simp [s2, upd, onK, hb]
    · simp [s2, upd, onK, e]; exact q5 j (by omega)
  · simp [s2, upd, onK, show ¬ j = c + o by omega]; exact q6 j (by omega)
def offR (k : Nat) : Nat := match k with | 2 => 0 | 3 => 6 | 4 => 9 | 5 => 16 | 6 => 23 | 7 => 30 | _ => 37
def lenR (k : Nat) : Nat := match k with | 2 => 6 | 3 => 3 | _ => 7
def Rsp (σ : St) (c o : Nat) (τ : St) : Prop := (∀ a, a ≠ 0 → (a < 2 ∨ 8 < a) → τ a = σ a) ∧ (∀ j, j ≠ 8 → j ≠ 9 → j ≠ 10 → j ≠ 20 → j ≠ 21 → τ 0 j = σ 0 j) ∧ τ 0 20 = 0 ∧ τ 0 21 = nI (c + o) ∧ (∀ k, 2 ≤ k → k ≤ 8 → τ k = if offR k < o then pre (lenR k) (fun j => σ 13 (c + offR k + j)) (σ k) else σ k) ∧
  τ 0 8 = (if 44 < o then σ 13 (c + 44) else σ 0 8) ∧ τ 0 9 = (if 45 < o then σ 13 (c + 45) else σ 0 9) ∧ τ 0 10 = (if 46 < o then σ 13 (c + 46) else σ 0 10)
theorem Rsp_pass {σ τ : St} {c o k N : Nat} (h : Rsp σ c o τ) (h2 : 2 ≤ k) (h8 : k ≤ 8) (ho : offR k = o) (hN : lenR k = N) (hm : ∀ q, 2 ≤ q → q ≤ 8 → q ≠ k → (offR q < o ↔ offR q < o + N)) (h44 : o + N ≤ 44) (hN0 : 0 < N) : Rsp σ c (o + N) (cpB τ (c + o) k N) := by
  obtain ⟨q1, q2, q3, q4, q5, q6, q7, q8⟩ := h
  have hk0 : k ≠ 0 := by omega
  refine ⟨fun a a0 ha => by rw [cpB_o _ _ _ _ _ a0 (by omega)]; exact q1 a a0 ha, fun j a b e f g => by rw [cpB_z _ _ _ _ _ hk0 g]; exact q2 j a b e f g, by rw [cpB_z _ _ _ _ _ hk0 (by decide)]; exact q3, by rw [cpB_21, Nat.add_assoc], fun q a b => ?_, ?_, ?_, ?_⟩
  · by_cases e : q = k
    · subst e
      rw [cpB_k _ _ _ _ hk0, q5 q a b, ho, hN, if_neg (by omega), if_pos (by omega), q1 13 (by decide) (by omega)]
    · rw [cpB_o _ _ _ _ _ (by omega) e, q5 q a b]
      by_cases g : offR q < o
      · rw [if_pos g, if_pos ((hm q a b e).mp g)]
      · rw [if_neg g, if_neg (fun z => g ((hm q a b e).mpr z))]
  · rw [cpB_z _ _ _ _ _ hk0 (by decide), q6, if_neg (by omega), if_neg (by omega)]
  · rw [cpB_z _ _ _ _ _ hk0 (by decide), q7, if_neg (by omega), if_neg (by omega)]
  · rw [cpB_z _ _ _ _ _ hk0 (by decide), q8, if_neg (by omega), if_neg (by omega)]
theorem Rsp_one {σ τ : St} {c o f : Nat} {v : Int32} (h : Rsp σ c o τ) (hv : v = σ 13 (c + o)) (hf : (o = 44 ∧ f = 8) ∨ (o = 45 ∧ f = 9) ∨ (o = 46 ∧ f = 10)) : Rsp σ c (o + 1) (s2 (s2 τ 0 21 (nI (c + o + 1))) 0 f v) := by
  obtain ⟨q1, q2, q3, q4, q5, q6, q7, q8⟩ := h
  subst hv
  refine ⟨fun a a0 ha => by rw [s2_ne a0, s2_ne a0]; exact q1 a a0 ha, fun j a b e f' g => ?_, ?_, ?_, fun q a b => ?_, ?_, ?_, ?_⟩
  · rw [s2_get, s2_get, if_neg (by omega), if_neg (by omega)]; exact q2 j a b e f' g
  · rw [s2_get, s2_get, if_neg (by omega), if_neg (by omega)]; exact q3
  · rw [s2_get, s2_get, if_neg (by omega), if_pos ⟨rfl, rfl⟩, Nat.add_assoc]
  · have hq : offR q < 44 := by unfold offR; split <;> omega
    rw [s2_ne (by omega), s2_ne (by omega), q5 q a b, if_pos (by omega), if_pos (by omega)]
  · rw [s2_get, s2_get]
    rcases hf with ⟨rfl, rfl⟩ | ⟨rfl, rfl⟩ | ⟨rfl, rfl⟩ <;> simp [q6]
  · rw [s2_get, s2_get]
    rcases hf with ⟨rfl, rfl⟩ | ⟨rfl, rfl⟩ | ⟨rfl, rfl⟩ <;> simp [q7]
  · rw [s2_get, s2_get]
    rcases hf with ⟨rfl, rfl⟩ | ⟨rfl, rfl⟩ | ⟨rfl, rfl⟩ <;> simp [q8]
theorem blk_at (σ : St) : (∀ i, i < 6 → blk σ (0 + i) = σ 2 i) ∧ (∀ i, i < 3 → blk σ (6 + i) = σ 3 i) ∧ (∀ i, i < 7 → blk σ (9 + i) = σ 4 i) ∧ (∀ i, i < 7 → blk σ (16 + i) = σ 5 i) ∧ (∀ i, i < 7 → blk σ (23 + i) = σ 6 i) ∧ (∀ i, i < 7 → blk σ (30 + i) = σ 7 i) ∧ (∀ i, i < 7 → blk σ (37 + i) = σ 8 i) := by
  refine ⟨?_, ?_, ?_, ?_, ?_, ?_, ?_⟩ <;> intro i hi <;> unfold blk
  · rw [if_pos (by omega), show 0 + i = i by omega]
  · rw [if_neg (by omega), if_pos (by omega), show 6 + i - 6 = i by omega]
  · rw [if_neg (by omega), if_neg (by omega), if_pos (by omega), show 9 + i - 9 = i by omega]
  · rw [if_neg (by omega), if_neg (by omega), if_neg (by omega), if_pos (by omega), show 16 + i - 16 = i by omega]
  · rw [if_neg (by omega), if_neg (by omega), if_neg (by omega), if_neg (by omega), if_pos (by omega), show 23 + i - 23 = i by omega]
  · rw [if_neg (by omega), if_neg (by omega), if_neg (by omega), if_neg (by omega), if_neg (by omega), if_pos (by omega), show 30 + i - 30 = i by omega]
  · rw [if_neg (by omega), if_neg (by omega), if_neg (by omega), if_neg (by omega), if_neg (by omega), if_neg (by omega), if_pos (by omega), show 37 + i - 37 = i by omega]
theorem kX6_passesAllK0 (σ : St) : Ct yX6_passesAll cX6_passesAll 3 none 1 [.ref 0, .int 0, .int 1] σ (rV (Svp σ 0 47)) := by
  refine ct_of plX6 rfl (Nat.le_of_ble_eq_true rfl) (fun X hX C => ?_)
  show V X 0 [(0, .ref 0), (1, .int 0), (2, .int 1)] [] σ
  refine v_aload_n C dX6_passesAll_0 rfl rfl rfl ?_
  refine v_bipush (v := 50) C dX6_passesAll_1 (by decide) rfl ?_
  refine v_iload_n C dX6_passesAll_3 rfl rfl rfl ?_
  refine v_imul C dX6_passesAll_4 rfl ?_
  refine V.tp (show (50 : Int32) * 0 = 0 by decide) ?_
  refine v_put (ty := .int) C (Nat.le_of_ble_eq_true rfl) rfl rfl hinX6 tyX6_ok nmX6 21 (Nat.le_of_ble_eq_true rfl) lkX6_150 rfl (by decide +kernel) rfl rfl rfl dX6_passesAll_5 rfl ?_
  refine V.nm (fun τ5_1 eτ5_1 => ?_)
  refine v_aload_n C dX6_passesAll_8 rfl rfl rfl ?_
  refine v_iload_n C dX6_passesAll_9 rfl rfl rfl ?_
  refine v_put (ty := .boolean) C (Nat.le_of_ble_eq_true rfl) rfl rfl hinX6 tyX6_ok nmX6 20 (Nat.le_of_ble_eq_true rfl) lkX6_146 rfl (by decide +kernel) rfl rfl rfl dX6_passesAll_10 rfl ?_
  refine V.nm (fun τ10_2 eτ10_2 => ?_)
  have g0 : Svp σ 0 0 τ10_2 := by rw [eτ10_2, eτ5_1]; exact ⟨fun a a0 a13 => by rw [s2_ne a0, s2_ne a0], fun j j1 j2 => by rw [s2_get, s2_get, if_neg (fun q => j1 q.2), if_neg (fun q => j2 q.2)], by simp [s2_get], by simp [s2_get]; rfl, fun j hj => by omega, fun j _ => by rw [s2_ne (by decide), s2_ne (by decide)]⟩
  refine v_aload_n C dX6_passesAll_13 rfl rfl rfl ?_
  refine v_aload_n C dX6_passesAll_14 rfl rfl rfl ?_
  refine v_getR C (Nat.le_of_ble_eq_true rfl) rfl rfl hinX6 1 (Nat.le_of_ble_eq_true rfl) lkX6_13 rfl dX6_passesAll_15 rfl ?_
  refine v_callV C (Nat.le_of_ble_eq_true rfl) rfl rfl (As := [.ref 2]) (rest := []) (kX6_passesK 2 6 0 τ10_2 (Nat.le_of_ble_eq_true rfl) rfl (by decide) (by decide) g0.2.2.1 g0.2.2.2.1 (by decide)) rfl (Nat.le_of_ble_eq_true rfl) (Nat.le_of_ble_eq_true rfl) ⟨mlX6_153, mfX6_passes⟩ dkX6_passes (Nat.le_of_ble_eq_true rfl) dX6_passesAll_18 rfl (kV ?_)
  refine V.nm (fun υ2 eυ2 => ?_)
  have g1 : Svp σ 0 6 υ2 := by rw [eυ2]; exact Svp_pass g0 (by decide) (by decide) (blk_at σ).1
  refine v_aload_n C dX6_passesAll_21 rfl rfl rfl ?_
  refine v_aload_n C dX6_passesAll_22 rfl rfl rfl ?_
  refine v_getR C (Nat.le_of_ble_eq_true rfl) rfl rfl hinX6 2 (Nat.le_of_ble_eq_true rfl) lkX6_16 rfl dX6_passesAll_23 rfl ?_
  refine v_callV C (Nat.le_of_ble_eq_true rfl) rfl rfl (As := [.ref 3]) (rest := []) (kX6_passesK 3 3 6 υ2 (Nat.le_of_ble_eq_true rfl) rfl (by decide) (by decide) g1.2.2.1 g1.2.2.2.1 (by decide)) rfl (Nat.le_of_ble_eq_true rfl) (Nat.le_of_ble_eq_true rfl) ⟨mlX6_153, mfX6_passes⟩ dkX6_passes (Nat.le_of_ble_eq_true rfl) dX6_passesAll_26 rfl (kV ?_)
  refine V.nm (fun υ3 eυ3 => ?_)
  have g2 : Svp σ 0 9 υ3 := by rw [eυ3]; exact Svp_pass g1 (by decide) (by decide) (blk_at σ).2.1
  refine v_aload_n C dX6_passesAll_29 rfl rfl rfl ?_
  refine v_aload_n C dX6_passesAll_30 rfl rfl rfl ?_
  refine v_getR C (Nat.le_of_ble_eq_true rfl) rfl rfl hinX6 3 (Nat.le_of_ble_eq_true rfl) lkX6_19 rfl dX6_passesAll_31 rfl ?_
  refine v_callV C (Nat.le_of_ble_eq_true rfl) rfl rfl (As := [.ref 4]) (rest := []) (kX6_passesK 4 7 9 υ3 (Nat.le_of_ble_eq_true rfl) rfl (by decide) (by decide) g2.2.2.1 g2.2.2.2.1 (by decide)) rfl (Nat.le_of_ble_eq_true rfl) (Nat.le_of_ble_eq_true rfl) ⟨mlX6_153, mfX6_passes⟩ dkX6_passes (Nat.le_of_ble_eq_true rfl) dX6_passesAll_34 rfl (kV ?_)
  refine V.nm (fun υ4 eυ4 => ?_)
  have g3 : Svp σ 0 16 υ4 := by rw [eυ4]; exact Svp_pass g2 (by decide) (by decide) (blk_at σ).2.2.1
  refine v_aload_n C dX6_passesAll_37 rfl rfl rfl ?_
  refine v_aload_n C dX6_passesAll_38 rfl rfl rfl ?_
  refine v_getR C (Nat.le_of_ble_eq_true rfl) rfl rfl hinX6 4 (Nat.le_of_ble_eq_true rfl) lkX6_22 rfl dX6_passesAll_39 rfl ?_
  refine v_callV C (Nat.le_of_ble_eq_true rfl) rfl rfl (As := [.ref 5]) (rest := []) (kX6_passesK 5 7 16 υ4 (Nat.le_of_ble_eq_true rfl) rfl (by decide) (by decide) g3.2.2.1 g3.2.2.2.1 (by decide)) rfl (Nat.le_of_ble_eq_true rfl) (Nat.le_of_ble_eq_true rfl) ⟨mlX6_153, mfX6_passes⟩ dkX6_passes (Nat.le_of_ble_eq_true rfl) dX6_passesAll_42 rfl (kV ?_)
  refine V.nm (fun υ5 eυ5 => ?_)
  have g4 : Svp σ 0 23 υ5 := by rw [eυ5]; exact Svp_pass g3 (by decide) (by decide) (blk_at σ).2.2.2.1
  refine v_aload_n C dX6_passesAll_45 rfl rfl rfl ?_
  refine v_aload_n C dX6_passesAll_46 rfl rfl rfl ?_
  refine v_getR C (Nat.le_of_ble_eq_true rfl) rfl rfl hinX6 5 (Nat.le_of_ble_eq_true rfl) lkX6_25 rfl dX6_passesAll_47 rfl ?_
  refine v_callV C (Nat.le_of_ble_eq_true rfl) rfl rfl (As := [.ref 6]) (rest := []) (kX6_passesK 6 7 23 υ5 (Nat.le_of_ble_eq_true rfl) rfl (by decide) (by decide) g4.2.2.1 g4.2.2.2.1 (by decide)) rfl (Nat.le_of_ble_eq_true rfl) (Nat.le_of_ble_eq_true rfl) ⟨mlX6_153, mfX6_passes⟩ dkX6_passes (Nat.le_of_ble_eq_true rfl) dX6_passesAll_50 rfl (kV ?_)
  refine V.nm (fun υ6 eυ6 => ?_)
  have g5 : Svp σ 0 30 υ6 := by rw [eυ6]; exact Svp_pass g4 (by decide) (by decide) (blk_at σ).2.2.2.2.1
  refine v_aload_n C dX6_passesAll_53 rfl rfl rfl ?_
  refine v_aload_n C dX6_passesAll_54 rfl rfl rfl ?_
  refine v_getR C (Nat.le_of_ble_eq_true rfl) rfl rfl hinX6 6 (Nat.le_of_ble_eq_true rfl) lkX6_28 rfl dX6_passesAll_55 rfl ?_
  refine v_callV C (Nat.le_of_ble_eq_true rfl) rfl rfl (As := [.ref 7]) (rest := []) (kX6_passesK 7 7 30 υ6 (Nat.le_of_ble_eq_true rfl) rfl (by decide) (by decide) g5.2.2.1 g5.2.2.2.1 (by decide)) rfl (Nat.le_of_ble_eq_true rfl) (Nat.le_of_ble_eq_true rfl) ⟨mlX6_153, mfX6_passes⟩ dkX6_passes (Nat.le_of_ble_eq_true rfl) dX6_passesAll_58 rfl (kV ?_)
  refine V.nm (fun υ7 eυ7 => ?_)
  have g6 : Svp σ 0 37 υ7 := by rw [eυ7]; exact Svp_pass g5 (by decide) (by decide) (blk_at σ).2.2.2.2.2.1
  refine v_aload_n C dX6_passesAll_61 rfl rfl rfl ?_
  refine v_aload_n C dX6_passesAll_62 rfl rfl rfl ?_
  refine v_getR C (Nat.le_of_ble_eq_true rfl) rfl rfl hinX6 7 (Nat.le_of_ble_eq_true rfl) lkX6_31 rfl dX6_passesAll_63 rfl ?_
  refine v_callV C (Nat.le_of_ble_eq_true rfl) rfl rfl (As := [.ref 8]) (rest := []) (kX6_passesK 8 7 37 υ7 (Nat.le_of_ble_eq_true rfl) rfl (by decide) (by decide) g6.2.2.1 g6.2.2.2.1 (by decide)) rfl (Nat.le_of_ble_eq_true rfl) (Nat.le_of_ble_eq_true rfl) ⟨mlX6_153, mfX6_passes⟩ dkX6_passes (Nat.le_of_ble_eq_true rfl) dX6_passesAll_66 rfl (kV ?_)
  refine V.nm (fun υ8 eυ8 => ?_)
  have g7 : Svp σ 0 44 υ8 := by rw [eυ8]; exact Svp_pass g6 (by decide) (by decide) (blk_at σ).2.2.2.2.2.2
  refine v_aload_n C dX6_passesAll_69 rfl rfl rfl ?_
  refine v_aload_n C dX6_passesAll_70 rfl rfl rfl ?_
  refine v_aload_n C dX6_passesAll_71 rfl rfl rfl ?_
  refine v_getI C (Nat.le_of_ble_eq_true rfl) rfl rfl hinX6 8 (Nat.le_of_ble_eq_true rfl) lkX6_65 rfl dX6_passesAll_72 rfl ?_
  refine v_callV C (Nat.le_of_ble_eq_true rfl) rfl rfl (As := [.int (υ8 0 8)]) (rest := [.ref 0]) (kX6_passOneK 44 (υ8 0 8) υ8 g7.2.2.1 g7.2.2.2.1 (by decide)) rfl (Nat.le_of_ble_eq_true rfl) (Nat.le_of_ble_eq_true rfl) ⟨mlX6_157, mfX6_passOne⟩ dkX6_passOne (Nat.le_of_ble_eq_true rfl) dX6_passesAll_75 rfl (kI ?_)
  refine v_put (ty := .int) C (Nat.le_of_ble_eq_true rfl) rfl rfl hinX6 tyX6_ok nmX6 8 (Nat.le_of_ble_eq_true rfl) lkX6_65 rfl (by decide +kernel) rfl rfl rfl dX6_passesAll_78 rfl ?_
  refine V.nm (fun τ78_3 eτ78_3 => ?_)
  have g8 : Svp σ 0 45 τ78_3 := by rw [eτ78_3]; exact Svp_one g7 (g7.2.1 8 (by decide) (by decide)) (by simp [blk]) (by decide) (by decide)
  refine v_aload_n C dX6_passesAll_81 rfl rfl rfl ?_
  refine v_aload_n C dX6_passesAll_82 rfl rfl rfl ?_
  refine v_aload_n C dX6_passesAll_83 rfl rfl rfl ?_
  refine v_getI C (Nat.le_of_ble_eq_true rfl) rfl rfl hinX6 9 (Nat.le_of_ble_eq_true rfl) lkX6_61 rfl dX6_passesAll_84 rfl ?_
  refine v_callV C (Nat.le_of_ble_eq_true rfl) rfl rfl (As := [.int (τ78_3 0 9)]) (rest := [.ref 0]) (kX6_passOneK 45 (τ78_3 0 9) τ78_3 g8.2.2.1 g8.2.2.2.1 (by decide)) rfl (Nat.le_of_ble_eq_true rfl) (Nat.le_of_ble_eq_true rfl) ⟨mlX6_157, mfX6_passOne⟩ dkX6_passOne (Nat.le_of_ble_eq_true rfl) dX6_passesAll_87 rfl (kI ?_)
  refine v_put (ty := .int) C (Nat.le_of_ble_eq_true rfl) rfl rfl hinX6 tyX6_ok nmX6 9 (Nat.le_of_ble_eq_true rfl) lkX6_61 rfl (by decide +kernel) rfl rfl rfl dX6_passesAll_90 rfl ?_
  refine V.nm (fun τ90_4 eτ90_4 => ?_)
  have g9 : Svp σ 0 46 τ90_4 := by rw [eτ90_4]; exact Svp_one g8 (g8.2.1 9 (by decide) (by decide)) (by simp [blk]) (by decide) (by decide)
  refine v_aload_n C dX6_passesAll_93 rfl rfl rfl ?_
  refine v_aload_n C dX6_passesAll_94 rfl rfl rfl ?_
  refine v_aload_n C dX6_passesAll_95 rfl rfl rfl ?_
  refine v_getI C (Nat.le_of_ble_eq_true rfl) rfl rfl hinX6 10 (Nat.le_of_ble_eq_true rfl) lkX6_128 rfl dX6_passesAll_96 rfl ?_
  refine v_callV C (Nat.le_of_ble_eq_true rfl) rfl rfl (As := [.int (τ90_4 0 10)]) (rest := [.ref 0]) (kX6_passOneK 46 (τ90_4 0 10) τ90_4 g9.2.2.1 g9.2.2.2.1 (by decide)) rfl (Nat.le_of_ble_eq_true rfl) (Nat.le_of_ble_eq_true rfl) ⟨mlX6_157, mfX6_passOne⟩ dkX6_passOne (Nat.le_of_ble_eq_true rfl) dX6_passesAll_99 rfl (kI ?_)
  refine v_put (ty := .int) C (Nat.le_of_ble_eq_true rfl) rfl rfl hinX6 tyX6_ok nmX6 10 (Nat.le_of_ble_eq_true rfl) lkX6_128 rfl (by decide +kernel) rfl rfl rfl dX6_passesAll_102 rfl ?_
  refine V.nm (fun τ102_5 eτ102_5 => ?_)
  have g10 : Svp σ 0 47 τ102_5 := by rw [eτ102_5]; exact Svp_one g9 (g9.2.1 10 (by decide) (by decide)) (by simp [blk]) (by decide) (by decide)
  exact v_vret C dX6_passesAll_105 (by rw [hX]; exact ⟨rfl, g10⟩)
theorem kX6_passesAllK1 (σ : St) : Ct yX6_passesAll cX6_passesAll 3 none 1 [.ref 0, .int 1, .int 1] σ (rV (Svp σ 50 47)) := by
  refine ct_of plX6 rfl (Nat.le_of_ble_eq_true rfl) (fun X hX C => ?_)
  show V X 0 [(0, .ref 0), (1, .int 1), (2, .int 1)] [] σ
  refine v_aload_n C dX6_passesAll_0 rfl rfl rfl ?_
  refine v_bipush (v := 50) C dX6_passesAll_1 (by decide) rfl ?_
  refine v_iload_n C dX6_passesAll_3 rfl rfl rfl ?_
  refine v_imul C dX6_passesAll_4 rfl ?_
  refine V.tp (show (50 : Int32) * 1 = 50 by decide) ?_
  refine v_put (ty := .int) C (Nat.le_of_ble_eq_true rfl) rfl rfl hinX6 tyX6_ok nmX6 21 (Nat.le_of_ble_eq_true rfl) lkX6_150 rfl (by decide +kernel) rfl rfl rfl dX6_passesAll_5 rfl ?_
  refine V.nm (fun τ5_1 eτ5_1 => ?_)
  refine v_aload_n C dX6_passesAll_8 rfl rfl rfl ?_
  refine v_iload_n C dX6_passesAll_9 rfl rfl rfl ?_
  refine v_put (ty := .boolean) C (Nat.le_of_ble_eq_true rfl) rfl rfl hinX6 tyX6_ok nmX6 20 (Nat.le_of_ble_eq_true rfl) lkX6_146 rfl (by decide +kernel) rfl rfl rfl dX6_passesAll_10 rfl ?_
  refine V.nm (fun τ10_2 eτ10_2 => ?_)
  have g0 : Svp σ 50 0 τ10_2 := by rw [eτ10_2, eτ5_1]; exact ⟨fun a a0 a13 => by rw [s2_ne a0, s2_ne a0], fun j j1 j2 => by rw [s2_get, s2_get, if_neg (fun q => j1 q.2), if_neg (fun q => j2 q.2)], by simp [s2_get], by simp [s2_get]; rfl, fun j hj => by omega, fun j _ => by rw [s2_ne (by decide), s2_ne (by decide)]⟩
  refine v_aload_n C dX6_passesAll_13 rfl rfl rfl ?_
  refine v_aload_n C dX6_passesAll_14 rfl rfl rfl ?_
  refine v_getR C (Nat.le_of_ble_eq_true rfl) rfl rfl hinX6 1 (Nat.le_of_ble_eq_true rfl) lkX6_13 rfl dX6_passesAll_15 rfl ?_
  refine v_callV C (Nat.le_of_ble_eq_true rfl) rfl rfl (As := [.ref 2]) (rest := []) (kX6_passesK 2 6 50 τ10_2 (Nat.le_of_ble_eq_true rfl) rfl (by decide) (by decide) g0.2.2.1 g0.2.2.2.1 (by decide)) rfl (Nat.le_of_ble_eq_true rfl) (Nat.le_of_ble_eq_true rfl) ⟨mlX6_153, mfX6_passes⟩ dkX6_passes (Nat.le_of_ble_eq_true rfl) dX6_passesAll_18 rfl (kV ?_)
  refine V.nm (fun υ2 eυ2 => ?_)
  have g1 : Svp σ 50 6 υ2 := by rw [eυ2]; exact Svp_pass g0 (by decide) (by decide) (blk_at σ).1
  refine v_aload_n C dX6_passesAll_21 rfl rfl rfl ?_
  refine v_aload_n C dX6_passesAll_22 rfl rfl rfl ?_
  refine v_getR C (Nat.le_of_ble_eq_true rfl) rfl rfl hinX6 2 (Nat.le_of_ble_eq_true rfl) lkX6_16 rfl dX6_passesAll_23 rfl ?_
  refine v_callV C (Nat.le_of_ble_eq_true rfl) rfl rfl (As := [.ref 3]) (rest := []) (kX6_passesK 3 3 56 υ2 (Nat.le_of_ble_eq_true rfl) rfl (by decide) (by decide) g1.2.2.1 g1.2.2.2.1 (by decide)) rfl (Nat.le_of_ble_eq_true rfl) (Nat.le_of_ble_eq_true rfl) ⟨mlX6_153, mfX6_passes⟩ dkX6_passes (Nat.le_of_ble_eq_true rfl) dX6_passesAll_26 rfl (kV ?_)
  refine V.nm (fun υ3 eυ3 => ?_)
  have g2 : Svp σ 50 9 υ3 := by rw [eυ3]; exact Svp_pass g1 (by decide) (by decide) (blk_at σ).2.1
  refine v_aload_n C dX6_passesAll_29 rfl rfl rfl ?_
  refine v_aload_n C dX6_passesAll_30 rfl rfl rfl ?_
  refine v_getR C (Nat.le_of_ble_eq_true rfl) rfl rfl hinX6 3 (Nat.le_of_ble_eq_true rfl) lkX6_19 rfl dX6_passesAll_31 rfl ?_
  refine v_callV C (Nat.le_of_ble_eq_true rfl) rfl rfl (As := [.ref 4]) (rest := []) (kX6_passesK 4 7 59 υ3 (Nat.le_of_ble_eq_true rfl) rfl (by decide) (by decide) g2.2.2.1 g2.2.2.2.1 (by decide)) rfl (Nat.le_of_ble_eq_true rfl) (Nat.le_of_ble_eq_true rfl) ⟨mlX6_153, mfX6_passes⟩ dkX6_passes (Nat.le_of_ble_eq_true rfl) dX6_passesAll_34 rfl (kV ?_)
  refine V.nm (fun υ4 eυ4 => ?_)
  have g3 : Svp σ 50 16 υ4 := by rw [eυ4]; exact Svp_pass g2 (by decide) (by decide) (blk_at σ).2.2.1
  refine v_aload_n C dX6_passesAll_37 rfl rfl rfl ?_
  refine v_aload_n C dX6_passesAll_38 rfl rfl rfl ?_
  refine v_getR C (Nat.le_of_ble_eq_true rfl) rfl rfl hinX6 4 (Nat.le_of_ble_eq_true rfl) lkX6_22 rfl dX6_passesAll_39 rfl ?_
  refine v_callV C (Nat.le_of_ble_eq_true rfl) rfl rfl (As := [.ref 5]) (rest := []) (kX6_passesK 5 7 66 υ4 (Nat.le_of_ble_eq_true rfl) rfl (by decide) (by decide) g3.2.2.1 g3.2.2.2.1 (by decide)) rfl (Nat.le_of_ble_eq_true rfl) (Nat.le_of_ble_eq_true rfl) ⟨mlX6_153, mfX6_passes⟩ dkX6_passes (Nat.le_of_ble_eq_true rfl) dX6_passesAll_42 rfl (kV ?_)
  refine V.nm (fun υ5 eυ5 => ?_)
  have g4 : Svp σ 50 23 υ5 := by rw [eυ5]; exact Svp_pass g3 (by decide) (by decide) (blk_at σ).2.2.2.1
  refine v_aload_n C dX6_passesAll_45 rfl rfl rfl ?_
  refine v_aload_n C dX6_passesAll_46 rfl rfl rfl ?_
  refine v_getR C (Nat.le_of_ble_eq_true rfl) rfl rfl hinX6 5 (Nat.le_of_ble_eq_true rfl) lkX6_25 rfl dX6_passesAll_47 rfl ?_
  refine v_callV C (Nat.le_of_ble_eq_true rfl) rfl rfl (As := [.ref 6]) (rest := []) (kX6_passesK 6 7 73 υ5 (Nat.le_of_ble_eq_true rfl) rfl (by decide) (by decide) g4.2.2.1 g4.2.2.2.1 (by decide)) rfl (Nat.le_of_ble_eq_true rfl) (Nat.le_of_ble_eq_true rfl) ⟨mlX6_153, mfX6_passes⟩ dkX6_passes (Nat.le_of_ble_eq_true rfl) dX6_passesAll_50 rfl (kV ?_)
  refine V.nm (fun υ6 eυ6 => ?_)
  have g5 : Svp σ 50 30 υ6 := by rw [eυ6]; exact Svp_pass g4 (by decide) (by decide) (blk_at σ).2.2.2.2.1
  refine v_aload_n C dX6_passesAll_53 rfl rfl rfl ?_
  refine v_aload_n C dX6_passesAll_54 rfl rfl rfl ?_
  refine v_getR C (Nat.le_of_ble_eq_true rfl) rfl rfl hinX6 6 (Nat.le_of_ble_eq_true rfl) lkX6_28 rfl dX6_passesAll_55 rfl ?_
  refine v_callV C (Nat.le_of_ble_eq_true rfl) rfl rfl (As := [.ref 7]) (rest := []) (kX6_passesK 7 7 80 υ6 (Nat.le_of_ble_eq_true rfl) rfl (by decide) (by decide) g5.2.2.1 g5.2.2.2.1 (by decide)) rfl (Nat.le_of_ble_eq_true rfl) (Nat.le_of_ble_eq_true rfl) ⟨mlX6_153, mfX6_passes⟩ dkX6_passes (Nat.le_of_ble_eq_true rfl) dX6_passesAll_58 rfl (kV ?_)
  refine V.nm (fun υ7 eυ7 => ?_)
  have g6 : Svp σ 50 37 υ7 := by rw [eυ7]; exact Svp_pass g5 (by decide) (by decide) (blk_at σ).2.2.2.2.2.1
  refine v_aload_n C dX6_passesAll_61 rfl rfl rfl ?_
  refine v_aload_n C dX6_passesAll_62 rfl rfl rfl ?_
  refine v_getR C (Nat.le_of_ble_eq_true rfl) rfl rfl hinX6 7 (Nat.le_of_ble_eq_true rfl) lkX6_31 rfl dX6_passesAll_63 rfl ?_
  refine v_callV C (Nat.le_of_ble_eq_true rfl) rfl rfl (As := [.ref 8]) (rest := []) (kX6_passesK 8 7 87 υ7 (Nat.le_of_ble_eq_true rfl) rfl (by decide) (by decide) g6.2.2.1 g6.2.2.2.1 (by decide)) rfl (Nat.le_of_ble_eq_true rfl) (Nat.le_of_ble_eq_true rfl) ⟨mlX6_153, mfX6_passes⟩ dkX6_passes (Nat.le_of_ble_eq_true rfl) dX6_passesAll_66 rfl (kV ?_)
  refine V.nm (fun υ8 eυ8 => ?_)
  have g7 : Svp σ 50 44 υ8 := by rw [eυ8]; exact Svp_pass g6 (by decide) (by decide) (blk_at σ).2.2.2.2.2.2
  refine v_aload_n C dX6_passesAll_69 rfl rfl rfl ?_
  refine v_aload_n C dX6_passesAll_70 rfl rfl rfl ?_
  refine v_aload_n C dX6_passesAll_71 rfl rfl rfl ?_
  refine v_getI C (Nat.le_of_ble_eq_true rfl) rfl rfl hinX6 8 (Nat.le_of_ble_eq_true rfl) lkX6_65 rfl dX6_passesAll_72 rfl ?_
  refine v_callV C (Nat.le_of_ble_eq_true rfl) rfl rfl (As := [.int (υ8 0 8)]) (rest := [.ref 0]) (kX6_passOneK 94 (υ8 0 8) υ8 g7.2.2.1 g7.2.2.2.1 (by decide)) rfl (Nat.le_of_ble_eq_true rfl) (Nat.le_of_ble_eq_true rfl) ⟨mlX6_157, mfX6_passOne⟩ dkX6_passOne (Nat.le_of_ble_eq_true rfl) dX6_passesAll_75 rfl (kI ?_)
  refine v_put (ty := .int) C (Nat.le_of_ble_eq_true rfl) rfl rfl hinX6 tyX6_ok nmX6 8 (Nat.le_of_ble_eq_true rfl) lkX6_65 rfl (by decide +kernel) rfl rfl rfl dX6_passesAll_78 rfl ?_
  refine V.nm (fun τ78_3 eτ78_3 => ?_)
  have g8 : Svp σ 50 45 τ78_3 := by rw [eτ78_3]; exact Svp_one g7 (g7.2.1 8 (by decide) (by decide)) (by simp [blk]) (by decide) (by decide)
  refine v_aload_n C dX6_passesAll_81 rfl rfl rfl ?_
  refine v_aload_n C dX6_passesAll_82 rfl rfl rfl ?_
  refine v_aload_n C dX6_passesAll_83 rfl rfl rfl ?_
  refine v_getI C (Nat.le_of_ble_eq_true rfl) rfl rfl hinX6 9 (Nat.le_of_ble_eq_true rfl) lkX6_61 rfl dX6_passesAll_84 rfl ?_
  refine v_callV C (Nat.le_of_ble_eq_true rfl) rfl rfl (As := [.int (τ78_3 0 9)]) (rest := [.ref 0]) (kX6_passOneK 95 (τ78_3 0 9) τ78_3 g8.2.2.1 g8.2.2.2.1 (by decide)) rfl (Nat.le_of_ble_eq_true rfl) (Nat.le_of_ble_eq_true rfl) ⟨mlX6_157, mfX6_passOne⟩ dkX6_passOne (Nat.le_of_ble_eq_true rfl) dX6_passesAll_87 rfl (kI ?_)
  refine v_put (ty := .int) C (Nat.le_of_ble_eq_true rfl) rfl rfl hinX6 tyX6_ok nmX6 9 (Nat.le_of_ble_eq_true rfl) lkX6_61 rfl (by decide +kernel) rfl rfl rfl dX6_passesAll_90 rfl ?_
  refine V.nm (fun τ90_4 eτ90_4 => ?_)
  have g9 : Svp σ 50 46 τ90_4 := by rw [eτ90_4]; exact Svp_one g8 (g8.2.1 9 (by decide) (by decide)) (by simp [blk]) (by decide) (by decide)
  refine v_aload_n C dX6_passesAll_93 rfl rfl rfl ?_
  refine v_aload_n C dX6_passesAll_94 rfl rfl rfl ?_
  refine v_aload_n C dX6_passesAll_95 rfl rfl rfl ?_
  refine v_getI C (Nat.le_of_ble_eq_true rfl) rfl rfl hinX6 10 (Nat.le_of_ble_eq_true rfl) lkX6_128 rfl dX6_passesAll_96 rfl ?_
  refine v_callV C (Nat.le_of_ble_eq_true rfl) rfl rfl (As := [.int (τ90_4 0 10)]) (rest := [.ref 0]) (kX6_passOneK 96 (τ90_4 0 10) τ90_4 g9.2.2.1 g9.2.2.2.1 (by decide)) rfl (Nat.le_of_ble_eq_true rfl) (Nat.le_of_ble_eq_true rfl) ⟨mlX6_157, mfX6_passOne⟩ dkX6_passOne (Nat.le_of_ble_eq_true rfl) dX6_passesAll_99 rfl (kI ?_)
  refine v_put (ty := .int) C (Nat.le_of_ble_eq_true rfl) rfl rfl hinX6 tyX6_ok nmX6 10 (Nat.le_of_ble_eq_true rfl) lkX6_128 rfl (by decide +kernel) rfl rfl rfl dX6_passesAll_102 rfl ?_
  refine V.nm (fun τ102_5 eτ102_5 => ?_)
  have g10 : Svp σ 50 47 τ102_5 := by rw [eτ102_5]; exact Svp_one g9 (g9.2.1 10 (by decide) (by decide)) (by simp [blk]) (by decide) (by decide)
  exact v_vret C dX6_passesAll_105 (by rw [hX]; exact ⟨rfl, g10⟩)
theorem kX6_passesAllB0 (σ : St) : Ct yX6_passesAll cX6_passesAll 3 none 1 [.ref 0, .int 0, .int 0] σ (rV (Rsp σ 0 47)) := by
  refine ct_of plX6 rfl (Nat.le_of_ble_eq_true rfl) (fun X hX C => ?_)
  show V X 0 [(0, .ref 0), (1, .int 0), (2, .int 0)] [] σ
  refine v_aload_n C dX6_passesAll_0 rfl rfl rfl ?_
  refine v_bipush (v := 50) C dX6_passesAll_1 (by decide) rfl ?_
  refine v_iload_n C dX6_passesAll_3 rfl rfl rfl ?_
  refine v_imul C dX6_passesAll_4 rfl ?_
  refine V.tp (show (50 : Int32) * 0 = 0 by decide) ?_
  refine v_put (ty := .int) C (Nat.le_of_ble_eq_true rfl) rfl rfl hinX6 tyX6_ok nmX6 21 (Nat.le_of_ble_eq_true rfl) lkX6_150 rfl (by decide +kernel) rfl rfl rfl dX6_passesAll_5 rfl ?_
  refine V.nm (fun τ5_1 eτ5_1 => ?_)
  refine v_aload_n C dX6_passesAll_8 rfl rfl rfl ?_
  refine v_iload_n C dX6_passesAll_9 rfl rfl rfl ?_
  refine v_put (ty := .boolean) C (Nat.le_of_ble_eq_true rfl) rfl rfl hinX6 tyX6_ok nmX6 20 (Nat.le_of_ble_eq_true rfl) lkX6_146 rfl (by decide +kernel) rfl rfl rfl dX6_passesAll_10 rfl ?_
  refine V.nm (fun τ10_2 eτ10_2 => ?_)
  have g0 : Rsp σ 0 0 τ10_2 := by rw [eτ10_2, eτ5_1]; exact ⟨fun a a0 _ => by rw [s2_ne a0, s2_ne a0], fun j _ _ _ j1 j2 => by rw [s2_get, s2_get, if_neg (fun q => j1 q.2), if_neg (fun q => j2 q.2)], by simp [s2_get], by simp [s2_get]; rfl, fun k _ _ => by rw [if_neg (by omega), s2_ne (by omega), s2_ne (by omega)], by simp [s2_get], by simp [s2_get], by simp [s2_get]⟩
  refine v_aload_n C dX6_passesAll_13 rfl rfl rfl ?_
  refine v_aload_n C dX6_passesAll_14 rfl rfl rfl ?_
  refine v_getR C (Nat.le_of_ble_eq_true rfl) rfl rfl hinX6 1 (Nat.le_of_ble_eq_true rfl) lkX6_13 rfl dX6_passesAll_15 rfl ?_
  refine v_callV C (Nat.le_of_ble_eq_true rfl) rfl rfl (As := [.ref 2]) (rest := []) (kX6_passesB 2 6 0 τ10_2 (Nat.le_of_ble_eq_true rfl) rfl (by decide) (by decide) g0.2.2.1 g0.2.2.2.1 (by decide)) rfl (Nat.le_of_ble_eq_true rfl) (Nat.le_of_ble_eq_true rfl) ⟨mlX6_153, mfX6_passes⟩ dkX6_passes (Nat.le_of_ble_eq_true rfl) dX6_passesAll_18 rfl (kV ?_)
  refine V.nm (fun υ2 eυ2 => ?_)
  have g1 : Rsp σ 0 6 υ2 := by rw [eυ2]; exact Rsp_pass (k := 2) (N := 6) g0 (by decide) (by decide) rfl rfl (by intro q a b e; have h : ∀ q, q < 9 → 2 ≤ q → q ≠ 2 → (offR q < 0 ↔ offR q < 0 + 6) := (by decide); exact h q (by omega) a e) (by decide) (by decide)
  refine v_aload_n C dX6_passesAll_21 rfl rfl rfl ?_
  refine v_aload_n C dX6_passesAll_22 rfl rfl rfl ?_
  refine v_getR C (Nat.le_of_ble_eq_true rfl) rfl rfl hinX6 2 (Nat.le_of_ble_eq_true rfl) lkX6_16 rfl dX6_passesAll_23 rfl ?_
  refine v_callV C (Nat.le_of_ble_eq_true rfl) rfl rfl (As := [.ref 3]) (rest := []) (kX6_passesB 3 3 6 υ2 (Nat.le_of_ble_eq_true rfl) rfl (by decide) (by decide) g1.2.2.1 g1.2.2.2.1 (by decide)) rfl (Nat.le_of_ble_eq_true rfl) (Nat.le_of_ble_eq_true rfl) ⟨mlX6_153, mfX6_passes⟩ dkX6_passes (Nat.le_of_ble_eq_true rfl) dX6_passesAll_26 rfl (kV ?_)
  refine V.nm (fun υ3 eυ3 => ?_)
  have g2 : Rsp σ 0 9 υ3 := by rw [eυ3]; exact Rsp_pass (k := 3) (N := 3) g1 (by decide) (by decide) rfl rfl (by intro q a b e; have h : ∀ q, q < 9 → 2 ≤ q → q ≠ 3 → (offR q < 6 ↔ offR q < 6 + 3) := (by decide); exact h q (by omega) a e) (by decide) (by decide)
  refine v_aload_n C dX6_passesAll_29 rfl rfl rfl ?_
  refine v_aload_n C dX6_passesAll_30 rfl rfl rfl ?_
  refine v_getR C (Nat.le_of_ble_eq_true rfl) rfl rfl hinX6 3 (Nat.le_of_ble_eq_true rfl) lkX6_19 rfl dX6_passesAll_31 rfl ?_
  refine v_callV C (Nat.le_of_ble_eq_true rfl) rfl rfl (As := [.ref 4]) (rest := []) (kX6_passesB 4 7 9 υ3 (Nat.le_of_ble_eq_true rfl) rfl (by decide) (by decide) g2.2.2.1 g2.2.2.2.1 (by decide)) rfl (Nat.le_of_ble_eq_true rfl) (Nat.le_of_ble_eq_true rfl) ⟨mlX6_153, mfX6_passes⟩ dkX6_passes (Nat.le_of_ble_eq_true rfl) dX6_passesAll_34 rfl (kV ?_)
  refine V.nm (fun υ4 eυ4 => ?_)
  have g3 : Rsp σ 0 16 υ4 := by rw [eυ4]; exact Rsp_pass (k := 4) (N := 7) g2 (by decide) (by decide) rfl rfl (by intro q a b e; have h : ∀ q, q < 9 → 2 ≤ q → q ≠ 4 → (offR q < 9 ↔ offR q < 9 + 7) := (by decide); exact h q (by omega) a e) (by decide) (by decide)
  refine v_aload_n C dX6_passesAll_37 rfl rfl rfl ?_
  refine v_aload_n C dX6_passesAll_38 rfl rfl rfl ?_
  refine v_getR C (Nat.le_of_ble_eq_true rfl) rfl rfl hinX6 4 (Nat.le_of_ble_eq_true rfl) lkX6_22 rfl dX6_passesAll_39 rfl ?_
  refine v_callV C (Nat.le_of_ble_eq_true rfl) rfl rfl (As := [.ref 5]) (rest := []) (kX6_passesB 5 7 16 υ4 (Nat.le_of_ble_eq_true rfl) rfl (by decide) (by decide) g3.2.2.1 g3.2.2.2.1 (by decide)) rfl (Nat.le_of_ble_eq_true rfl) (Nat.le_of_ble_eq_true rfl) ⟨mlX6_153, mfX6_passes⟩ dkX6_passes (Nat.le_of_ble_eq_true rfl) dX6_passesAll_42 rfl (kV ?_)
  refine V.nm (fun υ5 eυ5 => ?_)
  have g4 : Rsp σ 0 23 υ5 := by rw [eυ5]; exact Rsp_pass (k := 5) (N := 7) g3 (by decide) (by decide) rfl rfl (by intro q a b e; have h : ∀ q, q < 9 → 2 ≤ q → q ≠ 5 → (offR q < 16 ↔ offR q < 16 + 7) := (by decide); exact h q (by omega) a e) (by decide) (by decide)
  refine v_aload_n C dX6_passesAll_45 rfl rfl rfl ?_
  refine v_aload_n C dX6_passesAll_46 rfl rfl rfl ?_
  refine v_getR C (Nat.le_of_ble_eq_true rfl) rfl rfl hinX6 5 (Nat.le_of_ble_eq_true rfl) lkX6_25 rfl dX6_passesAll_47 rfl ?_
  refine v_callV C (Nat.le_of_ble_eq_true rfl) rfl rfl (As := [.ref 6]) (rest := []) (kX6_passesB 6 7 23 υ5 (Nat.le_of_ble_eq_true rfl) rfl (by decide) (by decide) g4.2.2.1 g4.2.2.2.1 (by decide)) rfl (Nat.le_of_ble_eq_true rfl) (Nat.le_of_ble_eq_true rfl) ⟨mlX6_153, mfX6_passes⟩ dkX6_passes (Nat.le_of_ble_eq_true rfl) dX6_passesAll_50 rfl (kV ?_)
  refine V.nm (fun υ6 eυ6 => ?_)
  have g5 : Rsp σ 0 30 υ6 := by rw [eυ6]; exact Rsp_pass (k := 6) (N := 7) g4 (by decide) (by decide) rfl rfl (by intro q a b e; have h : ∀ q, q < 9 → 2 ≤ q → q ≠ 6 → (offR q < 23 ↔ offR q < 23 + 7) := (by decide); exact h q (by omega) a e) (by decide) (by decide)
  refine v_aload_n C dX6_passesAll_53 rfl rfl rfl ?_
  refine v_aload_n C dX6_passesAll_54 rfl rfl rfl ?_
  refine v_getR C (Nat.le_of_ble_eq_true rfl) rfl rfl hinX6 6 (Nat.le_of_ble_eq_true rfl) lkX6_28 rfl dX6_passesAll_55 rfl ?_
  refine v_callV C (Nat.le_of_ble_eq_true rfl) rfl rfl (As := [.ref 7]) (rest := []) (kX6_passesB 7 7 30 υ6 (Nat.le_of_ble_eq_true rfl) rfl (by decide) (by decide) g5.2.2.1 g5.2.2.2.1 (by decide)) rfl (Nat.le_of_ble_eq_true rfl) (Nat.le_of_ble_eq_true rfl) ⟨mlX6_153, mfX6_passes⟩ dkX6_passes (Nat.le_of_ble_eq_true rfl) dX6_passesAll_58 rfl (kV ?_)
  refine V.nm (fun υ7 eυ7 => ?_)
  have g6 : Rsp σ 0 37 υ7 := by rw [eυ7]; exact Rsp_pass (k := 7) (N := 7) g5 (by decide) (by decide) rfl rfl (by intro q a b e; have h : ∀ q, q < 9 → 2 ≤ q → q ≠ 7 → (offR q < 30 ↔ offR q < 30 + 7) := (by decide); exact h q (by omega) a e) (by decide) (by decide)
  refine v_aload_n C dX6_passesAll_61 rfl rfl rfl ?_
  refine v_aload_n C dX6_passesAll_62 rfl rfl rfl ?_
  refine v_getR C (Nat.le_of_ble_eq_true rfl) rfl rfl hinX6 7 (Nat.le_of_ble_eq_true rfl) lkX6_31 rfl dX6_passesAll_63 rfl ?_
  refine v_callV C (Nat.le_of_ble_eq_true rfl) rfl rfl (As := [.ref 8]) (rest := []) (kX6_passesB 8 7 37 υ7 (Nat.le_of_ble_eq_true rfl) rfl (by decide) (by decide) g6.2.2.1 g6.2.2.2.1 (by decide)) rfl (Nat.le_of_ble_eq_true rfl) (Nat.le_of_ble_eq_true rfl) ⟨mlX6_153, mfX6_passes⟩ dkX6_passes (Nat.le_of_ble_eq_true rfl) dX6_passesAll_66 rfl (kV ?_)
  refine V.nm (fun υ8 eυ8 => ?_)
  have g7 : Rsp σ 0 44 υ8 := by rw [eυ8]; exact Rsp_pass (k := 8) (N := 7) g6 (by decide) (by decide) rfl rfl (by intro q a b e; have h : ∀ q, q < 9 → 2 ≤ q → q ≠ 8 → (offR q < 37 ↔ offR q < 37 + 7) := (by decide); exact h q (by omega) a e) (by decide) (by decide)
  refine v_aload_n C dX6_passesAll_69 rfl rfl rfl ?_
  refine v_aload_n C dX6_passesAll_70 rfl rfl rfl ?_
  refine v_aload_n C dX6_passesAll_71 rfl rfl rfl ?_
  refine v_getI C (Nat.le_of_ble_eq_true rfl) rfl rfl hinX6 8 (Nat.le_of_ble_eq_true rfl) lkX6_65 rfl dX6_passesAll_72 rfl ?_
  refine v_callV C (Nat.le_of_ble_eq_true rfl) rfl rfl (As := [.int (υ8 0 8)]) (rest := [.ref 0]) (kX6_passOneB 44 (υ8 0 8) υ8 g7.2.2.1 g7.2.2.2.1 (by decide)) rfl (Nat.le_of_ble_eq_true rfl) (Nat.le_of_ble_eq_true rfl) ⟨mlX6_157, mfX6_passOne⟩ dkX6_passOne (Nat.le_of_ble_eq_true rfl) dX6_passesAll_75 rfl (kI ?_)
  refine v_put (ty := .int) C (Nat.le_of_ble_eq_true rfl) rfl rfl hinX6 tyX6_ok nmX6 8 (Nat.le_of_ble_eq_true rfl) lkX6_65 rfl (by decide +kernel) rfl rfl rfl dX6_passesAll_78 rfl ?_
  refine V.nm (fun τ78_3 eτ78_3 => ?_)
  have g8 : Rsp σ 0 45 τ78_3 := by rw [eτ78_3]; exact Rsp_one g7 (by rw [g7.1 13 (by decide) (by decide)]) (by decide)
  refine v_aload_n C dX6_passesAll_81 rfl rfl rfl ?_
  refine v_aload_n C dX6_passesAll_82 rfl rfl rfl ?_
  refine v_aload_n C dX6_passesAll_83 rfl rfl rfl ?_
  refine v_getI C (Nat.le_of_ble_eq_true rfl) rfl rfl hinX6 9 (Nat.le_of_ble_eq_true rfl) lkX6_61 rfl dX6_passesAll_84 rfl ?_
  refine v_callV C (Nat.le_of_ble_eq_true rfl) rfl rfl (As := [.int (τ78_3 0 9)]) (rest := [.ref 0]) (kX6_passOneB 45 (τ78_3 0 9) τ78_3 g8.2.2.1 g8.2.2.2.1 (by decide)) rfl (Nat.le_of_ble_eq_true rfl) (Nat.le_of_ble_eq_true rfl) ⟨mlX6_157, mfX6_passOne⟩ dkX6_passOne (Nat.le_of_ble_eq_true rfl) dX6_passesAll_87 rfl (kI ?_)
  refine v_put (ty := .int) C (Nat.le_of_ble_eq_true rfl) rfl rfl hinX6 tyX6_ok nmX6 9 (Nat.le_of_ble_eq_true rfl) lkX6_61 rfl (by decide +kernel) rfl rfl rfl dX6_passesAll_90 rfl ?_
  refine V.nm (fun τ90_4 eτ90_4 => ?_)
  have g9 : Rsp σ 0 46 τ90_4 := by rw [eτ90_4]; exact Rsp_one g8 (by rw [g8.1 13 (by decide) (by decide)]) (by decide)
  refine v_aload_n C dX6_passesAll_93 rfl rfl rfl ?_
  refine v_aload_n C dX6_passesAll_94 rfl rfl rfl ?_
  refine v_aload_n C dX6_passesAll_95 rfl rfl rfl ?_
  refine v_getI C (Nat.le_of_ble_eq_true rfl) rfl rfl hinX6 10 (Nat.le_of_ble_eq_true rfl) lkX6_128 rfl dX6_passesAll_96 rfl ?_
  refine v_callV C (Nat.le_of_ble_eq_true rfl) rfl rfl (As := [.int (τ90_4 0 10)]) (rest := [.ref 0]) (kX6_passOneB 46 (τ90_4 0 10) τ90_4 g9.2.2.1 g9.2.2.2.1 (by decide)) rfl (Nat.le_of_ble_eq_true rfl) (Nat.le_of_ble_eq_true rfl) ⟨mlX6_157, mfX6_passOne⟩ dkX6_passOne (Nat.le_of_ble_eq_true rfl) dX6_passesAll_99 rfl (kI ?_)
  refine v_put (ty := .int) C (Nat.le_of_ble_eq_true rfl) rfl rfl hinX6 tyX6_ok nmX6 10 (Nat.le_of_ble_eq_true rfl) lkX6_128 rfl (by decide +kernel) rfl rfl rfl dX6_passesAll_102 rfl ?_
  refine V.nm (fun τ102_5 eτ102_5 => ?_)
  have g10 : Rsp σ 0 47 τ102_5 := by rw [eτ102_5]; exact Rsp_one g9 (by rw [g9.1 13 (by decide) (by decide)]) (by decide)
  exact v_vret C dX6_passesAll_105 (by rw [hX]; exact ⟨rfl, g10⟩)
theorem kX6_passesAllB1 (σ : St) : Ct yX6_passesAll cX6_passesAll 3 none 1 [.ref 0, .int 1, .int 0] σ (rV (Rsp σ 50 47)) := by
  refine ct_of plX6 rfl (Nat.le_of_ble_eq_true rfl) (fun X hX C => ?_)
  show V X 0 [(0, .ref 0), (1, .int 1), (2, .int 0)] [] σ
  refine v_aload_n C dX6_passesAll_0 rfl rfl rfl ?_
  refine v_bipush (v := 50) C dX6_passesAll_1 (by decide) rfl ?_
  refine v_iload_n C dX6_passesAll_3 rfl rfl rfl ?_
  refine v_imul C dX6_passesAll_4 rfl ?_
  refine V.tp (show (50 : Int32) * 1 = 50 by decide) ?_
  refine v_put (ty := .int) C (Nat.le_of_ble_eq_true rfl) rfl rfl hinX6 tyX6_ok nmX6 21 (Nat.le_of_ble_eq_true rfl) lkX6_150 rfl (by decide +kernel) rfl rfl rfl dX6_passesAll_5 rfl ?_
  refine V.nm (fun τ5_1 eτ5_1 => ?_)
  refine v_aload_n C dX6_passesAll_8 rfl rfl rfl ?_
  refine v_iload_n C dX6_passesAll_9 rfl rfl rfl ?_
  refine v_put (ty := .boolean) C (Nat.le_of_ble_eq_true rfl) rfl rfl hinX6 tyX6_ok nmX6 20 (Nat.le_of_ble_eq_true rfl) lkX6_146 rfl (by decide +kernel) rfl rfl rfl dX6_passesAll_10 rfl ?_
  refine V.nm (fun τ10_2 eτ10_2 => ?_)
  have g0 : Rsp σ 50 0 τ10_2 := by rw [eτ10_2, eτ5_1]; exact ⟨fun a a0 _ => by rw [s2_ne a0, s2_ne a0], fun j _ _ _ j1 j2 => by rw [s2_get, s2_get, if_neg (fun q => j1 q.2), if_neg (fun q => j2 q.2)], by simp [s2_get], by simp [s2_get]; rfl, fun k _ _ => by rw [if_neg (by omega), s2_ne (by omega), s2_ne (by omega)], by simp [s2_get], by simp [s2_get], by simp [s2_get]⟩
  refine v_aload_n C dX6_passesAll_13 rfl rfl rfl ?_
  refine v_aload_n C dX6_passesAll_14 rfl rfl rfl ?_
  refine v_getR C (Nat.le_of_ble_eq_true rfl) rfl rfl hinX6 1 (Nat.le_of_ble_eq_true rfl) lkX6_13 rfl dX6_passesAll_15 rfl ?_
  refine v_callV C (Nat.le_of_ble_eq_true rfl) rfl rfl (As := [.ref 2]) (rest := []) (kX6_passesB 2 6 50 τ10_2 (Nat.le_of_ble_eq_true rfl) rfl (by decide) (by decide) g0.2.2.1 g0.2.2.2.1 (by decide)) rfl (Nat.le_of_ble_eq_true rfl) (Nat.le_of_ble_eq_true rfl) ⟨mlX6_153, mfX6_passes⟩ dkX6_passes (Nat.le_of_ble_eq_true rfl) dX6_passesAll_18 rfl (kV ?_)
  refine V.nm (fun υ2 eυ2 => ?_)
  have g1 : Rsp σ 50 6 υ2 := by rw [eυ2]; exact Rsp_pass (k := 2) (N := 6) g0 (by decide) (by decide) rfl rfl (by intro q a b e; have h : ∀ q, q < 9 → 2 ≤ q → q ≠ 2 → (offR q < 0 ↔ offR q < 0 + 6) := (by decide); exact h q (by omega) a e) (by decide) (by decide)
  refine v_aload_n C dX6_passesAll_21 rfl rfl rfl ?_
  refine v_aload_n C dX6_passesAll_22 rfl rfl rfl ?_
  refine v_getR C (Nat.le_of_ble_eq_true rfl) rfl rfl hinX6 2 (Nat.le_of_ble_eq_true rfl) lkX6_16 rfl dX6_passesAll_23 rfl ?_
  refine v_callV C (Nat.le_of_ble_eq_true rfl) rfl rfl (As := [.ref 3]) (rest := []) (kX6_passesB 3 3 56 υ2 (Nat.le_of_ble_eq_true rfl) rfl (by decide) (by decide) g1.2.2.1 g1.2.2.2.1 (by decide)) rfl (Nat.le_of_ble_eq_true rfl) (Nat.le_of_ble_eq_true rfl) ⟨mlX6_153, mfX6_passes⟩ dkX6_passes (Nat.le_of_ble_eq_true rfl) dX6_passesAll_26 rfl (kV ?_)
  refine V.nm (fun υ3 eυ3 => ?_)
  have g2 : Rsp σ 50 9 υ3 := by rw [eυ3]; exact Rsp_pass (k := 3) (N := 3) g1 (by decide) (by decide) rfl rfl (by intro q a b e; have h : ∀ q, q < 9 → 2 ≤ q → q ≠ 3 → (offR q < 6 ↔ offR q < 6 + 3) := (by decide); exact h q (by omega) a e) (by decide) (by decide)
  refine v_aload_n C dX6_passesAll_29 rfl rfl rfl ?_
  refine v_aload_n C dX6_passesAll_30 rfl rfl rfl ?_
  refine v_getR C (Nat.le_of_ble_eq_true rfl) rfl rfl hinX6 3 (Nat.le_of_ble_eq_true rfl) lkX6_19 rfl dX6_passesAll_31 rfl ?_
  refine v_callV C (Nat.le_of_ble_eq_true rfl) rfl rfl (As := [.ref 4]) (rest := []) (kX6_passesB 4 7 59 υ3 (Nat.le_of_ble_eq_true rfl) rfl (by decide) (by decide) g2.2.2.1 g2.2.2.2.1 (by decide)) rfl (Nat.le_of_ble_eq_true rfl) (Nat.le_of_ble_eq_true rfl) ⟨mlX6_153, mfX6_passes⟩ dkX6_passes (Nat.le_of_ble_eq_true rfl) dX6_passesAll_34 rfl (kV ?_)
  refine V.nm (fun υ4 eυ4 => ?_)
  have g3 : Rsp σ 50 16 υ4 := by rw [eυ4]; exact Rsp_pass (k := 4) (N := 7) g2 (by decide) (by decide) rfl rfl (by intro q a b e; have h : ∀ q, q < 9 → 2 ≤ q → q ≠ 4 → (offR q < 9 ↔ offR q < 9 + 7) := (by decide); exact h q (by omega) a e) (by decide) (by decide)
  refine v_aload_n C dX6_passesAll_37 rfl rfl rfl ?_
  refine v_aload_n C dX6_passesAll_38 rfl rfl rfl ?_
  refine v_getR C (Nat.le_of_ble_eq_true rfl) rfl rfl hinX6 4 (Nat.le_of_ble_eq_true rfl) lkX6_22 rfl dX6_passesAll_39 rfl ?_
  refine v_callV C (Nat.le_of_ble_eq_true rfl) rfl rfl (As := [.ref 5]) (rest := []) (kX6_passesB 5 7 66 υ4 (Nat.le_of_ble_eq_true rfl) rfl (by decide) (by decide) g3.2.2.1 g3.2.2.2.1 (by decide)) rfl (Nat.le_of_ble_eq_true rfl) (Nat.le_of_ble_eq_true rfl) ⟨mlX6_153, mfX6_passes⟩ dkX6_passes (Nat.le_of_ble_eq_true rfl) dX6_passesAll_42 rfl (kV ?_)
  refine V.nm (fun υ5 eυ5 => ?_)
  have g4 : Rsp σ 50 23 υ5 := by rw [eυ5]; exact Rsp_pass (k := 5) (N := 7) g3 (by decide) (by decide) rfl rfl (by intro q a b e; have h : ∀ q, q < 9 → 2 ≤ q → q ≠ 5 → (offR q < 16 ↔ offR q < 16 + 7) := (by decide); exact h q (by omega) a e) (by decide) (by decide)
  refine v_aload_n C dX6_passesAll_45 rfl rfl rfl ?_
  refine v_aload_n C dX6_passesAll_46 rfl rfl rfl ?_
  refine v_getR C (Nat.le_of_ble_eq_true rfl) rfl rfl hinX6 5 (Nat.le_of_ble_eq_true rfl) lkX6_25 rfl dX6_passesAll_47 rfl ?_
  refine v_callV C (Nat.le_of_ble_eq_true rfl) rfl rfl (As := [.ref 6]) (rest := []) (kX6_passesB 6 7 73 υ5 (Nat.le_of_ble_eq_true rfl) rfl (by decide) (by decide) g4.2.2.1 g4.2.2.2.1 (by decide)) rfl (Nat.le_of_ble_eq_true rfl) (Nat.le_of_ble_eq_true rfl) ⟨mlX6_153, mfX6_passes⟩ dkX6_passes (Nat.le_of_ble_eq_true rfl) dX6_passesAll_50 rfl (kV ?_)
  refine V.nm (fun υ6 eυ6 => ?_)
  have g5 : Rsp σ 50 30 υ6 := by rw [eυ6]; exact Rsp_pass (k := 6) (N := 7) g4 (by decide) (by decide) rfl rfl (by intro q a b e; have h : ∀ q, q < 9 → 2 ≤ q → q ≠ 6 → (offR q < 23 ↔ offR q < 23 + 7) := (by decide); exact h q (by omega) a e) (by decide) (by decide)
  refine v_aload_n C dX6_passesAll_53 rfl rfl rfl ?_
  refine v_aload_n C dX6_passesAll_54 rfl rfl rfl ?_
  refine v_getR C (Nat.le_of_ble_eq_true rfl) rfl rfl hinX6 6 (Nat.le_of_ble_eq_true rfl) lkX6_28 rfl dX6_passesAll_55 rfl ?_
  refine v_callV C (Nat.le_of_ble_eq_true rfl) rfl rfl (As := [.ref 7]) (rest := []) (kX6_passesB 7 7 80 υ6 (Nat.le_of_ble_eq_true rfl) rfl (by decide) (by decide) g5.2.2.1 g5.2.2.2.1 (by decide)) rfl (Nat.le_of_ble_eq_true rfl) (Nat.le_of_ble_eq_true rfl) ⟨mlX6_153, mfX6_passes⟩ dkX6_passes (Nat.le_of_ble_eq_true rfl) dX6_passesAll_58 rfl (kV ?_)
  refine V.nm (fun υ7 eυ7 => ?_)
  have g6 : Rsp σ 50 37 υ7 := by rw [eυ7]; exact Rsp_pass (k := 7) (N := 7) g5 (by decide) (by decide) rfl rfl (by intro q a b e; have h : ∀ q, q < 9 → 2 ≤ q → q ≠ 7 → (offR q < 30 ↔ offR q < 30 + 7) := (by decide); exact h q (by omega) a e) (by decide) (by decide)
  refine v_aload_n C dX6_passesAll_61 rfl rfl rfl ?_
  refine v_aload_n C dX6_passesAll_62 rfl rfl rfl ?_
  refine v_getR C (Nat.le_of_ble_eq_true rfl) rfl rfl hinX6 7 (Nat.le_of_ble_eq_true rfl) lkX6_31 rfl dX6_passesAll_63 rfl ?_
  refine v_callV C (Nat.le_of_ble_eq_true rfl) rfl rfl (As := [.ref 8]) (rest := []) (kX6_passesB 8 7 87 υ7 (Nat.le_of_ble_eq_true rfl) rfl (by decide) (by decide) g6.2.2.1 g6.2.2.2.1 (by decide)) rfl (Nat.le_of_ble_eq_true rfl) (Nat.le_of_ble_eq_true rfl) ⟨mlX6_153, mfX6_passes⟩ dkX6_passes (Nat.le_of_ble_eq_true rfl) dX6_passesAll_66 rfl (kV ?_)
  refine V.nm (fun υ8 eυ8 => ?_)
  have g7 : Rsp σ 50 44 υ8 := by rw [eυ8]; exact Rsp_pass (k := 8) (N := 7) g6 (by decide) (by decide) rfl rfl (by intro q a b e; have h : ∀ q, q < 9 → 2 ≤ q → q ≠ 8 → (offR q < 37 ↔ offR q < 37 + 7) := (by decide); exact h q (by omega) a e) (by decide) (by decide)
  refine v_aload_n C dX6_passesAll_69 rfl rfl rfl ?_
  refine v_aload_n C dX6_passesAll_70 rfl rfl rfl ?_
  refine v_aload_n C dX6_passesAll_71 rfl rfl rfl ?_
  refine v_getI C (Nat.le_of_ble_eq_true rfl) rfl rfl hinX6 8 (Nat.le_of_ble_eq_true rfl) lkX6_65 rfl dX6_passesAll_72 rfl ?_
  refine v_callV C (Nat.le_of_ble_eq_true rfl) rfl rfl (As := [.int (υ8 0 8)]) (rest := [.ref 0]) (kX6_passOneB 94 (υ8 0 8) υ8 g7.2.2.1 g7.2.2.2.1 (by decide)) rfl (Nat.le_of_ble_eq_true rfl) (Nat.le_of_ble_eq_true rfl) ⟨mlX6_157, mfX6_passOne⟩ dkX6_passOne (Nat.le_of_ble_eq_true rfl) dX6_passesAll_75 rfl (kI ?_)
  refine v_put (ty := .int) C (Nat.le_of_ble_eq_true rfl) rfl rfl hinX6 tyX6_ok nmX6 8 (Nat.le_of_ble_eq_true rfl) lkX6_65 rfl (by decide +kernel) rfl rfl rfl dX6_passesAll_78 rfl ?_
  refine V.nm (fun τ78_3 eτ78_3 => ?_)
  have g8 : Rsp σ 50 45 τ78_3 := by rw [eτ78_3]; exact Rsp_one g7 (by rw [g7.1 13 (by decide) (by decide)]) (by decide)
  refine v_aload_n C dX6_passesAll_81 rfl rfl rfl ?_
  refine v_aload_n C dX6_passesAll_82 rfl rfl rfl ?_
  refine v_aload_n C dX6_passesAll_83 rfl rfl rfl ?_
  refine v_getI C (Nat.le_of_ble_eq_true rfl) rfl rfl hinX6 9 (Nat.le_of_ble_eq_true rfl) lkX6_61 rfl dX6_passesAll_84 rfl ?_
  refine v_callV C (Nat.le_of_ble_eq_true rfl) rfl rfl (As := [.int (τ78_3 0 9)]) (rest := [.ref 0]) (kX6_passOneB 95 (τ78_3 0 9) τ78_3 g8.2.2.1 g8.2.2.2.1 (by decide)) rfl (Nat.le_of_ble_eq_true rfl) (Nat.le_of_ble_eq_true rfl) ⟨mlX6_157, mfX6_passOne⟩ dkX6_passOne (Nat.le_of_ble_eq_true rfl) dX6_passesAll_87 rfl (kI ?_)
  refine v_put (ty := .int) C (Nat.le_of_ble_eq_true rfl) rfl rfl hinX6 tyX6_ok nmX6 9 (Nat.le_of_ble_eq_true rfl) lkX6_61 rfl (by decide +kernel) rfl rfl rfl dX6_passesAll_90 rfl ?_
  refine V.nm (fun τ90_4 eτ90_4 => ?_)
  have g9 : Rsp σ 50 46 τ90_4 := by rw [eτ90_4]; exact Rsp_one g8 (by rw [g8.1 13 (by decide) (by decide)]) (by decide)
  refine v_aload_n C dX6_passesAll_93 rfl rfl rfl ?_
  refine v_aload_n C dX6_passesAll_94 rfl rfl rfl ?_
  refine v_aload_n C dX6_passesAll_95 rfl rfl rfl ?_
  refine v_getI C (Nat.le_of_ble_eq_true rfl) rfl rfl hinX6 10 (Nat.le_of_ble_eq_true rfl) lkX6_128 rfl dX6_passesAll_96 rfl ?_
  refine v_callV C (Nat.le_of_ble_eq_true rfl) rfl rfl (As := [.int (τ90_4 0 10)]) (rest := [.ref 0]) (kX6_passOneB 96 (τ90_4 0 10) τ90_4 g9.2.2.1 g9.2.2.2.1 (by decide)) rfl (Nat.le_of_ble_eq_true rfl) (Nat.le_of_ble_eq_true rfl) ⟨mlX6_157, mfX6_passOne⟩ dkX6_passOne (Nat.le_of_ble_eq_true rfl) dX6_passesAll_99 rfl (kI ?_)
  refine v_put (ty := .int) C (Nat.le_of_ble_eq_true rfl) rfl rfl hinX6 tyX6_ok nmX6 10 (Nat.le_of_ble_eq_true rfl) lkX6_128 rfl (by decide +kernel) rfl rfl rfl dX6_passesAll_102 rfl ?_
  refine V.nm (fun τ102_5 eτ102_5 => ?_)
  have g10 : Rsp σ 50 47 τ102_5 := by rw [eτ102_5]; exact Rsp_one g9 (by rw [g9.1 13 (by decide) (by decide)]) (by decide)
  exact v_vret C dX6_passesAll_105 (by rw [hX]; exact ⟨rfl, g10⟩)
end
section
/-! the check's class: the public methods, the plain ones -/
abbrev tn (x : Int32) : Nat := x.toNatClampNeg
theorem nat_of {v : Int32} {a b : Nat} (ha : a < 2 ^ 31) (hb : b < 2 ^ 31) (h1 : ¬ v < nI a) (h2 : ¬ nI b < v) : v = nI (tn v) ∧ a ≤ tn v ∧ tn v ≤ b := by
  by_cases hab : a ≤ b
  · rw [Int32.lt_iff_toInt_lt, nI_toInt (by omega)] at h1
    rw [Int32.lt_iff_toInt_lt, nI_toInt hb] at h2
    obtain ⟨j, hj, e⟩ := nI_of (x := v) (by rw [Int32.lt_iff_toInt_lt, Int32.toInt_zero]; omega)
    subst e
    rw [nI_toInt hj] at h1 h2
    unfold tn
    rw [nI_clamp hj]
    exact ⟨rfl, by omega, by omega⟩
  · exfalso
    rw [Int32.lt_iff_toInt_lt, nI_toInt hb] at h2
    rw [Int32.lt_iff_toInt_lt] at h1
    rw [nI_toInt ha] at h1; omega
theorem piece_nat {p : Int32} {n : Nat} (hn : n ≤ 7) (h : pieceP p (nI n)) : p = nI (tn p) ∧ tn p < n := by
  obtain ⟨h1, h2⟩ := h
  obtain ⟨j, hj, e⟩ := nI_of h1
  subst e
  unfold tn
  rw [nI_clamp hj]
  exact ⟨rfl, (nI_ltI hj (by omega)).mp h2⟩
def letA (c : Int32) (t : Nat) : Int32 := if c < 0 then -4 else if 255 < c then -6 else if t = 96 then -6 else nI (t + 1)
def letS (σ : St) (c : Int32) (t : Nat) : St := if c < 0 then noS σ 4 else if 255 < c then noS σ 6 else if t = 96 then noS σ 6 else s2 (s2 σ 9 t c) 0 15 (nI (t + 1))
def rowA (v : Int32) (u : Nat) : Int32 := if v < 0 then -4 else if 99 < v then -6 else if u = 12 then -6 else nI (u + 1)
def rowS (σ : St) (v : Int32) (u : Nat) : St := if v < 0 then noS σ 4 else if 99 < v then noS σ 6 else if u = 12 then noS σ 6 else s2 (s2 σ 17 u v) 0 27 (nI (u + 1))
theorem kX6_letter (c : Int32) (t : Nat) (σ : St) (ht : σ 0 15 = nI t) (h96 : t ≤ 96) : Ct yX6_letter cX6_letter 3 (some .int) 1 [.ref 0, .int c] σ (fI (letA c t) (letS σ c t)) := by
  refine ct_of plX6 rfl (Nat.le_of_ble_eq_true rfl) (fun X hX C => ?_)
  show V X 0 [(0, .ref 0), (1, .int c)] [] σ
  refine v_iload_n C dX6_letter_0 rfl rfl rfl ?_
  refine v_iconst (v := 0) C dX6_letter_1 (by decide) rfl ?_
  refine v_sipush (v := 255) C dX6_letter_2 (by decide) rfl ?_
  refine v_callS C (As := [.int c, .int 0, .int 255]) (rest := []) (kX6_bound c 0 255 σ) rfl (Nat.le_of_ble_eq_true rfl) (Nat.le_of_ble_eq_true rfl) ⟨mlX6_72, mfX6_bound⟩ dkX6_bound (Nat.le_of_ble_eq_true rfl) dX6_letter_5 rfl (kI ?_)
  rcases bnd_cases c 0 255 with ⟨hb, q1⟩ | ⟨hb, q1, q2⟩ | ⟨hb, q1, q2⟩
  · refine V.tp hb ?_
    refine v_istore_n (lv' := [(2, .int (-4)), (0, .ref 0), (1, .int c)]) C dX6_letter_8 rfl (Nat.le_of_ble_eq_true rfl) rfl rfl ?_
    refine v_iload_n C dX6_letter_9 rfl rfl rfl ?_
    refine v_if_ne (tgt := 25) C dX6_letter_10 (by decide) rfl (fun _ => ?_) (fun q => absurd q (by decide))
    refine v_iload_n C dX6_letter_25 rfl rfl rfl ?_
    refine v_if_eq (tgt := 35) C dX6_letter_26 (by decide) rfl (fun q => absurd q (by decide)) (fun _ => ?_)
    refine v_aload_n C dX6_letter_29 rfl rfl rfl ?_
    refine v_iload_n C dX6_letter_30 rfl rfl rfl ?_
    refine v_callV C (Nat.le_of_ble_eq_true rfl) rfl rfl (As := [.int (-4)]) (rest := []) (kX6_no (-4) 4 σ (by decide) (by decide)) rfl (Nat.le_of_ble_eq_true rfl) (Nat.le_of_ble_eq_true rfl) ⟨mlX6_79, mfX6_no⟩ dkX6_no (Nat.le_of_ble_eq_true rfl) dX6_letter_31 rfl (kI ?_)
    exact v_iret C dX6_letter_34 (by rw [hX]; exact fI_of (by simp [letA, q1]) (by simp [letS, q1]))
  · refine V.tp hb ?_
    refine v_istore_n (lv' := [(2, .int (-6)), (0, .ref 0), (1, .int c)]) C dX6_letter_8 rfl (Nat.le_of_ble_eq_true rfl) rfl rfl ?_
    refine v_iload_n C dX6_letter_9 rfl rfl rfl ?_
    refine v_if_ne (tgt := 25) C dX6_letter_10 (by decide) rfl (fun _ => ?_) (fun q => absurd q (by decide))
    refine v_iload_n C dX6_letter_25 rfl rfl rfl ?_
    refine v_if_eq (tgt := 35) C dX6_letter_26 (by decide) rfl (fun q => absurd q (by decide)) (fun _ => ?_)
    refine v_aload_n C dX6_letter_29 rfl rfl rfl ?_
    refine v_iload_n C dX6_letter_30 rfl rfl rfl ?_
    refine v_callV C (Nat.le_of_ble_eq_true rfl) rfl rfl (As := [.int (-6)]) (rest := []) (kX6_no (-6) 6 σ (by decide) (by decide)) rfl (Nat.le_of_ble_eq_true rfl) (Nat.le_of_ble_eq_true rfl) ⟨mlX6_79, mfX6_no⟩ dkX6_no (Nat.le_of_ble_eq_true rfl) dX6_letter_31 rfl (kI ?_)
    exact v_iret C dX6_letter_34 (by rw [hX]; exact fI_of (by simp [letA, q1, q2]) (by simp [letS, q1, q2]))
  · refine V.tp hb ?_
    refine v_istore_n (lv' := [(2, .int 0), (0, .ref 0), (1, .int c)]) C dX6_letter_8 rfl (Nat.le_of_ble_eq_true rfl) rfl rfl ?_
    refine v_iload_n C dX6_letter_9 rfl rfl rfl ?_
    refine v_if_ne (tgt := 25) C dX6_letter_10 (by decide) rfl (fun q => absurd q (by decide)) (fun _ => ?_)
    refine v_aload_n C dX6_letter_13 rfl rfl rfl ?_
    refine v_getI C (Nat.le_of_ble_eq_true rfl) rfl rfl hinX6 15 (Nat.le_of_ble_eq_true rfl) lkX6_76 rfl dX6_letter_14 rfl ?_
    refine V.tp ht ?_
    refine v_bipush (v := 96) C dX6_letter_17 (by decide) rfl ?_
    refine v_icmp_ne (tgt := 25) C dX6_letter_19 (by decide) rfl (fun c19 => ?_) (fun c19 => ?_)
    · skip
      have c19 := mt (nI_eq (a := t) (b := 96) (by omega) (by omega)).mpr c19
      refine v_iload_n C dX6_letter_25 rfl rfl rfl ?_
      refine v_if_eq (tgt := 35) C dX6_letter_26 (by decide) rfl (fun _ => ?_) (fun q => absurd q (by decide))
      refine v_aload_n C dX6_letter_35 rfl rfl rfl ?_
      refine v_getR C (Nat.le_of_ble_eq_true rfl) rfl rfl hinX6 11 (Nat.le_of_ble_eq_true rfl) lkX6_34 rfl dX6_letter_36 rfl ?_
      refine v_aload_n C dX6_letter_39 rfl rfl rfl ?_
      refine v_getI C (Nat.le_of_ble_eq_true rfl) rfl rfl hinX6 15 (Nat.le_of_ble_eq_true rfl) lkX6_76 rfl dX6_letter_40 rfl ?_
      refine V.tp ht ?_
      refine v_iload_n C dX6_letter_43 rfl rfl rfl ?_
      refine v_iast (i := t) C (Nat.le_of_ble_eq_true rfl) rfl rfl (by omega) (by decide) dX6_letter_44 rfl ?_
      refine V.nm (fun τ44_1 eτ44_1 => ?_)
      have htn : τ44_1 0 15 = nI t := by rw [eτ44_1, s2_ne (by decide)]; exact ht
      refine v_aload_n C dX6_letter_45 rfl rfl rfl ?_
      refine v_dup C dX6_letter_46 rfl rfl ?_
      refine v_getI C (Nat.le_of_ble_eq_true rfl) rfl rfl hinX6 15 (Nat.le_of_ble_eq_true rfl) lkX6_76 rfl dX6_letter_47 rfl ?_
      refine V.tp htn ?_
      refine v_iconst (v := 1) C dX6_letter_50 (by decide) rfl ?_
      refine v_iadd C dX6_letter_51 rfl ?_
      refine V.tp (nI_add t 1) ?_
      refine v_put (ty := .int) C (Nat.le_of_ble_eq_true rfl) rfl rfl hinX6 tyX6_ok nmX6 15 (Nat.le_of_ble_eq_true rfl) lkX6_76 rfl (by decide +kernel) rfl rfl rfl dX6_letter_52 rfl ?_
      refine V.nm (fun τ52_2 eτ52_2 => ?_)
      have htm : τ52_2 0 15 = nI (t + 1) := by rw [eτ52_2, s2_get, if_pos ⟨rfl, rfl⟩]
      refine v_aload_n C dX6_letter_55 rfl rfl rfl ?_
      refine v_getI C (Nat.le_of_ble_eq_true rfl) rfl rfl hinX6 15 (Nat.le_of_ble_eq_true rfl) lkX6_76 rfl dX6_letter_56 rfl ?_
      refine V.tp htm ?_
      exact v_iret C dX6_letter_59 (by rw [hX]; exact fI_of (by simp [letA, q1, q2, c19, eτ44_1, eτ52_2]) (by simp [letS, q1, q2, c19, eτ44_1, eτ52_2]))
    · skip
      have c19 := (nI_eq (a := t) (b := 96) (by omega) (by omega)).mp c19
      refine v_bipush (v := -6) C dX6_letter_22 (by decide) rfl ?_
      refine v_istore_n (lv' := [(2, .int (-6)), (0, .ref 0), (1, .int c)]) C dX6_letter_24 rfl (Nat.le_of_ble_eq_true rfl) rfl rfl ?_
      refine v_iload_n C dX6_letter_25 rfl rfl rfl ?_
      refine v_if_eq (tgt := 35) C dX6_letter_26 (by decide) rfl (fun q => absurd q (by decide)) (fun _ => ?_)
      refine v_aload_n C dX6_letter_29 rfl rfl rfl ?_
      refine v_iload_n C dX6_letter_30 rfl rfl rfl ?_
      refine v_callV C (Nat.le_of_ble_eq_true rfl) rfl rfl (As := [.int (-6)]) (rest := []) (kX6_no (-6) 6 σ (by decide) (by decide)) rfl (Nat.le_of_ble_eq_true rfl) (Nat.le_of_ble_eq_true rfl) ⟨mlX6_79, mfX6_no⟩ dkX6_no (Nat.le_of_ble_eq_true rfl) dX6_letter_31 rfl (kI ?_)
      exact v_iret C dX6_letter_34 (by rw [hX]; exact fI_of (by simp [letA, q1, q2, c19]) (by simp [letS, q1, q2, c19]))
theorem kX6_row (v : Int32) (u : Nat) (σ : St) (hu : σ 0 27 = nI u) (h12 : u ≤ 12) : Ct yX6_row cX6_row 3 (some .int) 1 [.ref 0, .int v] σ (fI (rowA v u) (rowS σ v u)) := by
  refine ct_of plX6 rfl (Nat.le_of_ble_eq_true rfl) (fun X hX C => ?_)
  show V X 0 [(0, .ref 0), (1, .int v)] [] σ
  refine v_iload_n C dX6_row_0 rfl rfl rfl ?_
  refine v_iconst (v := 0) C dX6_row_1 (by decide) rfl ?_
  refine v_bipush (v := 99) C dX6_row_2 (by decide) rfl ?_
  refine v_callS C (As := [.int v, .int 0, .int 99]) (rest := []) (kX6_bound v 0 99 σ) rfl (Nat.le_of_ble_eq_true rfl) (Nat.le_of_ble_eq_true rfl) ⟨mlX6_72, mfX6_bound⟩ dkX6_bound (Nat.le_of_ble_eq_true rfl) dX6_row_4 rfl (kI ?_)
  rcases bnd_cases v 0 99 with ⟨hb, q1⟩ | ⟨hb, q1, q2⟩ | ⟨hb, q1, q2⟩
  · refine V.tp hb ?_
    refine v_istore_n (lv' := [(2, .int (-4)), (0, .ref 0), (1, .int v)]) C dX6_row_7 rfl (Nat.le_of_ble_eq_true rfl) rfl rfl ?_
    refine v_iload_n C dX6_row_8 rfl rfl rfl ?_
    refine v_if_ne (tgt := 24) C dX6_row_9 (by decide) rfl (fun _ => ?_) (fun q => absurd q (by decide))
    refine v_iload_n C dX6_row_24 rfl rfl rfl ?_
    refine v_if_eq (tgt := 34) C dX6_row_25 (by decide) rfl (fun q => absurd q (by decide)) (fun _ => ?_)
    refine v_aload_n C dX6_row_28 rfl rfl rfl ?_
    refine v_iload_n C dX6_row_29 rfl rfl rfl ?_
    refine v_callV C (Nat.le_of_ble_eq_true rfl) rfl rfl (As := [.int (-4)]) (rest := []) (kX6_no (-4) 4 σ (by decide) (by decide)) rfl (Nat.le_of_ble_eq_true rfl) (Nat.le_of_ble_eq_true rfl) ⟨mlX6_79, mfX6_no⟩ dkX6_no (Nat.le_of_ble_eq_true rfl) dX6_row_30 rfl (kI ?_)
    exact v_iret C dX6_row_33 (by rw [hX]; exact fI_of (by simp [rowA, q1]) (by simp [rowS, q1]))
  · refine V.tp hb ?_
    refine v_istore_n (lv' := [(2, .int (-6)), (0, .ref 0), (1, .int v)]) C dX6_row_7 rfl (Nat.le_of_ble_eq_true rfl) rfl rfl ?_
    refine v_iload_n C dX6_row_8 rfl rfl rfl ?_
    refine v_if_ne (tgt := 24) C dX6_row_9 (by decide) rfl (fun _ => ?_) (fun q => absurd q (by decide))
    refine v_iload_n C dX6_row_24 rfl rfl rfl ?_
    refine v_if_eq (tgt := 34) C dX6_row_25 (by decide) rfl (fun q => absurd q (by decide)) (fun _ => ?_)
    refine v_aload_n C dX6_row_28 rfl rfl rfl ?_
    refine v_iload_n C dX6_row_29 rfl rfl rfl ?_
    refine v_callV C (Nat.le_of_ble_eq_true rfl) rfl rfl (As := [.int (-6)]) (rest := []) (kX6_no (-6) 6 σ (by decide) (by decide)) rfl (Nat.le_of_ble_eq_true rfl) (Nat.le_of_ble_eq_true rfl) ⟨mlX6_79, mfX6_no⟩ dkX6_no (Nat.le_of_ble_eq_true rfl) dX6_row_30 rfl (kI ?_)
    exact v_iret C dX6_row_33 (by rw [hX]; exact fI_of (by simp [rowA, q1, q2]) (by simp [rowS, q1, q2]))
  · refine V.tp hb ?_
    refine v_istore_n (lv' := [(2, .int 0), (0, .ref 0), (1, .int v)]) C dX6_row_7 rfl (Nat.le_of_ble_eq_true rfl) rfl rfl ?_
    refine v_iload_n C dX6_row_8 rfl rfl rfl ?_
    refine v_if_ne (tgt := 24) C dX6_row_9 (by decide) rfl (fun q => absurd q (by decide)) (fun _ => ?_)
    refine v_aload_n C dX6_row_12 rfl rfl rfl ?_
    refine v_getI C (Nat.le_of_ble_eq_true rfl) rfl rfl hinX6 27 (Nat.le_of_ble_eq_true rfl) lkX6_249 rfl dX6_row_13 rfl ?_
    refine V.tp hu ?_
    refine v_bipush (v := 12) C dX6_row_16 (by decide) rfl ?_
    refine v_icmp_ne (tgt := 24) C dX6_row_18 (by decide) rfl (fun c18 => ?_) (fun c18 => ?_)
    · skip
      have c18 := mt (nI_eq (a := u) (b := 12) (by omega) (by omega)).mpr c18
      refine v_iload_n C dX6_row_24 rfl rfl rfl ?_
      refine v_if_eq (tgt := 34) C dX6_row_25 (by decide) rfl (fun _ => ?_) (fun q => absurd q (by decide))
      refine v_aload_n C dX6_row_34 rfl rfl rfl ?_
      refine v_getR C (Nat.le_of_ble_eq_true rfl) rfl rfl hinX6 26 (Nat.le_of_ble_eq_true rfl) lkX6_58 rfl dX6_row_35 rfl ?_
      refine v_aload_n C dX6_row_38 rfl rfl rfl ?_
      refine v_getI C (Nat.le_of_ble_eq_true rfl) rfl rfl hinX6 27 (Nat.le_of_ble_eq_true rfl) lkX6_249 rfl dX6_row_39 rfl ?_
      refine V.tp hu ?_
      refine v_iload_n C dX6_row_42 rfl rfl rfl ?_
      refine v_iast (i := u) C (Nat.le_of_ble_eq_true rfl) rfl rfl (by omega) (by decide) dX6_row_43 rfl ?_
      refine V.nm (fun τ43_1 eτ43_1 => ?_)
      have htn : τ43_1 0 27 = nI u := by rw [eτ43_1, s2_ne (by decide)]; exact hu
      refine v_aload_n C dX6_row_44 rfl rfl rfl ?_
      refine v_dup C dX6_row_45 rfl rfl ?_
      refine v_getI C (Nat.le_of_ble_eq_true rfl) rfl rfl hinX6 27 (Nat.le_of_ble_eq_true rfl) lkX6_249 rfl dX6_row_46 rfl ?_
      refine V.tp htn ?_
      refine v_iconst (v := 1) C dX6_row_49 (by decide) rfl ?_
      refine v_iadd C dX6_row_50 rfl ?_
      refine V.tp (nI_add u 1) ?_
      refine v_put (ty := .int) C (Nat.le_of_ble_eq_true rfl) rfl rfl hinX6 tyX6_ok nmX6 27 (Nat.le_of_ble_eq_true rfl) lkX6_249 rfl (by decide +kernel) rfl rfl rfl dX6_row_51 rfl ?_
      refine V.nm (fun τ51_2 eτ51_2 => ?_)
      have htm : τ51_2 0 27 = nI (u + 1) := by rw [eτ51_2, s2_get, if_pos ⟨rfl, rfl⟩]
      refine v_aload_n C dX6_row_54 rfl rfl rfl ?_
      refine v_getI C (Nat.le_of_ble_eq_true rfl) rfl rfl hinX6 27 (Nat.le_of_ble_eq_true rfl) lkX6_249 rfl dX6_row_55 rfl ?_
      refine V.tp htm ?_
      exact v_iret C dX6_row_58 (by rw [hX]; exact fI_of (by simp [rowA, q1, q2, c18, eτ43_1, eτ51_2]) (by simp [rowS, q1, q2, c18, eτ43_1, eτ51_2]))
    · skip
      have c18 := (nI_eq (a := u) (b := 12) (by omega) (by omega)).mp c18
      refine v_bipush (v := -6) C dX6_row_21 (by decide) rfl ?_
      refine v_istore_n (lv' := [(2, .int (-6)), (0, .ref 0), (1, .int v)]) C dX6_row_23 rfl (Nat.le_of_ble_eq_true rfl) rfl rfl ?_
      refine v_iload_n C dX6_row_24 rfl rfl rfl ?_
      refine v_if_eq (tgt := 34) C dX6_row_25 (by decide) rfl (fun q => absurd q (by decide)) (fun _ => ?_)
      refine v_aload_n C dX6_row_28 rfl rfl rfl ?_
      refine v_iload_n C dX6_row_29 rfl rfl rfl ?_
      refine v_callV C (Nat.le_of_ble_eq_true rfl) rfl rfl (As := [.int (-6)]) (rest := []) (kX6_no (-6) 6 σ (by decide) (by decide)) rfl (Nat.le_of_ble_eq_true rfl) (Nat.le_of_ble_eq_true rfl) ⟨mlX6_79, mfX6_no⟩ dkX6_no (Nat.le_of_ble_eq_true rfl) dX6_row_30 rfl (kI ?_)
      exact v_iret C dX6_row_33 (by rw [hX]; exact fI_of (by simp [rowA, q1, q2, c18]) (by simp [rowS, q1, q2, c18]))
noncomputable def cI {α : Type} (P : Prop) (a b : α) : α := @ite α P (Classical.propDecidable P) a b
theorem cI_t {α : Type} {P : Prop} {a b : α} (h : P) : cI P a b = a := by simp [cI, h]
theorem cI_f {α : Type} {P : Prop} {a b : α} (h : ¬ P) : cI P a b = b := by simp [cI, h]
noncomputable def pieA (σ : St) (n : Nat) (p w : Int32) : Int32 := cI (pieceP p (nI n)) (if w = 0 then σ 4 (tn p) else if w = 1 then σ 5 (tn p) else if w = 2 then σ 6 (tn p) else if w = 3 then σ 7 (tn p) else if w = 4 then σ 8 (tn p) else if w = 5 then blaF (σ 4) (σ 6) (σ 7) (σ 8) n (tn p) else if w = 6 then widF (σ 4) (σ 5) (tn p) else -2) (-1)
noncomputable def pieS (σ : St) (n : Nat) (p w : Int32) : St := cI (pieceP p (nI n)) (if w = 0 ∨ w = 1 ∨ w = 2 ∨ w = 3 ∨ w = 4 ∨ w = 5 ∨ w = 6 then σ else noS σ 2) (noS σ 1)
noncomputable def staA (σ : St) (n : Nat) (p r : Int32) : Int32 := cI (pieceP p (nI n) ∧ placeP r) (bI (carP (σ 4) (σ 5) (σ 8) (σ 2) (σ 3) n (tn p) r)) (-1)
noncomputable def staS (σ : St) (n : Nat) (p r : Int32) : St := cI (pieceP p (nI n) ∧ placeP r) σ (noS σ 1)
noncomputable def carA (σ : St) (n : Nat) (p r : Int32) : Int32 := cI (pieceP p (nI n) ∧ placeP r) (cI (carP (σ 4) (σ 5) (σ 8) (σ 2) (σ 3) n (tn p) r) (σ 8 (tn p)) (-3)) (-1)
noncomputable def carS (σ : St) (n : Nat) (p r : Int32) : St := cI (pieceP p (nI n) ∧ placeP r) (cI (carP (σ 4) (σ 5) (σ 8) (σ 2) (σ 3) n (tn p) r) (s2 σ 8 (tn p) r) (noS σ 3)) (noS σ 1)
noncomputable def polA (σ : St) (n : Nat) (p : Int32) : Int32 := cI (pieceP p (nI n)) (if σ 6 (tn p) = 9 then -3 else σ 6 (tn p) + 1) (-1)
noncomputable def polS (σ : St) (n : Nat) (p : Int32) : St := cI (pieceP p (nI n)) (if σ 6 (tn p) = 9 then noS σ 3 else s2 σ 6 (tn p) (σ 6 (tn p) + 1)) (noS σ 1)
noncomputable def sizA (σ : St) (n : Nat) (r v : Int32) : Int32 := cI (roomP r) (if v < 0 then -4 else if 20 < v then -6 else if v < bulF (σ 5) (σ 8) n r then -3 else σ 2 (tn r)) (-1)
noncomputable def sizS (σ : St) (n : Nat) (r v : Int32) : St := cI (roomP r) (if v < 0 then noS σ 4 else if 20 < v then noS σ 6 else if v < bulF (σ 5) (σ 8) n r then noS σ 3 else s2 σ 2 (tn r) v) (noS σ 1)
noncomputable def widA (σ : St) (f v : Int32) : Int32 := cI (floorP f) (if v < 0 then -4 else if 9 < v then -6 else σ 3 (tn f)) (-1)
noncomputable def widS (σ : St) (f v : Int32) : St := cI (floorP f) (if v < 0 then noS σ 4 else if 9 < v then noS σ 6 else s2 σ 3 (tn f) v) (noS σ 1)
def heiA (σ : St) (v : Int32) : Int32 := if v < 2 then -4 else if 4 < v then -6 else σ 0 9
def heiS (σ : St) (v : Int32) : St := if v < 2 then noS σ 4 else if 4 < v then noS σ 6 else s2 σ 0 9 v
def yeaA (σ : St) (n y : Nat) (v : Int32) : Int32 := if v < 1 then -4 else if 60 < v then -6 else if 999 < y + tn v then -6 else yrs n σ (tn v) 0 10
def yeaS (σ : St) (n y : Nat) (v : Int32) : St := if v < 1 then noS σ 4 else if 60 < v then noS σ 6 else if 999 < y + tn v then noS σ 6 else yrs n σ (tn v)
noncomputable def blaA (σ : St) (n : Nat) (r : Int32) : Int32 := cI (placeP r ∨ r = 10) (binF (σ 4) (σ 6) (σ 7) (σ 8) n r) (-1)
noncomputable def blaS (σ : St) (n : Nat) (r : Int32) : St := cI (placeP r ∨ r = 10) σ (noS σ 1)
theorem floor_nat {f : Int32} (h : floorP f) : f = nI (tn f) ∧ tn f < 3 := by
  rcases h with rfl | rfl
  · exact ⟨by decide, by decide⟩
  · exact ⟨by decide, by decide⟩
theorem kX6_piece (p v : Int32) (n : Nat) (σ : St) (hn : σ 0 8 = nI n) (h7 : n ≤ 7) : Ct yX6_piece cX6_piece 3 (some .int) 2 [.ref 0, .int p, .int v] σ (fI (pieA σ n p v) (pieS σ n p v)) := by
  refine ct_of plX6 rfl (Nat.le_of_ble_eq_true rfl) (fun X hX C => ?_)
  show V X 0 [(0, .ref 0), (1, .int p), (2, .int v)] [] σ
  refine v_aload_n C dX6_piece_0 rfl rfl rfl ?_
  refine v_iload_n C dX6_piece_1 rfl rfl rfl ?_
  refine v_callV C (Nat.le_of_ble_eq_true rfl) rfl rfl (As := [.int p]) (rest := []) (kX6_isPiece p σ) rfl (Nat.le_of_ble_eq_true rfl) (Nat.le_of_ble_eq_true rfl) ⟨mlX6_116, mfX6_isPiece⟩ dkX6_isPiece (Nat.le_of_ble_eq_true rfl) dX6_piece_2 rfl (kI ?_)
  refine v_if_ne (tgt := 14) C dX6_piece_5 (by decide) rfl (fun c5 => ?_) (fun c5 => ?_)
  · skip
    have c5 := bI_n c5
    have hp1 : p = nI (tn p) := (piece_nat h7 (hn ▸ c5)).1
    have hp2 : tn p < n := (piece_nat h7 (hn ▸ c5)).2
    refine v_iload_n C dX6_piece_14 rfl rfl rfl ?_
    by_cases s15_0 : v = 0
    · refine V.tp s15_0 ?_
      refine v_tableIn (off := 41) (tgt := 56) C dX6_piece_15 (by decide) (by decide) rfl (by decide) ?_
      refine v_aload_n C dX6_piece_56 rfl rfl rfl ?_
      refine v_getR C (Nat.le_of_ble_eq_true rfl) rfl rfl hinX6 3 (Nat.le_of_ble_eq_true rfl) lkX6_19 rfl dX6_piece_57 rfl ?_
      refine v_iload_n C dX6_piece_60 rfl rfl rfl ?_
      refine V.tp hp1 ?_
      refine v_iald (i := tn p) C (Nat.le_of_ble_eq_true rfl) rfl rfl (by omega) (by decide) dX6_piece_61 rfl ?_
      exact v_iret C dX6_piece_62 (by rw [hX]; exact fI_of (by simp [pieA, cI, ← hn, c5, s15_0]) (by simp [pieS, cI, ← hn, c5, s15_0]))
    by_cases s15_1 : v = 1
    · refine V.tp s15_1 ?_
      refine v_tableIn (off := 48) (tgt := 63) C dX6_piece_15 (by decide) (by decide) rfl (by decide) ?_
      refine v_aload_n C dX6_piece_63 rfl rfl rfl ?_
      refine v_getR C (Nat.le_of_ble_eq_true rfl) rfl rfl hinX6 4 (Nat.le_of_ble_eq_true rfl) lkX6_22 rfl dX6_piece_64 rfl ?_
      refine v_iload_n C dX6_piece_67 rfl rfl rfl ?_
      refine V.tp hp1 ?_
      refine v_iald (i := tn p) C (Nat.le_of_ble_eq_true rfl) rfl rfl (by omega) (by decide) dX6_piece_68 rfl ?_
      exact v_iret C dX6_piece_69 (by rw [hX]; exact fI_of (by simp [pieA, cI, ← hn, c5, s15_0, s15_1]) (by simp [pieS, cI, ← hn, c5, s15_0, s15_1]))
    by_cases s15_2 : v = 2
    · refine V.tp s15_2 ?_
      refine v_tableIn (off := 55) (tgt := 70) C dX6_piece_15 (by decide) (by decide) rfl (by decide) ?_
      refine v_aload_n C dX6_piece_70 rfl rfl rfl ?_
      refine v_getR C (Nat.le_of_ble_eq_true rfl) rfl rfl hinX6 5 (Nat.le_of_ble_eq_true rfl) lkX6_25 rfl dX6_piece_71 rfl ?_
      refine v_iload_n C dX6_piece_74 rfl rfl rfl ?_
      refine V.tp hp1 ?_
      refine v_iald (i := tn p) C (Nat.le_of_ble_eq_true rfl) rfl rfl (by omega) (by decide) dX6_piece_75 rfl ?_
      exact v_iret C dX6_piece_76 (by rw [hX]; exact fI_of (by simp [pieA, cI, ← hn, c5, s15_0, s15_1, s15_2]) (by simp [pieS, cI, ← hn, c5, s15_0, s15_1, s15_2]))
    by_cases s15_3 : v = 3
    · refine V.tp s15_3 ?_
      refine v_tableIn (off := 62) (tgt := 77) C dX6_piece_15 (by decide) (by decide) rfl (by decide) ?_
      refine v_aload_n C dX6_piece_77 rfl rfl rfl ?_
      refine v_getR C (Nat.le_of_ble_eq_true rfl) rfl rfl hinX6 6 (Nat.le_of_ble_eq_true rfl) lkX6_28 rfl dX6_piece_78 rfl ?_
      refine v_iload_n C dX6_piece_81 rfl rfl rfl ?_
      refine V.tp hp1 ?_
      refine v_iald (i := tn p) C (Nat.le_of_ble_eq_true rfl) rfl rfl (by omega) (by decide) dX6_piece_82 rfl ?_
      exact v_iret C dX6_piece_83 (by rw [hX]; exact fI_of (by simp [pieA, cI, ← hn, c5, s15_0, s15_1, s15_2, s15_3]) (by simp [pieS, cI, ← hn, c5, s15_0, s15_1, s15_2, s15_3]))
    by_cases s15_4 : v = 4
    · refine V.tp s15_4 ?_
      refine v_tableIn (off := 69) (tgt := 84) C dX6_piece_15 (by decide) (by decide) rfl (by decide) ?_
      refine v_aload_n C dX6_piece_84 rfl rfl rfl ?_
      refine v_getR C (Nat.le_of_ble_eq_true rfl) rfl rfl hinX6 7 (Nat.le_of_ble_eq_true rfl) lkX6_31 rfl dX6_piece_85 rfl ?_
      refine v_iload_n C dX6_piece_88 rfl rfl rfl ?_
      refine V.tp hp1 ?_
      refine v_iald (i := tn p) C (Nat.le_of_ble_eq_true rfl) rfl rfl (by omega) (by decide) dX6_piece_89 rfl ?_
      exact v_iret C dX6_piece_90 (by rw [hX]; exact fI_of (by simp [pieA, cI, ← hn, c5, s15_0, s15_1, s15_2, s15_3, s15_4]) (by simp [pieS, cI, ← hn, c5, s15_0, s15_1, s15_2, s15_3, s15_4]))
    by_cases s15_5 : v = 5
    · refine V.tp s15_5 ?_
      refine v_tableIn (off := 76) (tgt := 91) C dX6_piece_15 (by decide) (by decide) rfl (by decide) ?_
      refine v_aload_n C dX6_piece_91 rfl rfl rfl ?_
      refine v_iload_n C dX6_piece_92 rfl rfl rfl ?_
      refine V.tp hp1 ?_
      refine v_callV C (Nat.le_of_ble_eq_true rfl) rfl rfl (As := [.int (nI (tn p))]) (rest := []) (kX6_blameOf n (tn p) σ hn h7 (by omega)) rfl (Nat.le_of_ble_eq_true rfl) (Nat.le_of_ble_eq_true rfl) ⟨mlX6_169, mfX6_blameOf⟩ dkX6_blameOf (Nat.le_of_ble_eq_true rfl) dX6_piece_93 rfl (kI ?_)
      exact v_iret C dX6_piece_96 (by rw [hX]; exact fI_of (by simp [pieA, cI, ← hn, c5, s15_0, s15_1, s15_2, s15_3, s15_4, s15_5]) (by simp [pieS, cI, ← hn, c5, s15_0, s15_1, s15_2, s15_3, s15_4, s15_5]))
    by_cases s15_6 : v = 6
    · refine V.tp s15_6 ?_
      refine v_tableIn (off := 82) (tgt := 97) C dX6_piece_15 (by decide) (by decide) rfl (by decide) ?_
      refine v_aload_n C dX6_piece_97 rfl rfl rfl ?_
      refine v_iload_n C dX6_piece_98 rfl rfl rfl ?_
      refine V.tp hp1 ?_
      refine v_callV C (Nat.le_of_ble_eq_true rfl) rfl rfl (As := [.int (nI (tn p))]) (rest := []) (kX6_wideOf n (tn p) σ h7 (by omega)) rfl (Nat.le_of_ble_eq_true rfl) (Nat.le_of_ble_eq_true rfl) ⟨mlX6_172, mfX6_wideOf⟩ dkX6_wideOf (Nat.le_of_ble_eq_true rfl) dX6_piece_99 rfl (kI ?_)
      exact v_iret C dX6_piece_102 (by rw [hX]; exact fI_of (by simp [pieA, cI, ← hn, c5, s15_0, s15_1, s15_2, s15_3, s15_4, s15_5, s15_6]) (by simp [pieS, cI, ← hn, c5, s15_0, s15_1, s15_2, s15_3, s15_4, s15_5, s15_6]))
    refine v_tableOut (tgt := 103) C dX6_piece_15 (by have e0 := lv_neT s15_0 (a := 0) (by decide); have e1 := lv_neT s15_1 (a := 1) (by decide); have e2 := lv_neT s15_2 (a := 2) (by decide); have e3 := lv_neT s15_3 (a := 3) (by decide); have e4 := lv_neT s15_4 (a := 4) (by decide); have e5 := lv_neT s15_5 (a := 5) (by decide); have e6 := lv_neT s15_6 (a := 6) (by decide); omega) (by decide) ?_
    refine v_aload_n C dX6_piece_103 rfl rfl rfl ?_
    refine v_bipush (v := -2) C dX6_piece_104 (by decide) rfl ?_
    refine v_callV C (Nat.le_of_ble_eq_true rfl) rfl rfl (As := [.int (-2)]) (rest := []) (kX6_no (-2) 2 σ (by decide) (by decide)) rfl (Nat.le_of_ble_eq_true rfl) (Nat.le_of_ble_eq_true rfl) ⟨mlX6_79, mfX6_no⟩ dkX6_no (Nat.le_of_ble_eq_true rfl) dX6_piece_106 rfl (kI ?_)
    exact v_iret C dX6_piece_109 (by rw [hX]; exact fI_of (by simp [pieA, cI, ← hn, c5, s15_0, s15_1, s15_2, s15_3, s15_4, s15_5, s15_6]) (by simp [pieS, cI, ← hn, c5, s15_0, s15_1, s15_2, s15_3, s15_4, s15_5, s15_6]))
  · skip
    have c5 := bI_0 c5
    refine v_aload_n C dX6_piece_8 rfl rfl rfl ?_
    refine v_iconst (v := -1) C dX6_piece_9 (by decide) rfl ?_
    refine v_callV C (Nat.le_of_ble_eq_true rfl) rfl rfl (As := [.int (-1)]) (rest := []) (kX6_no (-1) 1 σ (by decide) (by decide)) rfl (Nat.le_of_ble_eq_true rfl) (Nat.le_of_ble_eq_true rfl) ⟨mlX6_79, mfX6_no⟩ dkX6_no (Nat.le_of_ble_eq_true rfl) dX6_piece_10 rfl (kI ?_)
    exact v_iret C dX6_piece_13 (by rw [hX]; exact fI_of (by simp [pieA, cI, ← hn, c5]) (by simp [pieS, cI, ← hn, c5]))
theorem kX6_stands (p r : Int32) (n : Nat) (σ : St) (hn : σ 0 8 = nI n) (h7 : n ≤ 7) : Ct yX6_stands cX6_stands 3 (some .int) 2 [.ref 0, .int p, .int r] σ (fI (staA σ n p r) (staS σ n p r)) := by
  refine ct_of plX6 rfl (Nat.le_of_ble_eq_true rfl) (fun X hX C => ?_)
  show V X 0 [(0, .ref 0), (1, .int p), (2, .int r)] [] σ
  refine v_aload_n C dX6_stands_0 rfl rfl rfl ?_
  refine v_iload_n C dX6_stands_1 rfl rfl rfl ?_
  refine v_callV C (Nat.le_of_ble_eq_true rfl) rfl rfl (As := [.int p]) (rest := []) (kX6_isPiece p σ) rfl (Nat.le_of_ble_eq_true rfl) (Nat.le_of_ble_eq_true rfl) ⟨mlX6_116, mfX6_isPiece⟩ dkX6_isPiece (Nat.le_of_ble_eq_true rfl) dX6_stands_2 rfl (kI ?_)
  refine v_if_eq (tgt := 15) C dX6_stands_5 (by decide) rfl (fun c5 => ?_) (fun c5 => ?_)
  · skip
    have c5 := bI_0 c5
    refine v_aload_n C dX6_stands_15 rfl rfl rfl ?_
    refine v_iconst (v := -1) C dX6_stands_16 (by decide) rfl ?_
    refine v_callV C (Nat.le_of_ble_eq_true rfl) rfl rfl (As := [.int (-1)]) (rest := []) (kX6_no (-1) 1 σ (by decide) (by decide)) rfl (Nat.le_of_ble_eq_true rfl) (Nat.le_of_ble_eq_true rfl) ⟨mlX6_79, mfX6_no⟩ dkX6_no (Nat.le_of_ble_eq_true rfl) dX6_stands_17 rfl (kI ?_)
    exact v_iret C dX6_stands_20 (by rw [hX]; exact fI_of (by simp [staA, cI, ← hn, bI, c5]) (by simp [staS, cI, ← hn, bI, c5]))
  · skip
    have c5 := bI_n c5
    have hp1 : p = nI (tn p) := (piece_nat h7 (hn ▸ c5)).1
    have hp2 : tn p < n := (piece_nat h7 (hn ▸ c5)).2
    refine v_iload_n C dX6_stands_8 rfl rfl rfl ?_
    refine v_callS C (As := [.int r]) (rest := []) (kX6_isPlace r σ) rfl (Nat.le_of_ble_eq_true rfl) (Nat.le_of_ble_eq_true rfl) ⟨mlX6_119, mfX6_isPlace⟩ dkX6_isPlace (Nat.le_of_ble_eq_true rfl) dX6_stands_9 rfl (kI ?_)
    refine v_if_ne (tgt := 21) C dX6_stands_12 (by decide) rfl (fun c12 => ?_) (fun c12 => ?_)
    · skip
      have c12 := bI_n c12
      have hr : placeP r := c12
      refine v_aload_n C dX6_stands_21 rfl rfl rfl ?_
      refine v_iload_n C dX6_stands_22 rfl rfl rfl ?_
      refine V.tp hp1 ?_
      refine v_iload_n C dX6_stands_23 rfl rfl rfl ?_
      refine v_callV C (Nat.le_of_ble_eq_true rfl) rfl rfl (As := [.int (nI (tn p)), .int r]) (rest := []) (kX6_canCarry n (tn p) r σ hn h7 (by omega) hr) rfl (Nat.le_of_ble_eq_true rfl) (Nat.le_of_ble_eq_true rfl) ⟨mlX6_122, mfX6_canCarry⟩ dkX6_canCarry (Nat.le_of_ble_eq_true rfl) dX6_stands_24 rfl (kI ?_)
      refine v_if_eq (tgt := 34) C dX6_stands_27 (by decide) rfl (fun c27 => ?_) (fun c27 => ?_)
      · skip
        have c27 := bI_0 c27
        refine v_iconst (v := 0) C dX6_stands_34 (by decide) rfl ?_
        exact v_iret C dX6_stands_35 (by rw [hX]; exact fI_of (by simp [staA, cI, ← hn, bI, c5, c12, c27]) (by simp [staS, cI, ← hn, bI, c5, c12, c27]))
      · skip
        have c27 := bI_n c27
        refine v_iconst (v := 1) C dX6_stands_30 (by decide) rfl ?_
        refine v_goto (tgt := 35) C dX6_stands_31 (by decide) ?_
        exact v_iret C dX6_stands_35 (by rw [hX]; exact fI_of (by simp [staA, cI, ← hn, bI, c5, c12, c27]) (by simp [staS, cI, ← hn, bI, c5, c12, c27]))
    · skip
      have c12 := bI_0 c12
      refine v_aload_n C dX6_stands_15 rfl rfl rfl ?_
      refine v_iconst (v := -1) C dX6_stands_16 (by decide) rfl ?_
      refine v_callV C (Nat.le_of_ble_eq_true rfl) rfl rfl (As := [.int (-1)]) (rest := []) (kX6_no (-1) 1 σ (by decide) (by decide)) rfl (Nat.le_of_ble_eq_true rfl) (Nat.le_of_ble_eq_true rfl) ⟨mlX6_79, mfX6_no⟩ dkX6_no (Nat.le_of_ble_eq_true rfl) dX6_stands_17 rfl (kI ?_)
      exact v_iret C dX6_stands_20 (by rw [hX]; exact fI_of (by simp [staA, cI, ← hn, bI, c5, c12]) (by simp [staS, cI, ← hn, bI, c5, c12]))
theorem kX6_carry (p r : Int32) (n : Nat) (σ : St) (hn : σ 0 8 = nI n) (h7 : n ≤ 7) : Ct yX6_carry cX6_carry 5 (some .int) 2 [.ref 0, .int p, .int r] σ (fI (carA σ n p r) (carS σ n p r)) := by
  refine ct_of plX6 rfl (Nat.le_of_ble_eq_true rfl) (fun X hX C => ?_)
  show V X 0 [(0, .ref 0), (1, .int p), (2, .int r)] [] σ
  refine v_aload_n C dX6_carry_0 rfl rfl rfl ?_
  refine v_iload_n C dX6_carry_1 rfl rfl rfl ?_
  refine v_callV C (Nat.le_of_ble_eq_true rfl) rfl rfl (As := [.int p]) (rest := []) (kX6_isPiece p σ) rfl (Nat.le_of_ble_eq_true rfl) (Nat.le_of_ble_eq_true rfl) ⟨mlX6_116, mfX6_isPiece⟩ dkX6_isPiece (Nat.le_of_ble_eq_true rfl) dX6_carry_2 rfl (kI ?_)
  refine v_if_eq (tgt := 15) C dX6_carry_5 (by decide) rfl (fun c5 => ?_) (fun c5 => ?_)
  · skip
    have c5 := bI_0 c5
    refine v_iconst (v := -1) C dX6_carry_15 (by decide) rfl ?_
    refine v_goto (tgt := 34) C dX6_carry_16 (by decide) ?_
    refine v_istore_n (lv' := [(3, .int (-1)), (0, .ref 0), (1, .int p), (2, .int r)]) C dX6_carry_34 rfl (Nat.le_of_ble_eq_true rfl) rfl rfl ?_
    refine v_iload_n C dX6_carry_35 rfl rfl rfl ?_
    refine v_if_eq (tgt := 45) C dX6_carry_36 (by decide) rfl (fun q => absurd q (by decide)) (fun _ => ?_)
    refine v_aload_n C dX6_carry_39 rfl rfl rfl ?_
    refine v_iload_n C dX6_carry_40 rfl rfl rfl ?_
    refine v_callV C (Nat.le_of_ble_eq_true rfl) rfl rfl (As := [.int (-1)]) (rest := []) (kX6_no (-1) 1 σ (by decide) (by decide)) rfl (Nat.le_of_ble_eq_true rfl) (Nat.le_of_ble_eq_true rfl) ⟨mlX6_79, mfX6_no⟩ dkX6_no (Nat.le_of_ble_eq_true rfl) dX6_carry_41 rfl (kI ?_)
    exact v_iret C dX6_carry_44 (by rw [hX]; exact fI_of (by simp [carA, cI, ← hn, c5]) (by simp [carS, cI, ← hn, c5]))
  · skip
    have c5 := bI_n c5
    have hp1 : p = nI (tn p) := (piece_nat h7 (hn ▸ c5)).1
    have hp2 : tn p < n := (piece_nat h7 (hn ▸ c5)).2
    refine v_iload_n C dX6_carry_8 rfl rfl rfl ?_
    refine v_callS C (As := [.int r]) (rest := []) (kX6_isPlace r σ) rfl (Nat.le_of_ble_eq_true rfl) (Nat.le_of_ble_eq_true rfl) ⟨mlX6_119, mfX6_isPlace⟩ dkX6_isPlace (Nat.le_of_ble_eq_true rfl) dX6_carry_9 rfl (kI ?_)
    refine v_if_ne (tgt := 19) C dX6_carry_12 (by decide) rfl (fun c12 => ?_) (fun c12 => ?_)
    · skip
      have c12 := bI_n c12
      have hr : placeP r := c12
      refine v_aload_n C dX6_carry_19 rfl rfl rfl ?_
      refine v_iload_n C dX6_carry_20 rfl rfl rfl ?_
      refine V.tp hp1 ?_
      refine v_iload_n C dX6_carry_21 rfl rfl rfl ?_
      refine v_callV C (Nat.le_of_ble_eq_true rfl) rfl rfl (As := [.int (nI (tn p)), .int r]) (rest := []) (kX6_canCarry n (tn p) r σ hn h7 (by omega) hr) rfl (Nat.le_of_ble_eq_true rfl) (Nat.le_of_ble_eq_true rfl) ⟨mlX6_122, mfX6_canCarry⟩ dkX6_canCarry (Nat.le_of_ble_eq_true rfl) dX6_carry_22 rfl (kI ?_)
      refine v_if_ne (tgt := 33) C dX6_carry_25 (by decide) rfl (fun c25 => ?_) (fun c25 => ?_)
      · skip
        have c25 := bI_n c25
        refine v_iconst (v := 0) C dX6_carry_33 (by decide) rfl ?_
        refine v_istore_n (lv' := [(3, .int 0), (0, .ref 0), (1, .int p), (2, .int r)]) C dX6_carry_34 rfl (Nat.le_of_ble_eq_true rfl) rfl rfl ?_
        refine v_iload_n C dX6_carry_35 rfl rfl rfl ?_
        refine v_if_eq (tgt := 45) C dX6_carry_36 (by decide) rfl (fun _ => ?_) (fun q => absurd q (by decide))
        refine v_aload_n C dX6_carry_45 rfl rfl rfl ?_
        refine v_getR C (Nat.le_of_ble_eq_true rfl) rfl rfl hinX6 7 (Nat.le_of_ble_eq_true rfl) lkX6_31 rfl dX6_carry_46 rfl ?_
        refine v_iload_n C dX6_carry_49 rfl rfl rfl ?_
        refine V.tp hp1 ?_
        refine v_iald (i := tn p) C (Nat.le_of_ble_eq_true rfl) rfl rfl (by omega) (by decide) dX6_carry_50 rfl ?_
        refine V.top (fun v51_1 ev51_1 => ?_)
        refine v_istore (lv' := [(4, .int v51_1), (3, .int 0), (0, .ref 0), (1, .int p), (2, .int r)]) C dX6_carry_51 (Nat.le_of_ble_eq_true rfl) rfl rfl ?_
        refine v_aload_n C dX6_carry_53 rfl rfl rfl ?_
        refine v_getR C (Nat.le_of_ble_eq_true rfl) rfl rfl hinX6 7 (Nat.le_of_ble_eq_true rfl) lkX6_31 rfl dX6_carry_54 rfl ?_
        refine v_iload_n C dX6_carry_57 rfl rfl rfl ?_
        refine V.tp hp1 ?_
        refine v_iload_n C dX6_carry_58 rfl rfl rfl ?_
        refine v_iast (i := tn p) C (Nat.le_of_ble_eq_true rfl) rfl rfl (by omega) (by decide) dX6_carry_59 rfl ?_
        refine V.nm (fun τ59_2 eτ59_2 => ?_)
        refine v_iload C dX6_carry_60 rfl rfl ?_
        exact v_iret C dX6_carry_62 (by rw [hX]; exact fI_of (by simp [carA, cI, ← hn, c5, c12, c25, ev51_1, eτ59_2]) (by simp [carS, cI, ← hn, c5, c12, c25, ev51_1, eτ59_2]))
      · skip
        have c25 := bI_0 c25
        refine v_bipush (v := -3) C dX6_carry_28 (by decide) rfl ?_
        refine v_goto (tgt := 34) C dX6_carry_30 (by decide) ?_
        refine v_istore_n (lv' := [(3, .int (-3)), (0, .ref 0), (1, .int p), (2, .int r)]) C dX6_carry_34 rfl (Nat.le_of_ble_eq_true rfl) rfl rfl ?_
        refine v_iload_n C dX6_carry_35 rfl rfl rfl ?_
        refine v_if_eq (tgt := 45) C dX6_carry_36 (by decide) rfl (fun q => absurd q (by decide)) (fun _ => ?_)
        refine v_aload_n C dX6_carry_39 rfl rfl rfl ?_
        refine v_iload_n C dX6_carry_40 rfl rfl rfl ?_
        refine v_callV C (Nat.le_of_ble_eq_true rfl) rfl rfl (As := [.int (-3)]) (rest := []) (kX6_no (-3) 3 σ (by decide) (by decide)) rfl (Nat.le_of_ble_eq_true rfl) (Nat.le_of_ble_eq_true rfl) ⟨mlX6_79, mfX6_no⟩ dkX6_no (Nat.le_of_ble_eq_true rfl) dX6_carry_41 rfl (kI ?_)
        exact v_iret C dX6_carry_44 (by rw [hX]; exact fI_of (by simp [carA, cI, ← hn, c5, c12, c25]) (by simp [carS, cI, ← hn, c5, c12, c25]))
    · skip
      have c12 := bI_0 c12
      refine v_iconst (v := -1) C dX6_carry_15 (by decide) rfl ?_
      refine v_goto (tgt := 34) C dX6_carry_16 (by decide) ?_
      refine v_istore_n (lv' := [(3, .int (-1)), (0, .ref 0), (1, .int p), (2, .int r)]) C dX6_carry_34 rfl (Nat.le_of_ble_eq_true rfl) rfl rfl ?_
      refine v_iload_n C dX6_carry_35 rfl rfl rfl ?_
      refine v_if_eq (tgt := 45) C dX6_carry_36 (by decide) rfl (fun q => absurd q (by decide)) (fun _ => ?_)
      refine v_aload_n C dX6_carry_39 rfl rfl rfl ?_
      refine v_iload_n C dX6_carry_40 rfl rfl rfl ?_
      refine v_callV C (Nat.le_of_ble_eq_true rfl) rfl rfl (As := [.int (-1)]) (rest := []) (kX6_no (-1) 1 σ (by decide) (by decide)) rfl (Nat.le_of_ble_eq_true rfl) (Nat.le_of_ble_eq_true rfl) ⟨mlX6_79, mfX6_no⟩ dkX6_no (Nat.le_of_ble_eq_true rfl) dX6_carry_41 rfl (kI ?_)
      exact v_iret C dX6_carry_44 (by rw [hX]; exact fI_of (by simp [carA, cI, ← hn, c5, c12]) (by simp [carS, cI, ← hn, c5, c12]))
theorem kX6_polish (p : Int32) (n : Nat) (σ : St) (hn : σ 0 8 = nI n) (h7 : n ≤ 7) : Ct yX6_polish cX6_polish 3 (some .int) 1 [.ref 0, .int p] σ (fI (polA σ n p) (polS σ n p)) := by
  refine ct_of plX6 rfl (Nat.le_of_ble_eq_true rfl) (fun X hX C => ?_)
  show V X 0 [(0, .ref 0), (1, .int p)] [] σ
  refine v_aload_n C dX6_polish_0 rfl rfl rfl ?_
  refine v_iload_n C dX6_polish_1 rfl rfl rfl ?_
  refine v_callV C (Nat.le_of_ble_eq_true rfl) rfl rfl (As := [.int p]) (rest := []) (kX6_isPiece p σ) rfl (Nat.le_of_ble_eq_true rfl) (Nat.le_of_ble_eq_true rfl) ⟨mlX6_116, mfX6_isPiece⟩ dkX6_isPiece (Nat.le_of_ble_eq_true rfl) dX6_polish_2 rfl (kI ?_)
  refine v_if_ne (tgt := 12) C dX6_polish_5 (by decide) rfl (fun c5 => ?_) (fun c5 => ?_)
  · skip
    have c5 := bI_n c5
    have hp1 : p = nI (tn p) := (piece_nat h7 (hn ▸ c5)).1
    have hp2 : tn p < n := (piece_nat h7 (hn ▸ c5)).2
    refine v_aload_n C dX6_polish_12 rfl rfl rfl ?_
    refine v_getR C (Nat.le_of_ble_eq_true rfl) rfl rfl hinX6 5 (Nat.le_of_ble_eq_true rfl) lkX6_25 rfl dX6_polish_13 rfl ?_
    refine v_iload_n C dX6_polish_16 rfl rfl rfl ?_
    refine V.tp hp1 ?_
    refine v_iald (i := tn p) C (Nat.le_of_ble_eq_true rfl) rfl rfl (by omega) (by decide) dX6_polish_17 rfl ?_
    refine v_bipush (v := 9) C dX6_polish_18 (by decide) rfl ?_
    refine v_icmp_ne (tgt := 28) C dX6_polish_20 (by decide) rfl (fun c20 => ?_) (fun c20 => ?_)
    · skip
      refine v_iconst (v := 0) C dX6_polish_28 (by decide) rfl ?_
      refine v_istore_n (lv' := [(2, .int 0), (0, .ref 0), (1, .int p)]) C dX6_polish_29 rfl (Nat.le_of_ble_eq_true rfl) rfl rfl ?_
      refine v_iload_n C dX6_polish_30 rfl rfl rfl ?_
      refine v_if_eq (tgt := 40) C dX6_polish_31 (by decide) rfl (fun _ => ?_) (fun q => absurd q (by decide))
      refine v_aload_n C dX6_polish_40 rfl rfl rfl ?_
      refine v_getR C (Nat.le_of_ble_eq_true rfl) rfl rfl hinX6 5 (Nat.le_of_ble_eq_true rfl) lkX6_25 rfl dX6_polish_41 rfl ?_
      refine v_iload_n C dX6_polish_44 rfl rfl rfl ?_
      refine V.tp hp1 ?_
      refine v_dup2 C dX6_polish_45 rfl rfl rfl ?_
      refine v_iald (i := tn p) C (Nat.le_of_ble_eq_true rfl) rfl rfl (by omega) (by decide) dX6_polish_46 rfl ?_
      refine v_iconst (v := 1) C dX6_polish_47 (by decide) rfl ?_
      refine v_iadd C dX6_polish_48 rfl ?_
      refine v_iast (i := tn p) C (Nat.le_of_ble_eq_true rfl) rfl rfl (by omega) (by decide) dX6_polish_49 rfl ?_
      refine V.nm (fun τ49_1 eτ49_1 => ?_)
      refine v_aload_n C dX6_polish_50 rfl rfl rfl ?_
      refine v_getR C (Nat.le_of_ble_eq_true rfl) rfl rfl hinX6 5 (Nat.le_of_ble_eq_true rfl) lkX6_25 rfl dX6_polish_51 rfl ?_
      refine v_iload_n C dX6_polish_54 rfl rfl rfl ?_
      refine V.tp hp1 ?_
      refine v_iald (i := tn p) C (Nat.le_of_ble_eq_true rfl) rfl rfl (by omega) (by decide) dX6_polish_55 rfl ?_
      exact v_iret C dX6_polish_56 (by rw [hX]; exact fI_of (by simp [polA, cI, ← hn, s2_get, c5, c20, eτ49_1]) (by simp [polS, cI, ← hn, s2_get, c5, c20, eτ49_1]))
    · skip
      refine v_bipush (v := -3) C dX6_polish_23 (by decide) rfl ?_
      refine v_goto (tgt := 29) C dX6_polish_25 (by decide) ?_
      refine v_istore_n (lv' := [(2, .int (-3)), (0, .ref 0), (1, .int p)]) C dX6_polish_29 rfl (Nat.le_of_ble_eq_true rfl) rfl rfl ?_
      refine v_iload_n C dX6_polish_30 rfl rfl rfl ?_
      refine v_if_eq (tgt := 40) C dX6_polish_31 (by decide) rfl (fun q => absurd q (by decide)) (fun _ => ?_)
      refine v_aload_n C dX6_polish_34 rfl rfl rfl ?_
      refine v_iload_n C dX6_polish_35 rfl rfl rfl ?_
      refine v_callV C (Nat.le_of_ble_eq_true rfl) rfl rfl (As := [.int (-3)]) (rest := []) (kX6_no (-3) 3 σ (by decide) (by decide)) rfl (Nat.le_of_ble_eq_true rfl) (Nat.le_of_ble_eq_true rfl) ⟨mlX6_79, mfX6_no⟩ dkX6_no (Nat.le_of_ble_eq_true rfl) dX6_polish_36 rfl (kI ?_)
      exact v_iret C dX6_polish_39 (by rw [hX]; exact fI_of (by simp [polA, cI, ← hn, s2_get, c5, c20]) (by simp [polS, cI, ← hn, s2_get, c5, c20]))
  · skip
    have c5 := bI_0 c5
    refine v_iconst (v := -1) C dX6_polish_8 (by decide) rfl ?_
    refine v_goto (tgt := 29) C dX6_polish_9 (by decide) ?_
    refine v_istore_n (lv' := [(2, .int (-1)), (0, .ref 0), (1, .int p)]) C dX6_polish_29 rfl (Nat.le_of_ble_eq_true rfl) rfl rfl ?_
    refine v_iload_n C dX6_polish_30 rfl rfl rfl ?_
    refine v_if_eq (tgt := 40) C dX6_polish_31 (by decide) rfl (fun q => absurd q (by decide)) (fun _ => ?_)
    refine v_aload_n C dX6_polish_34 rfl rfl rfl ?_
    refine v_iload_n C dX6_polish_35 rfl rfl rfl ?_
    refine v_callV C (Nat.le_of_ble_eq_true rfl) rfl rfl (As := [.int (-1)]) (rest := []) (kX6_no (-1) 1 σ (by decide) (by decide)) rfl (Nat.le_of_ble_eq_true rfl) (Nat.le_of_ble_eq_true rfl) ⟨mlX6_79, mfX6_no⟩ dkX6_no (Nat.le_of_ble_eq_true rfl) dX6_polish_36 rfl (kI ?_)
    exact v_iret C dX6_polish_39 (by rw [hX]; exact fI_of (by simp [polA, cI, ← hn, s2_get, c5]) (by simp [polS, cI, ← hn, s2_get, c5]))
theorem kX6_size (r v : Int32) (n : Nat) (σ : St) (hn : σ 0 8 = nI n) (h7 : n ≤ 7) : Ct yX6_size cX6_size 5 (some .int) 1 [.ref 0, .int r, .int v] σ (fI (sizA σ n r v) (sizS σ n r v)) := by
  refine ct_of plX6 rfl (Nat.le_of_ble_eq_true rfl) (fun X hX C => ?_)
  show V X 0 [(0, .ref 0), (1, .int r), (2, .int v)] [] σ
  refine v_iload_n C dX6_size_0 rfl rfl rfl ?_
  refine v_callS C (As := [.int r]) (rest := []) (kX6_isRoom r σ) rfl (Nat.le_of_ble_eq_true rfl) (Nat.le_of_ble_eq_true rfl) ⟨mlX6_68, mfX6_isRoom⟩ dkX6_isRoom (Nat.le_of_ble_eq_true rfl) dX6_size_1 rfl (kI ?_)
  refine v_if_ne (tgt := 11) C dX6_size_4 (by decide) rfl (fun c4 => ?_) (fun c4 => ?_)
  · skip
    have c4 := bI_n c4
    have hrm : roomP r := c4
    refine v_iload_n C dX6_size_11 rfl rfl rfl ?_
    refine v_iconst (v := 0) C dX6_size_12 (by decide) rfl ?_
    refine v_bipush (v := 20) C dX6_size_13 (by decide) rfl ?_
    refine v_callS C (As := [.int v, .int 0, .int 20]) (rest := []) (kX6_bound v 0 20 σ) rfl (Nat.le_of_ble_eq_true rfl) (Nat.le_of_ble_eq_true rfl) ⟨mlX6_72, mfX6_bound⟩ dkX6_bound (Nat.le_of_ble_eq_true rfl) dX6_size_15 rfl (kI ?_)
    rcases bnd_cases v 0 20 with ⟨hb, q1⟩ | ⟨hb, q1, q2⟩ | ⟨hb, q1, q2⟩
    · refine V.tp hb ?_
      refine v_istore_n (lv' := [(3, .int (-4)), (0, .ref 0), (1, .int r), (2, .int v)]) C dX6_size_18 rfl (Nat.le_of_ble_eq_true rfl) rfl rfl ?_
      refine v_iload_n C dX6_size_19 rfl rfl rfl ?_
      refine v_if_ne (tgt := 35) C dX6_size_20 (by decide) rfl (fun _ => ?_) (fun q => absurd q (by decide))
      refine v_iload_n C dX6_size_35 rfl rfl rfl ?_
      refine v_if_eq (tgt := 45) C dX6_size_36 (by decide) rfl (fun q => absurd q (by decide)) (fun _ => ?_)
      refine v_aload_n C dX6_size_39 rfl rfl rfl ?_
      refine v_iload_n C dX6_size_40 rfl rfl rfl ?_
      refine v_callV C (Nat.le_of_ble_eq_true rfl) rfl rfl (As := [.int (-4)]) (rest := []) (kX6_no (-4) 4 σ (by decide) (by decide)) rfl (Nat.le_of_ble_eq_true rfl) (Nat.le_of_ble_eq_true rfl) ⟨mlX6_79, mfX6_no⟩ dkX6_no (Nat.le_of_ble_eq_true rfl) dX6_size_41 rfl (kI ?_)
      exact v_iret C dX6_size_44 (by rw [hX]; exact fI_of (by simp [sizA, cI, ← hn, c4, q1]) (by simp [sizS, cI, ← hn, c4, q1]))
    · refine V.tp hb ?_
      refine v_istore_n (lv' := [(3, .int (-6)), (0, .ref 0), (1, .int r), (2, .int v)]) C dX6_size_18 rfl (Nat.le_of_ble_eq_true rfl) rfl rfl ?_
      refine v_iload_n C dX6_size_19 rfl rfl rfl ?_
      refine v_if_ne (tgt := 35) C dX6_size_20 (by decide) rfl (fun _ => ?_) (fun q => absurd q (by decide))
      refine v_iload_n C dX6_size_35 rfl rfl rfl ?_
      refine v_if_eq (tgt := 45) C dX6_size_36 (by decide) rfl (fun q => absurd q (by decide)) (fun _ => ?_)
      refine v_aload_n C dX6_size_39 rfl rfl rfl ?_
      refine v_iload_n C dX6_size_40 rfl rfl rfl ?_
      refine v_callV C (Nat.le_of_ble_eq_true rfl) rfl rfl (As := [.int (-6)]) (rest := []) (kX6_no (-6) 6 σ (by decide) (by decide)) rfl (Nat.le_of_ble_eq_true rfl) (Nat.le_of_ble_eq_true rfl) ⟨mlX6_79, mfX6_no⟩ dkX6_no (Nat.le_of_ble_eq_true rfl) dX6_size_41 rfl (kI ?_)
      exact v_iret C dX6_size_44 (by rw [hX]; exact fI_of (by simp [sizA, cI, ← hn, c4, q1, q2]) (by simp [sizS, cI, ← hn, c4, q1, q2]))
    · refine V.tp hb ?_
      refine v_istore_n (lv' := [(3, .int 0), (0, .ref 0), (1, .int r), (2, .int v)]) C dX6_size_18 rfl (Nat.le_of_ble_eq_true rfl) rfl rfl ?_
      refine v_iload_n C dX6_size_19 rfl rfl rfl ?_
      refine v_if_ne (tgt := 35) C dX6_size_20 (by decide) rfl (fun q => absurd q (by decide)) (fun _ => ?_)
      refine v_iload_n C dX6_size_23 rfl rfl rfl ?_
      refine v_aload_n C dX6_size_24 rfl rfl rfl ?_
      refine v_iload_n C dX6_size_25 rfl rfl rfl ?_
      refine v_callV C (Nat.le_of_ble_eq_true rfl) rfl rfl (As := [.int r]) (rest := [.int v]) (kX6_bulkIn n r σ hn h7) rfl (Nat.le_of_ble_eq_true rfl) (Nat.le_of_ble_eq_true rfl) ⟨mlX6_125, mfX6_bulkIn⟩ dkX6_bulkIn (Nat.le_of_ble_eq_true rfl) dX6_size_26 rfl (kI ?_)
      refine v_icmp_ge (tgt := 35) C dX6_size_29 (by decide) rfl (fun c29 => ?_) (fun c29 => ?_)
      · skip
        refine v_iload_n C dX6_size_35 rfl rfl rfl ?_
        refine v_if_eq (tgt := 45) C dX6_size_36 (by decide) rfl (fun _ => ?_) (fun q => absurd q (by decide))
        refine v_aload_n C dX6_size_45 rfl rfl rfl ?_
        refine v_getR C (Nat.le_of_ble_eq_true rfl) rfl rfl hinX6 1 (Nat.le_of_ble_eq_true rfl) lkX6_13 rfl dX6_size_46 rfl ?_
        refine v_iload_n C dX6_size_49 rfl rfl rfl ?_
        refine v_iald (i := (tn r)) C (Nat.le_of_ble_eq_true rfl) rfl (room_nat hrm).1 (room_nat hrm).2 (by decide) dX6_size_50 rfl ?_
        refine V.top (fun v51_1 ev51_1 => ?_)
        refine v_istore (lv' := [(4, .int v51_1), (3, .int 0), (0, .ref 0), (1, .int r), (2, .int v)]) C dX6_size_51 (Nat.le_of_ble_eq_true rfl) rfl rfl ?_
        refine v_aload_n C dX6_size_53 rfl rfl rfl ?_
        refine v_getR C (Nat.le_of_ble_eq_true rfl) rfl rfl hinX6 1 (Nat.le_of_ble_eq_true rfl) lkX6_13 rfl dX6_size_54 rfl ?_
        refine v_iload_n C dX6_size_57 rfl rfl rfl ?_
        refine v_iload_n C dX6_size_58 rfl rfl rfl ?_
        refine v_iast (i := (tn r)) C (Nat.le_of_ble_eq_true rfl) rfl (room_nat hrm).1 (room_nat hrm).2 (by decide) dX6_size_59 rfl ?_
        refine V.nm (fun τ59_2 eτ59_2 => ?_)
        refine v_iload C dX6_size_60 rfl rfl ?_
        exact v_iret C dX6_size_62 (by rw [hX]; exact fI_of (by simp [sizA, cI, ← hn, c4, q1, q2, c29, ev51_1, eτ59_2]) (by simp [sizS, cI, ← hn, c4, q1, q2, c29, ev51_1, eτ59_2]))
      · skip
        refine v_bipush (v := -3) C dX6_size_32 (by decide) rfl ?_
        refine v_istore_n (lv' := [(3, .int (-3)), (0, .ref 0), (1, .int r), (2, .int v)]) C dX6_size_34 rfl (Nat.le_of_ble_eq_true rfl) rfl rfl ?_
        refine v_iload_n C dX6_size_35 rfl rfl rfl ?_
        refine v_if_eq (tgt := 45) C dX6_size_36 (by decide) rfl (fun q => absurd q (by decide)) (fun _ => ?_)
        refine v_aload_n C dX6_size_39 rfl rfl rfl ?_
        refine v_iload_n C dX6_size_40 rfl rfl rfl ?_
        refine v_callV C (Nat.le_of_ble_eq_true rfl) rfl rfl (As := [.int (-3)]) (rest := []) (kX6_no (-3) 3 σ (by decide) (by decide)) rfl (Nat.le_of_ble_eq_true rfl) (Nat.le_of_ble_eq_true rfl) ⟨mlX6_79, mfX6_no⟩ dkX6_no (Nat.le_of_ble_eq_true rfl) dX6_size_41 rfl (kI ?_)
        exact v_iret C dX6_size_44 (by rw [hX]; exact fI_of (by simp [sizA, cI, ← hn, c4, q1, q2, c29]) (by simp [sizS, cI, ← hn, c4, q1, q2, c29]))
  · skip
    have c4 := bI_0 c4
    refine v_iconst (v := -1) C dX6_size_7 (by decide) rfl ?_
    refine v_goto (tgt := 18) C dX6_size_8 (by decide) ?_
    refine v_istore_n (lv' := [(3, .int (-1)), (0, .ref 0), (1, .int r), (2, .int v)]) C dX6_size_18 rfl (Nat.le_of_ble_eq_true rfl) rfl rfl ?_
    refine v_iload_n C dX6_size_19 rfl rfl rfl ?_
    refine v_if_ne (tgt := 35) C dX6_size_20 (by decide) rfl (fun _ => ?_) (fun q => absurd q (by decide))
    refine v_iload_n C dX6_size_35 rfl rfl rfl ?_
    refine v_if_eq (tgt := 45) C dX6_size_36 (by decide) rfl (fun q => absurd q (by decide)) (fun _ => ?_)
    refine v_aload_n C dX6_size_39 rfl rfl rfl ?_
    refine v_iload_n C dX6_size_40 rfl rfl rfl ?_
    refine v_callV C (Nat.le_of_ble_eq_true rfl) rfl rfl (As := [.int (-1)]) (rest := []) (kX6_no (-1) 1 σ (by decide) (by decide)) rfl (Nat.le_of_ble_eq_true rfl) (Nat.le_of_ble_eq_true rfl) ⟨mlX6_79, mfX6_no⟩ dkX6_no (Nat.le_of_ble_eq_true rfl) dX6_size_41 rfl (kI ?_)
    exact v_iret C dX6_size_44 (by rw [hX]; exact fI_of (by simp [sizA, cI, ← hn, c4]) (by simp [sizS, cI, ← hn, c4]))
theorem kX6_wide (f v : Int32) (σ : St) : Ct yX6_wide cX6_wide 5 (some .int) 1 [.ref 0, .int f, .int v] σ (fI (widA σ f v) (widS σ f v)) := by
  refine ct_of plX6 rfl (Nat.le_of_ble_eq_true rfl) (fun X hX C => ?_)
  show V X 0 [(0, .ref 0), (1, .int f), (2, .int v)] [] σ
  refine v_iload_n C dX6_wide_0 rfl rfl rfl ?_
  refine v_callS C (As := [.int f]) (rest := []) (kX6_isFloor f σ) rfl (Nat.le_of_ble_eq_true rfl) (Nat.le_of_ble_eq_true rfl) ⟨mlX6_175, mfX6_isFloor⟩ dkX6_isFloor (Nat.le_of_ble_eq_true rfl) dX6_wide_1 rfl (kI ?_)
  refine v_if_ne (tgt := 11) C dX6_wide_4 (by decide) rfl (fun c4 => ?_) (fun c4 => ?_)
  · skip
    have c4 := bI_n c4
    have hfl : floorP f := c4
    refine v_iload_n C dX6_wide_11 rfl rfl rfl ?_
    refine v_iconst (v := 0) C dX6_wide_12 (by decide) rfl ?_
    refine v_bipush (v := 9) C dX6_wide_13 (by decide) rfl ?_
    refine v_callS C (As := [.int v, .int 0, .int 9]) (rest := []) (kX6_bound v 0 9 σ) rfl (Nat.le_of_ble_eq_true rfl) (Nat.le_of_ble_eq_true rfl) ⟨mlX6_72, mfX6_bound⟩ dkX6_bound (Nat.le_of_ble_eq_true rfl) dX6_wide_15 rfl (kI ?_)
    rcases bnd_cases v 0 9 with ⟨hb, q1⟩ | ⟨hb, q1, q2⟩ | ⟨hb, q1, q2⟩
    · refine V.tp hb ?_
      refine v_istore_n (lv' := [(3, .int (-4)), (0, .ref 0), (1, .int f), (2, .int v)]) C dX6_wide_18 rfl (Nat.le_of_ble_eq_true rfl) rfl rfl ?_
      refine v_iload_n C dX6_wide_19 rfl rfl rfl ?_
      refine v_if_eq (tgt := 29) C dX6_wide_20 (by decide) rfl (fun q => absurd q (by decide)) (fun _ => ?_)
      refine v_aload_n C dX6_wide_23 rfl rfl rfl ?_
      refine v_iload_n C dX6_wide_24 rfl rfl rfl ?_
      refine v_callV C (Nat.le_of_ble_eq_true rfl) rfl rfl (As := [.int (-4)]) (rest := []) (kX6_no (-4) 4 σ (by decide) (by decide)) rfl (Nat.le_of_ble_eq_true rfl) (Nat.le_of_ble_eq_true rfl) ⟨mlX6_79, mfX6_no⟩ dkX6_no (Nat.le_of_ble_eq_true rfl) dX6_wide_25 rfl (kI ?_)
      exact v_iret C dX6_wide_28 (by rw [hX]; exact fI_of (by simp [widA, cI, c4, q1]) (by simp [widS, cI, c4, q1]))
    · refine V.tp hb ?_
      refine v_istore_n (lv' := [(3, .int (-6)), (0, .ref 0), (1, .int f), (2, .int v)]) C dX6_wide_18 rfl (Nat.le_of_ble_eq_true rfl) rfl rfl ?_
      refine v_iload_n C dX6_wide_19 rfl rfl rfl ?_
      refine v_if_eq (tgt := 29) C dX6_wide_20 (by decide) rfl (fun q => absurd q (by decide)) (fun _ => ?_)
      refine v_aload_n C dX6_wide_23 rfl rfl rfl ?_
      refine v_iload_n C dX6_wide_24 rfl rfl rfl ?_
      refine v_callV C (Nat.le_of_ble_eq_true rfl) rfl rfl (As := [.int (-6)]) (rest := []) (kX6_no (-6) 6 σ (by decide) (by decide)) rfl (Nat.le_of_ble_eq_true rfl) (Nat.le_of_ble_eq_true rfl) ⟨mlX6_79, mfX6_no⟩ dkX6_no (Nat.le_of_ble_eq_true rfl) dX6_wide_25 rfl (kI ?_)
      exact v_iret C dX6_wide_28 (by rw [hX]; exact fI_of (by simp [widA, cI, c4, q1, q2]) (by simp [widS, cI, c4, q1, q2]))
    · refine V.tp hb ?_
      refine v_istore_n (lv' := [(3, .int 0), (0, .ref 0), (1, .int f), (2, .int v)]) C dX6_wide_18 rfl (Nat.le_of_ble_eq_true rfl) rfl rfl ?_
      refine v_iload_n C dX6_wide_19 rfl rfl rfl ?_
      refine v_if_eq (tgt := 29) C dX6_wide_20 (by decide) rfl (fun _ => ?_) (fun q => absurd q (by decide))
      refine v_aload_n C dX6_wide_29 rfl rfl rfl ?_
      refine v_getR C (Nat.le_of_ble_eq_true rfl) rfl rfl hinX6 2 (Nat.le_of_ble_eq_true rfl) lkX6_16 rfl dX6_wide_30 rfl ?_
      refine v_iload_n C dX6_wide_33 rfl rfl rfl ?_
      refine v_iald (i := (tn f)) C (Nat.le_of_ble_eq_true rfl) rfl (floor_nat hfl).1 (floor_nat hfl).2 (by decide) dX6_wide_34 rfl ?_
      refine V.top (fun v35_1 ev35_1 => ?_)
      refine v_istore (lv' := [(4, .int v35_1), (3, .int 0), (0, .ref 0), (1, .int f), (2, .int v)]) C dX6_wide_35 (Nat.le_of_ble_eq_true rfl) rfl rfl ?_
      refine v_aload_n C dX6_wide_37 rfl rfl rfl ?_
      refine v_getR C (Nat.le_of_ble_eq_true rfl) rfl rfl hinX6 2 (Nat.le_of_ble_eq_true rfl) lkX6_16 rfl dX6_wide_38 rfl ?_
      refine v_iload_n C dX6_wide_41 rfl rfl rfl ?_
      refine v_iload_n C dX6_wide_42 rfl rfl rfl ?_
      refine v_iast (i := (tn f)) C (Nat.le_of_ble_eq_true rfl) rfl (floor_nat hfl).1 (floor_nat hfl).2 (by decide) dX6_wide_43 rfl ?_
      refine V.nm (fun τ43_2 eτ43_2 => ?_)
      refine v_iload C dX6_wide_44 rfl rfl ?_
      exact v_iret C dX6_wide_46 (by rw [hX]; exact fI_of (by simp [widA, cI, c4, q1, q2, ev35_1, eτ43_2]) (by simp [widS, cI, c4, q1, q2, ev35_1, eτ43_2]))
  · skip
    have c4 := bI_0 c4
    refine v_iconst (v := -1) C dX6_wide_7 (by decide) rfl ?_
    refine v_goto (tgt := 18) C dX6_wide_8 (by decide) ?_
    refine v_istore_n (lv' := [(3, .int (-1)), (0, .ref 0), (1, .int f), (2, .int v)]) C dX6_wide_18 rfl (Nat.le_of_ble_eq_true rfl) rfl rfl ?_
    refine v_iload_n C dX6_wide_19 rfl rfl rfl ?_
    refine v_if_eq (tgt := 29) C dX6_wide_20 (by decide) rfl (fun q => absurd q (by decide)) (fun _ => ?_)
    refine v_aload_n C dX6_wide_23 rfl rfl rfl ?_
    refine v_iload_n C dX6_wide_24 rfl rfl rfl ?_
    refine v_callV C (Nat.le_of_ble_eq_true rfl) rfl rfl (As := [.int (-1)]) (rest := []) (kX6_no (-1) 1 σ (by decide) (by decide)) rfl (Nat.le_of_ble_eq_true rfl) (Nat.le_of_ble_eq_true rfl) ⟨mlX6_79, mfX6_no⟩ dkX6_no (Nat.le_of_ble_eq_true rfl) dX6_wide_25 rfl (kI ?_)
    exact v_iret C dX6_wide_28 (by rw [hX]; exact fI_of (by simp [widA, cI, c4]) (by simp [widS, cI, c4]))
theorem kX6_heirs (v : Int32) (σ : St) : Ct yX6_heirs cX6_heirs 4 (some .int) 1 [.ref 0, .int v] σ (fI (heiA σ v) (heiS σ v)) := by
  refine ct_of plX6 rfl (Nat.le_of_ble_eq_true rfl) (fun X hX C => ?_)
  show V X 0 [(0, .ref 0), (1, .int v)] [] σ
  refine v_iload_n C dX6_heirs_0 rfl rfl rfl ?_
  refine v_iconst (v := 2) C dX6_heirs_1 (by decide) rfl ?_
  refine v_iconst (v := 4) C dX6_heirs_2 (by decide) rfl ?_
  refine v_callS C (As := [.int v, .int 2, .int 4]) (rest := []) (kX6_bound v 2 4 σ) rfl (Nat.le_of_ble_eq_true rfl) (Nat.le_of_ble_eq_true rfl) ⟨mlX6_72, mfX6_bound⟩ dkX6_bound (Nat.le_of_ble_eq_true rfl) dX6_heirs_3 rfl (kI ?_)
  rcases bnd_cases v 2 4 with ⟨hb, q1⟩ | ⟨hb, q1, q2⟩ | ⟨hb, q1, q2⟩
  · refine V.tp hb ?_
    refine v_istore_n (lv' := [(2, .int (-4)), (0, .ref 0), (1, .int v)]) C dX6_heirs_6 rfl (Nat.le_of_ble_eq_true rfl) rfl rfl ?_
    refine v_iload_n C dX6_heirs_7 rfl rfl rfl ?_
    refine v_if_eq (tgt := 17) C dX6_heirs_8 (by decide) rfl (fun q => absurd q (by decide)) (fun _ => ?_)
    refine v_aload_n C dX6_heirs_11 rfl rfl rfl ?_
    refine v_iload_n C dX6_heirs_12 rfl rfl rfl ?_
    refine v_callV C (Nat.le_of_ble_eq_true rfl) rfl rfl (As := [.int (-4)]) (rest := []) (kX6_no (-4) 4 σ (by decide) (by decide)) rfl (Nat.le_of_ble_eq_true rfl) (Nat.le_of_ble_eq_true rfl) ⟨mlX6_79, mfX6_no⟩ dkX6_no (Nat.le_of_ble_eq_true rfl) dX6_heirs_13 rfl (kI ?_)
    exact v_iret C dX6_heirs_16 (by rw [hX]; exact fI_of (by simp [heiA, q1]) (by simp [heiS, q1]))
  · refine V.tp hb ?_
    refine v_istore_n (lv' := [(2, .int (-6)), (0, .ref 0), (1, .int v)]) C dX6_heirs_6 rfl (Nat.le_of_ble_eq_true rfl) rfl rfl ?_
    refine v_iload_n C dX6_heirs_7 rfl rfl rfl ?_
    refine v_if_eq (tgt := 17) C dX6_heirs_8 (by decide) rfl (fun q => absurd q (by decide)) (fun _ => ?_)
    refine v_aload_n C dX6_heirs_11 rfl rfl rfl ?_
    refine v_iload_n C dX6_heirs_12 rfl rfl rfl ?_
    refine v_callV C (Nat.le_of_ble_eq_true rfl) rfl rfl (As := [.int (-6)]) (rest := []) (kX6_no (-6) 6 σ (by decide) (by decide)) rfl (Nat.le_of_ble_eq_true rfl) (Nat.le_of_ble_eq_true rfl) ⟨mlX6_79, mfX6_no⟩ dkX6_no (Nat.le_of_ble_eq_true rfl) dX6_heirs_13 rfl (kI ?_)
    exact v_iret C dX6_heirs_16 (by rw [hX]; exact fI_of (by simp [heiA, q1, q2]) (by simp [heiS, q1, q2]))
  · refine V.tp hb ?_
    refine v_istore_n (lv' := [(2, .int 0), (0, .ref 0), (1, .int v)]) C dX6_heirs_6 rfl (Nat.le_of_ble_eq_true rfl) rfl rfl ?_
    refine v_iload_n C dX6_heirs_7 rfl rfl rfl ?_
    refine v_if_eq (tgt := 17) C dX6_heirs_8 (by decide) rfl (fun _ => ?_) (fun q => absurd q (by decide))
    refine v_aload_n C dX6_heirs_17 rfl rfl rfl ?_
    refine v_getI C (Nat.le_of_ble_eq_true rfl) rfl rfl hinX6 9 (Nat.le_of_ble_eq_true rfl) lkX6_61 rfl dX6_heirs_18 rfl ?_
    refine V.top (fun v21_1 ev21_1 => ?_)
    refine v_istore_n (lv' := [(3, .int v21_1), (2, .int 0), (0, .ref 0), (1, .int v)]) C dX6_heirs_21 rfl (Nat.le_of_ble_eq_true rfl) rfl rfl ?_
    refine v_aload_n C dX6_heirs_22 rfl rfl rfl ?_
    refine v_iload_n C dX6_heirs_23 rfl rfl rfl ?_
    refine v_put (ty := .int) C (Nat.le_of_ble_eq_true rfl) rfl rfl hinX6 tyX6_ok nmX6 9 (Nat.le_of_ble_eq_true rfl) lkX6_61 rfl (by decide +kernel) rfl rfl rfl dX6_heirs_24 rfl ?_
    refine V.nm (fun τ24_2 eτ24_2 => ?_)
    refine v_iload_n C dX6_heirs_27 rfl rfl rfl ?_
    exact v_iret C dX6_heirs_28 (by rw [hX]; exact fI_of (by simp [heiA, q1, q2, ev21_1, eτ24_2]) (by simp [heiS, q1, q2, ev21_1, eτ24_2]))
theorem kX6_years (v : Int32) (n y : Nat) (σ : St) (hn : σ 0 8 = nI n) (h7 : n ≤ 7) (hy : σ 0 10 = nI y) (hy9 : y ≤ 999) : Ct yX6_years cX6_years 3 (some .int) 1 [.ref 0, .int v] σ (fI (yeaA σ n y v) (yeaS σ n y v)) := by
  refine ct_of plX6 rfl (Nat.le_of_ble_eq_true rfl) (fun X hX C => ?_)
  show V X 0 [(0, .ref 0), (1, .int v)] [] σ
  refine v_iload_n C dX6_years_0 rfl rfl rfl ?_
  refine v_iconst (v := 1) C dX6_years_1 (by decide) rfl ?_
  refine v_bipush (v := 60) C dX6_years_2 (by decide) rfl ?_
  refine v_callS C (As := [.int v, .int 1, .int 60]) (rest := []) (kX6_bound v 1 60 σ) rfl (Nat.le_of_ble_eq_true rfl) (Nat.le_of_ble_eq_true rfl) ⟨mlX6_72, mfX6_bound⟩ dkX6_bound (Nat.le_of_ble_eq_true rfl) dX6_years_4 rfl (kI ?_)
  rcases bnd_cases v 1 60 with ⟨hb, q1⟩ | ⟨hb, q1, q2⟩ | ⟨hb, q1, q2⟩
  · refine V.tp hb ?_
    refine v_istore_n (lv' := [(2, .int (-4)), (0, .ref 0), (1, .int v)]) C dX6_years_7 rfl (Nat.le_of_ble_eq_true rfl) rfl rfl ?_
    refine v_iload_n C dX6_years_8 rfl rfl rfl ?_
    refine v_if_ne (tgt := 27) C dX6_years_9 (by decide) rfl (fun _ => ?_) (fun q => absurd q (by decide))
    refine v_iload_n C dX6_years_27 rfl rfl rfl ?_
    refine v_if_eq (tgt := 37) C dX6_years_28 (by decide) rfl (fun q => absurd q (by decide)) (fun _ => ?_)
    refine v_aload_n C dX6_years_31 rfl rfl rfl ?_
    refine v_iload_n C dX6_years_32 rfl rfl rfl ?_
    refine v_callV C (Nat.le_of_ble_eq_true rfl) rfl rfl (As := [.int (-4)]) (rest := []) (kX6_no (-4) 4 σ (by decide) (by decide)) rfl (Nat.le_of_ble_eq_true rfl) (Nat.le_of_ble_eq_true rfl) ⟨mlX6_79, mfX6_no⟩ dkX6_no (Nat.le_of_ble_eq_true rfl) dX6_years_33 rfl (kI ?_)
    exact v_iret C dX6_years_36 (by rw [hX]; exact fI_of (by simp [yeaA, q1]) (by simp [yeaS, q1]))
  · refine V.tp hb ?_
    refine v_istore_n (lv' := [(2, .int (-6)), (0, .ref 0), (1, .int v)]) C dX6_years_7 rfl (Nat.le_of_ble_eq_true rfl) rfl rfl ?_
    refine v_iload_n C dX6_years_8 rfl rfl rfl ?_
    refine v_if_ne (tgt := 27) C dX6_years_9 (by decide) rfl (fun _ => ?_) (fun q => absurd q (by decide))
    refine v_iload_n C dX6_years_27 rfl rfl rfl ?_
    refine v_if_eq (tgt := 37) C dX6_years_28 (by decide) rfl (fun q => absurd q (by decide)) (fun _ => ?_)
    refine v_aload_n C dX6_years_31 rfl rfl rfl ?_
    refine v_iload_n C dX6_years_32 rfl rfl rfl ?_
    refine v_callV C (Nat.le_of_ble_eq_true rfl) rfl rfl (As := [.int (-6)]) (rest := []) (kX6_no (-6) 6 σ (by decide) (by decide)) rfl (Nat.le_of_ble_eq_true rfl) (Nat.le_of_ble_eq_true rfl) ⟨mlX6_79, mfX6_no⟩ dkX6_no (Nat.le_of_ble_eq_true rfl) dX6_years_33 rfl (kI ?_)
    exact v_iret C dX6_years_36 (by rw [hX]; exact fI_of (by simp [yeaA, q1, q2]) (by simp [yeaS, q1, q2]))
  · refine V.tp hb ?_
    refine v_istore_n (lv' := [(2, .int 0), (0, .ref 0), (1, .int v)]) C dX6_years_7 rfl (Nat.le_of_ble_eq_true rfl) rfl rfl ?_
    refine v_iload_n C dX6_years_8 rfl rfl rfl ?_
    refine v_if_ne (tgt := 27) C dX6_years_9 (by decide) rfl (fun q => absurd q (by decide)) (fun _ => ?_)
    have hv1 := (nat_of (v := v) (a := 1) (b := 60) (by decide) (by decide) q1 q2)
    have hv2 := hv1.2
    refine v_aload_n C dX6_years_12 rfl rfl rfl ?_
    refine v_getI C (Nat.le_of_ble_eq_true rfl) rfl rfl hinX6 10 (Nat.le_of_ble_eq_true rfl) lkX6_128 rfl dX6_years_13 rfl ?_
    refine V.tp hy ?_
    refine v_iload_n C dX6_years_16 rfl rfl rfl ?_
    refine V.tp hv1.1 ?_
    refine v_iadd C dX6_years_17 rfl ?_
    refine V.tp (nI_add y (tn v)) ?_
    refine v_sipush (v := 999) C dX6_years_18 (by decide) rfl ?_
    refine v_icmp_le (tgt := 27) C dX6_years_21 (by decide) rfl (fun c21 => ?_) (fun c21 => ?_)
    · skip
      have c21 := mt (nI_ltI (a := 999) (b := (y + (tn v))) (by omega) (by omega)).mpr c21
      refine v_iload_n C dX6_years_27 rfl rfl rfl ?_
      refine v_if_eq (tgt := 37) C dX6_years_28 (by decide) rfl (fun _ => ?_) (fun q => absurd q (by decide))
      refine v_aload_n C dX6_years_37 rfl rfl rfl ?_
      refine v_iload_n C dX6_years_38 rfl rfl rfl ?_
      refine V.tp hv1.1 ?_
      refine v_callV C (Nat.le_of_ble_eq_true rfl) rfl rfl (As := [.int (nI (tn v))]) (rest := []) (kX6_goes n (tn v) σ hn h7 (by omega)) rfl (Nat.le_of_ble_eq_true rfl) (Nat.le_of_ble_eq_true rfl) ⟨mlX6_131, mfX6_goes⟩ dkX6_goes (Nat.le_of_ble_eq_true rfl) dX6_years_39 rfl (kV ?_)
      refine v_aload_n C dX6_years_42 rfl rfl rfl ?_
      refine v_getI C (Nat.le_of_ble_eq_true rfl) rfl rfl hinX6 10 (Nat.le_of_ble_eq_true rfl) lkX6_128 rfl dX6_years_43 rfl ?_
      exact v_iret C dX6_years_46 (by rw [hX]; exact fI_of (by simp [yeaA, q1, q2, c21]) (by simp [yeaS, q1, q2, c21]))
    · skip
      have c21 := (nI_ltI (a := 999) (b := (y + (tn v))) (by omega) (by omega)).mp c21
      refine v_bipush (v := -6) C dX6_years_24 (by decide) rfl ?_
      refine v_istore_n (lv' := [(2, .int (-6)), (0, .ref 0), (1, .int v)]) C dX6_years_26 rfl (Nat.le_of_ble_eq_true rfl) rfl rfl ?_
      refine v_iload_n C dX6_years_27 rfl rfl rfl ?_
      refine v_if_eq (tgt := 37) C dX6_years_28 (by decide) rfl (fun q => absurd q (by decide)) (fun _ => ?_)
      refine v_aload_n C dX6_years_31 rfl rfl rfl ?_
      refine v_iload_n C dX6_years_32 rfl rfl rfl ?_
      refine v_callV C (Nat.le_of_ble_eq_true rfl) rfl rfl (As := [.int (-6)]) (rest := []) (kX6_no (-6) 6 σ (by decide) (by decide)) rfl (Nat.le_of_ble_eq_true rfl) (Nat.le_of_ble_eq_true rfl) ⟨mlX6_79, mfX6_no⟩ dkX6_no (Nat.le_of_ble_eq_true rfl) dX6_years_33 rfl (kI ?_)
      exact v_iret C dX6_years_36 (by rw [hX]; exact fI_of (by simp [yeaA, q1, q2, c21]) (by simp [yeaS, q1, q2, c21]))
theorem kX6_blame (r : Int32) (n : Nat) (σ : St) (hn : σ 0 8 = nI n) (h7 : n ≤ 7) : Ct yX6_blame cX6_blame 2 (some .int) 3 [.ref 0, .int r] σ (fI (blaA σ n r) (blaS σ n r)) := by
  refine ct_of plX6 rfl (Nat.le_of_ble_eq_true rfl) (fun X hX C => ?_)
  show V X 0 [(0, .ref 0), (1, .int r)] [] σ
  refine v_iload_n C dX6_blame_0 rfl rfl rfl ?_
  refine v_callS C (As := [.int r]) (rest := []) (kX6_isPlace r σ) rfl (Nat.le_of_ble_eq_true rfl) (Nat.le_of_ble_eq_true rfl) ⟨mlX6_119, mfX6_isPlace⟩ dkX6_isPlace (Nat.le_of_ble_eq_true rfl) dX6_blame_1 rfl (kI ?_)
  refine v_if_ne (tgt := 13) C dX6_blame_4 (by decide) rfl (fun c4 => ?_) (fun c4 => ?_)
  · skip
    have c4 := bI_n c4
    refine v_aload_n C dX6_blame_13 rfl rfl rfl ?_
    refine v_iload_n C dX6_blame_14 rfl rfl rfl ?_
    refine v_callV C (Nat.le_of_ble_eq_true rfl) rfl rfl (As := [.int r]) (rest := []) (kX6_blameIn n r σ hn h7) rfl (Nat.le_of_ble_eq_true rfl) (Nat.le_of_ble_eq_true rfl) ⟨mlX6_178, mfX6_blameIn⟩ dkX6_blameIn (Nat.le_of_ble_eq_true rfl) dX6_blame_15 rfl (kI ?_)
    refine v_goto (tgt := 26) C dX6_blame_18 (by decide) ?_
    exact v_iret C dX6_blame_26 (by rw [hX]; exact fI_of (by simp [blaA, cI, c4]) (by simp [blaS, cI, c4]))
  · skip
    have c4 := bI_0 c4
    refine v_iload_n C dX6_blame_7 rfl rfl rfl ?_
    refine v_bipush (v := 10) C dX6_blame_8 (by decide) rfl ?_
    refine v_icmp_ne (tgt := 21) C dX6_blame_10 (by decide) rfl (fun c10 => ?_) (fun c10 => ?_)
    · skip
      refine v_aload_n C dX6_blame_21 rfl rfl rfl ?_
      refine v_iconst (v := -1) C dX6_blame_22 (by decide) rfl ?_
      refine v_callV C (Nat.le_of_ble_eq_true rfl) rfl rfl (As := [.int (-1)]) (rest := []) (kX6_no (-1) 1 σ (by decide) (by decide)) rfl (Nat.le_of_ble_eq_true rfl) (Nat.le_of_ble_eq_true rfl) ⟨mlX6_79, mfX6_no⟩ dkX6_no (Nat.le_of_ble_eq_true rfl) dX6_blame_23 rfl (kI ?_)
      exact v_iret C dX6_blame_26 (by rw [hX]; exact fI_of (by simp [blaA, cI, c4, c10]) (by simp [blaS, cI, c4, c10]))
    · skip
      refine v_aload_n C dX6_blame_13 rfl rfl rfl ?_
      refine v_iload_n C dX6_blame_14 rfl rfl rfl ?_
      refine v_callV C (Nat.le_of_ble_eq_true rfl) rfl rfl (As := [.int r]) (rest := []) (kX6_blameIn n r σ hn h7) rfl (Nat.le_of_ble_eq_true rfl) (Nat.le_of_ble_eq_true rfl) ⟨mlX6_178, mfX6_blameIn⟩ dkX6_blameIn (Nat.le_of_ble_eq_true rfl) dX6_blame_15 rfl (kI ?_)
      refine v_goto (tgt := 26) C dX6_blame_18 (by decide) ?_
      exact v_iret C dX6_blame_26 (by rw [hX]; exact fI_of (by simp [blaA, cI, c4, c10]) (by simp [blaS, cI, c4, c10]))
def worN (F : Int32 → Int32) : Nat → Int32
  | 0 => 0
  | i + 1 => if i = 0 then 0 else if F (worN F i) < F (nI i) then nI i else worN F i
def orN (f : Nat → Int32) : Nat → Int32
  | 0 => 0
  | i + 1 => orN f i ||| f i
def croG (bk pl sz : Nat → Int32) (n r : Nat) : Int32 := if sz r < bulF bk pl n (nI r) + 1 then (1 : Int32) <<< (nI r &&& 31) else 0
theorem kX6_worst (n : Nat) (σ : St) (hn : σ 0 8 = nI n) (h7 : n ≤ 7) : Ct yX6_worst cX6_worst 3 (some .int) 3 [.ref 0] σ (fI (worN (binF (σ 4) (σ 6) (σ 7) (σ 8) n) 6) σ) := by
  refine ct_of plX6 rfl (Nat.le_of_ble_eq_true rfl) (fun X hX C => ?_)
  show V X 0 [(0, .ref 0)] [] σ
  refine v_iconst (v := 0) C dX6_worst_0 (by decide) rfl ?_
  refine v_istore_n (lv' := [(1, .int 0), (0, .ref 0)]) C dX6_worst_1 rfl (Nat.le_of_ble_eq_true rfl) rfl rfl ?_
  refine v_iconst (v := 1) C dX6_worst_2 (by decide) rfl ?_
  refine v_istore_n (lv' := [(2, .int 1), (1, .int 0), (0, .ref 0)]) C dX6_worst_3 rfl (Nat.le_of_ble_eq_true rfl) rfl rfl ?_
  have lp4 : ∀ (k i : Nat) (x1 : Int32) , 6 < i + k → i ≤ 6 → x1 = worN (binF (σ 4) (σ 6) (σ 7) (σ 8) n) i → (1 ≤ i) → V X 4 [(2, .int (nI i)), (1, .int x1), (0, .ref 0)] [] σ := by
    intro k
    induction k with
    | zero => intro i x1 h1 h2; omega
    | succ k ih4 =>
      intro i x1 h1 h2 ex1 hi1
      refine v_iload_n C dX6_worst_4 rfl rfl rfl ?_
      refine v_bipush (v := 6) C dX6_worst_5 (by decide) rfl ?_
      refine v_icmp_ge (tgt := 35) C dX6_worst_7 (by decide) rfl (fun c7 => ?_) (fun c7 => ?_)
      · skip
        have c7 := mt (nI_ltI (a := i) (b := 6) (by omega) (by omega)).mpr c7
        refine v_iload_n C dX6_worst_35 rfl rfl rfl ?_
        exact v_iret C dX6_worst_36 (by rw [hX]; exact fI_of (by rw [ex1, show i = 6 by omega]) rfl)
      · skip
        have c7 := (nI_ltI (a := i) (b := 6) (by omega) (by omega)).mp c7
        refine v_aload_n C dX6_worst_10 rfl rfl rfl ?_
        refine v_iload_n C dX6_worst_11 rfl rfl rfl ?_
        refine v_callV C (Nat.le_of_ble_eq_true rfl) rfl rfl (As := [.int (nI i)]) (rest := []) (kX6_blameIn n (nI i) σ hn h7) rfl (Nat.le_of_ble_eq_true rfl) (Nat.le_of_ble_eq_true rfl) ⟨mlX6_178, mfX6_blameIn⟩ dkX6_blameIn (Nat.le_of_ble_eq_true rfl) dX6_worst_12 rfl (kI ?_)
        refine v_aload_n C dX6_worst_15 rfl rfl rfl ?_
        refine v_iload_n C dX6_worst_16 rfl rfl rfl ?_
        refine v_callV C (Nat.le_of_ble_eq_true rfl) rfl rfl (As := [.int x1]) (rest := [.int (binF (σ 4) (σ 6) (σ 7) (σ 8) n (nI i))]) (kX6_blameIn n x1 σ hn h7) rfl (Nat.le_of_ble_eq_true rfl) (Nat.le_of_ble_eq_true rfl) ⟨mlX6_178, mfX6_blameIn⟩ dkX6_blameIn (Nat.le_of_ble_eq_true rfl) dX6_worst_17 rfl (kI ?_)
        refine v_icmp_le (tgt := 27) C dX6_worst_20 (by decide) rfl (fun c20 => ?_) (fun c20 => ?_)
        · skip
          refine v_iload_n C dX6_worst_27 rfl rfl rfl ?_
          refine v_istore_n (lv' := [(1, .int x1), (2, .int (nI i)), (0, .ref 0)]) C dX6_worst_28 rfl (Nat.le_of_ble_eq_true rfl) rfl rfl ?_
          refine v_iinc (lv' := [(2, .int (nI (i + 1))), (1, .int x1), (0, .ref 0)]) C dX6_worst_29 rfl (nI_inc i) (Nat.le_of_ble_eq_true rfl) rfl rfl ?_
          refine v_goto (tgt := 4) C dX6_worst_32 (by decide) ?_
          exact V.sub [0, 1, 2] rfl (ih4 (i + 1) _ (by omega) (by omega) (by simp [worN, ← ex1, show ¬ i = 0 by omega, c20]) (by omega))
        · skip
          refine v_iload_n C dX6_worst_23 rfl rfl rfl ?_
          refine v_goto (tgt := 28) C dX6_worst_24 (by decide) ?_
          refine v_istore_n (lv' := [(1, .int (nI i)), (2, .int (nI i)), (0, .ref 0)]) C dX6_worst_28 rfl (Nat.le_of_ble_eq_true rfl) rfl rfl ?_
          refine v_iinc (lv' := [(2, .int (nI (i + 1))), (1, .int (nI i)), (0, .ref 0)]) C dX6_worst_29 rfl (nI_inc i) (Nat.le_of_ble_eq_true rfl) rfl rfl ?_
          refine v_goto (tgt := 4) C dX6_worst_32 (by decide) ?_
          exact V.sub [0, 1, 2] rfl (ih4 (i + 1) _ (by omega) (by omega) (by simp [worN, ← ex1, show ¬ i = 0 by omega, c20]) (by omega))
  exact V.sub [0, 1, 2] rfl (lp4 (6 + 1) 1 0 (by omega) (by omega) (by simp [worN]) (by omega))
theorem kX6_crowded (n : Nat) (σ : St) (hn : σ 0 8 = nI n) (h7 : n ≤ 7) : Ct yX6_crowded cX6_crowded 3 (some .int) 1 [.ref 0] σ (fI (orN (croG (σ 5) (σ 8) (σ 2) n) 6) σ) := by
  refine ct_of plX6 rfl (Nat.le_of_ble_eq_true rfl) (fun X hX C => ?_)
  show V X 0 [(0, .ref 0)] [] σ
  refine v_iconst (v := 0) C dX6_crowded_0 (by decide) rfl ?_
  refine v_istore_n (lv' := [(1, .int 0), (0, .ref 0)]) C dX6_crowded_1 rfl (Nat.le_of_ble_eq_true rfl) rfl rfl ?_
  refine v_iconst (v := 0) C dX6_crowded_2 (by decide) rfl ?_
  refine v_istore_n (lv' := [(2, .int 0), (1, .int 0), (0, .ref 0)]) C dX6_crowded_3 rfl (Nat.le_of_ble_eq_true rfl) rfl rfl ?_
  have lp4 : ∀ (k i : Nat) (x1 : Int32) , 6 < i + k → i ≤ 6 → x1 = orN (croG (σ 5) (σ 8) (σ 2) n) i → V X 4 [(2, .int (nI i)), (1, .int x1), (0, .ref 0)] [] σ := by
    intro k
    induction k with
    | zero => intro i x1 h1 h2; omega
    | succ k ih4 =>
      intro i x1 h1 h2 ex1
      refine v_iload_n C dX6_crowded_4 rfl rfl rfl ?_
      refine v_bipush (v := 6) C dX6_crowded_5 (by decide) rfl ?_
      refine v_icmp_ge (tgt := 42) C dX6_crowded_7 (by decide) rfl (fun c7 => ?_) (fun c7 => ?_)
      · skip
        have c7 := mt (nI_ltI (a := i) (b := 6) (by omega) (by omega)).mpr c7
        refine v_iload_n C dX6_crowded_42 rfl rfl rfl ?_
        exact v_iret C dX6_crowded_43 (by rw [hX]; exact fI_of (by rw [ex1, show i = 6 by omega]) rfl)
      · skip
        have c7 := (nI_ltI (a := i) (b := 6) (by omega) (by omega)).mp c7
        refine v_iload_n C dX6_crowded_10 rfl rfl rfl ?_
        refine v_aload_n C dX6_crowded_11 rfl rfl rfl ?_
        refine v_iload_n C dX6_crowded_12 rfl rfl rfl ?_
        refine v_callV C (Nat.le_of_ble_eq_true rfl) rfl rfl (As := [.int (nI i)]) (rest := [.int x1]) (kX6_bulkIn n (nI i) σ hn h7) rfl (Nat.le_of_ble_eq_true rfl) (Nat.le_of_ble_eq_true rfl) ⟨mlX6_125, mfX6_bulkIn⟩ dkX6_bulkIn (Nat.le_of_ble_eq_true rfl) dX6_crowded_13 rfl (kI ?_)
        refine v_iconst (v := 1) C dX6_crowded_16 (by decide) rfl ?_
        refine v_iadd C dX6_crowded_17 rfl ?_
        refine v_aload_n C dX6_crowded_18 rfl rfl rfl ?_
        refine v_getR C (Nat.le_of_ble_eq_true rfl) rfl rfl hinX6 1 (Nat.le_of_ble_eq_true rfl) lkX6_13 rfl dX6_crowded_19 rfl ?_
        refine v_iload_n C dX6_crowded_22 rfl rfl rfl ?_
        refine v_iald (i := i) C (Nat.le_of_ble_eq_true rfl) rfl rfl (by omega) (by decide) dX6_crowded_23 rfl ?_
        refine v_icmp_le (tgt := 33) C dX6_crowded_24 (by decide) rfl (fun c24 => ?_) (fun c24 => ?_)
        · skip
          refine v_iconst (v := 0) C dX6_crowded_33 (by decide) rfl ?_
          refine v_ior C dX6_crowded_34 rfl ?_
          refine V.top (fun v35_1 ev35_1 => ?_)
          refine v_istore_n (lv' := [(1, .int v35_1), (2, .int (nI i)), (0, .ref 0)]) C dX6_crowded_35 rfl (Nat.le_of_ble_eq_true rfl) rfl rfl ?_
          refine v_iinc (lv' := [(2, .int (nI (i + 1))), (1, .int v35_1), (0, .ref 0)]) C dX6_crowded_36 rfl (nI_inc i) (Nat.le_of_ble_eq_true rfl) rfl rfl ?_
          refine v_goto (tgt := 4) C dX6_crowded_39 (by decide) ?_
          exact V.sub [0, 1, 2] rfl (ih4 (i + 1) _ (by omega) (by omega) (by rw [ev35_1, ex1]; simp [orN, croG, c24]))
        · skip
          refine v_iconst (v := 1) C dX6_crowded_27 (by decide) rfl ?_
          refine v_iload_n C dX6_crowded_28 rfl rfl rfl ?_
          refine v_ishl C dX6_crowded_29 rfl ?_
          refine v_goto (tgt := 34) C dX6_crowded_30 (by decide) ?_
          refine v_ior C dX6_crowded_34 rfl ?_
          refine V.top (fun v35_2 ev35_2 => ?_)
          refine v_istore_n (lv' := [(1, .int v35_2), (2, .int (nI i)), (0, .ref 0)]) C dX6_crowded_35 rfl (Nat.le_of_ble_eq_true rfl) rfl rfl ?_
          refine v_iinc (lv' := [(2, .int (nI (i + 1))), (1, .int v35_2), (0, .ref 0)]) C dX6_crowded_36 rfl (nI_inc i) (Nat.le_of_ble_eq_true rfl) rfl rfl ?_
          refine v_goto (tgt := 4) C dX6_crowded_39 (by decide) ?_
          exact V.sub [0, 1, 2] rfl (ih4 (i + 1) _ (by omega) (by omega) (by rw [ev35_2, ex1]; simp [orN, croG, c24]))
  exact V.sub [0, 1, 2] rfl (lp4 (6 + 1) 0 0 (by omega) (by omega) (rfl))
end
section
/-! the check's class: looking for a best one -/
noncomputable def minN (ok : Nat → Prop) (f : Nat → Int32) : Nat → Option Nat
  | 0 => none
  | i + 1 => match minN ok f i with
    | none => cI (ok i) (some i) none
    | some b => cI (ok i ∧ f i < f b) (some i) (some b)
theorem minN_lt {ok : Nat → Prop} {f : Nat → Int32} : ∀ {i b : Nat}, minN ok f i = some b → b < i := by
  intro i
  induction i with
  | zero => intro b h; cases h
  | succ i ih =>
    intro b h
    simp only [minN] at h
    split at h
    · by_cases g : ok i
      · rw [cI_t g] at h; cases h; omega
      · rw [cI_f g] at h; cases h
    · next c hc =>
      by_cases g : ok i ∧ f i < f c
      · rw [cI_t g] at h; cases h; omega
      · rw [cI_f g] at h; cases h; have := ih hc; omega
def oI (o : Option Nat) : Int32 := match o with
  | none => -9
  | some b => nI b
def firN (f : Nat → Int32) : Nat → Nat
  | 0 => 0
  | i + 1 => if i = 0 then 0 else if f i < f (firN f i) then i else firN f i
theorem firN_lt (f : Nat → Int32) : ∀ i, 1 ≤ i → firN f i < i
  | 0, h => by omega
  | 1, _ => by simp [firN]
  | i + 2, _ => by
    have := firN_lt f (i + 1) (by omega)
    rw [firN, if_neg (by omega)]
    split <;> omega
def lasN (f : Nat → Int32) : Nat → Nat
  | 0 => 0
  | i + 1 => if i = 0 then 0 else if f (lasN f i) < f i then i else lasN f i
theorem lasN_lt (f : Nat → Int32) : ∀ i, 1 ≤ i → lasN f i < i
  | 0, h => by omega
  | 1, _ => by simp [lasN]
  | i + 2, _ => by
    have := lasN_lt f (i + 1) (by omega)
    rw [lasN, if_neg (by omega)]
    split <;> omega
def bitG (v : Int32) (k : Nat) : Int32 := v >>> (nI k &&& 31) &&& 1
def powN (a : Int32) : Nat → Int32
  | 0 => 1
  | i + 1 => powN a i * a
theorem kX6_bits (v : Int32) (σ : St) : Ct yX6_bits cX6_bits 3 (some .int) 0 [.int v] σ (fI (sumN (bitG v) 31) σ) := by
  refine ct_of plX6 rfl (Nat.le_of_ble_eq_true rfl) (fun X hX C => ?_)
  show V X 0 [(0, .int v)] [] σ
  refine v_iconst (v := 0) C dX6_bits_0 (by decide) rfl ?_
  refine v_istore_n (lv' := [(1, .int 0), (0, .int v)]) C dX6_bits_1 rfl (Nat.le_of_ble_eq_true rfl) rfl rfl ?_
  refine v_iconst (v := 0) C dX6_bits_2 (by decide) rfl ?_
  refine v_istore_n (lv' := [(2, .int 0), (1, .int 0), (0, .int v)]) C dX6_bits_3 rfl (Nat.le_of_ble_eq_true rfl) rfl rfl ?_
  have lp4 : ∀ (k i : Nat) (x1 : Int32) , 31 < i + k → i ≤ 31 → x1 = sumN (bitG v) i → V X 4 [(2, .int (nI i)), (1, .int x1), (0, .int v)] [] σ := by
    intro k
    induction k with
    | zero => intro i x1 h1 h2; omega
    | succ k ih4 =>
      intro i x1 h1 h2 ex1
      refine v_iload_n C dX6_bits_4 rfl rfl rfl ?_
      refine v_bipush (v := 31) C dX6_bits_5 (by decide) rfl ?_
      refine v_icmp_ge (tgt := 24) C dX6_bits_7 (by decide) rfl (fun c7 => ?_) (fun c7 => ?_)
      · skip
        have c7 := mt (nI_ltI (a := i) (b := 31) (by omega) (by omega)).mpr c7
        refine v_iload_n C dX6_bits_24 rfl rfl rfl ?_
        exact v_iret C dX6_bits_25 (by rw [hX]; exact fI_of (by rw [ex1, show i = 31 by omega]) rfl)
      · skip
        have c7 := (nI_ltI (a := i) (b := 31) (by omega) (by omega)).mp c7
        refine v_iload_n C dX6_bits_10 rfl rfl rfl ?_
        refine v_iload_n C dX6_bits_11 rfl rfl rfl ?_
        refine v_iload_n C dX6_bits_12 rfl rfl rfl ?_
        refine v_ishr C dX6_bits_13 rfl ?_
        refine v_iconst (v := 1) C dX6_bits_14 (by decide) rfl ?_
        refine v_iand C dX6_bits_15 rfl ?_
        refine v_iadd C dX6_bits_16 rfl ?_
        refine V.top (fun v17_1 ev17_1 => ?_)
        refine v_istore_n (lv' := [(1, .int v17_1), (2, .int (nI i)), (0, .int v)]) C dX6_bits_17 rfl (Nat.le_of_ble_eq_true rfl) rfl rfl ?_
        refine v_iinc (lv' := [(2, .int (nI (i + 1))), (1, .int v17_1), (0, .int v)]) C dX6_bits_18 rfl (nI_inc i) (Nat.le_of_ble_eq_true rfl) rfl rfl ?_
        refine v_goto (tgt := 4) C dX6_bits_21 (by decide) ?_
        exact V.sub [0, 1, 2] rfl (ih4 (i + 1) _ (by omega) (by omega) (by rw [ev17_1, ex1]; rfl))
  exact V.sub [0, 1, 2] rfl (lp4 (31 + 1) 0 0 (by omega) (by omega) (rfl))
theorem kX6_power (v : Int32) (n : Nat) (σ : St) (h7 : n ≤ 7) : Ct yX6_power cX6_power 4 (some .int) 0 [.int v, .int (nI n)] σ (fI (powN v n) σ) := by
  refine ct_of plX6 rfl (Nat.le_of_ble_eq_true rfl) (fun X hX C => ?_)
  show V X 0 [(0, .int v), (1, .int (nI n))] [] σ
  refine v_iconst (v := 1) C dX6_power_0 (by decide) rfl ?_
  refine v_istore_n (lv' := [(2, .int 1), (0, .int v), (1, .int (nI n))]) C dX6_power_1 rfl (Nat.le_of_ble_eq_true rfl) rfl rfl ?_
  refine v_iconst (v := 0) C dX6_power_2 (by decide) rfl ?_
  refine v_istore_n (lv' := [(3, .int 0), (2, .int 1), (0, .int v), (1, .int (nI n))]) C dX6_power_3 rfl (Nat.le_of_ble_eq_true rfl) rfl rfl ?_
  have lp4 : ∀ (k i : Nat) (x2 : Int32) , n < i + k → i ≤ n → x2 = powN v i → V X 4 [(3, .int (nI i)), (2, .int x2), (0, .int v), (1, .int (nI n))] [] σ := by
    intro k
    induction k with
    | zero => intro i x2 h1 h2; omega
    | succ k ih4 =>
      intro i x2 h1 h2 ex2
      refine v_iload_n C dX6_power_4 rfl rfl rfl ?_
      refine v_iload_n C dX6_power_5 rfl rfl rfl ?_
      refine v_icmp_ge (tgt := 19) C dX6_power_6 (by decide) rfl (fun c6 => ?_) (fun c6 => ?_)
      · skip
        have c6 := mt (nI_ltI (a := i) (b := n) (by omega) (by omega)).mpr c6
        refine v_iload_n C dX6_power_19 rfl rfl rfl ?_
        exact v_iret C dX6_power_20 (by rw [hX]; exact fI_of (by rw [ex2, show i = n by omega]) rfl)
      · skip
        have c6 := (nI_ltI (a := i) (b := n) (by omega) (by omega)).mp c6
        refine v_iload_n C dX6_power_9 rfl rfl rfl ?_
        refine v_iload_n C dX6_power_10 rfl rfl rfl ?_
        refine v_imul C dX6_power_11 rfl ?_
        refine V.top (fun v12_1 ev12_1 => ?_)
        refine v_istore_n (lv' := [(2, .int v12_1), (3, .int (nI i)), (0, .int v), (1, .int (nI n))]) C dX6_power_12 rfl (Nat.le_of_ble_eq_true rfl) rfl rfl ?_
        refine v_iinc (lv' := [(3, .int (nI (i + 1))), (2, .int v12_1), (0, .int v), (1, .int (nI n))]) C dX6_power_13 rfl (nI_inc i) (Nat.le_of_ble_eq_true rfl) rfl rfl ?_
        refine v_goto (tgt := 4) C dX6_power_16 (by decide) ?_
        exact V.sub [0, 1, 2, 3] rfl (ih4 (i + 1) _ (by omega) (by omega) (by rw [ev12_1, ex2]; rfl))
  exact V.sub [0, 1, 2, 3] rfl (lp4 (n + 1) 0 1 (by omega) (by omega) (rfl))
theorem kX6_poorest (h : Nat) (σ : St) (hh : σ 0 9 = nI h) (h2 : 2 ≤ h) (h4 : h ≤ 4) : Ct yX6_poorest cX6_poorest 3 (some .int) 0 [.ref 0] σ (fI (nI (firN (σ 16) h)) σ) := by
  refine ct_of plX6 rfl (Nat.le_of_ble_eq_true rfl) (fun X hX C => ?_)
  show V X 0 [(0, .ref 0)] [] σ
  refine v_iconst (v := 0) C dX6_poorest_0 (by decide) rfl ?_
  refine v_istore_n (lv' := [(1, .int 0), (0, .ref 0)]) C dX6_poorest_1 rfl (Nat.le_of_ble_eq_true rfl) rfl rfl ?_
  refine v_iconst (v := 1) C dX6_poorest_2 (by decide) rfl ?_
  refine v_istore_n (lv' := [(2, .int 1), (1, .int 0), (0, .ref 0)]) C dX6_poorest_3 rfl (Nat.le_of_ble_eq_true rfl) rfl rfl ?_
  have lp4 : ∀ (k i : Nat) (x1 : Int32) , h < i + k → i ≤ h → x1 = nI (firN (σ 16) i) → (1 ≤ i) → V X 4 [(2, .int (nI i)), (1, .int x1), (0, .ref 0)] [] σ := by
    intro k
    induction k with
    | zero => intro i x1 h1 h2; omega
    | succ k ih4 =>
      intro i x1 h1 h2 ex1 hi1
      have hfl := firN_lt (σ 16) i hi1
      refine v_iload_n C dX6_poorest_4 rfl rfl rfl ?_
      refine v_aload_n C dX6_poorest_5 rfl rfl rfl ?_
      refine v_getI C (Nat.le_of_ble_eq_true rfl) rfl rfl hinX6 9 (Nat.le_of_ble_eq_true rfl) lkX6_61 rfl dX6_poorest_6 rfl ?_
      refine V.tp hh ?_
      refine v_icmp_ge (tgt := 39) C dX6_poorest_9 (by decide) rfl (fun c9 => ?_) (fun c9 => ?_)
      · skip
        have c9 := mt (nI_ltI (a := i) (b := h) (by omega) (by omega)).mpr c9
        refine v_iload_n C dX6_poorest_39 rfl rfl rfl ?_
        refine V.tp ex1 ?_
        exact v_iret C dX6_poorest_40 (by rw [hX]; exact fI_of (by rw [show i = h by omega]) rfl)
      · skip
        have c9 := (nI_ltI (a := i) (b := h) (by omega) (by omega)).mp c9
        refine v_aload_n C dX6_poorest_12 rfl rfl rfl ?_
        refine v_getR C (Nat.le_of_ble_eq_true rfl) rfl rfl hinX6 25 (Nat.le_of_ble_eq_true rfl) lkX6_55 rfl dX6_poorest_13 rfl ?_
        refine v_iload_n C dX6_poorest_16 rfl rfl rfl ?_
        refine v_iald (i := i) C (Nat.le_of_ble_eq_true rfl) rfl rfl (by omega) (by decide) dX6_poorest_17 rfl ?_
        refine v_aload_n C dX6_poorest_18 rfl rfl rfl ?_
        refine v_getR C (Nat.le_of_ble_eq_true rfl) rfl rfl hinX6 25 (Nat.le_of_ble_eq_true rfl) lkX6_55 rfl dX6_poorest_19 rfl ?_
        refine v_iload_n C dX6_poorest_22 rfl rfl rfl ?_
        refine V.tp ex1 ?_
        refine v_iald (i := firN (σ 16) i) C (Nat.le_of_ble_eq_true rfl) rfl rfl (by omega) (by decide) dX6_poorest_23 rfl ?_
        refine v_icmp_ge (tgt := 31) C dX6_poorest_24 (by decide) rfl (fun c24 => ?_) (fun c24 => ?_)
        · skip
          refine v_iload_n C dX6_poorest_31 rfl rfl rfl ?_
          refine V.tp ex1 ?_
          refine V.top (fun v32_1 ev32_1 => ?_)
          refine v_istore_n (lv' := [(1, .int v32_1), (2, .int (nI i)), (0, .ref 0)]) C dX6_poorest_32 rfl (Nat.le_of_ble_eq_true rfl) rfl rfl ?_
          refine v_iinc (lv' := [(2, .int (nI (i + 1))), (1, .int v32_1), (0, .ref 0)]) C dX6_poorest_33 rfl (nI_inc i) (Nat.le_of_ble_eq_true rfl) rfl rfl ?_
          refine v_goto (tgt := 4) C dX6_poorest_36 (by decide) ?_
          exact V.sub [0, 1, 2] rfl (ih4 (i + 1) _ (by omega) (by omega) (by rw [ev32_1]; simp [firN, show ¬ i = 0 by omega, c24]) (by omega))
        · skip
          refine v_iload_n C dX6_poorest_27 rfl rfl rfl ?_
          refine v_goto (tgt := 32) C dX6_poorest_28 (by decide) ?_
          refine v_istore_n (lv' := [(1, .int (nI i)), (2, .int (nI i)), (0, .ref 0)]) C dX6_poorest_32 rfl (Nat.le_of_ble_eq_true rfl) rfl rfl ?_
          refine v_iinc (lv' := [(2, .int (nI (i + 1))), (1, .int (nI i)), (0, .ref 0)]) C dX6_poorest_33 rfl (nI_inc i) (Nat.le_of_ble_eq_true rfl) rfl rfl ?_
          refine v_goto (tgt := 4) C dX6_poorest_36 (by decide) ?_
          exact V.sub [0, 1, 2] rfl (ih4 (i + 1) _ (by omega) (by omega) (by simp [firN, show ¬ i = 0 by omega, c24]) (by omega))
  exact V.sub [0, 1, 2] rfl (lp4 (h + 1) 1 0 (by omega) (by omega) (by simp [firN]; rfl) (by omega))
noncomputable def gueA (σ : St) (n : Nat) (r : Int32) : Int32 := cI (placeP r) (oI (minN (fun p => σ 8 p = r) (blaF (σ 4) (σ 6) (σ 7) (σ 8) n) n)) (-1)
noncomputable def gueS (σ : St) (r : Int32) : St := cI (placeP r) σ (noS σ 1)
theorem kX6_guest (r : Int32) (n : Nat) (σ : St) (hn : σ 0 8 = nI n) (h7 : n ≤ 7) : Ct yX6_guest cX6_guest 4 (some .int) 2 [.ref 0, .int r] σ (fI (gueA σ n r) (gueS σ r)) := by
  refine ct_of plX6 rfl (Nat.le_of_ble_eq_true rfl) (fun X hX C => ?_)
  show V X 0 [(0, .ref 0), (1, .int r)] [] σ
  refine v_iload_n C dX6_guest_0 rfl rfl rfl ?_
  refine v_callS C (As := [.int r]) (rest := []) (kX6_isPlace r σ) rfl (Nat.le_of_ble_eq_true rfl) (Nat.le_of_ble_eq_true rfl) ⟨mlX6_119, mfX6_isPlace⟩ dkX6_isPlace (Nat.le_of_ble_eq_true rfl) dX6_guest_1 rfl (kI ?_)
  refine v_if_ne (tgt := 13) C dX6_guest_4 (by decide) rfl (fun c4 => ?_) (fun c4 => ?_)
  · skip
    have c4 := bI_n c4
    refine v_bipush (v := -9) C dX6_guest_13 (by decide) rfl ?_
    refine v_istore_n (lv' := [(2, .int (-9)), (0, .ref 0), (1, .int r)]) C dX6_guest_15 rfl (Nat.le_of_ble_eq_true rfl) rfl rfl ?_
    refine v_iconst (v := 0) C dX6_guest_16 (by decide) rfl ?_
    refine v_istore_n (lv' := [(3, .int 0), (2, .int (-9)), (0, .ref 0), (1, .int r)]) C dX6_guest_17 rfl (Nat.le_of_ble_eq_true rfl) rfl rfl ?_
    have lp18 : ∀ (k i : Nat) (x2 : Int32) , n < i + k → i ≤ n → x2 = oI (minN (fun p => σ 8 p = r) (blaF (σ 4) (σ 6) (σ 7) (σ 8) n) i) → V X 18 [(3, .int (nI i)), (2, .int x2), (0, .ref 0), (1, .int r)] [] σ := by
      intro k
      induction k with
      | zero => intro i x2 h1 h2; omega
      | succ k ih18 =>
        intro i x2 h1 h2 ex2
        rcases hq : minN (fun p => σ 8 p = r) (blaF (σ 4) (σ 6) (σ 7) (σ 8) n) i with _ | b
        · have hx : x2 = -9 := by rw [ex2, hq]; rfl
          refine v_iload_n C dX6_guest_18 rfl rfl rfl ?_
          refine v_aload_n C dX6_guest_19 rfl rfl rfl ?_
          refine v_getI C (Nat.le_of_ble_eq_true rfl) rfl rfl hinX6 8 (Nat.le_of_ble_eq_true rfl) lkX6_65 rfl dX6_guest_20 rfl ?_
          refine V.tp hn ?_
          refine v_icmp_ge (tgt := 61) C dX6_guest_23 (by decide) rfl (fun c23 => ?_) (fun c23 => ?_)
          · skip
            have c23 := mt (nI_ltI (a := i) (b := n) (by omega) (by omega)).mpr c23
            refine v_iload_n C dX6_guest_61 rfl rfl rfl ?_
            refine V.tp hx ?_
            exact v_iret C dX6_guest_62 (by rw [hX]; exact fI_of (by rw [gueA, cI_t c4, ← hx, ex2, show i = n by omega]) (by rw [gueS, cI_t c4]))
          · skip
            have c23 := (nI_ltI (a := i) (b := n) (by omega) (by omega)).mp c23
            refine v_aload_n C dX6_guest_26 rfl rfl rfl ?_
            refine v_getR C (Nat.le_of_ble_eq_true rfl) rfl rfl hinX6 7 (Nat.le_of_ble_eq_true rfl) lkX6_31 rfl dX6_guest_27 rfl ?_
            refine v_iload_n C dX6_guest_30 rfl rfl rfl ?_
            refine v_iald (i := i) C (Nat.le_of_ble_eq_true rfl) rfl rfl (by omega) (by decide) dX6_guest_31 rfl ?_
            refine v_iload_n C dX6_guest_32 rfl rfl rfl ?_
            refine v_icmp_ne (tgt := 55) C dX6_guest_33 (by decide) rfl (fun c33 => ?_) (fun c33 => ?_)
            · skip
              refine v_iinc (lv' := [(3, .int (nI (i + 1))), (2, .int x2), (0, .ref 0), (1, .int r)]) C dX6_guest_55 rfl (nI_inc i) (Nat.le_of_ble_eq_true rfl) rfl rfl ?_
              refine v_goto (tgt := 18) C dX6_guest_58 (by decide) ?_
              exact V.sub [0, 1, 2, 3] rfl (ih18 (i + 1) _ (by omega) (by omega) (by rw [hx]; simp [minN, hq, oI, cI, c33]))
            · skip
              refine v_iload_n C dX6_guest_36 rfl rfl rfl ?_
              refine V.tp hx ?_
              refine v_if_lt (tgt := 53) C dX6_guest_37 (by decide) rfl (fun _ => ?_) (fun q => absurd q (by decide))
              refine v_iload_n C dX6_guest_53 rfl rfl rfl ?_
              refine v_istore_n (lv' := [(2, .int (nI i)), (3, .int (nI i)), (0, .ref 0), (1, .int r)]) C dX6_guest_54 rfl (Nat.le_of_ble_eq_true rfl) rfl rfl ?_
              refine v_iinc (lv' := [(3, .int (nI (i + 1))), (2, .int (nI i)), (0, .ref 0), (1, .int r)]) C dX6_guest_55 rfl (nI_inc i) (Nat.le_of_ble_eq_true rfl) rfl rfl ?_
              refine v_goto (tgt := 18) C dX6_guest_58 (by decide) ?_
              exact V.sub [0, 1, 2, 3] rfl (ih18 (i + 1) _ (by omega) (by omega) (by simp [minN, hq, oI, cI, c33]))
        · have hx : x2 = nI b := by rw [ex2, hq]; rfl
          have hbl := minN_lt hq
          refine v_iload_n C dX6_guest_18 rfl rfl rfl ?_
          refine v_aload_n C dX6_guest_19 rfl rfl rfl ?_
          refine v_getI C (Nat.le_of_ble_eq_true rfl) rfl rfl hinX6 8 (Nat.le_of_ble_eq_true rfl) lkX6_65 rfl dX6_guest_20 rfl ?_
          refine V.tp hn ?_
          refine v_icmp_ge (tgt := 61) C dX6_guest_23 (by decide) rfl (fun c23 => ?_) (fun c23 => ?_)
          · skip
            have c23 := mt (nI_ltI (a := i) (b := n) (by omega) (by omega)).mpr c23
            refine v_iload_n C dX6_guest_61 rfl rfl rfl ?_
            refine V.tp hx ?_
            exact v_iret C dX6_guest_62 (by rw [hX]; exact fI_of (by rw [gueA, cI_t c4, ← hx, ex2, show i = n by omega]) (by rw [gueS, cI_t c4]))
          · skip
            have c23 := (nI_ltI (a := i) (b := n) (by omega) (by omega)).mp c23
            refine v_aload_n C dX6_guest_26 rfl rfl rfl ?_
            refine v_getR C (Nat.le_of_ble_eq_true rfl) rfl rfl hinX6 7 (Nat.le_of_ble_eq_true rfl) lkX6_31 rfl dX6_guest_27 rfl ?_
            refine v_iload_n C dX6_guest_30 rfl rfl rfl ?_
            refine v_iald (i := i) C (Nat.le_of_ble_eq_true rfl) rfl rfl (by omega) (by decide) dX6_guest_31 rfl ?_
            refine v_iload_n C dX6_guest_32 rfl rfl rfl ?_
            refine v_icmp_ne (tgt := 55) C dX6_guest_33 (by decide) rfl (fun c33 => ?_) (fun c33 => ?_)
            · skip
              refine v_iinc (lv' := [(3, .int (nI (i + 1))), (2, .int x2), (0, .ref 0), (1, .int r)]) C dX6_guest_55 rfl (nI_inc i) (Nat.le_of_ble_eq_true rfl) rfl rfl ?_
              refine v_goto (tgt := 18) C dX6_guest_58 (by decide) ?_
              exact V.sub [0, 1, 2, 3] rfl (ih18 (i + 1) _ (by omega) (by omega) (by rw [hx]; simp [minN, hq, oI, cI, c33]))
            · skip
              refine v_iload_n C dX6_guest_36 rfl rfl rfl ?_
              refine V.tp hx ?_
              refine v_if_lt (tgt := 53) C dX6_guest_37 (by decide) rfl (fun q => absurd q (nI_pos (by omega))) (fun _ => ?_)
              refine v_aload_n C dX6_guest_40 rfl rfl rfl ?_
              refine v_iload_n C dX6_guest_41 rfl rfl rfl ?_
              refine v_callV C (Nat.le_of_ble_eq_true rfl) rfl rfl (As := [.int (nI i)]) (rest := []) (kX6_blameOf n i σ hn h7 (by omega)) rfl (Nat.le_of_ble_eq_true rfl) (Nat.le_of_ble_eq_true rfl) ⟨mlX6_169, mfX6_blameOf⟩ dkX6_blameOf (Nat.le_of_ble_eq_true rfl) dX6_guest_42 rfl (kI ?_)
              refine v_aload_n C dX6_guest_45 rfl rfl rfl ?_
              refine v_iload_n C dX6_guest_46 rfl rfl rfl ?_
              refine V.tp hx ?_
              refine v_callV C (Nat.le_of_ble_eq_true rfl) rfl rfl (As := [.int (nI b)]) (rest := [.int (blaF (σ 4) (σ 6) (σ 7) (σ 8) n i)]) (kX6_blameOf n b σ hn h7 (by omega)) rfl (Nat.le_of_ble_eq_true rfl) (Nat.le_of_ble_eq_true rfl) ⟨mlX6_169, mfX6_blameOf⟩ dkX6_blameOf (Nat.le_of_ble_eq_true rfl) dX6_guest_47 rfl (kI ?_)
              refine v_icmp_ge (tgt := 55) C dX6_guest_50 (by decide) rfl (fun c50 => ?_) (fun c50 => ?_)
              · skip
                refine v_iinc (lv' := [(3, .int (nI (i + 1))), (2, .int x2), (0, .ref 0), (1, .int r)]) C dX6_guest_55 rfl (nI_inc i) (Nat.le_of_ble_eq_true rfl) rfl rfl ?_
                refine v_goto (tgt := 18) C dX6_guest_58 (by decide) ?_
                exact V.sub [0, 1, 2, 3] rfl (ih18 (i + 1) _ (by omega) (by omega) (by rw [hx]; simp [minN, hq, oI, cI, c33, c50]))
              · skip
                refine v_iload_n C dX6_guest_53 rfl rfl rfl ?_
                refine v_istore_n (lv' := [(2, .int (nI i)), (3, .int (nI i)), (0, .ref 0), (1, .int r)]) C dX6_guest_54 rfl (Nat.le_of_ble_eq_true rfl) rfl rfl ?_
                refine v_iinc (lv' := [(3, .int (nI (i + 1))), (2, .int (nI i)), (0, .ref 0), (1, .int r)]) C dX6_guest_55 rfl (nI_inc i) (Nat.le_of_ble_eq_true rfl) rfl rfl ?_
                refine v_goto (tgt := 18) C dX6_guest_58 (by decide) ?_
                exact V.sub [0, 1, 2, 3] rfl (ih18 (i + 1) _ (by omega) (by omega) (by simp [minN, hq, oI, cI, c33, c50]))
    exact V.sub [0, 1, 2, 3] rfl (lp18 (n + 1) 0 _ (by omega) (by omega) (rfl))
  · skip
    have c4 := bI_0 c4
    refine v_aload_n C dX6_guest_7 rfl rfl rfl ?_
    refine v_iconst (v := -1) C dX6_guest_8 (by decide) rfl ?_
    refine v_callV C (Nat.le_of_ble_eq_true rfl) rfl rfl (As := [.int (-1)]) (rest := []) (kX6_no (-1) 1 σ (by decide) (by decide)) rfl (Nat.le_of_ble_eq_true rfl) (Nat.le_of_ble_eq_true rfl) ⟨mlX6_79, mfX6_no⟩ dkX6_no (Nat.le_of_ble_eq_true rfl) dX6_guest_9 rfl (kI ?_)
    exact v_iret C dX6_guest_12 (by rw [hX]; exact fI_of (by simp [gueA, cI, c4]) (by simp [gueS, cI, c4]))
def bwiF (σ : St) (n p : Nat) (f : Int32) : Int32 := binF (σ 4) (upd (σ 6) p f) (σ 7) (σ 8) n 10
theorem s2_back (σ : St) (k p : Nat) (x : Int32) : s2 (s2 σ k p x) k p (σ k p) = σ := by
  funext a b
  rw [s2_get, s2_get]
  by_cases h : a = k ∧ b = p
  · rw [if_pos h, h.1, h.2]
  · rw [if_neg h, if_neg h]
theorem kX6_blameWith (n p : Nat) (f : Int32) (σ : St) (hn : σ 0 8 = nI n) (h7 : n ≤ 7) (hp : p < n) : Ct yX6_blameWith cX6_blameWith 5 (some .int) 3 [.ref 0, .int (nI p), .int f] σ (fI (bwiF σ n p f) σ) := by
  refine ct_of plX6 rfl (Nat.le_of_ble_eq_true rfl) (fun X hX C => ?_)
  show V X 0 [(0, .ref 0), (1, .int (nI p)), (2, .int f)] [] σ
  refine v_aload_n C dX6_blameWith_0 rfl rfl rfl ?_
  refine v_getR C (Nat.le_of_ble_eq_true rfl) rfl rfl hinX6 5 (Nat.le_of_ble_eq_true rfl) lkX6_25 rfl dX6_blameWith_1 rfl ?_
  refine v_iload_n C dX6_blameWith_4 rfl rfl rfl ?_
  refine v_iald (i := p) C (Nat.le_of_ble_eq_true rfl) rfl rfl (by omega) (by decide) dX6_blameWith_5 rfl ?_
  refine V.top (fun v6_1 ev6_1 => ?_)
  refine v_istore_n (lv' := [(3, .int v6_1), (0, .ref 0), (1, .int (nI p)), (2, .int f)]) C dX6_blameWith_6 rfl (Nat.le_of_ble_eq_true rfl) rfl rfl ?_
  refine v_aload_n C dX6_blameWith_7 rfl rfl rfl ?_
  refine v_getR C (Nat.le_of_ble_eq_true rfl) rfl rfl hinX6 5 (Nat.le_of_ble_eq_true rfl) lkX6_25 rfl dX6_blameWith_8 rfl ?_
  refine v_iload_n C dX6_blameWith_11 rfl rfl rfl ?_
  refine v_iload_n C dX6_blameWith_12 rfl rfl rfl ?_
  refine v_iast (i := p) C (Nat.le_of_ble_eq_true rfl) rfl rfl (by omega) (by decide) dX6_blameWith_13 rfl ?_
  refine V.nm (fun τ13_2 eτ13_2 => ?_)
  have hnt : τ13_2 0 8 = nI n := by rw [eτ13_2, s2_ne (by decide)]; exact hn
  refine v_aload_n C dX6_blameWith_14 rfl rfl rfl ?_
  refine v_bipush (v := 10) C dX6_blameWith_15 (by decide) rfl ?_
  refine v_callV C (Nat.le_of_ble_eq_true rfl) rfl rfl (As := [.int 10]) (rest := []) (kX6_blameIn n 10 τ13_2 hnt h7) rfl (Nat.le_of_ble_eq_true rfl) (Nat.le_of_ble_eq_true rfl) ⟨mlX6_178, mfX6_blameIn⟩ dkX6_blameIn (Nat.le_of_ble_eq_true rfl) dX6_blameWith_17 rfl (kI ?_)
  refine V.top (fun v20_3 ev20_3 => ?_)
  refine v_istore (lv' := [(4, .int v20_3), (3, .int v6_1), (0, .ref 0), (1, .int (nI p)), (2, .int f)]) C dX6_blameWith_20 (Nat.le_of_ble_eq_true rfl) rfl rfl ?_
  refine v_aload_n C dX6_blameWith_22 rfl rfl rfl ?_
  refine v_getR C (Nat.le_of_ble_eq_true rfl) rfl rfl hinX6 5 (Nat.le_of_ble_eq_true rfl) lkX6_25 rfl dX6_blameWith_23 rfl ?_
  refine v_iload_n C dX6_blameWith_26 rfl rfl rfl ?_
  refine v_iload_n C dX6_blameWith_27 rfl rfl rfl ?_
  refine v_iast (i := p) C (Nat.le_of_ble_eq_true rfl) rfl rfl (by omega) (by decide) dX6_blameWith_28 rfl ?_
  refine V.nm (fun τ28_4 eτ28_4 => ?_)
  refine v_iload C dX6_blameWith_29 rfl rfl ?_
  exact v_iret C dX6_blameWith_31 (by rw [hX]; exact fI_of (by rw [ev20_3, eτ13_2]; simp [bwiF, s2_row]) (by rw [eτ28_4, eτ13_2, ev6_1]; exact s2_back _ _ _ _))
def heaN (σ : St) (n : Nat) : Nat → Int32 × Int32
  | 0 => (-9, -9)
  | i + 1 => if σ 6 i = 9 then heaN σ n i else if (heaN σ n i).2 < bwiF σ n i (σ 6 i + 1) then (nI i, bwiF σ n i (σ 6 i + 1)) else heaN σ n i
theorem kX6_heavier (n : Nat) (σ : St) (hn : σ 0 8 = nI n) (h7 : n ≤ 7) : Ct yX6_heavier cX6_heavier 4 (some .int) 4 [.ref 0] σ (fI (heaN σ n n).1 σ) := by
  refine ct_of plX6 rfl (Nat.le_of_ble_eq_true rfl) (fun X hX C => ?_)
  show V X 0 [(0, .ref 0)] [] σ
  refine v_bipush (v := -9) C dX6_heavier_0 (by decide) rfl ?_
  refine v_istore_n (lv' := [(1, .int (-9)), (0, .ref 0)]) C dX6_heavier_2 rfl (Nat.le_of_ble_eq_true rfl) rfl rfl ?_
  refine v_bipush (v := -9) C dX6_heavier_3 (by decide) rfl ?_
  refine v_istore_n (lv' := [(2, .int (-9)), (1, .int (-9)), (0, .ref 0)]) C dX6_heavier_5 rfl (Nat.le_of_ble_eq_true rfl) rfl rfl ?_
  refine v_iconst (v := 0) C dX6_heavier_6 (by decide) rfl ?_
  refine v_istore_n (lv' := [(3, .int 0), (2, .int (-9)), (1, .int (-9)), (0, .ref 0)]) C dX6_heavier_7 rfl (Nat.le_of_ble_eq_true rfl) rfl rfl ?_
  have lp8 : ∀ (k i : Nat) (x1 : Int32) (x2 : Int32) , n < i + k → i ≤ n → x1 = (heaN σ n i).1 → x2 = (heaN σ n i).2 → V X 8 [(3, .int (nI i)), (2, .int x2), (1, .int x1), (0, .ref 0)] [] σ := by
    intro k
    induction k with
    | zero => intro i x1 x2 h1 h2; omega
    | succ k ih8 =>
      intro i x1 x2 h1 h2 ex1 ex2
      refine v_iload_n C dX6_heavier_8 rfl rfl rfl ?_
      refine v_aload_n C dX6_heavier_9 rfl rfl rfl ?_
      refine v_getI C (Nat.le_of_ble_eq_true rfl) rfl rfl hinX6 8 (Nat.le_of_ble_eq_true rfl) lkX6_65 rfl dX6_heavier_10 rfl ?_
      refine V.tp hn ?_
      refine v_icmp_ge (tgt := 69) C dX6_heavier_13 (by decide) rfl (fun c13 => ?_) (fun c13 => ?_)
      · skip
        have c13 := mt (nI_ltI (a := i) (b := n) (by omega) (by omega)).mpr c13
        refine v_iload_n C dX6_heavier_69 rfl rfl rfl ?_
        exact v_iret C dX6_heavier_70 (by rw [hX]; exact fI_of (by rw [ex1, show i = n by omega]) rfl)
      · skip
        have c13 := (nI_ltI (a := i) (b := n) (by omega) (by omega)).mp c13
        refine v_aload_n C dX6_heavier_16 rfl rfl rfl ?_
        refine v_getR C (Nat.le_of_ble_eq_true rfl) rfl rfl hinX6 5 (Nat.le_of_ble_eq_true rfl) lkX6_25 rfl dX6_heavier_17 rfl ?_
        refine v_iload_n C dX6_heavier_20 rfl rfl rfl ?_
        refine v_iald (i := i) C (Nat.le_of_ble_eq_true rfl) rfl rfl (by omega) (by decide) dX6_heavier_21 rfl ?_
        refine v_bipush (v := 9) C dX6_heavier_22 (by decide) rfl ?_
        refine v_icmp_eq (tgt := 63) C dX6_heavier_24 (by decide) rfl (fun c24 => ?_) (fun c24 => ?_)
        · skip
          refine v_iinc (lv' := [(3, .int (nI (i + 1))), (2, .int x2), (1, .int x1), (0, .ref 0)]) C dX6_heavier_63 rfl (nI_inc i) (Nat.le_of_ble_eq_true rfl) rfl rfl ?_
          refine v_goto (tgt := 8) C dX6_heavier_66 (by decide) ?_
          exact V.sub [0, 1, 2, 3] rfl (ih8 (i + 1) _ _ (by omega) (by omega) (by simp [heaN, ← ex1, ← ex2, c24]) (by simp [heaN, ← ex1, ← ex2, c24]))
        · skip
          refine v_aload_n C dX6_heavier_27 rfl rfl rfl ?_
          refine v_iload_n C dX6_heavier_28 rfl rfl rfl ?_
          refine v_aload_n C dX6_heavier_29 rfl rfl rfl ?_
          refine v_getR C (Nat.le_of_ble_eq_true rfl) rfl rfl hinX6 5 (Nat.le_of_ble_eq_true rfl) lkX6_25 rfl dX6_heavier_30 rfl ?_
          refine v_iload_n C dX6_heavier_33 rfl rfl rfl ?_
          refine v_iald (i := i) C (Nat.le_of_ble_eq_true rfl) rfl rfl (by omega) (by decide) dX6_heavier_34 rfl ?_
          refine v_iconst (v := 1) C dX6_heavier_35 (by decide) rfl ?_
          refine v_iadd C dX6_heavier_36 rfl ?_
          refine v_callV C (Nat.le_of_ble_eq_true rfl) rfl rfl (As := [.int (nI i), .int ((σ 6 i) + 1)]) (rest := []) (kX6_blameWith n i ((σ 6 i) + 1) σ hn h7 (by omega)) rfl (Nat.le_of_ble_eq_true rfl) (Nat.le_of_ble_eq_true rfl) ⟨mlX6_237, mfX6_blameWith⟩ dkX6_blameWith (Nat.le_of_ble_eq_true rfl) dX6_heavier_37 rfl (kI ?_)
          refine v_iload_n C dX6_heavier_40 rfl rfl rfl ?_
          refine v_icmp_gt (tgt := 47) C dX6_heavier_41 (by decide) rfl (fun c41 => ?_) (fun c41 => ?_)
          · skip
            refine v_iload_n C dX6_heavier_47 rfl rfl rfl ?_
            refine v_istore_n (lv' := [(1, .int (nI i)), (3, .int (nI i)), (2, .int x2), (0, .ref 0)]) C dX6_heavier_48 rfl (Nat.le_of_ble_eq_true rfl) rfl rfl ?_
            refine v_aload_n C dX6_heavier_49 rfl rfl rfl ?_
            refine v_iload_n C dX6_heavier_50 rfl rfl rfl ?_
            refine v_aload_n C dX6_heavier_51 rfl rfl rfl ?_
            refine v_getR C (Nat.le_of_ble_eq_true rfl) rfl rfl hinX6 5 (Nat.le_of_ble_eq_true rfl) lkX6_25 rfl dX6_heavier_52 rfl ?_
            refine v_iload_n C dX6_heavier_55 rfl rfl rfl ?_
            refine v_iald (i := i) C (Nat.le_of_ble_eq_true rfl) rfl rfl (by omega) (by decide) dX6_heavier_56 rfl ?_
            refine v_iconst (v := 1) C dX6_heavier_57 (by decide) rfl ?_
            refine v_iadd C dX6_heavier_58 rfl ?_
            refine v_callV C (Nat.le_of_ble_eq_true rfl) rfl rfl (As := [.int (nI i), .int ((σ 6 i) + 1)]) (rest := []) (kX6_blameWith n i ((σ 6 i) + 1) σ hn h7 (by omega)) rfl (Nat.le_of_ble_eq_true rfl) (Nat.le_of_ble_eq_true rfl) ⟨mlX6_237, mfX6_blameWith⟩ dkX6_blameWith (Nat.le_of_ble_eq_true rfl) dX6_heavier_59 rfl (kI ?_)
            refine V.top (fun v62_1 ev62_1 => ?_)
            refine v_istore_n (lv' := [(2, .int v62_1), (1, .int (nI i)), (3, .int (nI i)), (0, .ref 0)]) C dX6_heavier_62 rfl (Nat.le_of_ble_eq_true rfl) rfl rfl ?_
            refine v_iinc (lv' := [(3, .int (nI (i + 1))), (2, .int v62_1), (1, .int (nI i)), (0, .ref 0)]) C dX6_heavier_63 rfl (nI_inc i) (Nat.le_of_ble_eq_true rfl) rfl rfl ?_
            refine v_goto (tgt := 8) C dX6_heavier_66 (by decide) ?_
            exact V.sub [0, 1, 2, 3] rfl (ih8 (i + 1) _ _ (by omega) (by omega) (by simp [heaN, ← ex1, ← ex2, c24, c41]) (by simp [heaN, ← ex1, ← ex2, c24, c41, ev62_1]))
          · skip
            refine v_goto (tgt := 63) C dX6_heavier_44 (by decide) ?_
            refine v_iinc (lv' := [(3, .int (nI (i + 1))), (2, .int x2), (1, .int x1), (0, .ref 0)]) C dX6_heavier_63 rfl (nI_inc i) (Nat.le_of_ble_eq_true rfl) rfl rfl ?_
            refine v_goto (tgt := 8) C dX6_heavier_66 (by decide) ?_
            exact V.sub [0, 1, 2, 3] rfl (ih8 (i + 1) _ _ (by omega) (by omega) (by simp [heaN, ← ex1, ← ex2, c24, c41]) (by simp [heaN, ← ex1, ← ex2, c24, c41]))
  exact V.sub [0, 1, 2, 3] rfl (lp8 (n + 1) 0 _ _ (by omega) (by omega) (rfl) (rfl))
def makP (σ : St) (n p : Nat) (v : Int32) : Prop := ∃ f, f < 10 ∧ ¬ nI f = σ 6 p ∧ bwiF σ n p (nI f) = v
theorem kX6_makes (n p : Nat) (v : Int32) (σ : St) (hn : σ 0 8 = nI n) (h7 : n ≤ 7) (hp : p < n) : Ct yX6_makes cX6_makes 4 (some .boolean) 4 [.ref 0, .int (nI p), .int v] σ (fI (bI (makP σ n p v)) σ) := by
  refine ct_of plX6 rfl (Nat.le_of_ble_eq_true rfl) (fun X hX C => ?_)
  show V X 0 [(0, .ref 0), (1, .int (nI p)), (2, .int v)] [] σ
  refine v_iconst (v := 0) C dX6_makes_0 (by decide) rfl ?_
  refine v_istore_n (lv' := [(3, .int 0), (0, .ref 0), (1, .int (nI p)), (2, .int v)]) C dX6_makes_1 rfl (Nat.le_of_ble_eq_true rfl) rfl rfl ?_
  have lp2 : ∀ (k i : Nat)  , 10 < i + k → i ≤ 10 → (∀ f, f < i → ¬ (¬ nI f = σ 6 p ∧ bwiF σ n p (nI f) = v)) → V X 2 [(3, .int (nI i)), (0, .ref 0), (1, .int (nI p)), (2, .int v)] [] σ := by
    intro k
    induction k with
    | zero => intro i  h1 h2; omega
    | succ k ih2 =>
      intro i  h1 h2  hb
      refine v_iload_n C dX6_makes_2 rfl rfl rfl ?_
      refine v_bipush (v := 10) C dX6_makes_3 (by decide) rfl ?_
      refine v_icmp_ge (tgt := 36) C dX6_makes_5 (by decide) rfl (fun c5 => ?_) (fun c5 => ?_)
      · skip
        have c5 := mt (nI_ltI (a := i) (b := 10) (by omega) (by omega)).mpr c5
        refine v_iconst (v := 0) C dX6_makes_36 (by decide) rfl ?_
        exact v_zret C rfl dX6_makes_37 (by rw [hX]; exact fI_of (bI_f (fun ⟨f, h1, h2⟩ => hb f (by omega) h2)) rfl)
      · skip
        have c5 := (nI_ltI (a := i) (b := 10) (by omega) (by omega)).mp c5
        refine v_iload_n C dX6_makes_8 rfl rfl rfl ?_
        refine v_aload_n C dX6_makes_9 rfl rfl rfl ?_
        refine v_getR C (Nat.le_of_ble_eq_true rfl) rfl rfl hinX6 5 (Nat.le_of_ble_eq_true rfl) lkX6_25 rfl dX6_makes_10 rfl ?_
        refine v_iload_n C dX6_makes_13 rfl rfl rfl ?_
        refine v_iald (i := p) C (Nat.le_of_ble_eq_true rfl) rfl rfl (by omega) (by decide) dX6_makes_14 rfl ?_
        refine v_icmp_eq (tgt := 30) C dX6_makes_15 (by decide) rfl (fun c15 => ?_) (fun c15 => ?_)
        · skip
          refine v_iinc (lv' := [(3, .int (nI (i + 1))), (0, .ref 0), (1, .int (nI p)), (2, .int v)]) C dX6_makes_30 rfl (nI_inc i) (Nat.le_of_ble_eq_true rfl) rfl rfl ?_
          refine v_goto (tgt := 2) C dX6_makes_33 (by decide) ?_
          exact V.sub [0, 1, 2, 3] rfl (ih2 (i + 1)  (by omega) (by omega)  (by intro f hf; exact (Classical.em (f = i)).elim (fun h5 => by rw [h5]; simp [c15]) (fun h5 => hb f (by omega))))
        · skip
          refine v_aload_n C dX6_makes_18 rfl rfl rfl ?_
          refine v_iload_n C dX6_makes_19 rfl rfl rfl ?_
          refine v_iload_n C dX6_makes_20 rfl rfl rfl ?_
          refine v_callV C (Nat.le_of_ble_eq_true rfl) rfl rfl (As := [.int (nI p), .int (nI i)]) (rest := []) (kX6_blameWith n p (nI i) σ hn h7 (by omega)) rfl (Nat.le_of_ble_eq_true rfl) (Nat.le_of_ble_eq_true rfl) ⟨mlX6_237, mfX6_blameWith⟩ dkX6_blameWith (Nat.le_of_ble_eq_true rfl) dX6_makes_21 rfl (kI ?_)
          refine v_iload_n C dX6_makes_24 rfl rfl rfl ?_
          refine v_icmp_ne (tgt := 30) C dX6_makes_25 (by decide) rfl (fun c25 => ?_) (fun c25 => ?_)
          · skip
            refine v_iinc (lv' := [(3, .int (nI (i + 1))), (0, .ref 0), (1, .int (nI p)), (2, .int v)]) C dX6_makes_30 rfl (nI_inc i) (Nat.le_of_ble_eq_true rfl) rfl rfl ?_
            refine v_goto (tgt := 2) C dX6_makes_33 (by decide) ?_
            exact V.sub [0, 1, 2, 3] rfl (ih2 (i + 1)  (by omega) (by omega)  (by intro f hf; exact (Classical.em (f = i)).elim (fun h5 => by rw [h5]; simp [c15, c25]) (fun h5 => hb f (by omega))))
          · skip
            refine v_iconst (v := 1) C dX6_makes_28 (by decide) rfl ?_
            exact v_zret C rfl dX6_makes_29 (by rw [hX]; exact fI_of (bI_t ⟨i, by omega, c15, c25⟩) rfl)
  exact V.sub [0, 1, 2, 3] rfl (lp2 (10 + 1) 0  (by omega) (by omega)  (by intro f hf; omega))
noncomputable def whoG (σ : St) (n : Nat) (v : Int32) (p : Nat) : Int32 := cI (makP σ n p v) ((1 : Int32) <<< (nI p &&& 31)) 0
noncomputable def whoA (σ : St) (n : Nat) (v : Int32) : Int32 := if v < 0 then -4 else if 999 < v then -6 else orN (whoG σ n v) n
def rfS (σ : St) (v : Int32) (m : Int32) : St := if v < 0 then noS σ 4 else if m < v then noS σ 6 else σ
theorem kX6_whose (v : Int32) (n : Nat) (σ : St) (hn : σ 0 8 = nI n) (h7 : n ≤ 7) : Ct yX6_whose cX6_whose 5 (some .int) 5 [.ref 0, .int v] σ (fI (whoA σ n v) (rfS σ v 999)) := by
  refine ct_of plX6 rfl (Nat.le_of_ble_eq_true rfl) (fun X hX C => ?_)
  show V X 0 [(0, .ref 0), (1, .int v)] [] σ
  refine v_iload_n C dX6_whose_0 rfl rfl rfl ?_
  refine v_iconst (v := 0) C dX6_whose_1 (by decide) rfl ?_
  refine v_sipush (v := 999) C dX6_whose_2 (by decide) rfl ?_
  refine v_callS C (As := [.int v, .int 0, .int 999]) (rest := []) (kX6_bound v 0 999 σ) rfl (Nat.le_of_ble_eq_true rfl) (Nat.le_of_ble_eq_true rfl) ⟨mlX6_72, mfX6_bound⟩ dkX6_bound (Nat.le_of_ble_eq_true rfl) dX6_whose_5 rfl (kI ?_)
  rcases bnd_cases v 0 999 with ⟨hb, q1⟩ | ⟨hb, q1, q2⟩ | ⟨hb, q1, q2⟩
  · refine V.tp hb ?_
    refine v_istore_n (lv' := [(2, .int (-4)), (0, .ref 0), (1, .int v)]) C dX6_whose_8 rfl (Nat.le_of_ble_eq_true rfl) rfl rfl ?_
    refine v_iload_n C dX6_whose_9 rfl rfl rfl ?_
    refine v_if_eq (tgt := 19) C dX6_whose_10 (by decide) rfl (fun q => absurd q (by decide)) (fun _ => ?_)
    refine v_aload_n C dX6_whose_13 rfl rfl rfl ?_
    refine v_iload_n C dX6_whose_14 rfl rfl rfl ?_
    refine v_callV C (Nat.le_of_ble_eq_true rfl) rfl rfl (As := [.int (-4)]) (rest := []) (kX6_no (-4) 4 σ (by decide) (by decide)) rfl (Nat.le_of_ble_eq_true rfl) (Nat.le_of_ble_eq_true rfl) ⟨mlX6_79, mfX6_no⟩ dkX6_no (Nat.le_of_ble_eq_true rfl) dX6_whose_15 rfl (kI ?_)
    exact v_iret C dX6_whose_18 (by rw [hX]; exact fI_of (by simp [whoA, q1]) (by simp [rfS, q1]))
  · refine V.tp hb ?_
    refine v_istore_n (lv' := [(2, .int (-6)), (0, .ref 0), (1, .int v)]) C dX6_whose_8 rfl (Nat.le_of_ble_eq_true rfl) rfl rfl ?_
    refine v_iload_n C dX6_whose_9 rfl rfl rfl ?_
    refine v_if_eq (tgt := 19) C dX6_whose_10 (by decide) rfl (fun q => absurd q (by decide)) (fun _ => ?_)
    refine v_aload_n C dX6_whose_13 rfl rfl rfl ?_
    refine v_iload_n C dX6_whose_14 rfl rfl rfl ?_
    refine v_callV C (Nat.le_of_ble_eq_true rfl) rfl rfl (As := [.int (-6)]) (rest := []) (kX6_no (-6) 6 σ (by decide) (by decide)) rfl (Nat.le_of_ble_eq_true rfl) (Nat.le_of_ble_eq_true rfl) ⟨mlX6_79, mfX6_no⟩ dkX6_no (Nat.le_of_ble_eq_true rfl) dX6_whose_15 rfl (kI ?_)
    exact v_iret C dX6_whose_18 (by rw [hX]; exact fI_of (by simp [whoA, q1, q2]) (by simp [rfS, q1, q2]))
  · refine V.tp hb ?_
    refine v_istore_n (lv' := [(2, .int 0), (0, .ref 0), (1, .int v)]) C dX6_whose_8 rfl (Nat.le_of_ble_eq_true rfl) rfl rfl ?_
    refine v_iload_n C dX6_whose_9 rfl rfl rfl ?_
    refine v_if_eq (tgt := 19) C dX6_whose_10 (by decide) rfl (fun _ => ?_) (fun q => absurd q (by decide))
    refine v_iconst (v := 0) C dX6_whose_19 (by decide) rfl ?_
    refine v_istore_n (lv' := [(3, .int 0), (2, .int 0), (0, .ref 0), (1, .int v)]) C dX6_whose_20 rfl (Nat.le_of_ble_eq_true rfl) rfl rfl ?_
    refine v_iconst (v := 0) C dX6_whose_21 (by decide) rfl ?_
    refine v_istore (lv' := [(4, .int 0), (3, .int 0), (2, .int 0), (0, .ref 0), (1, .int v)]) C dX6_whose_22 (Nat.le_of_ble_eq_true rfl) rfl rfl ?_
    have lp24 : ∀ (k i : Nat) (x3 : Int32) , n < i + k → i ≤ n → x3 = orN (whoG σ n v) i → V X 24 [(4, .int (nI i)), (3, .int x3), (2, .int 0), (0, .ref 0), (1, .int v)] [] σ := by
      intro k
      induction k with
      | zero => intro i x3 h1 h2; omega
      | succ k ih24 =>
        intro i x3 h1 h2 ex3
        refine v_iload C dX6_whose_24 rfl rfl ?_
        refine v_aload_n C dX6_whose_26 rfl rfl rfl ?_
        refine v_getI C (Nat.le_of_ble_eq_true rfl) rfl rfl hinX6 8 (Nat.le_of_ble_eq_true rfl) lkX6_65 rfl dX6_whose_27 rfl ?_
        refine V.tp hn ?_
        refine v_icmp_ge (tgt := 60) C dX6_whose_30 (by decide) rfl (fun c30 => ?_) (fun c30 => ?_)
        · skip
          have c30 := mt (nI_ltI (a := i) (b := n) (by omega) (by omega)).mpr c30
          refine v_iload_n C dX6_whose_60 rfl rfl rfl ?_
          exact v_iret C dX6_whose_61 (by rw [hX]; exact fI_of (by simp [whoA, q1, q2, ex3, show i = n by omega]) (by simp [rfS, q1, q2]))
        · skip
          have c30 := (nI_ltI (a := i) (b := n) (by omega) (by omega)).mp c30
          refine v_iload_n C dX6_whose_33 rfl rfl rfl ?_
          refine v_aload_n C dX6_whose_34 rfl rfl rfl ?_
          refine v_iload C dX6_whose_35 rfl rfl ?_
          refine v_iload_n C dX6_whose_37 rfl rfl rfl ?_
          refine v_callV C (Nat.le_of_ble_eq_true rfl) rfl rfl (As := [.int (nI i), .int v]) (rest := [.int x3]) (kX6_makes n i v σ hn h7 (by omega)) rfl (Nat.le_of_ble_eq_true rfl) (Nat.le_of_ble_eq_true rfl) ⟨mlX6_243, mfX6_makes⟩ dkX6_makes (Nat.le_of_ble_eq_true rfl) dX6_whose_38 rfl (kI ?_)
          refine v_if_eq (tgt := 51) C dX6_whose_41 (by decide) rfl (fun c41 => ?_) (fun c41 => ?_)
          · skip
            have c41 := bI_0 c41
            refine v_iconst (v := 0) C dX6_whose_51 (by decide) rfl ?_
            refine v_ior C dX6_whose_52 rfl ?_
            refine V.top (fun v53_1 ev53_1 => ?_)
            refine v_istore_n (lv' := [(3, .int v53_1), (4, .int (nI i)), (2, .int 0), (0, .ref 0), (1, .int v)]) C dX6_whose_53 rfl (Nat.le_of_ble_eq_true rfl) rfl rfl ?_
            refine v_iinc (lv' := [(4, .int (nI (i + 1))), (3, .int v53_1), (2, .int 0), (0, .ref 0), (1, .int v)]) C dX6_whose_54 rfl (nI_inc i) (Nat.le_of_ble_eq_true rfl) rfl rfl ?_
            refine v_goto (tgt := 24) C dX6_whose_57 (by decide) ?_
            exact V.sub [0, 1, 2, 3, 4] rfl (ih24 (i + 1) _ (by omega) (by omega) (by rw [ev53_1, ex3]; simp [orN, whoG, cI, c41]))
          · skip
            have c41 := bI_n c41
            refine v_iconst (v := 1) C dX6_whose_44 (by decide) rfl ?_
            refine v_iload C dX6_whose_45 rfl rfl ?_
            refine v_ishl C dX6_whose_47 rfl ?_
            refine v_goto (tgt := 52) C dX6_whose_48 (by decide) ?_
            refine v_ior C dX6_whose_52 rfl ?_
            refine V.top (fun v53_2 ev53_2 => ?_)
            refine v_istore_n (lv' := [(3, .int v53_2), (4, .int (nI i)), (2, .int 0), (0, .ref 0), (1, .int v)]) C dX6_whose_53 rfl (Nat.le_of_ble_eq_true rfl) rfl rfl ?_
            refine v_iinc (lv' := [(4, .int (nI (i + 1))), (3, .int v53_2), (2, .int 0), (0, .ref 0), (1, .int v)]) C dX6_whose_54 rfl (nI_inc i) (Nat.le_of_ble_eq_true rfl) rfl rfl ?_
            refine v_goto (tgt := 24) C dX6_whose_57 (by decide) ?_
            exact V.sub [0, 1, 2, 3, 4] rfl (ih24 (i + 1) _ (by omega) (by omega) (by rw [ev53_2, ex3]; simp [orN, whoG, cI, c41]))
    exact V.sub [0, 1, 2, 3, 4] rfl (lp24 (n + 1) 0 0 (by omega) (by omega) (rfl))
def eveG (σ : St) (n p : Nat) (v : Int32) (f : Nat) : Int32 := if bwiF σ n p (nI f) < v then 0 else 1
def eveF (σ : St) (n : Nat) (v : Int32) (p : Nat) : Int32 := if sumN (eveG σ n p v) 10 < 5 then sumN (eveG σ n p v) 10 else 10 - sumN (eveG σ n p v) 10
def askA (σ : St) (n : Nat) (v : Int32) : Int32 := if v < 0 then -4 else if 999 < v then -6 else if n = 0 then -9 else nI (lasN (eveF σ n v) n)
theorem kX6_evenBy (n p : Nat) (v : Int32) (σ : St) (hn : σ 0 8 = nI n) (h7 : n ≤ 7) (hp : p < n) : Ct yX6_evenBy cX6_evenBy 5 (some .int) 4 [.ref 0, .int (nI p), .int v] σ (fI (eveF σ n v p) σ) := by
  refine ct_of plX6 rfl (Nat.le_of_ble_eq_true rfl) (fun X hX C => ?_)
  show V X 0 [(0, .ref 0), (1, .int (nI p)), (2, .int v)] [] σ
  refine v_iconst (v := 0) C dX6_evenBy_0 (by decide) rfl ?_
  refine v_istore_n (lv' := [(3, .int 0), (0, .ref 0), (1, .int (nI p)), (2, .int v)]) C dX6_evenBy_1 rfl (Nat.le_of_ble_eq_true rfl) rfl rfl ?_
  refine v_iconst (v := 0) C dX6_evenBy_2 (by decide) rfl ?_
  refine v_istore (lv' := [(4, .int 0), (3, .int 0), (0, .ref 0), (1, .int (nI p)), (2, .int v)]) C dX6_evenBy_3 (Nat.le_of_ble_eq_true rfl) rfl rfl ?_
  have lp5 : ∀ (k i : Nat) (x3 : Int32) , 10 < i + k → i ≤ 10 → x3 = sumN (eveG σ n p v) i → V X 5 [(4, .int (nI i)), (3, .int x3), (0, .ref 0), (1, .int (nI p)), (2, .int v)] [] σ := by
    intro k
    induction k with
    | zero => intro i x3 h1 h2; omega
    | succ k ih5 =>
      intro i x3 h1 h2 ex3
      refine v_iload C dX6_evenBy_5 rfl rfl ?_
      refine v_bipush (v := 10) C dX6_evenBy_7 (by decide) rfl ?_
      refine v_icmp_ge (tgt := 37) C dX6_evenBy_9 (by decide) rfl (fun c9 => ?_) (fun c9 => ?_)
      · skip
        have c9 := mt (nI_ltI (a := i) (b := 10) (by omega) (by omega)).mpr c9
        refine v_iload_n C dX6_evenBy_37 rfl rfl rfl ?_
        refine v_iconst (v := 5) C dX6_evenBy_38 (by decide) rfl ?_
        refine v_icmp_ge (tgt := 46) C dX6_evenBy_39 (by decide) rfl (fun c39 => ?_) (fun c39 => ?_)
        · skip
          refine v_bipush (v := 10) C dX6_evenBy_46 (by decide) rfl ?_
          refine v_iload_n C dX6_evenBy_48 rfl rfl rfl ?_
          refine v_isub C dX6_evenBy_49 rfl ?_
          exact v_iret C dX6_evenBy_50 (by rw [hX]; exact fI_of (by rw [show i = 10 by omega] at ex3; simp [eveF, ← ex3, c39]) rfl)
        · skip
          refine v_iload_n C dX6_evenBy_42 rfl rfl rfl ?_
          refine v_goto (tgt := 50) C dX6_evenBy_43 (by decide) ?_
          exact v_iret C dX6_evenBy_50 (by rw [hX]; exact fI_of (by rw [show i = 10 by omega] at ex3; simp [eveF, ← ex3, c39]) rfl)
      · skip
        have c9 := (nI_ltI (a := i) (b := 10) (by omega) (by omega)).mp c9
        refine v_iload_n C dX6_evenBy_12 rfl rfl rfl ?_
        refine v_aload_n C dX6_evenBy_13 rfl rfl rfl ?_
        refine v_iload_n C dX6_evenBy_14 rfl rfl rfl ?_
        refine v_iload C dX6_evenBy_15 rfl rfl ?_
        refine v_callV C (Nat.le_of_ble_eq_true rfl) rfl rfl (As := [.int (nI p), .int (nI i)]) (rest := [.int x3]) (kX6_blameWith n p (nI i) σ hn h7 (by omega)) rfl (Nat.le_of_ble_eq_true rfl) (Nat.le_of_ble_eq_true rfl) ⟨mlX6_237, mfX6_blameWith⟩ dkX6_blameWith (Nat.le_of_ble_eq_true rfl) dX6_evenBy_17 rfl (kI ?_)
        refine v_iload_n C dX6_evenBy_20 rfl rfl rfl ?_
        refine v_icmp_lt (tgt := 28) C dX6_evenBy_21 (by decide) rfl (fun c21 => ?_) (fun c21 => ?_)
        · skip
          refine v_iconst (v := 0) C dX6_evenBy_28 (by decide) rfl ?_
          refine v_iadd C dX6_evenBy_29 rfl ?_
          refine V.top (fun v30_1 ev30_1 => ?_)
          refine v_istore_n (lv' := [(3, .int v30_1), (4, .int (nI i)), (0, .ref 0), (1, .int (nI p)), (2, .int v)]) C dX6_evenBy_30 rfl (Nat.le_of_ble_eq_true rfl) rfl rfl ?_
          refine v_iinc (lv' := [(4, .int (nI (i + 1))), (3, .int v30_1), (0, .ref 0), (1, .int (nI p)), (2, .int v)]) C dX6_evenBy_31 rfl (nI_inc i) (Nat.le_of_ble_eq_true rfl) rfl rfl ?_
          refine v_goto (tgt := 5) C dX6_evenBy_34 (by decide) ?_
          exact V.sub [0, 1, 2, 3, 4] rfl (ih5 (i + 1) _ (by omega) (by omega) (by rw [ev30_1, ex3]; simp [sumN, eveG, c21]))
        · skip
          refine v_iconst (v := 1) C dX6_evenBy_24 (by decide) rfl ?_
          refine v_goto (tgt := 29) C dX6_evenBy_25 (by decide) ?_
          refine v_iadd C dX6_evenBy_29 rfl ?_
          refine V.top (fun v30_2 ev30_2 => ?_)
          refine v_istore_n (lv' := [(3, .int v30_2), (4, .int (nI i)), (0, .ref 0), (1, .int (nI p)), (2, .int v)]) C dX6_evenBy_30 rfl (Nat.le_of_ble_eq_true rfl) rfl rfl ?_
          refine v_iinc (lv' := [(4, .int (nI (i + 1))), (3, .int v30_2), (0, .ref 0), (1, .int (nI p)), (2, .int v)]) C dX6_evenBy_31 rfl (nI_inc i) (Nat.le_of_ble_eq_true rfl) rfl rfl ?_
          refine v_goto (tgt := 5) C dX6_evenBy_34 (by decide) ?_
          exact V.sub [0, 1, 2, 3, 4] rfl (ih5 (i + 1) _ (by omega) (by omega) (by rw [ev30_2, ex3]; simp [sumN, eveG, c21]))
  exact V.sub [0, 1, 2, 3, 4] rfl (lp5 (10 + 1) 0 0 (by omega) (by omega) (rfl))
end
section
/-! the check's class: ask, wider, bigger; without a piece -/
theorem kX6_ask (v : Int32) (n : Nat) (σ : St) (hn : σ 0 8 = nI n) (h7 : n ≤ 7) : Ct yX6_ask cX6_ask 5 (some .int) 5 [.ref 0, .int v] σ (fI (askA σ n v) (rfS σ v 999)) := by
  refine ct_of plX6 rfl (Nat.le_of_ble_eq_true rfl) (fun X hX C => ?_)
  show V X 0 [(0, .ref 0), (1, .int v)] [] σ
  refine v_iload_n C dX6_ask_0 rfl rfl rfl ?_
  refine v_iconst (v := 0) C dX6_ask_1 (by decide) rfl ?_
  refine v_sipush (v := 999) C dX6_ask_2 (by decide) rfl ?_
  refine v_callS C (As := [.int v, .int 0, .int 999]) (rest := []) (kX6_bound v 0 999 σ) rfl (Nat.le_of_ble_eq_true rfl) (Nat.le_of_ble_eq_true rfl) ⟨mlX6_72, mfX6_bound⟩ dkX6_bound (Nat.le_of_ble_eq_true rfl) dX6_ask_5 rfl (kI ?_)
  rcases bnd_cases v 0 999 with ⟨hb, q1⟩ | ⟨hb, q1, q2⟩ | ⟨hb, q1, q2⟩
  · refine V.tp hb ?_
    refine v_istore_n (lv' := [(2, .int (-4)), (0, .ref 0), (1, .int v)]) C dX6_ask_8 rfl (Nat.le_of_ble_eq_true rfl) rfl rfl ?_
    refine v_iload_n C dX6_ask_9 rfl rfl rfl ?_
    refine v_if_eq (tgt := 19) C dX6_ask_10 (by decide) rfl (fun q => absurd q (by decide)) (fun _ => ?_)
    refine v_aload_n C dX6_ask_13 rfl rfl rfl ?_
    refine v_iload_n C dX6_ask_14 rfl rfl rfl ?_
    refine v_callV C (Nat.le_of_ble_eq_true rfl) rfl rfl (As := [.int (-4)]) (rest := []) (kX6_no (-4) 4 σ (by decide) (by decide)) rfl (Nat.le_of_ble_eq_true rfl) (Nat.le_of_ble_eq_true rfl) ⟨mlX6_79, mfX6_no⟩ dkX6_no (Nat.le_of_ble_eq_true rfl) dX6_ask_15 rfl (kI ?_)
    exact v_iret C dX6_ask_18 (by rw [hX]; exact fI_of (by simp [askA, q1]) (by simp [rfS, q1]))
  · refine V.tp hb ?_
    refine v_istore_n (lv' := [(2, .int (-6)), (0, .ref 0), (1, .int v)]) C dX6_ask_8 rfl (Nat.le_of_ble_eq_true rfl) rfl rfl ?_
    refine v_iload_n C dX6_ask_9 rfl rfl rfl ?_
    refine v_if_eq (tgt := 19) C dX6_ask_10 (by decide) rfl (fun q => absurd q (by decide)) (fun _ => ?_)
    refine v_aload_n C dX6_ask_13 rfl rfl rfl ?_
    refine v_iload_n C dX6_ask_14 rfl rfl rfl ?_
    refine v_callV C (Nat.le_of_ble_eq_true rfl) rfl rfl (As := [.int (-6)]) (rest := []) (kX6_no (-6) 6 σ (by decide) (by decide)) rfl (Nat.le_of_ble_eq_true rfl) (Nat.le_of_ble_eq_true rfl) ⟨mlX6_79, mfX6_no⟩ dkX6_no (Nat.le_of_ble_eq_true rfl) dX6_ask_15 rfl (kI ?_)
    exact v_iret C dX6_ask_18 (by rw [hX]; exact fI_of (by simp [askA, q1, q2]) (by simp [rfS, q1, q2]))
  · refine V.tp hb ?_
    refine v_istore_n (lv' := [(2, .int 0), (0, .ref 0), (1, .int v)]) C dX6_ask_8 rfl (Nat.le_of_ble_eq_true rfl) rfl rfl ?_
    refine v_iload_n C dX6_ask_9 rfl rfl rfl ?_
    refine v_if_eq (tgt := 19) C dX6_ask_10 (by decide) rfl (fun _ => ?_) (fun q => absurd q (by decide))
    refine v_aload_n C dX6_ask_19 rfl rfl rfl ?_
    refine v_getI C (Nat.le_of_ble_eq_true rfl) rfl rfl hinX6 8 (Nat.le_of_ble_eq_true rfl) lkX6_65 rfl dX6_ask_20 rfl ?_
    refine V.tp hn ?_
    refine v_if_ne (tgt := 31) C dX6_ask_23 (by decide) rfl (fun c23 => ?_) (fun c23 => ?_)
    · skip
      have c23 := mt (nI_eq (a := n) (b := 0) (by omega) (by omega)).mpr c23
      refine v_iconst (v := 0) C dX6_ask_31 (by decide) rfl ?_
      refine v_istore_n (lv' := [(3, .int 0), (2, .int 0), (0, .ref 0), (1, .int v)]) C dX6_ask_32 rfl (Nat.le_of_ble_eq_true rfl) rfl rfl ?_
      refine v_iconst (v := 1) C dX6_ask_33 (by decide) rfl ?_
      refine v_istore (lv' := [(4, .int 1), (3, .int 0), (2, .int 0), (0, .ref 0), (1, .int v)]) C dX6_ask_34 (Nat.le_of_ble_eq_true rfl) rfl rfl ?_
      have lp36 : ∀ (k i : Nat) (x3 : Int32) , n < i + k → i ≤ n → x3 = nI (lasN (eveF σ n v) i) → (1 ≤ i) → V X 36 [(4, .int (nI i)), (3, .int x3), (2, .int 0), (0, .ref 0), (1, .int v)] [] σ := by
        intro k
        induction k with
        | zero => intro i x3 h1 h2; omega
        | succ k ih36 =>
          intro i x3 h1 h2 ex3 hi1
          have hfl := lasN_lt (eveF σ n v) i hi1
          refine v_iload C dX6_ask_36 rfl rfl ?_
          refine v_aload_n C dX6_ask_38 rfl rfl rfl ?_
          refine v_getI C (Nat.le_of_ble_eq_true rfl) rfl rfl hinX6 8 (Nat.le_of_ble_eq_true rfl) lkX6_65 rfl dX6_ask_39 rfl ?_
          refine V.tp hn ?_
          refine v_icmp_ge (tgt := 74) C dX6_ask_42 (by decide) rfl (fun c42 => ?_) (fun c42 => ?_)
          · skip
            have c42 := mt (nI_ltI (a := i) (b := n) (by omega) (by omega)).mpr c42
            refine v_iload_n C dX6_ask_74 rfl rfl rfl ?_
            refine V.tp ex3 ?_
            exact v_iret C dX6_ask_75 (by rw [hX]; exact fI_of (by simp [askA, q1, q2, show ¬ n = 0 by omega, show i = n by omega]) (by simp [rfS, q1, q2]))
          · skip
            have c42 := (nI_ltI (a := i) (b := n) (by omega) (by omega)).mp c42
            refine v_aload_n C dX6_ask_45 rfl rfl rfl ?_
            refine v_iload C dX6_ask_46 rfl rfl ?_
            refine v_iload_n C dX6_ask_48 rfl rfl rfl ?_
            refine v_callV C (Nat.le_of_ble_eq_true rfl) rfl rfl (As := [.int (nI i), .int v]) (rest := []) (kX6_evenBy n i v σ hn h7 (by omega)) rfl (Nat.le_of_ble_eq_true rfl) (Nat.le_of_ble_eq_true rfl) ⟨mlX6_246, mfX6_evenBy⟩ dkX6_evenBy (Nat.le_of_ble_eq_true rfl) dX6_ask_49 rfl (kI ?_)
            refine v_aload_n C dX6_ask_52 rfl rfl rfl ?_
            refine v_iload_n C dX6_ask_53 rfl rfl rfl ?_
            refine V.tp ex3 ?_
            refine v_iload_n C dX6_ask_54 rfl rfl rfl ?_
            refine v_callV C (Nat.le_of_ble_eq_true rfl) rfl rfl (As := [.int (nI (lasN (eveF σ n v) i)), .int v]) (rest := [.int (eveF σ n v i)]) (kX6_evenBy n (lasN (eveF σ n v) i) v σ hn h7 (by omega)) rfl (Nat.le_of_ble_eq_true rfl) (Nat.le_of_ble_eq_true rfl) ⟨mlX6_246, mfX6_evenBy⟩ dkX6_evenBy (Nat.le_of_ble_eq_true rfl) dX6_ask_55 rfl (kI ?_)
            refine v_icmp_le (tgt := 66) C dX6_ask_58 (by decide) rfl (fun c58 => ?_) (fun c58 => ?_)
            · skip
              refine v_iload_n C dX6_ask_66 rfl rfl rfl ?_
              refine V.tp ex3 ?_
              refine V.top (fun v67_1 ev67_1 => ?_)
              refine v_istore_n (lv' := [(3, .int v67_1), (4, .int (nI i)), (2, .int 0), (0, .ref 0), (1, .int v)]) C dX6_ask_67 rfl (Nat.le_of_ble_eq_true rfl) rfl rfl ?_
              refine v_iinc (lv' := [(4, .int (nI (i + 1))), (3, .int v67_1), (2, .int 0), (0, .ref 0), (1, .int v)]) C dX6_ask_68 rfl (nI_inc i) (Nat.le_of_ble_eq_true rfl) rfl rfl ?_
              refine v_goto (tgt := 36) C dX6_ask_71 (by decide) ?_
              exact V.sub [0, 1, 2, 3, 4] rfl (ih36 (i + 1) _ (by omega) (by omega) (by rw [ev67_1]; simp [lasN, show ¬ i = 0 by omega, c58]) (by omega))
            · skip
              refine v_iload C dX6_ask_61 rfl rfl ?_
              refine v_goto (tgt := 67) C dX6_ask_63 (by decide) ?_
              refine v_istore_n (lv' := [(3, .int (nI i)), (4, .int (nI i)), (2, .int 0), (0, .ref 0), (1, .int v)]) C dX6_ask_67 rfl (Nat.le_of_ble_eq_true rfl) rfl rfl ?_
              refine v_iinc (lv' := [(4, .int (nI (i + 1))), (3, .int (nI i)), (2, .int 0), (0, .ref 0), (1, .int v)]) C dX6_ask_68 rfl (nI_inc i) (Nat.le_of_ble_eq_true rfl) rfl rfl ?_
              refine v_goto (tgt := 36) C dX6_ask_71 (by decide) ?_
              exact V.sub [0, 1, 2, 3, 4] rfl (ih36 (i + 1) _ (by omega) (by omega) (by simp [lasN, show ¬ i = 0 by omega, c58]) (by omega))
      exact V.sub [0, 1, 2, 3, 4] rfl (lp36 (n + 1) 1 0 (by omega) (by omega) (by simp [lasN]; rfl) (by omega))
    · skip
      have c23 := (nI_eq (a := n) (b := 0) (by omega) (by omega)).mp c23
      refine v_bipush (v := -9) C dX6_ask_26 (by decide) rfl ?_
      refine v_goto (tgt := 32) C dX6_ask_28 (by decide) ?_
      refine v_istore_n (lv' := [(3, .int (-9)), (2, .int 0), (0, .ref 0), (1, .int v)]) C dX6_ask_32 rfl (Nat.le_of_ble_eq_true rfl) rfl rfl ?_
      refine v_iconst (v := 1) C dX6_ask_33 (by decide) rfl ?_
      refine v_istore (lv' := [(4, .int 1), (3, .int (-9)), (2, .int 0), (0, .ref 0), (1, .int v)]) C dX6_ask_34 (Nat.le_of_ble_eq_true rfl) rfl rfl ?_
      have hz : σ 0 8 = 0 := by rw [hn, show n = 0 by omega]; rfl
      refine v_iload C dX6_ask_36 rfl rfl ?_
      refine v_aload_n C dX6_ask_38 rfl rfl rfl ?_
      refine v_getI C (Nat.le_of_ble_eq_true rfl) rfl rfl hinX6 8 (Nat.le_of_ble_eq_true rfl) lkX6_65 rfl dX6_ask_39 rfl ?_
      refine V.tp hz ?_
      refine v_icmp_ge (tgt := 74) C dX6_ask_42 (by decide) rfl (fun _ => ?_) (fun q => absurd q (by decide))
      refine v_iload_n C dX6_ask_74 rfl rfl rfl ?_
      exact v_iret C dX6_ask_75 (by rw [hX]; exact fI_of (by simp [askA, q1, q2, show n = 0 by omega]) (by simp [rfS, q1, q2]))
noncomputable def dnF (P : Nat → Prop) (m : Nat) : Nat → Int32
  | 0 => -9
  | t + 1 => cI (P (m - t - 1)) (nI (m - t - 1)) (dnF P m t)
theorem dnF_step {P : Nat → Prop} {m i : Nat} (h : i + 1 ≤ m) : dnF P m (m - i) = cI (P i) (nI i) (dnF P m (m - (i + 1))) := by
  rw [show m - i = (m - (i + 1)) + 1 by omega, dnF, show m - (m - (i + 1)) - 1 = i by omega]
theorem s2_self (σ : St) (k p : Nat) : s2 σ k p (σ k p) = σ := by
  funext a b
  rw [s2_get]
  by_cases h : a = k ∧ b = p
  · rw [if_pos h, h.1, h.2]
  · rw [if_neg h]
theorem s2_s2 (σ : St) (k p : Nat) (x y : Int32) : s2 (s2 σ k p x) k p y = s2 σ k p y := by
  funext a b
  rw [s2_get, s2_get, s2_get]
  by_cases h : a = k ∧ b = p
  · rw [if_pos h, if_pos h]
  · rw [if_neg h, if_neg h, if_neg h]
def cwP (σ : St) (n p : Nat) (r : Int32) (f i : Nat) : Prop := carP (σ 4) (σ 5) (σ 8) (σ 2) (upd (σ 3) f (nI i)) n p r
def cbP (σ : St) (n p : Nat) (r : Int32) (i : Nat) : Prop := carP (σ 4) (σ 5) (σ 8) (upd (σ 2) (tn r) (nI i)) (σ 3) n p r
noncomputable def wdrA (σ : St) (n : Nat) (f p r : Int32) : Int32 := cI (floorP f ∧ pieceP p (nI n) ∧ roomP r) (dnF (cwP σ n (tn p) r (tn f)) 10 10) (-1)
noncomputable def wdrS (σ : St) (n : Nat) (f p r : Int32) : St := cI (floorP f ∧ pieceP p (nI n) ∧ roomP r) σ (noS σ 1)
noncomputable def bigA (σ : St) (n : Nat) (p r : Int32) : Int32 := cI (pieceP p (nI n) ∧ roomP r) (dnF (cbP σ n (tn p) r) 21 21) (-1)
noncomputable def bigS (σ : St) (n : Nat) (p r : Int32) : St := cI (pieceP p (nI n) ∧ roomP r) σ (noS σ 1)
theorem kX6_wider (f p r : Int32) (n : Nat) (σ : St) (hn : σ 0 8 = nI n) (h7 : n ≤ 7) : Ct yX6_wider cX6_wider 7 (some .int) 2 [.ref 0, .int f, .int p, .int r] σ (fI (wdrA σ n f p r) (wdrS σ n f p r)) := by
  refine ct_of plX6 rfl (Nat.le_of_ble_eq_true rfl) (fun X hX C => ?_)
  show V X 0 [(0, .ref 0), (1, .int f), (2, .int p), (3, .int r)] [] σ
  refine v_iload_n C dX6_wider_0 rfl rfl rfl ?_
  refine v_callS C (As := [.int f]) (rest := []) (kX6_isFloor f σ) rfl (Nat.le_of_ble_eq_true rfl) (Nat.le_of_ble_eq_true rfl) ⟨mlX6_175, mfX6_isFloor⟩ dkX6_isFloor (Nat.le_of_ble_eq_true rfl) dX6_wider_1 rfl (kI ?_)
  refine v_if_eq (tgt := 22) C dX6_wider_4 (by decide) rfl (fun c4 => ?_) (fun c4 => ?_)
  · skip
    have c4 := bI_0 c4
    refine v_aload_n C dX6_wider_22 rfl rfl rfl ?_
    refine v_iconst (v := -1) C dX6_wider_23 (by decide) rfl ?_
    refine v_callV C (Nat.le_of_ble_eq_true rfl) rfl rfl (As := [.int (-1)]) (rest := []) (kX6_no (-1) 1 σ (by decide) (by decide)) rfl (Nat.le_of_ble_eq_true rfl) (Nat.le_of_ble_eq_true rfl) ⟨mlX6_79, mfX6_no⟩ dkX6_no (Nat.le_of_ble_eq_true rfl) dX6_wider_24 rfl (kI ?_)
    exact v_iret C dX6_wider_27 (by rw [hX]; exact fI_of (by simp [wdrA, cI, ← hn, c4]) (by simp [wdrS, cI, ← hn, c4]))
  · skip
    have c4 := bI_n c4
    have hfl : floorP f := c4
    refine v_aload_n C dX6_wider_7 rfl rfl rfl ?_
    refine v_iload_n C dX6_wider_8 rfl rfl rfl ?_
    refine v_callV C (Nat.le_of_ble_eq_true rfl) rfl rfl (As := [.int p]) (rest := []) (kX6_isPiece p σ) rfl (Nat.le_of_ble_eq_true rfl) (Nat.le_of_ble_eq_true rfl) ⟨mlX6_116, mfX6_isPiece⟩ dkX6_isPiece (Nat.le_of_ble_eq_true rfl) dX6_wider_9 rfl (kI ?_)
    refine v_if_eq (tgt := 22) C dX6_wider_12 (by decide) rfl (fun c12 => ?_) (fun c12 => ?_)
    · skip
      have c12 := bI_0 c12
      refine v_aload_n C dX6_wider_22 rfl rfl rfl ?_
      refine v_iconst (v := -1) C dX6_wider_23 (by decide) rfl ?_
      refine v_callV C (Nat.le_of_ble_eq_true rfl) rfl rfl (As := [.int (-1)]) (rest := []) (kX6_no (-1) 1 σ (by decide) (by decide)) rfl (Nat.le_of_ble_eq_true rfl) (Nat.le_of_ble_eq_true rfl) ⟨mlX6_79, mfX6_no⟩ dkX6_no (Nat.le_of_ble_eq_true rfl) dX6_wider_24 rfl (kI ?_)
      exact v_iret C dX6_wider_27 (by rw [hX]; exact fI_of (by simp [wdrA, cI, ← hn, c4, c12]) (by simp [wdrS, cI, ← hn, c4, c12]))
    · skip
      have c12 := bI_n c12
      have hp1 : p = nI (tn p) := (piece_nat h7 (hn ▸ c12)).1
      have hp2 : tn p < n := (piece_nat h7 (hn ▸ c12)).2
      refine v_iload_n C dX6_wider_15 rfl rfl rfl ?_
      refine v_callS C (As := [.int r]) (rest := []) (kX6_isRoom r σ) rfl (Nat.le_of_ble_eq_true rfl) (Nat.le_of_ble_eq_true rfl) ⟨mlX6_68, mfX6_isRoom⟩ dkX6_isRoom (Nat.le_of_ble_eq_true rfl) dX6_wider_16 rfl (kI ?_)
      refine v_if_ne (tgt := 28) C dX6_wider_19 (by decide) rfl (fun c19 => ?_) (fun c19 => ?_)
      · skip
        have c19 := bI_n c19
        have hrm : roomP r := c19
        have hr : placeP r := Or.inl hrm
        have hall : floorP f ∧ pieceP p (nI n) ∧ roomP r := ⟨hfl, hn ▸ c12, hrm⟩
        refine v_aload_n C dX6_wider_28 rfl rfl rfl ?_
        refine v_getR C (Nat.le_of_ble_eq_true rfl) rfl rfl hinX6 2 (Nat.le_of_ble_eq_true rfl) lkX6_16 rfl dX6_wider_29 rfl ?_
        refine v_iload_n C dX6_wider_32 rfl rfl rfl ?_
        refine v_iald (i := (tn f)) C (Nat.le_of_ble_eq_true rfl) rfl (floor_nat hfl).1 (floor_nat hfl).2 (by decide) dX6_wider_33 rfl ?_
        refine V.top (fun v34_1 ev34_1 => ?_)
        refine v_istore (lv' := [(4, .int v34_1), (0, .ref 0), (1, .int f), (2, .int p), (3, .int r)]) C dX6_wider_34 (Nat.le_of_ble_eq_true rfl) rfl rfl ?_
        refine v_bipush (v := -9) C dX6_wider_36 (by decide) rfl ?_
        refine v_istore (lv' := [(5, .int (-9)), (4, .int v34_1), (0, .ref 0), (1, .int f), (2, .int p), (3, .int r)]) C dX6_wider_38 (Nat.le_of_ble_eq_true rfl) rfl rfl ?_
        refine v_bipush (v := 9) C dX6_wider_40 (by decide) rfl ?_
        refine v_istore (lv' := [(6, .int 9), (5, .int (-9)), (4, .int v34_1), (0, .ref 0), (1, .int f), (2, .int p), (3, .int r)]) C dX6_wider_42 (Nat.le_of_ble_eq_true rfl) rfl rfl ?_
        have lp44 : ∀ (i : Nat) (w44 : Int32) (x5 : Int32) (τ : St), i ≤ 10 → w44 = nI i - 1 → x5 = dnF (fun i => cwP σ n (tn p) r (tn f) i) 10 (10 - i) → (∃ x, τ = s2 σ 3 (tn f) x) → V X 44 [(6, .int w44), (5, .int x5), (4, .int v34_1), (0, .ref 0), (1, .int f), (2, .int p), (3, .int r)] [] τ := by
          intro i
          induction i with
          | zero =>
            intro w44 x5 τ h1 ew44 ex5 eτ
            have hv44 : w44 = -1 := by rw [ew44]; decide
            refine v_iload C dX6_wider_44 rfl rfl ?_
            refine V.tp hv44 ?_
            refine v_if_lt (tgt := 81) C dX6_wider_46 (by decide) rfl (fun _ => ?_) (fun q => absurd q (by decide))
            refine v_aload_n C dX6_wider_81 rfl rfl rfl ?_
            refine v_getR C (Nat.le_of_ble_eq_true rfl) rfl rfl hinX6 2 (Nat.le_of_ble_eq_true rfl) lkX6_16 rfl dX6_wider_82 rfl ?_
            refine v_iload_n C dX6_wider_85 rfl rfl rfl ?_
            refine v_iload C dX6_wider_86 rfl rfl ?_
            refine v_iast (i := (tn f)) C (Nat.le_of_ble_eq_true rfl) rfl (floor_nat hfl).1 (floor_nat hfl).2 (by decide) dX6_wider_88 rfl ?_
            refine V.nm (fun τ88_2 eτ88_2 => ?_)
            refine v_iload C dX6_wider_89 rfl rfl ?_
            exact v_iret C dX6_wider_91 (by rw [hX]; exact fI_of (by rw [wdrA, cI_t hall, ex5]) (by rw [wdrS, cI_t hall]; obtain ⟨x, hx⟩ := eτ; rw [eτ88_2, hx, s2_s2, ev34_1, s2_self]))
          | succ i ih44 =>
            intro w44 x5 τ h1 ew44 ex5 eτ
            have hv44 : w44 = nI i := by rw [ew44]; exact nI_pred i
            refine v_iload C dX6_wider_44 rfl rfl ?_
            refine V.tp hv44 ?_
            refine v_if_lt (tgt := 81) C dX6_wider_46 (by decide) rfl (fun q => absurd q (nI_pos (by omega))) (fun _ => ?_)
            refine v_aload_n C dX6_wider_49 rfl rfl rfl ?_
            refine v_getR C (Nat.le_of_ble_eq_true rfl) rfl rfl hinX6 2 (Nat.le_of_ble_eq_true rfl) lkX6_16 rfl dX6_wider_50 rfl ?_
            refine v_iload_n C dX6_wider_53 rfl rfl rfl ?_
            refine v_iload C dX6_wider_54 rfl rfl ?_
            refine V.tp hv44 ?_
            refine v_iast (i := (tn f)) C (Nat.le_of_ble_eq_true rfl) rfl (floor_nat hfl).1 (floor_nat hfl).2 (by decide) dX6_wider_56 rfl ?_
            refine V.nm (fun τ56_3 eτ56_3 => ?_)
            have hte : τ56_3 = s2 σ 3 (tn f) (nI i) := by obtain ⟨x, hx⟩ := eτ; rw [eτ56_3, hx, s2_s2]
            have hnt : τ56_3 0 8 = nI n := by rw [hte, s2_ne (by decide)]; exact hn
            refine v_aload_n C dX6_wider_57 rfl rfl rfl ?_
            refine v_iload_n C dX6_wider_58 rfl rfl rfl ?_
            refine V.tp hp1 ?_
            refine v_iload_n C dX6_wider_59 rfl rfl rfl ?_
            refine v_callV C (Nat.le_of_ble_eq_true rfl) rfl rfl (As := [.int (nI (tn p)), .int r]) (rest := []) (kX6_canCarry n (tn p) r τ56_3 hnt h7 (by omega) hr) rfl (Nat.le_of_ble_eq_true rfl) (Nat.le_of_ble_eq_true rfl) ⟨mlX6_122, mfX6_canCarry⟩ dkX6_canCarry (Nat.le_of_ble_eq_true rfl) dX6_wider_60 rfl (kI ?_)
            refine V.tp (show bI (carP (τ56_3 4) (τ56_3 5) (τ56_3 8) (τ56_3 2) (τ56_3 3) n (tn p) r) = bI (cwP σ n (tn p) r (tn f) i) from by rw [hte]; rfl) ?_
            refine v_if_eq (tgt := 71) C dX6_wider_63 (by decide) rfl (fun c63 => ?_) (fun c63 => ?_)
            · skip
              have c63 := bI_0 c63
              refine v_iload C dX6_wider_71 rfl rfl ?_
              refine v_istore (lv' := [(5, .int x5), (6, .int w44), (4, .int v34_1), (0, .ref 0), (1, .int f), (2, .int p), (3, .int r)]) C dX6_wider_73 (Nat.le_of_ble_eq_true rfl) rfl rfl ?_
              obtain ⟨v75_4, ev75_4⟩ : ∃ y : Int32, y = w44 + (-1) := ⟨_, rfl⟩
              refine v_iinc (lv' := [(6, .int v75_4), (5, .int x5), (4, .int v34_1), (0, .ref 0), (1, .int f), (2, .int p), (3, .int r)]) C dX6_wider_75 rfl (by rw [ev75_4]; rfl) (Nat.le_of_ble_eq_true rfl) rfl rfl ?_
              refine v_goto (tgt := 44) C dX6_wider_78 (by decide) ?_
              exact V.sub [0, 1, 2, 3, 4, 5, 6] rfl (ih44 _ _ _ (by omega) (by rw [ev75_4, hv44, Int32.sub_eq_add_neg]) (by rw [dnF_step (by omega), cI_f c63]; exact ex5) (⟨_, hte⟩))
            · skip
              have c63 := bI_n c63
              refine v_iload C dX6_wider_66 rfl rfl ?_
              refine V.tp hv44 ?_
              refine v_goto (tgt := 73) C dX6_wider_68 (by decide) ?_
              refine v_istore (lv' := [(5, .int (nI i)), (6, .int w44), (4, .int v34_1), (0, .ref 0), (1, .int f), (2, .int p), (3, .int r)]) C dX6_wider_73 (Nat.le_of_ble_eq_true rfl) rfl rfl ?_
              obtain ⟨v75_5, ev75_5⟩ : ∃ y : Int32, y = w44 + (-1) := ⟨_, rfl⟩
              refine v_iinc (lv' := [(6, .int v75_5), (5, .int (nI i)), (4, .int v34_1), (0, .ref 0), (1, .int f), (2, .int p), (3, .int r)]) C dX6_wider_75 rfl (by rw [ev75_5]; rfl) (Nat.le_of_ble_eq_true rfl) rfl rfl ?_
              refine v_goto (tgt := 44) C dX6_wider_78 (by decide) ?_
              exact V.sub [0, 1, 2, 3, 4, 5, 6] rfl (ih44 _ _ _ (by omega) (by rw [ev75_5, hv44, Int32.sub_eq_add_neg]) (by rw [dnF_step (by omega), cI_t c63]) (⟨_, hte⟩))
        exact V.sub [0, 1, 2, 3, 4, 5, 6] rfl (lp44 10 _ _ _ (by omega) (by decide) (rfl) (⟨_, (s2_self _ _ _).symm⟩))
      · skip
        have c19 := bI_0 c19
        refine v_aload_n C dX6_wider_22 rfl rfl rfl ?_
        refine v_iconst (v := -1) C dX6_wider_23 (by decide) rfl ?_
        refine v_callV C (Nat.le_of_ble_eq_true rfl) rfl rfl (As := [.int (-1)]) (rest := []) (kX6_no (-1) 1 σ (by decide) (by decide)) rfl (Nat.le_of_ble_eq_true rfl) (Nat.le_of_ble_eq_true rfl) ⟨mlX6_79, mfX6_no⟩ dkX6_no (Nat.le_of_ble_eq_true rfl) dX6_wider_24 rfl (kI ?_)
        exact v_iret C dX6_wider_27 (by rw [hX]; exact fI_of (by simp [wdrA, cI, ← hn, c4, c12, c19]) (by simp [wdrS, cI, ← hn, c4, c12, c19]))
theorem kX6_bigger (p r : Int32) (n : Nat) (σ : St) (hn : σ 0 8 = nI n) (h7 : n ≤ 7) : Ct yX6_bigger cX6_bigger 6 (some .int) 2 [.ref 0, .int p, .int r] σ (fI (bigA σ n p r) (bigS σ n p r)) := by
  refine ct_of plX6 rfl (Nat.le_of_ble_eq_true rfl) (fun X hX C => ?_)
  show V X 0 [(0, .ref 0), (1, .int p), (2, .int r)] [] σ
  refine v_aload_n C dX6_bigger_0 rfl rfl rfl ?_
  refine v_iload_n C dX6_bigger_1 rfl rfl rfl ?_
  refine v_callV C (Nat.le_of_ble_eq_true rfl) rfl rfl (As := [.int p]) (rest := []) (kX6_isPiece p σ) rfl (Nat.le_of_ble_eq_true rfl) (Nat.le_of_ble_eq_true rfl) ⟨mlX6_116, mfX6_isPiece⟩ dkX6_isPiece (Nat.le_of_ble_eq_true rfl) dX6_bigger_2 rfl (kI ?_)
  refine v_if_eq (tgt := 15) C dX6_bigger_5 (by decide) rfl (fun c5 => ?_) (fun c5 => ?_)
  · skip
    have c5 := bI_0 c5
    refine v_aload_n C dX6_bigger_15 rfl rfl rfl ?_
    refine v_iconst (v := -1) C dX6_bigger_16 (by decide) rfl ?_
    refine v_callV C (Nat.le_of_ble_eq_true rfl) rfl rfl (As := [.int (-1)]) (rest := []) (kX6_no (-1) 1 σ (by decide) (by decide)) rfl (Nat.le_of_ble_eq_true rfl) (Nat.le_of_ble_eq_true rfl) ⟨mlX6_79, mfX6_no⟩ dkX6_no (Nat.le_of_ble_eq_true rfl) dX6_bigger_17 rfl (kI ?_)
    exact v_iret C dX6_bigger_20 (by rw [hX]; exact fI_of (by simp [bigA, cI, ← hn, c5]) (by simp [bigS, cI, ← hn, c5]))
  · skip
    have c5 := bI_n c5
    have hp1 : p = nI (tn p) := (piece_nat h7 (hn ▸ c5)).1
    have hp2 : tn p < n := (piece_nat h7 (hn ▸ c5)).2
    refine v_iload_n C dX6_bigger_8 rfl rfl rfl ?_
    refine v_callS C (As := [.int r]) (rest := []) (kX6_isRoom r σ) rfl (Nat.le_of_ble_eq_true rfl) (Nat.le_of_ble_eq_true rfl) ⟨mlX6_68, mfX6_isRoom⟩ dkX6_isRoom (Nat.le_of_ble_eq_true rfl) dX6_bigger_9 rfl (kI ?_)
    refine v_if_ne (tgt := 21) C dX6_bigger_12 (by decide) rfl (fun c12 => ?_) (fun c12 => ?_)
    · skip
      have c12 := bI_n c12
      have hrm : roomP r := c12
      have hr : placeP r := Or.inl hrm
      have hall : pieceP p (nI n) ∧ roomP r := ⟨hn ▸ c5, hrm⟩
      refine v_aload_n C dX6_bigger_21 rfl rfl rfl ?_
      refine v_getR C (Nat.le_of_ble_eq_true rfl) rfl rfl hinX6 1 (Nat.le_of_ble_eq_true rfl) lkX6_13 rfl dX6_bigger_22 rfl ?_
      refine v_iload_n C dX6_bigger_25 rfl rfl rfl ?_
      refine v_iald (i := (tn r)) C (Nat.le_of_ble_eq_true rfl) rfl (room_nat hrm).1 (room_nat hrm).2 (by decide) dX6_bigger_26 rfl ?_
      refine V.top (fun v27_1 ev27_1 => ?_)
      refine v_istore_n (lv' := [(3, .int v27_1), (0, .ref 0), (1, .int p), (2, .int r)]) C dX6_bigger_27 rfl (Nat.le_of_ble_eq_true rfl) rfl rfl ?_
      refine v_bipush (v := -9) C dX6_bigger_28 (by decide) rfl ?_
      refine v_istore (lv' := [(4, .int (-9)), (3, .int v27_1), (0, .ref 0), (1, .int p), (2, .int r)]) C dX6_bigger_30 (Nat.le_of_ble_eq_true rfl) rfl rfl ?_
      refine v_bipush (v := 20) C dX6_bigger_32 (by decide) rfl ?_
      refine v_istore (lv' := [(5, .int 20), (4, .int (-9)), (3, .int v27_1), (0, .ref 0), (1, .int p), (2, .int r)]) C dX6_bigger_34 (Nat.le_of_ble_eq_true rfl) rfl rfl ?_
      have lp36 : ∀ (i : Nat) (w36 : Int32) (x5 : Int32) (τ : St), i ≤ 21 → w36 = nI i - 1 → x5 = dnF (fun i => cbP σ n (tn p) r i) 21 (21 - i) → (∃ x, τ = s2 σ 2 (tn r) x) → V X 36 [(5, .int w36), (4, .int x5), (3, .int v27_1), (0, .ref 0), (1, .int p), (2, .int r)] [] τ := by
        intro i
        induction i with
        | zero =>
          intro w36 x5 τ h1 ew36 ex5 eτ
          have hv36 : w36 = -1 := by rw [ew36]; decide
          refine v_iload C dX6_bigger_36 rfl rfl ?_
          refine V.tp hv36 ?_
          refine v_if_lt (tgt := 73) C dX6_bigger_38 (by decide) rfl (fun _ => ?_) (fun q => absurd q (by decide))
          refine v_aload_n C dX6_bigger_73 rfl rfl rfl ?_
          refine v_getR C (Nat.le_of_ble_eq_true rfl) rfl rfl hinX6 1 (Nat.le_of_ble_eq_true rfl) lkX6_13 rfl dX6_bigger_74 rfl ?_
          refine v_iload_n C dX6_bigger_77 rfl rfl rfl ?_
          refine v_iload_n C dX6_bigger_78 rfl rfl rfl ?_
          refine v_iast (i := (tn r)) C (Nat.le_of_ble_eq_true rfl) rfl (room_nat hrm).1 (room_nat hrm).2 (by decide) dX6_bigger_79 rfl ?_
          refine V.nm (fun τ79_2 eτ79_2 => ?_)
          refine v_iload C dX6_bigger_80 rfl rfl ?_
          exact v_iret C dX6_bigger_82 (by rw [hX]; exact fI_of (by rw [bigA, cI_t hall, ex5]) (by rw [bigS, cI_t hall]; obtain ⟨x, hx⟩ := eτ; rw [eτ79_2, hx, s2_s2, ev27_1, s2_self]))
        | succ i ih36 =>
          intro w36 x5 τ h1 ew36 ex5 eτ
          have hv36 : w36 = nI i := by rw [ew36]; exact nI_pred i
          refine v_iload C dX6_bigger_36 rfl rfl ?_
          refine V.tp hv36 ?_
          refine v_if_lt (tgt := 73) C dX6_bigger_38 (by decide) rfl (fun q => absurd q (nI_pos (by omega))) (fun _ => ?_)
          refine v_aload_n C dX6_bigger_41 rfl rfl rfl ?_
          refine v_getR C (Nat.le_of_ble_eq_true rfl) rfl rfl hinX6 1 (Nat.le_of_ble_eq_true rfl) lkX6_13 rfl dX6_bigger_42 rfl ?_
          refine v_iload_n C dX6_bigger_45 rfl rfl rfl ?_
          refine v_iload C dX6_bigger_46 rfl rfl ?_
          refine V.tp hv36 ?_
          refine v_iast (i := (tn r)) C (Nat.le_of_ble_eq_true rfl) rfl (room_nat hrm).1 (room_nat hrm).2 (by decide) dX6_bigger_48 rfl ?_
          refine V.nm (fun τ48_3 eτ48_3 => ?_)
          have hte : τ48_3 = s2 σ 2 (tn r) (nI i) := by obtain ⟨x, hx⟩ := eτ; rw [eτ48_3, hx, s2_s2]
          have hnt : τ48_3 0 8 = nI n := by rw [hte, s2_ne (by decide)]; exact hn
          refine v_aload_n C dX6_bigger_49 rfl rfl rfl ?_
          refine v_iload_n C dX6_bigger_50 rfl rfl rfl ?_
          refine V.tp hp1 ?_
          refine v_iload_n C dX6_bigger_51 rfl rfl rfl ?_
          refine v_callV C (Nat.le_of_ble_eq_true rfl) rfl rfl (As := [.int (nI (tn p)), .int r]) (rest := []) (kX6_canCarry n (tn p) r τ48_3 hnt h7 (by omega) hr) rfl (Nat.le_of_ble_eq_true rfl) (Nat.le_of_ble_eq_true rfl) ⟨mlX6_122, mfX6_canCarry⟩ dkX6_canCarry (Nat.le_of_ble_eq_true rfl) dX6_bigger_52 rfl (kI ?_)
          refine V.tp (show bI (carP (τ48_3 4) (τ48_3 5) (τ48_3 8) (τ48_3 2) (τ48_3 3) n (tn p) r) = bI (cbP σ n (tn p) r i) from by rw [hte]; rfl) ?_
          refine v_if_eq (tgt := 63) C dX6_bigger_55 (by decide) rfl (fun c55 => ?_) (fun c55 => ?_)
          · skip
            have c55 := bI_0 c55
            refine v_iload C dX6_bigger_63 rfl rfl ?_
            refine v_istore (lv' := [(4, .int x5), (5, .int w36), (3, .int v27_1), (0, .ref 0), (1, .int p), (2, .int r)]) C dX6_bigger_65 (Nat.le_of_ble_eq_true rfl) rfl rfl ?_
            obtain ⟨v67_4, ev67_4⟩ : ∃ y : Int32, y = w36 + (-1) := ⟨_, rfl⟩
            refine v_iinc (lv' := [(5, .int v67_4), (4, .int x5), (3, .int v27_1), (0, .ref 0), (1, .int p), (2, .int r)]) C dX6_bigger_67 rfl (by rw [ev67_4]; rfl) (Nat.le_of_ble_eq_true rfl) rfl rfl ?_
            refine v_goto (tgt := 36) C dX6_bigger_70 (by decide) ?_
            exact V.sub [0, 1, 2, 3, 4, 5] rfl (ih36 _ _ _ (by omega) (by rw [ev67_4, hv36, Int32.sub_eq_add_neg]) (by rw [dnF_step (by omega), cI_f c55]; exact ex5) (⟨_, hte⟩))
          · skip
            have c55 := bI_n c55
            refine v_iload C dX6_bigger_58 rfl rfl ?_
            refine V.tp hv36 ?_
            refine v_goto (tgt := 65) C dX6_bigger_60 (by decide) ?_
            refine v_istore (lv' := [(4, .int (nI i)), (5, .int w36), (3, .int v27_1), (0, .ref 0), (1, .int p), (2, .int r)]) C dX6_bigger_65 (Nat.le_of_ble_eq_true rfl) rfl rfl ?_
            obtain ⟨v67_5, ev67_5⟩ : ∃ y : Int32, y = w36 + (-1) := ⟨_, rfl⟩
            refine v_iinc (lv' := [(5, .int v67_5), (4, .int (nI i)), (3, .int v27_1), (0, .ref 0), (1, .int p), (2, .int r)]) C dX6_bigger_67 rfl (by rw [ev67_5]; rfl) (Nat.le_of_ble_eq_true rfl) rfl rfl ?_
            refine v_goto (tgt := 36) C dX6_bigger_70 (by decide) ?_
            exact V.sub [0, 1, 2, 3, 4, 5] rfl (ih36 _ _ _ (by omega) (by rw [ev67_5, hv36, Int32.sub_eq_add_neg]) (by rw [dnF_step (by omega), cI_t c55]) (⟨_, hte⟩))
      exact V.sub [0, 1, 2, 3, 4, 5] rfl (lp36 21 _ _ _ (by omega) (by decide) (rfl) (⟨_, (s2_self _ _ _).symm⟩))
    · skip
      have c12 := bI_0 c12
      refine v_aload_n C dX6_bigger_15 rfl rfl rfl ?_
      refine v_iconst (v := -1) C dX6_bigger_16 (by decide) rfl ?_
      refine v_callV C (Nat.le_of_ble_eq_true rfl) rfl rfl (As := [.int (-1)]) (rest := []) (kX6_no (-1) 1 σ (by decide) (by decide)) rfl (Nat.le_of_ble_eq_true rfl) (Nat.le_of_ble_eq_true rfl) ⟨mlX6_79, mfX6_no⟩ dkX6_no (Nat.le_of_ble_eq_true rfl) dX6_bigger_17 rfl (kI ?_)
      exact v_iret C dX6_bigger_20 (by rw [hX]; exact fI_of (by simp [bigA, cI, ← hn, c5, c12]) (by simp [bigS, cI, ← hn, c5, c12]))
def delR (i p : Nat) (f : Nat → Int32) : Nat → Int32 := fun k => if p ≤ k ∧ k < i then f (k + 1) else f k
theorem delR_0 (p : Nat) (f : Nat → Int32) : delR p p f = f := by
  funext k
  unfold delR
  rw [if_neg (by omega)]
theorem delR_at {i p : Nat} {f : Nat → Int32} (k : Nat) (h : i ≤ k) : delR i p f k = f k := by
  unfold delR
  rw [if_neg (by omega)]
theorem delR_step {i p : Nat} (f : Nat → Int32) (h : p ≤ i) : upd (delR i p f) i (f (i + 1)) = delR (i + 1) p f := by
  funext k
  unfold upd delR
  by_cases e : k = i
  · subst e; rw [if_pos rfl, if_pos (by omega)]
  · rw [if_neg e]
    by_cases g : p ≤ k ∧ k < i
    · rw [if_pos g, if_pos (by omega)]
    · rw [if_neg g, if_neg (by omega)]
def delS (σ : St) (m p i : Nat) : St := fun a => if a = 0 then upd (σ 0) 8 (nI m) else if 4 ≤ a ∧ a ≤ 8 then delR i p (σ a) else σ a
theorem delS_0 (σ : St) (m p : Nat) : delS σ m p p = s2 σ 0 8 (nI m) := by
  funext a
  unfold delS
  by_cases h0 : a = 0
  · subst h0; rw [if_pos rfl, s2_eq]
  · rw [if_neg h0, s2_ne h0]
    by_cases h : 4 ≤ a ∧ a ≤ 8
    · rw [if_pos h, delR_0]
    · rw [if_neg h]
theorem delS_r (σ : St) (m p i a : Nat) (h : 4 ≤ a) (h2 : a ≤ 8) : delS σ m p i a = delR i p (σ a) := by
  unfold delS; rw [if_neg (by omega), if_pos ⟨h, h2⟩]
theorem delS_8 (σ : St) (m p i : Nat) : delS σ m p i 0 8 = nI m := by simp [delS, upd]
theorem delS_o (σ : St) (m p i a : Nat) (h0 : a ≠ 0) (h : a < 4 ∨ 8 < a) : delS σ m p i a = σ a := by
  unfold delS; rw [if_neg h0, if_neg (by omega)]
theorem delS_z (σ : St) (m p i j : Nat) (h : j ≠ 8) : delS σ m p i 0 j = σ 0 j := by simp [delS, upd, h]
theorem delS_step (σ : St) (m : Nat) {p i : Nat} (h : p ≤ i) : s2 (s2 (s2 (s2 (s2 (delS σ m p i) 4 i (σ 4 (i + 1))) 5 i (σ 5 (i + 1))) 6 i (σ 6 (i + 1))) 7 i (σ 7 (i + 1))) 8 i (σ 8 (i + 1)) = delS σ m p (i + 1) := by
  funext a
  by_cases h8 : a = 8
  · subst h8
    rw [s2_eq, s2_ne (by decide), s2_ne (by decide), s2_ne (by decide), s2_ne (by decide), delS_r _ _ _ _ _ (by decide) (by decide), delS_r _ _ _ _ _ (by decide) (by decide), delR_step _ h]
  · rw [s2_ne h8]
    by_cases h7 : a = 7
    · subst h7
      rw [s2_eq, s2_ne (by decide), s2_ne (by decide), s2_ne (by decide), delS_r _ _ _ _ _ (by decide) (by decide), delS_r _ _ _ _ _ (by decide) (by decide), delR_step _ h]
    · rw [s2_ne h7]
      by_cases h6 : a = 6
      · subst h6
        rw [s2_eq, s2_ne (by decide), s2_ne (by decide), delS_r _ _ _ _ _ (by decide) (by decide), delS_r _ _ _ _ _ (by decide) (by decide), delR_step _ h]
      · rw [s2_ne h6]
        by_cases h5 : a = 5
        · subst h5
          rw [s2_eq, s2_ne (by decide), delS_r _ _ _ _ _ (by decide) (by decide), delS_r _ _ _ _ _ (by decide) (by decide), delR_step _ h]
        · rw [s2_ne h5]
          by_cases h4 : a = 4
          · subst h4
            rw [s2_eq, delS_r _ _ _ _ _ (by decide) (by decide), delS_r _ _ _ _ _ (by decide) (by decide), delR_step _ h]
          · rw [s2_ne h4]
            by_cases h0 : a = 0
            · subst h0; rfl
            · rw [delS_o _ _ _ _ _ h0 (by omega), delS_o _ _ _ _ _ h0 (by omega)]
theorem kX6_leaves (n p : Nat) (σ : St) (hn : σ 0 8 = nI n) (h7 : n ≤ 7) (hp : p < n) : Ct yX6_leaves cX6_leaves 3 none 0 [.ref 0, .int (nI p)] σ (fV (delS σ (n - 1) p (n - 1))) := by
  refine ct_of plX6 rfl (Nat.le_of_ble_eq_true rfl) (fun X hX C => ?_)
  show V X 0 [(0, .ref 0), (1, .int (nI p))] [] σ
  refine v_aload_n C dX6_leaves_0 rfl rfl rfl ?_
  refine v_dup C dX6_leaves_1 rfl rfl ?_
  refine v_getI C (Nat.le_of_ble_eq_true rfl) rfl rfl hinX6 8 (Nat.le_of_ble_eq_true rfl) lkX6_65 rfl dX6_leaves_2 rfl ?_
  refine V.tp hn ?_
  refine v_iconst (v := 1) C dX6_leaves_5 (by decide) rfl ?_
  refine v_isub C dX6_leaves_6 rfl ?_
  refine V.tp (pk_sub (a := n) (b := 1) (by omega)) ?_
  refine v_put (ty := .int) C (Nat.le_of_ble_eq_true rfl) rfl rfl hinX6 tyX6_ok nmX6 8 (Nat.le_of_ble_eq_true rfl) lkX6_65 rfl (by decide +kernel) rfl rfl rfl dX6_leaves_7 rfl ?_
  refine V.nm (fun τ7_1 eτ7_1 => ?_)
  refine v_iload_n C dX6_leaves_10 rfl rfl rfl ?_
  refine v_istore_n (lv' := [(2, .int (nI p)), (0, .ref 0), (1, .int (nI p))]) C dX6_leaves_11 rfl (Nat.le_of_ble_eq_true rfl) rfl rfl ?_
  have lp12 : ∀ (k i : Nat)  (τ : St), (n - 1) < i + k → i ≤ (n - 1) → τ = delS σ (n - 1) p i → (p ≤ i) → V X 12 [(2, .int (nI i)), (0, .ref 0), (1, .int (nI p))] [] τ := by
    intro k
    induction k with
    | zero => intro i  τ h1 h2; omega
    | succ k ih12 =>
      intro i  τ h1 h2  eτ hpi
      have hnt : τ 0 8 = nI (n - 1) := by rw [eτ, delS_8]
      have g4 : τ 4 (i + 1) = σ 4 (i + 1) := by rw [eτ, delS_r _ _ _ _ _ (by decide) (by decide), delR_at _ (by omega)]
      refine v_iload_n C dX6_leaves_12 rfl rfl rfl ?_
      refine v_aload_n C dX6_leaves_13 rfl rfl rfl ?_
      refine v_getI C (Nat.le_of_ble_eq_true rfl) rfl rfl hinX6 8 (Nat.le_of_ble_eq_true rfl) lkX6_65 rfl dX6_leaves_14 rfl ?_
      refine V.tp hnt ?_
      refine v_icmp_ge (tgt := 96) C dX6_leaves_17 (by decide) rfl (fun c17 => ?_) (fun c17 => ?_)
      · skip
        have c17 := mt (nI_ltI (a := i) (b := (n - 1)) (by omega) (by omega)).mpr c17
        exact v_vret C dX6_leaves_96 (by rw [hX]; exact fV_of (by rw [eτ, show i = n - 1 by omega]))
      · skip
        have c17 := (nI_ltI (a := i) (b := (n - 1)) (by omega) (by omega)).mp c17
        refine v_aload_n C dX6_leaves_20 rfl rfl rfl ?_
        refine v_getR C (Nat.le_of_ble_eq_true rfl) rfl rfl hinX6 3 (Nat.le_of_ble_eq_true rfl) lkX6_19 rfl dX6_leaves_21 rfl ?_
        refine v_iload_n C dX6_leaves_24 rfl rfl rfl ?_
        refine v_aload_n C dX6_leaves_25 rfl rfl rfl ?_
        refine v_getR C (Nat.le_of_ble_eq_true rfl) rfl rfl hinX6 3 (Nat.le_of_ble_eq_true rfl) lkX6_19 rfl dX6_leaves_26 rfl ?_
        refine v_iload_n C dX6_leaves_29 rfl rfl rfl ?_
        refine v_iconst (v := 1) C dX6_leaves_30 (by decide) rfl ?_
        refine v_iadd C dX6_leaves_31 rfl ?_
        refine V.tp (nI_add i 1) ?_
        refine v_iald (i := i + 1) C (Nat.le_of_ble_eq_true rfl) rfl rfl (by omega) (by decide) dX6_leaves_32 rfl ?_
        refine V.tp g4 ?_
        refine v_iast (i := i) C (Nat.le_of_ble_eq_true rfl) rfl rfl (by omega) (by decide) dX6_leaves_33 rfl ?_
        refine V.nm (fun τ33_2 eτ33_2 => ?_)
        have g5 : τ33_2 5 (i + 1) = σ 5 (i + 1) := by rw [eτ33_2, s2_ne (by decide), eτ, delS_r _ _ _ _ _ (by decide) (by decide), delR_at _ (by omega)]
        have d6 : τ33_2 6 = τ 6 := by rw [eτ33_2, s2_ne (by decide)]
        have d7 : τ33_2 7 = τ 7 := by rw [eτ33_2, s2_ne (by decide)]
        have d8 : τ33_2 8 = τ 8 := by rw [eτ33_2, s2_ne (by decide)]
        refine v_aload_n C dX6_leaves_34 rfl rfl rfl ?_
        refine v_getR C (Nat.le_of_ble_eq_true rfl) rfl rfl hinX6 4 (Nat.le_of_ble_eq_true rfl) lkX6_22 rfl dX6_leaves_35 rfl ?_
        refine v_iload_n C dX6_leaves_38 rfl rfl rfl ?_
        refine v_aload_n C dX6_leaves_39 rfl rfl rfl ?_
        refine v_getR C (Nat.le_of_ble_eq_true rfl) rfl rfl hinX6 4 (Nat.le_of_ble_eq_true rfl) lkX6_22 rfl dX6_leaves_40 rfl ?_
        refine v_iload_n C dX6_leaves_43 rfl rfl rfl ?_
        refine v_iconst (v := 1) C dX6_leaves_44 (by decide) rfl ?_
        refine v_iadd C dX6_leaves_45 rfl ?_
        refine V.tp (nI_add i 1) ?_
        refine v_iald (i := i + 1) C (Nat.le_of_ble_eq_true rfl) rfl rfl (by omega) (by decide) dX6_leaves_46 rfl ?_
        refine V.tp g5 ?_
        refine v_iast (i := i) C (Nat.le_of_ble_eq_true rfl) rfl rfl (by omega) (by decide) dX6_leaves_47 rfl ?_
        refine V.nm (fun τ47_3 eτ47_3 => ?_)
        have g6 : τ47_3 6 (i + 1) = σ 6 (i + 1) := by rw [eτ47_3, s2_ne (by decide), d6, eτ, delS_r _ _ _ _ _ (by decide) (by decide), delR_at _ (by omega)]
        have d7 : τ47_3 7 = τ 7 := by rw [eτ47_3, s2_ne (by decide), d7]
        have d8 : τ47_3 8 = τ 8 := by rw [eτ47_3, s2_ne (by decide), d8]
        refine v_aload_n C dX6_leaves_48 rfl rfl rfl ?_
        refine v_getR C (Nat.le_of_ble_eq_true rfl) rfl rfl hinX6 5 (Nat.le_of_ble_eq_true rfl) lkX6_25 rfl dX6_leaves_49 rfl ?_
        refine v_iload_n C dX6_leaves_52 rfl rfl rfl ?_
        refine v_aload_n C dX6_leaves_53 rfl rfl rfl ?_
        refine v_getR C (Nat.le_of_ble_eq_true rfl) rfl rfl hinX6 5 (Nat.le_of_ble_eq_true rfl) lkX6_25 rfl dX6_leaves_54 rfl ?_
        refine v_iload_n C dX6_leaves_57 rfl rfl rfl ?_
        refine v_iconst (v := 1) C dX6_leaves_58 (by decide) rfl ?_
        refine v_iadd C dX6_leaves_59 rfl ?_
        refine V.tp (nI_add i 1) ?_
        refine v_iald (i := i + 1) C (Nat.le_of_ble_eq_true rfl) rfl rfl (by omega) (by decide) dX6_leaves_60 rfl ?_
        refine V.tp g6 ?_
        refine v_iast (i := i) C (Nat.le_of_ble_eq_true rfl) rfl rfl (by omega) (by decide) dX6_leaves_61 rfl ?_
        refine V.nm (fun τ61_4 eτ61_4 => ?_)
        have g7 : τ61_4 7 (i + 1) = σ 7 (i + 1) := by rw [eτ61_4, s2_ne (by decide), d7, eτ, delS_r _ _ _ _ _ (by decide) (by decide), delR_at _ (by omega)]
        have d8 : τ61_4 8 = τ 8 := by rw [eτ61_4, s2_ne (by decide), d8]
        refine v_aload_n C dX6_leaves_62 rfl rfl rfl ?_
        refine v_getR C (Nat.le_of_ble_eq_true rfl) rfl rfl hinX6 6 (Nat.le_of_ble_eq_true rfl) lkX6_28 rfl dX6_leaves_63 rfl ?_
        refine v_iload_n C dX6_leaves_66 rfl rfl rfl ?_
        refine v_aload_n C dX6_leaves_67 rfl rfl rfl ?_
        refine v_getR C (Nat.le_of_ble_eq_true rfl) rfl rfl hinX6 6 (Nat.le_of_ble_eq_true rfl) lkX6_28 rfl dX6_leaves_68 rfl ?_
        refine v_iload_n C dX6_leaves_71 rfl rfl rfl ?_
        refine v_iconst (v := 1) C dX6_leaves_72 (by decide) rfl ?_
        refine v_iadd C dX6_leaves_73 rfl ?_
        refine V.tp (nI_add i 1) ?_
        refine v_iald (i := i + 1) C (Nat.le_of_ble_eq_true rfl) rfl rfl (by omega) (by decide) dX6_leaves_74 rfl ?_
        refine V.tp g7 ?_
        refine v_iast (i := i) C (Nat.le_of_ble_eq_true rfl) rfl rfl (by omega) (by decide) dX6_leaves_75 rfl ?_
        refine V.nm (fun τ75_5 eτ75_5 => ?_)
        have g8 : τ75_5 8 (i + 1) = σ 8 (i + 1) := by rw [eτ75_5, s2_ne (by decide), d8, eτ, delS_r _ _ _ _ _ (by decide) (by decide), delR_at _ (by omega)]
        refine v_aload_n C dX6_leaves_76 rfl rfl rfl ?_
        refine v_getR C (Nat.le_of_ble_eq_true rfl) rfl rfl hinX6 7 (Nat.le_of_ble_eq_true rfl) lkX6_31 rfl dX6_leaves_77 rfl ?_
        refine v_iload_n C dX6_leaves_80 rfl rfl rfl ?_
        refine v_aload_n C dX6_leaves_81 rfl rfl rfl ?_
        refine v_getR C (Nat.le_of_ble_eq_true rfl) rfl rfl hinX6 7 (Nat.le_of_ble_eq_true rfl) lkX6_31 rfl dX6_leaves_82 rfl ?_
        refine v_iload_n C dX6_leaves_85 rfl rfl rfl ?_
        refine v_iconst (v := 1) C dX6_leaves_86 (by decide) rfl ?_
        refine v_iadd C dX6_leaves_87 rfl ?_
        refine V.tp (nI_add i 1) ?_
        refine v_iald (i := i + 1) C (Nat.le_of_ble_eq_true rfl) rfl rfl (by omega) (by decide) dX6_leaves_88 rfl ?_
        refine V.tp g8 ?_
        refine v_iast (i := i) C (Nat.le_of_ble_eq_true rfl) rfl rfl (by omega) (by decide) dX6_leaves_89 rfl ?_
        refine V.nm (fun τ89_6 eτ89_6 => ?_)
        refine v_iinc (lv' := [(2, .int (nI (i + 1))), (0, .ref 0), (1, .int (nI p))]) C dX6_leaves_90 rfl (nI_inc i) (Nat.le_of_ble_eq_true rfl) rfl rfl ?_
        refine v_goto (tgt := 12) C dX6_leaves_93 (by decide) ?_
        exact V.sub [0, 1, 2] rfl (ih12 (i + 1)  _ (by omega) (by omega)  (by rw [eτ89_6, eτ75_5, eτ61_4, eτ47_3, eτ33_2, eτ]; exact delS_step σ (n - 1) hpi) (by omega))
  exact V.sub [0, 1, 2] rfl (lp12 ((n - 1) + 1) p  _ (by omega) (by omega)  (by rw [eτ7_1, delS_0]) (by omega))
end
section
/-! the check's class: what would be, and all put back -/
def Sm (σ τ : St) : Prop := (∀ k, ((1 ≤ k ∧ k ≤ 9) ∨ k = 17 ∨ 18 ≤ k) → τ k = σ k) ∧ (∀ j, (j = 8 ∨ j = 9 ∨ j = 10 ∨ j = 15 ∨ j = 19 ∨ j = 27) → τ 0 j = σ 0 j) ∧ (∀ j, j < 50 → τ 13 j = σ 13 j)
theorem Sm.rf (σ : St) : Sm σ σ := ⟨fun _ _ => rfl, fun _ _ => rfl, fun _ _ => rfl⟩
theorem Sm.tr {σ τ υ : St} (h : Sm σ τ) (g : Sm τ υ) : Sm σ υ := ⟨fun k hk => (g.1 k hk).trans (h.1 k hk), fun j hj => (g.2.1 j hj).trans (h.2.1 j hj), fun j hj => (g.2.2 j hj).trans (h.2.2 j hj)⟩
def Bd (σ υ : St) : Prop := ∀ k, 2 ≤ k → k ≤ 8 → ∀ j, lenR k ≤ j → υ k j = σ k j
theorem lenR_7 {k : Nat} (h : 4 ≤ k) (h2 : k ≤ 8) : lenR k = 7 := by
  rcases (show k = 4 ∨ k = 5 ∨ k = 6 ∨ k = 7 ∨ k = 8 by omega) with rfl | rfl | rfl | rfl | rfl <;> rfl
theorem Bd_del {σ υ : St} (h : Bd σ υ) {m p i : Nat} (hi : i ≤ 7) : Bd σ (delS υ m p i) := by
  intro k h2 h8 j hj
  by_cases h4 : 4 ≤ k
  · rw [lenR_7 h4 h8] at hj
    rw [delS_r _ _ _ _ _ h4 h8, delR_at _ (by omega)]
    exact h k h2 h8 j (by rw [lenR_7 h4 h8]; exact hj)
  · rw [delS_o _ _ _ _ _ (by omega) (by omega)]; exact h k h2 h8 j hj
theorem Bd_yrs {σ υ : St} (h : Bd σ υ) {n : Nat} (hn : n ≤ 7) : ∀ m, Bd σ (yrs n υ m)
  | 0 => h
  | m + 1 => by
    intro k h2 h8 j hj
    have ih := Bd_yrs h hn m
    by_cases h6 : k = 6
    · subst h6
      have h7 : 7 ≤ j := hj
      rw [yrs, yrP_6, pre, if_neg (by omega)]; exact ih 6 h2 h8 j hj
    · by_cases h7 : k = 7
      · subst h7
        have h7 : 7 ≤ j := hj
        rw [yrs, yrP_7, pre, if_neg (by omega)]; exact ih 7 h2 h8 j hj
      · rw [yrs, yrP_o _ _ _ h6 h7 (by omega)]; exact ih k h2 h8 j hj
theorem Svp_Bd {σ τ : St} {c o : Nat} (h : Svp σ c o τ) : Bd σ τ := fun k h2 h8 j _ => by rw [h.1 k (by omega) (by omega)]
theorem KB {σ τ υ ω : St} (h1 : Svp σ 50 47 τ) (h2 : Rsp υ 50 47 ω) (h13 : υ 13 = τ 13) (hb : Bd σ υ) (ho : ∀ a, (a = 1 ∨ a = 9 ∨ a = 17 ∨ 18 ≤ a) → υ a = σ a) (hf : ∀ j, (j = 15 ∨ j = 19 ∨ j = 27) → υ 0 j = σ 0 j) : Sm σ ω := by
  obtain ⟨q1, q2, q3, q4, q5, q6⟩ := h1
  obtain ⟨p1, p2, p3, p4, p5, p6, p7, p8⟩ := h2
  have hk : ∀ j, j < 47 → υ 13 (50 + j) = blk σ j := fun j hj => by rw [h13]; exact q5 j hj
  have hrow : ∀ k, 2 ≤ k → k ≤ 8 → (∀ i, i < lenR k → blk σ (offR k + i) = σ k i) → offR k + lenR k ≤ 44 → ω k = σ k := by
    intro k k2 k8 hbk hle
    rw [p5 k k2 k8]
    funext j
    by_cases g : offR k < 47
    · rw [if_pos g]
      unfold pre
      by_cases g2 : j < lenR k
      · rw [if_pos g2]
        show υ 13 (50 + offR k + j) = σ k j
        rw [show 50 + offR k + j = 50 + (offR k + j) by omega, hk _ (by omega), hbk j g2]
      · rw [if_neg g2]; exact hb k k2 k8 j (by omega)
    · rw [if_neg g]
      by_cases g2 : j < lenR k
      · omega
      · exact hb k k2 k8 j (by omega)
  have hbl := blk_at σ
  refine ⟨fun k hk2 => ?_, fun j hj => ?_, fun j hj => ?_⟩
  · by_cases g : 2 ≤ k ∧ k ≤ 8
    · rcases (show k = 2 ∨ k = 3 ∨ k = 4 ∨ k = 5 ∨ k = 6 ∨ k = 7 ∨ k = 8 by omega) with rfl | rfl | rfl | rfl | rfl | rfl | rfl
      · exact hrow 2 (by decide) (by decide) hbl.1 (by decide)
      · exact hrow 3 (by decide) (by decide) hbl.2.1 (by decide)
      · exact hrow 4 (by decide) (by decide) hbl.2.2.1 (by decide)
      · exact hrow 5 (by decide) (by decide) hbl.2.2.2.1 (by decide)
      · exact hrow 6 (by decide) (by decide) hbl.2.2.2.2.1 (by decide)
      · exact hrow 7 (by decide) (by decide) hbl.2.2.2.2.2.1 (by decide)
      · exact hrow 8 (by decide) (by decide) hbl.2.2.2.2.2.2 (by decide)
    · rw [p1 k (by omega) (by omega)]; exact ho k (by omega)
  · rcases hj with rfl | rfl | rfl | rfl | rfl | rfl
    · rw [p6, if_pos (by decide)]; exact hk 44 (by decide)
    · rw [p7, if_pos (by decide)]; exact hk 45 (by decide)
    · rw [p8, if_pos (by decide)]; exact hk 46 (by decide)
    · rw [p2 15 (by decide) (by decide) (by decide) (by decide) (by decide)]; exact hf 15 (Or.inl rfl)
    · rw [p2 19 (by decide) (by decide) (by decide) (by decide) (by decide)]; exact hf 19 (Or.inr (Or.inl rfl))
    · rw [p2 27 (by decide) (by decide) (by decide) (by decide) (by decide)]; exact hf 27 (Or.inr (Or.inr rfl))
  · rw [p1 13 (by decide) (by decide), h13]; exact q6 j (by omega)
def bwoF (σ : St) (n a : Nat) : Int32 := binF (delR (n - 1) a (σ 4)) (delR (n - 1) a (σ 6)) (delR (n - 1) a (σ 7)) (delR (n - 1) a (σ 8)) (n - 1) 10
def bwo2 (σ : St) (n a b : Nat) : Int32 := binF (delR (n - 2) a (delR (n - 1) b (σ 4))) (delR (n - 2) a (delR (n - 1) b (σ 6))) (delR (n - 2) a (delR (n - 1) b (σ 7))) (delR (n - 2) a (delR (n - 1) b (σ 8))) (n - 2) 10
theorem kX6_blameWithout1 (n a : Nat) (σ : St) (hn : σ 0 8 = nI n) (h7 : n ≤ 7) (ha : a < n) : Ct yX6_blameWithout cX6_blameWithout 4 (some .int) 3 [.ref 0, .int (nI a), .int (-9)] σ (rI (fun v τ => v = bwoF σ n a ∧ Sm σ τ)) := by
  refine ct_of plX6 rfl (Nat.le_of_ble_eq_true rfl) (fun X hX C => ?_)
  show V X 0 [(0, .ref 0), (1, .int (nI a)), (2, .int (-9))] [] σ
  refine v_aload_n C dX6_blameWithout_0 rfl rfl rfl ?_
  refine v_iconst (v := 1) C dX6_blameWithout_1 (by decide) rfl ?_
  refine v_iconst (v := 1) C dX6_blameWithout_2 (by decide) rfl ?_
  refine v_callV C (Nat.le_of_ble_eq_true rfl) rfl rfl (As := [.int 1, .int 1]) (rest := []) (kX6_passesAllK1 σ) rfl (Nat.le_of_ble_eq_true rfl) (Nat.le_of_ble_eq_true rfl) ⟨mlX6_139, mfX6_passesAll⟩ dkX6_passesAll (Nat.le_of_ble_eq_true rfl) dX6_blameWithout_3 rfl (krV (fun τ6_1 h6_1 => ?_))
  have hnτ6_1 : τ6_1 0 8 = nI n := by rw [h6_1.2.1 8 (by decide) (by decide)]; exact hn
  refine v_iload_n C dX6_blameWithout_6 rfl rfl rfl ?_
  refine v_if_lt (tgt := 15) C dX6_blameWithout_7 (by decide) rfl (fun _ => ?_) (fun q => absurd q (by decide))
  refine v_aload_n C dX6_blameWithout_15 rfl rfl rfl ?_
  refine v_iload_n C dX6_blameWithout_16 rfl rfl rfl ?_
  refine v_callV C (Nat.le_of_ble_eq_true rfl) rfl rfl (As := [.int (nI a)]) (rest := []) (kX6_leaves n a τ6_1 hnτ6_1 (by omega) (by omega)) rfl (Nat.le_of_ble_eq_true rfl) (Nat.le_of_ble_eq_true rfl) ⟨mlX6_231, mfX6_leaves⟩ dkX6_leaves (Nat.le_of_ble_eq_true rfl) dX6_blameWithout_17 rfl (kV ?_)
  refine v_aload_n C dX6_blameWithout_20 rfl rfl rfl ?_
  refine v_bipush (v := 10) C dX6_blameWithout_21 (by decide) rfl ?_
  refine v_callV C (Nat.le_of_ble_eq_true rfl) rfl rfl (As := [.int 10]) (rest := []) (kX6_blameIn (n - 1) 10 (delS τ6_1 (n - 1) a (n - 1)) (delS_8 _ _ _ _) (by omega)) rfl (Nat.le_of_ble_eq_true rfl) (Nat.le_of_ble_eq_true rfl) ⟨mlX6_178, mfX6_blameIn⟩ dkX6_blameIn (Nat.le_of_ble_eq_true rfl) dX6_blameWithout_23 rfl (kI ?_)
  refine V.top (fun v26_2 ev26_2 => ?_)
  refine v_istore_n (lv' := [(3, .int v26_2), (0, .ref 0), (1, .int (nI a)), (2, .int (-9))]) C dX6_blameWithout_26 rfl (Nat.le_of_ble_eq_true rfl) rfl rfl ?_
  refine v_aload_n C dX6_blameWithout_27 rfl rfl rfl ?_
  refine v_iconst (v := 1) C dX6_blameWithout_28 (by decide) rfl ?_
  refine v_iconst (v := 0) C dX6_blameWithout_29 (by decide) rfl ?_
  refine v_callV C (Nat.le_of_ble_eq_true rfl) rfl rfl (As := [.int 1, .int 0]) (rest := []) (kX6_passesAllB1 (delS τ6_1 (n - 1) a (n - 1))) rfl (Nat.le_of_ble_eq_true rfl) (Nat.le_of_ble_eq_true rfl) ⟨mlX6_139, mfX6_passesAll⟩ dkX6_passesAll (Nat.le_of_ble_eq_true rfl) dX6_blameWithout_30 rfl (krV (fun τ33_3 h33_3 => ?_))
  refine v_iload_n C dX6_blameWithout_33 rfl rfl rfl ?_
  exact v_iret C dX6_blameWithout_34 (by rw [hX]; exact ⟨_, rfl, by rw [ev26_2, bwoF, delS_r _ _ _ _ 4 (by decide) (by decide), h6_1.1 4 (by decide) (by decide), delS_r _ _ _ _ 6 (by decide) (by decide), h6_1.1 6 (by decide) (by decide), delS_r _ _ _ _ 7 (by decide) (by decide), h6_1.1 7 (by decide) (by decide), delS_r _ _ _ _ 8 (by decide) (by decide), h6_1.1 8 (by decide) (by decide)], KB h6_1 h33_3 (delS_o _ _ _ _ _ (by decide) (by decide)) (Bd_del (Svp_Bd h6_1) (by omega)) (fun a ha => by rw [delS_o _ _ _ _ _ (by omega) (by omega)]; exact h6_1.1 a (by omega) (by omega)) (fun j hj => by rw [delS_z _ _ _ _ _ (by omega)]; exact h6_1.2.1 j (by omega) (by omega))⟩)
theorem kX6_blameWithout2 (n a b : Nat) (σ : St) (hn : σ 0 8 = nI n) (h7 : n ≤ 7) (ha : a < b) (hb : b < n) : Ct yX6_blameWithout cX6_blameWithout 4 (some .int) 3 [.ref 0, .int (nI a), .int (nI b)] σ (rI (fun v τ => v = bwo2 σ n a b ∧ Sm σ τ)) := by
  refine ct_of plX6 rfl (Nat.le_of_ble_eq_true rfl) (fun X hX C => ?_)
  show V X 0 [(0, .ref 0), (1, .int (nI a)), (2, .int (nI b))] [] σ
  refine v_aload_n C dX6_blameWithout_0 rfl rfl rfl ?_
  refine v_iconst (v := 1) C dX6_blameWithout_1 (by decide) rfl ?_
  refine v_iconst (v := 1) C dX6_blameWithout_2 (by decide) rfl ?_
  refine v_callV C (Nat.le_of_ble_eq_true rfl) rfl rfl (As := [.int 1, .int 1]) (rest := []) (kX6_passesAllK1 σ) rfl (Nat.le_of_ble_eq_true rfl) (Nat.le_of_ble_eq_true rfl) ⟨mlX6_139, mfX6_passesAll⟩ dkX6_passesAll (Nat.le_of_ble_eq_true rfl) dX6_blameWithout_3 rfl (krV (fun τ6_1 h6_1 => ?_))
  have hnτ6_1 : τ6_1 0 8 = nI n := by rw [h6_1.2.1 8 (by decide) (by decide)]; exact hn
  refine v_iload_n C dX6_blameWithout_6 rfl rfl rfl ?_
  refine v_if_lt (tgt := 15) C dX6_blameWithout_7 (by decide) rfl (fun q => absurd q (nI_pos (by omega))) (fun _ => ?_)
  refine v_aload_n C dX6_blameWithout_10 rfl rfl rfl ?_
  refine v_iload_n C dX6_blameWithout_11 rfl rfl rfl ?_
  refine v_callV C (Nat.le_of_ble_eq_true rfl) rfl rfl (As := [.int (nI b)]) (rest := []) (kX6_leaves n b τ6_1 hnτ6_1 (by omega) (by omega)) rfl (Nat.le_of_ble_eq_true rfl) (Nat.le_of_ble_eq_true rfl) ⟨mlX6_231, mfX6_leaves⟩ dkX6_leaves (Nat.le_of_ble_eq_true rfl) dX6_blameWithout_12 rfl (kV ?_)
  refine v_aload_n C dX6_blameWithout_15 rfl rfl rfl ?_
  refine v_iload_n C dX6_blameWithout_16 rfl rfl rfl ?_
  refine v_callV C (Nat.le_of_ble_eq_true rfl) rfl rfl (As := [.int (nI a)]) (rest := []) (kX6_leaves (n - 1) a (delS τ6_1 (n - 1) b (n - 1)) (delS_8 _ _ _ _) (by omega) (by omega)) rfl (Nat.le_of_ble_eq_true rfl) (Nat.le_of_ble_eq_true rfl) ⟨mlX6_231, mfX6_leaves⟩ dkX6_leaves (Nat.le_of_ble_eq_true rfl) dX6_blameWithout_17 rfl (kV ?_)
  refine v_aload_n C dX6_blameWithout_20 rfl rfl rfl ?_
  refine v_bipush (v := 10) C dX6_blameWithout_21 (by decide) rfl ?_
  refine v_callV C (Nat.le_of_ble_eq_true rfl) rfl rfl (As := [.int 10]) (rest := []) (kX6_blameIn (n - 1 - 1) 10 (delS (delS τ6_1 (n - 1) b (n - 1)) ((n - 1) - 1) a ((n - 1) - 1)) (delS_8 _ _ _ _) (by omega)) rfl (Nat.le_of_ble_eq_true rfl) (Nat.le_of_ble_eq_true rfl) ⟨mlX6_178, mfX6_blameIn⟩ dkX6_blameIn (Nat.le_of_ble_eq_true rfl) dX6_blameWithout_23 rfl (kI ?_)
  refine V.top (fun v26_2 ev26_2 => ?_)
  refine v_istore_n (lv' := [(3, .int v26_2), (0, .ref 0), (1, .int (nI a)), (2, .int (nI b))]) C dX6_blameWithout_26 rfl (Nat.le_of_ble_eq_true rfl) rfl rfl ?_
  refine v_aload_n C dX6_blameWithout_27 rfl rfl rfl ?_
  refine v_iconst (v := 1) C dX6_blameWithout_28 (by decide) rfl ?_
  refine v_iconst (v := 0) C dX6_blameWithout_29 (by decide) rfl ?_
  refine v_callV C (Nat.le_of_ble_eq_true rfl) rfl rfl (As := [.int 1, .int 0]) (rest := []) (kX6_passesAllB1 (delS (delS τ6_1 (n - 1) b (n - 1)) ((n - 1) - 1) a ((n - 1) - 1))) rfl (Nat.le_of_ble_eq_true rfl) (Nat.le_of_ble_eq_true rfl) ⟨mlX6_139, mfX6_passesAll⟩ dkX6_passesAll (Nat.le_of_ble_eq_true rfl) dX6_blameWithout_30 rfl (krV (fun τ33_3 h33_3 => ?_))
  refine v_iload_n C dX6_blameWithout_33 rfl rfl rfl ?_
  exact v_iret C dX6_blameWithout_34 (by rw [hX]; exact ⟨_, rfl, by rw [ev26_2, bwo2, delS_r _ _ _ _ 4 (by decide) (by decide), delS_r _ _ _ _ 4 (by decide) (by decide), h6_1.1 4 (by decide) (by decide), delS_r _ _ _ _ 6 (by decide) (by decide), delS_r _ _ _ _ 6 (by decide) (by decide), h6_1.1 6 (by decide) (by decide), delS_r _ _ _ _ 7 (by decide) (by decide), delS_r _ _ _ _ 7 (by decide) (by decide), h6_1.1 7 (by decide) (by decide), delS_r _ _ _ _ 8 (by decide) (by decide), delS_r _ _ _ _ 8 (by decide) (by decide), h6_1.1 8 (by decide) (by decide)]; rfl, KB h6_1 h33_3 ((delS_o _ _ _ _ _ (by decide) (by decide)).trans (delS_o _ _ _ _ _ (by decide) (by decide))) (Bd_del (Bd_del (Svp_Bd h6_1) (by omega)) (by omega)) (fun a ha => by rw [delS_o _ _ _ _ _ (by omega) (by omega), delS_o _ _ _ _ _ (by omega) (by omega)]; exact h6_1.1 a (by omega) (by omega)) (fun j hj => by rw [delS_z _ _ _ _ _ (by omega), delS_z _ _ _ _ _ (by omega)]; exact h6_1.2.1 j (by omega) (by omega))⟩)
theorem Sm_r {σ τ : St} (h : Sm σ τ) (k : Nat) (hk : (1 ≤ k ∧ k ≤ 9) ∨ k = 17 ∨ 18 ≤ k) : τ k = σ k := h.1 k hk
theorem Sm_n {σ τ : St} (h : Sm σ τ) {n : Nat} (hn : σ 0 8 = nI n) : τ 0 8 = nI n := (h.2.1 8 (Or.inl rfl)).trans hn
theorem bwo_sm {σ τ : St} (h : Sm σ τ) (n a : Nat) : bwoF τ n a = bwoF σ n a := by
  rw [bwoF, bwoF, Sm_r h 4 (by decide), Sm_r h 6 (by decide), Sm_r h 7 (by decide), Sm_r h 8 (by decide)]
theorem bwo2_sm {σ τ : St} (h : Sm σ τ) (n a b : Nat) : bwo2 τ n a b = bwo2 σ n a b := by
  rw [bwo2, bwo2, Sm_r h 4 (by decide), Sm_r h 6 (by decide), Sm_r h 7 (by decide), Sm_r h 8 (by decide)]
def ofO (f : Nat → Int32) (d : Int32) (o : Option Nat) : Int32 := match o with
  | none => d
  | some b => f b
noncomputable def selM (σ : St) (n : Nat) (i : Nat) : Option Nat := minN (fun _ => True) (bwoF σ n) i
noncomputable def selA (σ : St) (n : Nat) (w : Int32) : Int32 := if w = 0 then oI (selM σ n n) else if w = 1 then ofO (bwoF σ n) (-9) (selM σ n n) else -2
theorem isIn01 {w : Int32} : isInP w 0 1 ↔ (w = 0 ∨ w = 1) := by
  constructor
  · intro h
    have h1 := nat_of (v := w) (a := 0) (b := 1) (by decide) (by decide) h.1 h.2
    rcases (show tn w = 0 ∨ tn w = 1 by omega) with e | e
    · left; rw [h1.1, e]; rfl
    · right; rw [h1.1, e]; rfl
  · rintro (rfl | rfl) <;> exact ⟨by decide, by decide⟩
theorem kX6_sell (v : Int32) (n : Nat) (σ : St) (hn : σ 0 8 = nI n) (h7 : n ≤ 7) : Ct yX6_sell cX6_sell 6 (some .int) 4 [.ref 0, .int v] σ (rI (fun r τ => (¬ (v = 0 ∨ v = 1) ∧ r = -2 ∧ τ = noS σ 2) ∨ ((v = 0 ∨ v = 1) ∧ r = selA σ n v ∧ Sm σ τ))) := by
  refine ct_of plX6 rfl (Nat.le_of_ble_eq_true rfl) (fun X hX C => ?_)
  show V X 0 [(0, .ref 0), (1, .int v)] [] σ
  refine v_iload_n C dX6_sell_0 rfl rfl rfl ?_
  refine v_iconst (v := 0) C dX6_sell_1 (by decide) rfl ?_
  refine v_iconst (v := 1) C dX6_sell_2 (by decide) rfl ?_
  refine v_callS C (As := [.int v, .int 0, .int 1]) (rest := []) (kX6_isIn v 0 1 σ) rfl (Nat.le_of_ble_eq_true rfl) (Nat.le_of_ble_eq_true rfl) ⟨mlX6_90, mfX6_isIn⟩ dkX6_isIn (Nat.le_of_ble_eq_true rfl) dX6_sell_3 rfl (kI ?_)
  refine v_if_ne (tgt := 16) C dX6_sell_6 (by decide) rfl (fun c6 => ?_) (fun c6 => ?_)
  · skip
    have c6 := bI_n c6
    refine v_bipush (v := -9) C dX6_sell_16 (by decide) rfl ?_
    refine v_istore_n (lv' := [(2, .int (-9)), (0, .ref 0), (1, .int v)]) C dX6_sell_18 rfl (Nat.le_of_ble_eq_true rfl) rfl rfl ?_
    refine v_bipush (v := -9) C dX6_sell_19 (by decide) rfl ?_
    refine v_istore_n (lv' := [(3, .int (-9)), (2, .int (-9)), (0, .ref 0), (1, .int v)]) C dX6_sell_21 rfl (Nat.le_of_ble_eq_true rfl) rfl rfl ?_
    refine v_iconst (v := 0) C dX6_sell_22 (by decide) rfl ?_
    refine v_istore (lv' := [(4, .int 0), (3, .int (-9)), (2, .int (-9)), (0, .ref 0), (1, .int v)]) C dX6_sell_23 (Nat.le_of_ble_eq_true rfl) rfl rfl ?_
    have lp25 : ∀ (k i : Nat) (x2 : Int32) (x3 : Int32) (τ : St), n < i + k → i ≤ n → x2 = oI (selM σ n i) → x3 = ofO (bwoF σ n) (-9) (selM σ n i) → Sm σ τ → V X 25 [(4, .int (nI i)), (3, .int x3), (2, .int x2), (0, .ref 0), (1, .int v)] [] τ := by
      intro k
      induction k with
      | zero => intro i x2 x3 τ h1 h2; omega
      | succ k ih25 =>
        intro i x2 x3 τ h1 h2 ex2 ex3 eτ
        have hnt : τ 0 8 = nI n := Sm_n eτ hn
        rcases hq : selM σ n i with _ | b
        · have hx : x2 = -9 := by rw [ex2, hq]; rfl
          refine v_iload C dX6_sell_25 rfl rfl ?_
          refine v_aload_n C dX6_sell_27 rfl rfl rfl ?_
          refine v_getI C (Nat.le_of_ble_eq_true rfl) rfl rfl hinX6 8 (Nat.le_of_ble_eq_true rfl) lkX6_65 rfl dX6_sell_28 rfl ?_
          refine V.tp hnt ?_
          refine v_icmp_ge (tgt := 69) C dX6_sell_31 (by decide) rfl (fun c31 => ?_) (fun c31 => ?_)
          · skip
            have c31 := mt (nI_ltI (a := i) (b := n) (by omega) (by omega)).mpr c31
            refine v_iload_n C dX6_sell_69 rfl rfl rfl ?_
            refine v_if_ne (tgt := 77) C dX6_sell_70 (by decide) rfl (fun c70 => ?_) (fun c70 => ?_)
            · skip
              refine v_iload_n C dX6_sell_77 rfl rfl rfl ?_
              exact v_iret C dX6_sell_78 (by rw [hX]; exact ⟨_, rfl, Or.inr ⟨isIn01.mp c6, by rw [selA, if_neg c70, if_pos ((isIn01.mp c6).resolve_left c70), ex3, show i = n by omega], eτ⟩⟩)
            · skip
              refine v_iload_n C dX6_sell_73 rfl rfl rfl ?_
              refine V.tp hx ?_
              refine v_goto (tgt := 78) C dX6_sell_74 (by decide) ?_
              exact v_iret C dX6_sell_78 (by rw [hX]; exact ⟨_, rfl, Or.inr ⟨isIn01.mp c6, hx.symm.trans (by rw [selA, if_pos c70, ex2, show i = n by omega]), eτ⟩⟩)
          · skip
            have c31 := (nI_ltI (a := i) (b := n) (by omega) (by omega)).mp c31
            refine v_aload_n C dX6_sell_34 rfl rfl rfl ?_
            refine v_iload C dX6_sell_35 rfl rfl ?_
            refine v_bipush (v := -9) C dX6_sell_37 (by decide) rfl ?_
            refine v_callV C (Nat.le_of_ble_eq_true rfl) rfl rfl (As := [.int (nI i), .int (-9)]) (rest := []) (kX6_blameWithout1 n i τ hnt h7 (by omega)) rfl (Nat.le_of_ble_eq_true rfl) (Nat.le_of_ble_eq_true rfl) ⟨mlX6_234, mfX6_blameWithout⟩ dkX6_blameWithout (Nat.le_of_ble_eq_true rfl) dX6_sell_39 rfl (krI (fun r42_1 τ42_1 h42_1 => ?_))
            have hvr42_1 : r42_1 = bwoF σ n i := h42_1.1.trans (bwo_sm eτ _ _)
            have hsτ42_1 : Sm σ τ42_1 := eτ.tr h42_1.2
            refine v_istore (lv' := [(5, .int r42_1), (4, .int (nI i)), (3, .int x3), (2, .int x2), (0, .ref 0), (1, .int v)]) C dX6_sell_42 (Nat.le_of_ble_eq_true rfl) rfl rfl ?_
            refine v_iload_n C dX6_sell_44 rfl rfl rfl ?_
            refine V.tp hx ?_
            refine v_if_lt (tgt := 57) C dX6_sell_45 (by decide) rfl (fun _ => ?_) (fun q => absurd q (by decide))
            refine v_iload C dX6_sell_57 rfl rfl ?_
            refine v_istore_n (lv' := [(2, .int (nI i)), (5, .int r42_1), (4, .int (nI i)), (3, .int x3), (0, .ref 0), (1, .int v)]) C dX6_sell_59 rfl (Nat.le_of_ble_eq_true rfl) rfl rfl ?_
            refine v_iload C dX6_sell_60 rfl rfl ?_
            refine v_istore_n (lv' := [(3, .int r42_1), (2, .int (nI i)), (5, .int r42_1), (4, .int (nI i)), (0, .ref 0), (1, .int v)]) C dX6_sell_62 rfl (Nat.le_of_ble_eq_true rfl) rfl rfl ?_
            refine v_iinc (lv' := [(4, .int (nI (i + 1))), (3, .int r42_1), (2, .int (nI i)), (5, .int r42_1), (0, .ref 0), (1, .int v)]) C dX6_sell_63 rfl (nI_inc i) (Nat.le_of_ble_eq_true rfl) rfl rfl ?_
            refine v_goto (tgt := 25) C dX6_sell_66 (by decide) ?_
            exact V.sub [0, 1, 2, 4, 5] rfl (ih25 (i + 1) _ _ _ (by omega) (by omega) (by rw [show selM σ n (i + 1) = some i by unfold selM at hq ⊢; rw [minN, hq]; exact cI_t trivial]; exact rfl) (by rw [show selM σ n (i + 1) = some i by unfold selM at hq ⊢; rw [minN, hq]; exact cI_t trivial]; exact hvr42_1) (hsτ42_1))
        · have hx : x2 = nI b := by rw [ex2, hq]; rfl
          have hx3 : x3 = bwoF σ n b := by rw [ex3, hq]; rfl
          have hbl := minN_lt hq
          refine v_iload C dX6_sell_25 rfl rfl ?_
          refine v_aload_n C dX6_sell_27 rfl rfl rfl ?_
          refine v_getI C (Nat.le_of_ble_eq_true rfl) rfl rfl hinX6 8 (Nat.le_of_ble_eq_true rfl) lkX6_65 rfl dX6_sell_28 rfl ?_
          refine V.tp hnt ?_
          refine v_icmp_ge (tgt := 69) C dX6_sell_31 (by decide) rfl (fun c31 => ?_) (fun c31 => ?_)
          · skip
            have c31 := mt (nI_ltI (a := i) (b := n) (by omega) (by omega)).mpr c31
            refine v_iload_n C dX6_sell_69 rfl rfl rfl ?_
            refine v_if_ne (tgt := 77) C dX6_sell_70 (by decide) rfl (fun c70 => ?_) (fun c70 => ?_)
            · skip
              refine v_iload_n C dX6_sell_77 rfl rfl rfl ?_
              exact v_iret C dX6_sell_78 (by rw [hX]; exact ⟨_, rfl, Or.inr ⟨isIn01.mp c6, by rw [selA, if_neg c70, if_pos ((isIn01.mp c6).resolve_left c70), ex3, show i = n by omega], eτ⟩⟩)
            · skip
              refine v_iload_n C dX6_sell_73 rfl rfl rfl ?_
              refine V.tp hx ?_
              refine v_goto (tgt := 78) C dX6_sell_74 (by decide) ?_
              exact v_iret C dX6_sell_78 (by rw [hX]; exact ⟨_, rfl, Or.inr ⟨isIn01.mp c6, hx.symm.trans (by rw [selA, if_pos c70, ex2, show i = n by omega]), eτ⟩⟩)
          · skip
            have c31 := (nI_ltI (a := i) (b := n) (by omega) (by omega)).mp c31
            refine v_aload_n C dX6_sell_34 rfl rfl rfl ?_
            refine v_iload C dX6_sell_35 rfl rfl ?_
            refine v_bipush (v := -9) C dX6_sell_37 (by decide) rfl ?_
            refine v_callV C (Nat.le_of_ble_eq_true rfl) rfl rfl (As := [.int (nI i), .int (-9)]) (rest := []) (kX6_blameWithout1 n i τ hnt h7 (by omega)) rfl (Nat.le_of_ble_eq_true rfl) (Nat.le_of_ble_eq_true rfl) ⟨mlX6_234, mfX6_blameWithout⟩ dkX6_blameWithout (Nat.le_of_ble_eq_true rfl) dX6_sell_39 rfl (krI (fun r42_2 τ42_2 h42_2 => ?_))
            have hvr42_2 : r42_2 = bwoF σ n i := h42_2.1.trans (bwo_sm eτ _ _)
            have hsτ42_2 : Sm σ τ42_2 := eτ.tr h42_2.2
            refine v_istore (lv' := [(5, .int r42_2), (4, .int (nI i)), (3, .int x3), (2, .int x2), (0, .ref 0), (1, .int v)]) C dX6_sell_42 (Nat.le_of_ble_eq_true rfl) rfl rfl ?_
            refine v_iload_n C dX6_sell_44 rfl rfl rfl ?_
            refine V.tp hx ?_
            refine v_if_lt (tgt := 57) C dX6_sell_45 (by decide) rfl (fun q => absurd q (nI_pos (by omega))) (fun _ => ?_)
            refine v_iload C dX6_sell_48 rfl rfl ?_
            refine v_iload_n C dX6_sell_50 rfl rfl rfl ?_
            refine v_icmp_lt (tgt := 57) C dX6_sell_51 (by decide) rfl (fun c51 => ?_) (fun c51 => ?_)
            · skip
              refine v_iload C dX6_sell_57 rfl rfl ?_
              refine v_istore_n (lv' := [(2, .int (nI i)), (5, .int r42_2), (4, .int (nI i)), (3, .int x3), (0, .ref 0), (1, .int v)]) C dX6_sell_59 rfl (Nat.le_of_ble_eq_true rfl) rfl rfl ?_
              refine v_iload C dX6_sell_60 rfl rfl ?_
              refine v_istore_n (lv' := [(3, .int r42_2), (2, .int (nI i)), (5, .int r42_2), (4, .int (nI i)), (0, .ref 0), (1, .int v)]) C dX6_sell_62 rfl (Nat.le_of_ble_eq_true rfl) rfl rfl ?_
              refine v_iinc (lv' := [(4, .int (nI (i + 1))), (3, .int r42_2), (2, .int (nI i)), (5, .int r42_2), (0, .ref 0), (1, .int v)]) C dX6_sell_63 rfl (nI_inc i) (Nat.le_of_ble_eq_true rfl) rfl rfl ?_
              refine v_goto (tgt := 25) C dX6_sell_66 (by decide) ?_
              exact V.sub [0, 1, 2, 4, 5] rfl (ih25 (i + 1) _ _ _ (by omega) (by omega) (by rw [show selM σ n (i + 1) = some i by unfold selM at hq ⊢; rw [minN, hq]; exact cI_t ⟨trivial, by rw [← hvr42_2, ← hx3]; exact c51⟩]; exact rfl) (by rw [show selM σ n (i + 1) = some i by unfold selM at hq ⊢; rw [minN, hq]; exact cI_t ⟨trivial, by rw [← hvr42_2, ← hx3]; exact c51⟩]; exact hvr42_2) (hsτ42_2))
            · skip
              refine v_goto (tgt := 63) C dX6_sell_54 (by decide) ?_
              refine v_iinc (lv' := [(4, .int (nI (i + 1))), (5, .int r42_2), (3, .int x3), (2, .int x2), (0, .ref 0), (1, .int v)]) C dX6_sell_63 rfl (nI_inc i) (Nat.le_of_ble_eq_true rfl) rfl rfl ?_
              refine v_goto (tgt := 25) C dX6_sell_66 (by decide) ?_
              exact V.sub [0, 2, 3, 4, 5] rfl (ih25 (i + 1) _ _ _ (by omega) (by omega) (by rw [show selM σ n (i + 1) = selM σ n i by unfold selM at hq ⊢; rw [minN, hq]; exact cI_f (fun q => c51 (by rw [hvr42_2, hx3]; exact q.2))]; exact ex2) (by rw [show selM σ n (i + 1) = selM σ n i by unfold selM at hq ⊢; rw [minN, hq]; exact cI_f (fun q => c51 (by rw [hvr42_2, hx3]; exact q.2))]; exact ex3) (hsτ42_2))
    exact V.sub [0, 1, 2, 3, 4] rfl (lp25 (n + 1) 0 _ _ _ (by omega) (by omega) (rfl) (rfl) (Sm.rf σ))
  · skip
    have c6 := bI_0 c6
    refine v_aload_n C dX6_sell_9 rfl rfl rfl ?_
    refine v_bipush (v := -2) C dX6_sell_10 (by decide) rfl ?_
    refine v_callV C (Nat.le_of_ble_eq_true rfl) rfl rfl (As := [.int (-2)]) (rest := []) (kX6_no (-2) 2 σ (by decide) (by decide)) rfl (Nat.le_of_ble_eq_true rfl) (Nat.le_of_ble_eq_true rfl) ⟨mlX6_79, mfX6_no⟩ dkX6_no (Nat.le_of_ble_eq_true rfl) dX6_sell_12 rfl (kI ?_)
    exact v_iret C dX6_sell_15 (by rw [hX]; exact ⟨_, rfl, Or.inl ⟨fun q => c6 (isIn01.mpr q), rfl, rfl⟩⟩)
noncomputable def burQ (σ : St) (n a b : Nat) (o : Option (Nat × Nat)) : Option (Nat × Nat) := match o with
  | none => some (a, b)
  | some q => cI (bwo2 σ n a b < bwo2 σ n q.1 q.2) (some (a, b)) (some q)
noncomputable def burR (σ : St) (n a : Nat) (o : Option (Nat × Nat)) : Nat → Option (Nat × Nat)
  | 0 => o
  | t + 1 => burQ σ n a (a + 1 + t) (burR σ n a o t)
noncomputable def burM (σ : St) (n : Nat) : Nat → Option (Nat × Nat)
  | 0 => none
  | a + 1 => burR σ n a (burM σ n a) (n - (a + 1))
def o2I (o : Option (Nat × Nat)) : Int32 := match o with
  | none => -9
  | some q => nI (10 * q.1 + q.2)
def o2F (f : Nat → Nat → Int32) (o : Option (Nat × Nat)) : Int32 := match o with
  | none => 0
  | some q => f q.1 q.2
def lesF (o : Option (Nat × Nat)) (n : Nat) : Prop := match o with
  | none => True
  | some q => q.1 < n ∧ q.2 < n
theorem burQ_les {σ : St} {n a b : Nat} {o : Option (Nat × Nat)} (ha : a < n) (hb : b < n) (h : lesF o n) : lesF (burQ σ n a b o) n := by
  cases o with
  | none => exact ⟨ha, hb⟩
  | some q =>
    simp only [burQ]
    by_cases g : bwo2 σ n a b < bwo2 σ n q.1 q.2
    · rw [cI_t g]; exact ⟨ha, hb⟩
    · rw [cI_f g]; exact h
theorem kX6_burn (n : Nat) (σ : St) (hn : σ 0 8 = nI n) (h7 : n ≤ 7) : Ct yX6_burn cX6_burn 6 (some .int) 4 [.ref 0] σ (rI (fun r τ => r = o2I (burM σ n n) ∧ Sm σ τ)) := by
  refine ct_of plX6 rfl (Nat.le_of_ble_eq_true rfl) (fun X hX C => ?_)
  show V X 0 [(0, .ref 0)] [] σ
  refine v_bipush (v := -9) C dX6_burn_0 (by decide) rfl ?_
  refine v_istore_n (lv' := [(1, .int (-9)), (0, .ref 0)]) C dX6_burn_2 rfl (Nat.le_of_ble_eq_true rfl) rfl rfl ?_
  refine v_iconst (v := 0) C dX6_burn_3 (by decide) rfl ?_
  refine v_istore_n (lv' := [(2, .int 0), (1, .int (-9)), (0, .ref 0)]) C dX6_burn_4 rfl (Nat.le_of_ble_eq_true rfl) rfl rfl ?_
  refine v_iconst (v := 0) C dX6_burn_5 (by decide) rfl ?_
  refine v_istore_n (lv' := [(3, .int 0), (2, .int 0), (1, .int (-9)), (0, .ref 0)]) C dX6_burn_6 rfl (Nat.le_of_ble_eq_true rfl) rfl rfl ?_
  have lp7 : ∀ (k i : Nat) (x1 : Int32) (x2 : Int32) (τ : St), n < i + k → i ≤ n → x1 = o2I (burM σ n i) → x2 = o2F (bwo2 σ n) (burM σ n i) → Sm σ τ → (lesF (burM σ n i) n) → V X 7 [(3, .int (nI i)), (2, .int x2), (1, .int x1), (0, .ref 0)] [] τ := by
    intro k
    induction k with
    | zero => intro i x1 x2 τ h1 h2; omega
    | succ k ih7 =>
      intro i x1 x2 τ h1 h2 ex1 ex2 eτ hlm
      have hnτ : τ 0 8 = nI n := Sm_n eτ hn
      refine v_iload_n C dX6_burn_7 rfl rfl rfl ?_
      refine v_aload_n C dX6_burn_8 rfl rfl rfl ?_
      refine v_getI C (Nat.le_of_ble_eq_true rfl) rfl rfl hinX6 8 (Nat.le_of_ble_eq_true rfl) lkX6_65 rfl dX6_burn_9 rfl ?_
      refine V.tp hnτ ?_
      refine v_icmp_ge (tgt := 74) C dX6_burn_12 (by decide) rfl (fun c12 => ?_) (fun c12 => ?_)
      · skip
        have c12 := mt (nI_ltI (a := i) (b := n) (by omega) (by omega)).mpr c12
        refine v_iload_n C dX6_burn_74 rfl rfl rfl ?_
        exact v_iret C dX6_burn_75 (by rw [hX]; exact ⟨_, rfl, by rw [ex1, show i = n by omega], eτ⟩)
      · skip
        have c12 := (nI_ltI (a := i) (b := n) (by omega) (by omega)).mp c12
        refine v_iload_n C dX6_burn_15 rfl rfl rfl ?_
        refine v_iconst (v := 1) C dX6_burn_16 (by decide) rfl ?_
        refine v_iadd C dX6_burn_17 rfl ?_
        refine V.tp (nI_add i 1) ?_
        refine v_istore (lv' := [(4, .int (nI (i + 1))), (3, .int (nI i)), (2, .int x2), (1, .int x1), (0, .ref 0)]) C dX6_burn_18 (Nat.le_of_ble_eq_true rfl) rfl rfl ?_
        have lp20 : ∀ (k j : Nat) (y1 : Int32) (y2 : Int32) (υ : St), n < j + k → j ≤ n → y1 = o2I (burR σ n i (burM σ n i) (j - (i + 1))) → y2 = o2F (bwo2 σ n) (burR σ n i (burM σ n i) (j - (i + 1))) → Sm σ υ → (i + 1 ≤ j) → (lesF (burR σ n i (burM σ n i) (j - (i + 1))) n) → V X 20 [(4, .int (nI j)), (3, .int (nI i)), (2, .int y2), (1, .int y1), (0, .ref 0)] [] υ := by
          intro k
          induction k with
          | zero => intro j y1 y2 υ h1 h2; omega
          | succ k ih20 =>
            intro j y1 y2 υ h1 h2 ey1 ey2 eυ hij hles
            have hnυ : υ 0 8 = nI n := Sm_n eυ hn
            rcases hq : burR σ n i (burM σ n i) (j - (i + 1)) with _ | q
            · have hx : y1 = -9 := by rw [ey1, hq]; rfl
              refine v_iload C dX6_burn_20 rfl rfl ?_
              refine v_aload_n C dX6_burn_22 rfl rfl rfl ?_
              refine v_getI C (Nat.le_of_ble_eq_true rfl) rfl rfl hinX6 8 (Nat.le_of_ble_eq_true rfl) lkX6_65 rfl dX6_burn_23 rfl ?_
              refine V.tp hnυ ?_
              refine v_icmp_ge (tgt := 68) C dX6_burn_26 (by decide) rfl (fun c26 => ?_) (fun c26 => ?_)
              · skip
                have c26 := mt (nI_ltI (a := j) (b := n) (by omega) (by omega)).mpr c26
                refine v_iinc (lv' := [(3, .int (nI (i + 1))), (4, .int (nI j)), (2, .int y2), (1, .int y1), (0, .ref 0)]) C dX6_burn_68 rfl (nI_inc i) (Nat.le_of_ble_eq_true rfl) rfl rfl ?_
                refine v_goto (tgt := 7) C dX6_burn_71 (by decide) ?_
                exact V.sub [0, 2, 3, 4] rfl (ih7 (i + 1) _ _ _ (by omega) (by omega) (by rw [burM, show n - (i + 1) = j - (i + 1) by omega]; exact ey1) (by rw [burM, show n - (i + 1) = j - (i + 1) by omega]; exact ey2) (eυ) (by rw [burM, show n - (i + 1) = j - (i + 1) by omega]; exact hles))
              · skip
                have c26 := (nI_ltI (a := j) (b := n) (by omega) (by omega)).mp c26
                refine v_aload_n C dX6_burn_29 rfl rfl rfl ?_
                refine v_iload_n C dX6_burn_30 rfl rfl rfl ?_
                refine v_iload C dX6_burn_31 rfl rfl ?_
                refine v_callV C (Nat.le_of_ble_eq_true rfl) rfl rfl (As := [.int (nI i), .int (nI j)]) (rest := []) (kX6_blameWithout2 n i j υ hnυ h7 (by omega) (by omega)) rfl (Nat.le_of_ble_eq_true rfl) (Nat.le_of_ble_eq_true rfl) ⟨mlX6_234, mfX6_blameWithout⟩ dkX6_blameWithout (Nat.le_of_ble_eq_true rfl) dX6_burn_33 rfl (krI (fun r36_1 τ36_1 h36_1 => ?_))
                have hvr36_1 : r36_1 = bwo2 σ n i j := h36_1.1.trans (bwo2_sm eυ _ _ _)
                have hsτ36_1 : Sm σ τ36_1 := eυ.tr h36_1.2
                refine v_istore (lv' := [(5, .int r36_1), (4, .int (nI j)), (3, .int (nI i)), (2, .int y2), (1, .int y1), (0, .ref 0)]) C dX6_burn_36 (Nat.le_of_ble_eq_true rfl) rfl rfl ?_
                refine v_iload_n C dX6_burn_38 rfl rfl rfl ?_
                refine V.tp hx ?_
                refine v_if_lt (tgt := 51) C dX6_burn_39 (by decide) rfl (fun _ => ?_) (fun q => absurd q (by decide))
                refine v_bipush (v := 10) C dX6_burn_51 (by decide) rfl ?_
                refine v_iload_n C dX6_burn_53 rfl rfl rfl ?_
                refine v_imul C dX6_burn_54 rfl ?_
                refine V.tp (pk_mul 10 i) ?_
                refine v_iload C dX6_burn_55 rfl rfl ?_
                refine v_iadd C dX6_burn_57 rfl ?_
                refine V.tp (nI_add (10 * i) j) ?_
                refine V.top (fun v58_2 ev58_2 => ?_)
                refine v_istore_n (lv' := [(1, .int v58_2), (5, .int r36_1), (4, .int (nI j)), (3, .int (nI i)), (2, .int y2), (0, .ref 0)]) C dX6_burn_58 rfl (Nat.le_of_ble_eq_true rfl) rfl rfl ?_
                refine v_iload C dX6_burn_59 rfl rfl ?_
                refine v_istore_n (lv' := [(2, .int r36_1), (1, .int v58_2), (5, .int r36_1), (4, .int (nI j)), (3, .int (nI i)), (0, .ref 0)]) C dX6_burn_61 rfl (Nat.le_of_ble_eq_true rfl) rfl rfl ?_
                refine v_iinc (lv' := [(4, .int (nI (j + 1))), (2, .int r36_1), (1, .int v58_2), (5, .int r36_1), (3, .int (nI i)), (0, .ref 0)]) C dX6_burn_62 rfl (nI_inc j) (Nat.le_of_ble_eq_true rfl) rfl rfl ?_
                refine v_goto (tgt := 20) C dX6_burn_65 (by decide) ?_
                exact V.sub [0, 4, 1, 2, 5] rfl (ih20 (j + 1) _ _ _ (by omega) (by omega) (by rw [show burR σ n i (burM σ n i) (j + 1 - (i + 1)) = some (i, j) by rw [show j + 1 - (i + 1) = (j - (i + 1)) + 1 by omega, burR, show i + 1 + (j - (i + 1)) = j by omega, hq, burQ]]; exact ev58_2) (by rw [show burR σ n i (burM σ n i) (j + 1 - (i + 1)) = some (i, j) by rw [show j + 1 - (i + 1) = (j - (i + 1)) + 1 by omega, burR, show i + 1 + (j - (i + 1)) = j by omega, hq, burQ]]; exact hvr36_1) (hsτ36_1) (by omega) (by rw [show j + 1 - (i + 1) = (j - (i + 1)) + 1 by omega, burR, show i + 1 + (j - (i + 1)) = j by omega]; exact burQ_les (by omega) (by omega) hles))
            · have hx : y1 = nI (10 * q.1 + q.2) := by rw [ey1, hq]; rfl
              have hx3 : y2 = bwo2 σ n q.1 q.2 := by rw [ey2, hq]; rfl
              have hqb : q.1 < n ∧ q.2 < n := by rw [hq] at hles; exact hles
              refine v_iload C dX6_burn_20 rfl rfl ?_
              refine v_aload_n C dX6_burn_22 rfl rfl rfl ?_
              refine v_getI C (Nat.le_of_ble_eq_true rfl) rfl rfl hinX6 8 (Nat.le_of_ble_eq_true rfl) lkX6_65 rfl dX6_burn_23 rfl ?_
              refine V.tp hnυ ?_
              refine v_icmp_ge (tgt := 68) C dX6_burn_26 (by decide) rfl (fun c26 => ?_) (fun c26 => ?_)
              · skip
                have c26 := mt (nI_ltI (a := j) (b := n) (by omega) (by omega)).mpr c26
                refine v_iinc (lv' := [(3, .int (nI (i + 1))), (4, .int (nI j)), (2, .int y2), (1, .int y1), (0, .ref 0)]) C dX6_burn_68 rfl (nI_inc i) (Nat.le_of_ble_eq_true rfl) rfl rfl ?_
                refine v_goto (tgt := 7) C dX6_burn_71 (by decide) ?_
                exact V.sub [0, 2, 3, 4] rfl (ih7 (i + 1) _ _ _ (by omega) (by omega) (by rw [burM, show n - (i + 1) = j - (i + 1) by omega]; exact ey1) (by rw [burM, show n - (i + 1) = j - (i + 1) by omega]; exact ey2) (eυ) (by rw [burM, show n - (i + 1) = j - (i + 1) by omega]; exact hles))
              · skip
                have c26 := (nI_ltI (a := j) (b := n) (by omega) (by omega)).mp c26
                refine v_aload_n C dX6_burn_29 rfl rfl rfl ?_
                refine v_iload_n C dX6_burn_30 rfl rfl rfl ?_
                refine v_iload C dX6_burn_31 rfl rfl ?_
                refine v_callV C (Nat.le_of_ble_eq_true rfl) rfl rfl (As := [.int (nI i), .int (nI j)]) (rest := []) (kX6_blameWithout2 n i j υ hnυ h7 (by omega) (by omega)) rfl (Nat.le_of_ble_eq_true rfl) (Nat.le_of_ble_eq_true rfl) ⟨mlX6_234, mfX6_blameWithout⟩ dkX6_blameWithout (Nat.le_of_ble_eq_true rfl) dX6_burn_33 rfl (krI (fun r36_3 τ36_3 h36_3 => ?_))
                have hvr36_3 : r36_3 = bwo2 σ n i j := h36_3.1.trans (bwo2_sm eυ _ _ _)
                have hsτ36_3 : Sm σ τ36_3 := eυ.tr h36_3.2
                refine v_istore (lv' := [(5, .int r36_3), (4, .int (nI j)), (3, .int (nI i)), (2, .int y2), (1, .int y1), (0, .ref 0)]) C dX6_burn_36 (Nat.le_of_ble_eq_true rfl) rfl rfl ?_
                refine v_iload_n C dX6_burn_38 rfl rfl rfl ?_
                refine V.tp hx ?_
                refine v_if_lt (tgt := 51) C dX6_burn_39 (by decide) rfl (fun q => absurd q (nI_pos (by omega))) (fun _ => ?_)
                refine v_iload C dX6_burn_42 rfl rfl ?_
                refine v_iload_n C dX6_burn_44 rfl rfl rfl ?_
                refine v_icmp_lt (tgt := 51) C dX6_burn_45 (by decide) rfl (fun c45 => ?_) (fun c45 => ?_)
                · skip
                  refine v_bipush (v := 10) C dX6_burn_51 (by decide) rfl ?_
                  refine v_iload_n C dX6_burn_53 rfl rfl rfl ?_
                  refine v_imul C dX6_burn_54 rfl ?_
                  refine V.tp (pk_mul 10 i) ?_
                  refine v_iload C dX6_burn_55 rfl rfl ?_
                  refine v_iadd C dX6_burn_57 rfl ?_
                  refine V.tp (nI_add (10 * i) j) ?_
                  refine V.top (fun v58_4 ev58_4 => ?_)
                  refine v_istore_n (lv' := [(1, .int v58_4), (5, .int r36_3), (4, .int (nI j)), (3, .int (nI i)), (2, .int y2), (0, .ref 0)]) C dX6_burn_58 rfl (Nat.le_of_ble_eq_true rfl) rfl rfl ?_
                  refine v_iload C dX6_burn_59 rfl rfl ?_
                  refine v_istore_n (lv' := [(2, .int r36_3), (1, .int v58_4), (5, .int r36_3), (4, .int (nI j)), (3, .int (nI i)), (0, .ref 0)]) C dX6_burn_61 rfl (Nat.le_of_ble_eq_true rfl) rfl rfl ?_
                  refine v_iinc (lv' := [(4, .int (nI (j + 1))), (2, .int r36_3), (1, .int v58_4), (5, .int r36_3), (3, .int (nI i)), (0, .ref 0)]) C dX6_burn_62 rfl (nI_inc j) (Nat.le_of_ble_eq_true rfl) rfl rfl ?_
                  refine v_goto (tgt := 20) C dX6_burn_65 (by decide) ?_
                  exact V.sub [0, 4, 1, 2, 5] rfl (ih20 (j + 1) _ _ _ (by omega) (by omega) (by rw [show burR σ n i (burM σ n i) (j + 1 - (i + 1)) = some (i, j) by rw [show j + 1 - (i + 1) = (j - (i + 1)) + 1 by omega, burR, show i + 1 + (j - (i + 1)) = j by omega, hq, burQ]; exact cI_t (by rw [← hvr36_3, ← hx3]; exact c45)]; exact ev58_4) (by rw [show burR σ n i (burM σ n i) (j + 1 - (i + 1)) = some (i, j) by rw [show j + 1 - (i + 1) = (j - (i + 1)) + 1 by omega, burR, show i + 1 + (j - (i + 1)) = j by omega, hq, burQ]; exact cI_t (by rw [← hvr36_3, ← hx3]; exact c45)]; exact hvr36_3) (hsτ36_3) (by omega) (by rw [show j + 1 - (i + 1) = (j - (i + 1)) + 1 by omega, burR, show i + 1 + (j - (i + 1)) = j by omega]; exact burQ_les (by omega) (by omega) hles))
                · skip
                  refine v_goto (tgt := 62) C dX6_burn_48 (by decide) ?_
                  refine v_iinc (lv' := [(4, .int (nI (j + 1))), (5, .int r36_3), (3, .int (nI i)), (2, .int y2), (1, .int y1), (0, .ref 0)]) C dX6_burn_62 rfl (nI_inc j) (Nat.le_of_ble_eq_true rfl) rfl rfl ?_
                  refine v_goto (tgt := 20) C dX6_burn_65 (by decide) ?_
                  exact V.sub [0, 2, 3, 4, 5] rfl (ih20 (j + 1) _ _ _ (by omega) (by omega) (by rw [show burR σ n i (burM σ n i) (j + 1 - (i + 1)) = some q by rw [show j + 1 - (i + 1) = (j - (i + 1)) + 1 by omega, burR, show i + 1 + (j - (i + 1)) = j by omega, hq, burQ]; exact cI_f (fun z => c45 (by rw [hvr36_3, hx3]; exact z))]; exact hx) (by rw [show burR σ n i (burM σ n i) (j + 1 - (i + 1)) = some q by rw [show j + 1 - (i + 1) = (j - (i + 1)) + 1 by omega, burR, show i + 1 + (j - (i + 1)) = j by omega, hq, burQ]; exact cI_f (fun z => c45 (by rw [hvr36_3, hx3]; exact z))]; exact hx3) (hsτ36_3) (by omega) (by rw [show j + 1 - (i + 1) = (j - (i + 1)) + 1 by omega, burR, show i + 1 + (j - (i + 1)) = j by omega]; exact burQ_les (by omega) (by omega) hles))
        exact V.sub [0, 1, 2, 3, 4] rfl (lp20 (n + 1) (i + 1) x1 x2 _ (by omega) (by omega) (by rw [Nat.sub_self]; exact ex1) (by rw [Nat.sub_self]; exact ex2) (eτ) (by omega) (by rw [Nat.sub_self]; exact hlm))
  exact V.sub [0, 1, 2, 3] rfl (lp7 (n + 1) 0 _ 0 _ (by omega) (by omega) (rfl) (rfl) (Sm.rf σ) (trivial))
end
section
/-! the check's class: years ahead, the row, lots, counts, the image -/
def laF (σ : St) (n m : Nat) : Int32 := binF (σ 4) (yrs n σ m 6) (yrs n σ m 7) (σ 8) n 10
theorem yrs_cg {σ τ : St} (n : Nat) (h4 : τ 4 = σ 4) (h6 : τ 6 = σ 6) (h7 : τ 7 = σ 7) (hy : τ 0 10 = σ 0 10) : ∀ m, yrs n τ m 6 = yrs n σ m 6 ∧ yrs n τ m 7 = yrs n σ m 7 ∧ yrs n τ m 0 10 = yrs n σ m 0 10
  | 0 => ⟨h6, h7, hy⟩
  | m + 1 => by
    obtain ⟨i6, i7, iy⟩ := yrs_cg n h4 h6 h7 hy m
    have j4 : yrs n τ m 4 = yrs n σ m 4 := by rw [yrs_o _ _ _ (by decide) (by decide) (by decide), yrs_o _ _ _ (by decide) (by decide) (by decide), h4]
    exact ⟨by rw [yrs, yrs, yrP_6, yrP_6, i6, iy, j4], by rw [yrs, yrs, yrP_7, yrP_7, i7], by rw [yrs, yrs, yrP_y, yrP_y, iy]⟩
theorem laF_cg {σ τ : St} (n : Nat) (h4 : τ 4 = σ 4) (h6 : τ 6 = σ 6) (h7 : τ 7 = σ 7) (h8 : τ 8 = σ 8) (hy : τ 0 10 = σ 0 10) (m : Nat) : laF τ n m = laF σ n m := by
  obtain ⟨i6, i7, -⟩ := yrs_cg n h4 h6 h7 hy m
  rw [laF, laF, i6, i7, h4, h8]
theorem laF_sm {σ τ : St} (h : Sm σ τ) (n m : Nat) : laF τ n m = laF σ n m := laF_cg n (Sm_r h 4 (by decide)) (Sm_r h 6 (by decide)) (Sm_r h 7 (by decide)) (Sm_r h 8 (by decide)) (h.2.1 10 (by decide)) m
theorem kX6_blameBehind (n m : Nat) (σ : St) (hn : σ 0 8 = nI n) (h7 : n ≤ 7) (hm : m < 1000) : Ct yX6_blameBehind cX6_blameBehind 3 (some .int) 3 [.ref 0, .int (nI m)] σ (rI (fun v τ => v = laF σ n m ∧ Sm σ τ)) := by
  refine ct_of plX6 rfl (Nat.le_of_ble_eq_true rfl) (fun X hX C => ?_)
  show V X 0 [(0, .ref 0), (1, .int (nI m))] [] σ
  refine v_aload_n C dX6_blameBehind_0 rfl rfl rfl ?_
  refine v_iconst (v := 1) C dX6_blameBehind_1 (by decide) rfl ?_
  refine v_iconst (v := 1) C dX6_blameBehind_2 (by decide) rfl ?_
  refine v_callV C (Nat.le_of_ble_eq_true rfl) rfl rfl (As := [.int 1, .int 1]) (rest := []) (kX6_passesAllK1 σ) rfl (Nat.le_of_ble_eq_true rfl) (Nat.le_of_ble_eq_true rfl) ⟨mlX6_139, mfX6_passesAll⟩ dkX6_passesAll (Nat.le_of_ble_eq_true rfl) dX6_blameBehind_3 rfl (krV (fun τ6_1 h6_1 => ?_))
  have hnτ6_1 : τ6_1 0 8 = nI n := by rw [h6_1.2.1 8 (by decide) (by decide)]; exact hn
  refine v_aload_n C dX6_blameBehind_6 rfl rfl rfl ?_
  refine v_iload_n C dX6_blameBehind_7 rfl rfl rfl ?_
  refine v_callV C (Nat.le_of_ble_eq_true rfl) rfl rfl (As := [.int (nI m)]) (rest := []) (kX6_goes n m τ6_1 hnτ6_1 h7 (by omega)) rfl (Nat.le_of_ble_eq_true rfl) (Nat.le_of_ble_eq_true rfl) ⟨mlX6_131, mfX6_goes⟩ dkX6_goes (Nat.le_of_ble_eq_true rfl) dX6_blameBehind_8 rfl (kV ?_)
  refine v_aload_n C dX6_blameBehind_11 rfl rfl rfl ?_
  refine v_bipush (v := 10) C dX6_blameBehind_12 (by decide) rfl ?_
  refine v_callV C (Nat.le_of_ble_eq_true rfl) rfl rfl (As := [.int 10]) (rest := []) (kX6_blameIn n 10 (yrs n τ6_1 m) (by rw [yrs_z _ _ _ (by decide)]; exact hnτ6_1) h7) rfl (Nat.le_of_ble_eq_true rfl) (Nat.le_of_ble_eq_true rfl) ⟨mlX6_178, mfX6_blameIn⟩ dkX6_blameIn (Nat.le_of_ble_eq_true rfl) dX6_blameBehind_14 rfl (kI ?_)
  refine V.top (fun v17_2 ev17_2 => ?_)
  refine v_istore_n (lv' := [(2, .int v17_2), (0, .ref 0), (1, .int (nI m))]) C dX6_blameBehind_17 rfl (Nat.le_of_ble_eq_true rfl) rfl rfl ?_
  refine v_aload_n C dX6_blameBehind_18 rfl rfl rfl ?_
  refine v_iconst (v := 1) C dX6_blameBehind_19 (by decide) rfl ?_
  refine v_iconst (v := 0) C dX6_blameBehind_20 (by decide) rfl ?_
  refine v_callV C (Nat.le_of_ble_eq_true rfl) rfl rfl (As := [.int 1, .int 0]) (rest := []) (kX6_passesAllB1 (yrs n τ6_1 m)) rfl (Nat.le_of_ble_eq_true rfl) (Nat.le_of_ble_eq_true rfl) ⟨mlX6_139, mfX6_passesAll⟩ dkX6_passesAll (Nat.le_of_ble_eq_true rfl) dX6_blameBehind_21 rfl (krV (fun τ24_3 h24_3 => ?_))
  refine v_iload_n C dX6_blameBehind_24 rfl rfl rfl ?_
  exact v_iret C dX6_blameBehind_25 (by rw [hX]; exact ⟨_, rfl, by rw [ev17_2, yrs_o _ _ 4 (by decide) (by decide) (by decide), yrs_o _ _ 8 (by decide) (by decide) (by decide)]; exact laF_cg n (h6_1.1 4 (by decide) (by decide)) (h6_1.1 6 (by decide) (by decide)) (h6_1.1 7 (by decide) (by decide)) (h6_1.1 8 (by decide) (by decide)) (h6_1.2.1 10 (by decide) (by decide)) m, KB h6_1 h24_3 (yrs_o _ _ _ (by decide) (by decide) (by decide) _) (Bd_yrs (Svp_Bd h6_1) h7 m) (fun a ha => by rw [yrs_o _ _ _ (by omega) (by omega) (by omega)]; exact h6_1.1 a (by omega) (by omega)) (fun j hj => by rw [yrs_z _ _ _ (by omega)]; exact h6_1.2.1 j (by omega) (by omega))⟩)
theorem first_some {P : Nat → Prop} {i : Nat} (h : ∀ j, j < i → ¬ P j) (hi : P i) : ∀ m, i < m → minN P (fun _ => 0) m = some i := by
  have h0 : ∀ k, k ≤ i → minN P (fun _ => 0) k = none := by
    intro k
    induction k with
    | zero => intro _; rfl
    | succ k ih => intro hk; rw [minN, ih (by omega)]; exact cI_f (h k (by omega))
  intro m
  induction m with
  | zero => intro h; omega
  | succ m ih =>
    intro hm
    by_cases e : m = i
    · subst e; rw [minN, h0 m (by omega)]; exact cI_t hi
    · rw [minN, ih (by omega)]; exact cI_f (fun q => absurd q.2 (by decide))
theorem first_none {P : Nat → Prop} : ∀ m, (∀ j, j < m → ¬ P j) → minN P (fun _ => 0) m = none
  | 0, _ => rfl
  | m + 1, h => by rw [minN, first_none m (fun j hj => h j (by omega))]; exact cI_f (h m (by omega))
noncomputable def fstN (P : Nat → Prop) (m : Nat) : Int32 := oI (minN P (fun _ => 0) m)
theorem fst_some {P : Nat → Prop} {i m : Nat} (h : ∀ j, j < i → ¬ P j) (hi : P i) (hm : i < m) : nI i = fstN P m := by rw [fstN, first_some h hi m hm]; rfl
theorem fst_none {P : Nat → Prop} {m : Nat} (h : ∀ j, j < m → ¬ P j) : -9 = fstN P m := by rw [fstN, first_none m h]; rfl
def latA (σ : St) (n : Nat) (v : Int32) : Int32 := if v < 0 then -4 else if 200 < v then -6 else laF σ n (tn v)
noncomputable def gonA (σ : St) (n : Nat) (v : Int32) : Int32 := if v < 0 then -4 else if 999 < v then -6 else fstN (fun k => ¬ v < laF σ n k) 201
theorem kX6_later (v : Int32) (n : Nat) (σ : St) (hn : σ 0 8 = nI n) (h7 : n ≤ 7) : Ct yX6_later cX6_later 3 (some .int) 4 [.ref 0, .int v] σ (rI (fun r τ => r = latA σ n v ∧ ((v < 0 ∧ τ = noS σ 4) ∨ (¬ v < 0 ∧ 200 < v ∧ τ = noS σ 6) ∨ (¬ v < 0 ∧ ¬ 200 < v ∧ Sm σ τ)))) := by
  refine ct_of plX6 rfl (Nat.le_of_ble_eq_true rfl) (fun X hX C => ?_)
  show V X 0 [(0, .ref 0), (1, .int v)] [] σ
  refine v_iload_n C dX6_later_0 rfl rfl rfl ?_
  refine v_iconst (v := 0) C dX6_later_1 (by decide) rfl ?_
  refine v_sipush (v := 200) C dX6_later_2 (by decide) rfl ?_
  refine v_callS C (As := [.int v, .int 0, .int 200]) (rest := []) (kX6_bound v 0 200 σ) rfl (Nat.le_of_ble_eq_true rfl) (Nat.le_of_ble_eq_true rfl) ⟨mlX6_72, mfX6_bound⟩ dkX6_bound (Nat.le_of_ble_eq_true rfl) dX6_later_5 rfl (kI ?_)
  rcases bnd_cases v 0 200 with ⟨hb, q1⟩ | ⟨hb, q1, q2⟩ | ⟨hb, q1, q2⟩
  · refine V.tp hb ?_
    refine v_istore_n (lv' := [(2, .int (-4)), (0, .ref 0), (1, .int v)]) C dX6_later_8 rfl (Nat.le_of_ble_eq_true rfl) rfl rfl ?_
    refine v_iload_n C dX6_later_9 rfl rfl rfl ?_
    refine v_if_eq (tgt := 21) C dX6_later_10 (by decide) rfl (fun q => absurd q (by decide)) (fun _ => ?_)
    refine v_aload_n C dX6_later_13 rfl rfl rfl ?_
    refine v_iload_n C dX6_later_14 rfl rfl rfl ?_
    refine v_callV C (Nat.le_of_ble_eq_true rfl) rfl rfl (As := [.int (-4)]) (rest := []) (kX6_no (-4) 4 σ (by decide) (by decide)) rfl (Nat.le_of_ble_eq_true rfl) (Nat.le_of_ble_eq_true rfl) ⟨mlX6_79, mfX6_no⟩ dkX6_no (Nat.le_of_ble_eq_true rfl) dX6_later_15 rfl (kI ?_)
    refine v_goto (tgt := 26) C dX6_later_18 (by decide) ?_
    exact v_iret C dX6_later_26 (by rw [hX]; exact ⟨_, rfl, by simp [latA, q1], Or.inl ⟨q1, rfl⟩⟩)
  · refine V.tp hb ?_
    refine v_istore_n (lv' := [(2, .int (-6)), (0, .ref 0), (1, .int v)]) C dX6_later_8 rfl (Nat.le_of_ble_eq_true rfl) rfl rfl ?_
    refine v_iload_n C dX6_later_9 rfl rfl rfl ?_
    refine v_if_eq (tgt := 21) C dX6_later_10 (by decide) rfl (fun q => absurd q (by decide)) (fun _ => ?_)
    refine v_aload_n C dX6_later_13 rfl rfl rfl ?_
    refine v_iload_n C dX6_later_14 rfl rfl rfl ?_
    refine v_callV C (Nat.le_of_ble_eq_true rfl) rfl rfl (As := [.int (-6)]) (rest := []) (kX6_no (-6) 6 σ (by decide) (by decide)) rfl (Nat.le_of_ble_eq_true rfl) (Nat.le_of_ble_eq_true rfl) ⟨mlX6_79, mfX6_no⟩ dkX6_no (Nat.le_of_ble_eq_true rfl) dX6_later_15 rfl (kI ?_)
    refine v_goto (tgt := 26) C dX6_later_18 (by decide) ?_
    exact v_iret C dX6_later_26 (by rw [hX]; exact ⟨_, rfl, by simp [latA, q1, q2], Or.inr (Or.inl ⟨q1, q2, rfl⟩)⟩)
  · refine V.tp hb ?_
    refine v_istore_n (lv' := [(2, .int 0), (0, .ref 0), (1, .int v)]) C dX6_later_8 rfl (Nat.le_of_ble_eq_true rfl) rfl rfl ?_
    refine v_iload_n C dX6_later_9 rfl rfl rfl ?_
    refine v_if_eq (tgt := 21) C dX6_later_10 (by decide) rfl (fun _ => ?_) (fun q => absurd q (by decide))
    have hv1 := (nat_of (v := v) (a := 0) (b := 200) (by decide) (by decide) q1 q2)
    have hv2 := hv1.2
    refine v_aload_n C dX6_later_21 rfl rfl rfl ?_
    refine v_iload_n C dX6_later_22 rfl rfl rfl ?_
    refine V.tp hv1.1 ?_
    refine v_callV C (Nat.le_of_ble_eq_true rfl) rfl rfl (As := [.int (nI (tn v))]) (rest := []) (kX6_blameBehind n (tn v) σ hn h7 (by omega)) rfl (Nat.le_of_ble_eq_true rfl) (Nat.le_of_ble_eq_true rfl) ⟨mlX6_240, mfX6_blameBehind⟩ dkX6_blameBehind (Nat.le_of_ble_eq_true rfl) dX6_later_23 rfl (krI (fun r26_1 τ26_1 h26_1 => ?_))
    exact v_iret C dX6_later_26 (by rw [hX]; exact ⟨_, rfl, by rw [latA, if_neg q1, if_neg q2]; exact h26_1.1, Or.inr (Or.inr ⟨q1, q2, h26_1.2⟩)⟩)
theorem kX6_gone (v : Int32) (n : Nat) (σ : St) (hn : σ 0 8 = nI n) (h7 : n ≤ 7) : Ct yX6_gone cX6_gone 4 (some .int) 4 [.ref 0, .int v] σ (rI (fun r τ => r = gonA σ n v ∧ ((v < 0 ∧ τ = noS σ 4) ∨ (¬ v < 0 ∧ 999 < v ∧ τ = noS σ 6) ∨ (¬ v < 0 ∧ ¬ 999 < v ∧ Sm σ τ)))) := by
  refine ct_of plX6 rfl (Nat.le_of_ble_eq_true rfl) (fun X hX C => ?_)
  show V X 0 [(0, .ref 0), (1, .int v)] [] σ
  refine v_iload_n C dX6_gone_0 rfl rfl rfl ?_
  refine v_iconst (v := 0) C dX6_gone_1 (by decide) rfl ?_
  refine v_sipush (v := 999) C dX6_gone_2 (by decide) rfl ?_
  refine v_callS C (As := [.int v, .int 0, .int 999]) (rest := []) (kX6_bound v 0 999 σ) rfl (Nat.le_of_ble_eq_true rfl) (Nat.le_of_ble_eq_true rfl) ⟨mlX6_72, mfX6_bound⟩ dkX6_bound (Nat.le_of_ble_eq_true rfl) dX6_gone_5 rfl (kI ?_)
  rcases bnd_cases v 0 999 with ⟨hb, q1⟩ | ⟨hb, q1, q2⟩ | ⟨hb, q1, q2⟩
  · refine V.tp hb ?_
    refine v_istore_n (lv' := [(2, .int (-4)), (0, .ref 0), (1, .int v)]) C dX6_gone_8 rfl (Nat.le_of_ble_eq_true rfl) rfl rfl ?_
    refine v_iload_n C dX6_gone_9 rfl rfl rfl ?_
    refine v_if_eq (tgt := 19) C dX6_gone_10 (by decide) rfl (fun q => absurd q (by decide)) (fun _ => ?_)
    refine v_aload_n C dX6_gone_13 rfl rfl rfl ?_
    refine v_iload_n C dX6_gone_14 rfl rfl rfl ?_
    refine v_callV C (Nat.le_of_ble_eq_true rfl) rfl rfl (As := [.int (-4)]) (rest := []) (kX6_no (-4) 4 σ (by decide) (by decide)) rfl (Nat.le_of_ble_eq_true rfl) (Nat.le_of_ble_eq_true rfl) ⟨mlX6_79, mfX6_no⟩ dkX6_no (Nat.le_of_ble_eq_true rfl) dX6_gone_15 rfl (kI ?_)
    exact v_iret C dX6_gone_18 (by rw [hX]; exact ⟨_, rfl, by simp [gonA, q1], Or.inl ⟨q1, rfl⟩⟩)
  · refine V.tp hb ?_
    refine v_istore_n (lv' := [(2, .int (-6)), (0, .ref 0), (1, .int v)]) C dX6_gone_8 rfl (Nat.le_of_ble_eq_true rfl) rfl rfl ?_
    refine v_iload_n C dX6_gone_9 rfl rfl rfl ?_
    refine v_if_eq (tgt := 19) C dX6_gone_10 (by decide) rfl (fun q => absurd q (by decide)) (fun _ => ?_)
    refine v_aload_n C dX6_gone_13 rfl rfl rfl ?_
    refine v_iload_n C dX6_gone_14 rfl rfl rfl ?_
    refine v_callV C (Nat.le_of_ble_eq_true rfl) rfl rfl (As := [.int (-6)]) (rest := []) (kX6_no (-6) 6 σ (by decide) (by decide)) rfl (Nat.le_of_ble_eq_true rfl) (Nat.le_of_ble_eq_true rfl) ⟨mlX6_79, mfX6_no⟩ dkX6_no (Nat.le_of_ble_eq_true rfl) dX6_gone_15 rfl (kI ?_)
    exact v_iret C dX6_gone_18 (by rw [hX]; exact ⟨_, rfl, by simp [gonA, q1, q2], Or.inr (Or.inl ⟨q1, q2, rfl⟩)⟩)
  · refine V.tp hb ?_
    refine v_istore_n (lv' := [(2, .int 0), (0, .ref 0), (1, .int v)]) C dX6_gone_8 rfl (Nat.le_of_ble_eq_true rfl) rfl rfl ?_
    refine v_iload_n C dX6_gone_9 rfl rfl rfl ?_
    refine v_if_eq (tgt := 19) C dX6_gone_10 (by decide) rfl (fun _ => ?_) (fun q => absurd q (by decide))
    refine v_iconst (v := 0) C dX6_gone_19 (by decide) rfl ?_
    refine v_istore_n (lv' := [(3, .int 0), (2, .int 0), (0, .ref 0), (1, .int v)]) C dX6_gone_20 rfl (Nat.le_of_ble_eq_true rfl) rfl rfl ?_
    have lp21 : ∀ (k i : Nat)  (τ : St), 201 < i + k → i ≤ 201 → Sm σ τ → (∀ j, j < i → ¬ (fun k => ¬ v < laF σ n k) j) → V X 21 [(3, .int (nI i)), (2, .int 0), (0, .ref 0), (1, .int v)] [] τ := by
      intro k
      induction k with
      | zero => intro i  τ h1 h2; omega
      | succ k ih21 =>
        intro i  τ h1 h2  eτ hb
        have hnt : τ 0 8 = nI n := Sm_n eτ hn
        refine v_iload_n C dX6_gone_21 rfl rfl rfl ?_
        refine v_sipush (v := 200) C dX6_gone_22 (by decide) rfl ?_
        refine v_icmp_gt (tgt := 45) C dX6_gone_25 (by decide) rfl (fun c25 => ?_) (fun c25 => ?_)
        · skip
          have c25 := (nI_ltI (a := 200) (b := i) (by omega) (by omega)).mp c25
          refine v_bipush (v := -9) C dX6_gone_45 (by decide) rfl ?_
          exact v_iret C dX6_gone_47 (by rw [hX]; exact ⟨_, rfl, by rw [gonA, if_neg q1, if_neg q2]; exact fst_none (fun j hj => hb j (by omega)), Or.inr (Or.inr ⟨q1, q2, eτ⟩)⟩)
        · skip
          have c25 := mt (nI_ltI (a := 200) (b := i) (by omega) (by omega)).mpr c25
          refine v_aload_n C dX6_gone_28 rfl rfl rfl ?_
          refine v_iload_n C dX6_gone_29 rfl rfl rfl ?_
          refine v_callV C (Nat.le_of_ble_eq_true rfl) rfl rfl (As := [.int (nI i)]) (rest := []) (kX6_blameBehind n i τ hnt h7 (by omega)) rfl (Nat.le_of_ble_eq_true rfl) (Nat.le_of_ble_eq_true rfl) ⟨mlX6_240, mfX6_blameBehind⟩ dkX6_blameBehind (Nat.le_of_ble_eq_true rfl) dX6_gone_30 rfl (krI (fun r33_1 τ33_1 h33_1 => ?_))
          have hvr33_1 : r33_1 = laF σ n i := h33_1.1.trans (laF_sm eτ _ _)
          have hsτ33_1 : Sm σ τ33_1 := eτ.tr h33_1.2
          refine v_iload_n C dX6_gone_33 rfl rfl rfl ?_
          refine v_icmp_gt (tgt := 39) C dX6_gone_34 (by decide) rfl (fun c34 => ?_) (fun c34 => ?_)
          · skip
            refine v_iinc (lv' := [(3, .int (nI (i + 1))), (2, .int 0), (0, .ref 0), (1, .int v)]) C dX6_gone_39 rfl (nI_inc i) (Nat.le_of_ble_eq_true rfl) rfl rfl ?_
            refine v_goto (tgt := 21) C dX6_gone_42 (by decide) ?_
            exact V.sub [0, 1, 2, 3] rfl (ih21 (i + 1)  _ (by omega) (by omega)  (hsτ33_1) (by intro j hj; exact (Classical.em (j = i)).elim (fun e => by rw [e]; exact fun z => z (by rw [← hvr33_1]; exact c34)) (fun e => hb j (by omega))))
          · skip
            refine v_iload_n C dX6_gone_37 rfl rfl rfl ?_
            exact v_iret C dX6_gone_38 (by rw [hX]; exact ⟨_, rfl, by rw [gonA, if_neg q1, if_neg q2]; exact fst_some hb (by rw [← hvr33_1]; exact c34) (by omega), Or.inr (Or.inr ⟨q1, q2, hsτ33_1⟩)⟩)
    exact V.sub [0, 1, 2, 3] rfl (lp21 (201 + 1) 0  _ (by omega) (by omega)  (Sm.rf σ) (by intro j hj; omega))
def rowP (σ : St) (n k : Nat) : Prop := ¬ (if 99 < laF σ n k then 99 else laF σ n k) = σ 17 k
noncomputable def othA (σ : St) (n u : Nat) : Int32 := fstN (rowP σ n) u
theorem kX6_firstOther (n u : Nat) (σ : St) (hn : σ 0 8 = nI n) (h7 : n ≤ 7) (hu : σ 0 27 = nI u) (h12 : u ≤ 12) : Ct yX6_firstOther cX6_firstOther 3 (some .int) 4 [.ref 0] σ (rI (fun v τ => v = othA σ n u ∧ Sm σ τ)) := by
  refine ct_of plX6 rfl (Nat.le_of_ble_eq_true rfl) (fun X hX C => ?_)
  show V X 0 [(0, .ref 0)] [] σ
  refine v_iconst (v := 0) C dX6_firstOther_0 (by decide) rfl ?_
  refine v_istore_n (lv' := [(1, .int 0), (0, .ref 0)]) C dX6_firstOther_1 rfl (Nat.le_of_ble_eq_true rfl) rfl rfl ?_
  have lp2 : ∀ (k i : Nat)  (τ : St), u < i + k → i ≤ u → Sm σ τ → (∀ j, j < i → ¬ rowP σ n j) → V X 2 [(1, .int (nI i)), (0, .ref 0)] [] τ := by
    intro k
    induction k with
    | zero => intro i  τ h1 h2; omega
    | succ k ih2 =>
      intro i  τ h1 h2  eτ hb
      have hnt : τ 0 8 = nI n := Sm_n eτ hn
      have hut : τ 0 27 = nI u := (eτ.2.1 27 (by decide)).trans hu
      refine v_iload_n C dX6_firstOther_2 rfl rfl rfl ?_
      refine v_aload_n C dX6_firstOther_3 rfl rfl rfl ?_
      refine v_getI C (Nat.le_of_ble_eq_true rfl) rfl rfl hinX6 27 (Nat.le_of_ble_eq_true rfl) lkX6_249 rfl dX6_firstOther_4 rfl ?_
      refine V.tp hut ?_
      refine v_icmp_ge (tgt := 45) C dX6_firstOther_7 (by decide) rfl (fun c7 => ?_) (fun c7 => ?_)
      · skip
        have c7 := mt (nI_ltI (a := i) (b := u) (by omega) (by omega)).mpr c7
        refine v_bipush (v := -9) C dX6_firstOther_45 (by decide) rfl ?_
        exact v_iret C dX6_firstOther_47 (by rw [hX]; exact ⟨_, rfl, fst_none (fun j hj => hb j (by omega)), eτ⟩)
      · skip
        have c7 := (nI_ltI (a := i) (b := u) (by omega) (by omega)).mp c7
        refine v_aload_n C dX6_firstOther_10 rfl rfl rfl ?_
        refine v_iload_n C dX6_firstOther_11 rfl rfl rfl ?_
        refine v_callV C (Nat.le_of_ble_eq_true rfl) rfl rfl (As := [.int (nI i)]) (rest := []) (kX6_blameBehind n i τ hnt h7 (by omega)) rfl (Nat.le_of_ble_eq_true rfl) (Nat.le_of_ble_eq_true rfl) ⟨mlX6_240, mfX6_blameBehind⟩ dkX6_blameBehind (Nat.le_of_ble_eq_true rfl) dX6_firstOther_12 rfl (krI (fun r15_1 τ15_1 h15_1 => ?_))
        have hvr15_1 : r15_1 = laF σ n i := h15_1.1.trans (laF_sm eτ _ _)
        have hsτ15_1 : Sm σ τ15_1 := eτ.tr h15_1.2
        have h17i : τ15_1 17 i = σ 17 i := by rw [Sm_r hsτ15_1 17 (by decide)]
        refine v_istore_n (lv' := [(2, .int r15_1), (1, .int (nI i)), (0, .ref 0)]) C dX6_firstOther_15 rfl (Nat.le_of_ble_eq_true rfl) rfl rfl ?_
        refine v_iload_n C dX6_firstOther_16 rfl rfl rfl ?_
        refine v_bipush (v := 99) C dX6_firstOther_17 (by decide) rfl ?_
        refine v_icmp_le (tgt := 27) C dX6_firstOther_19 (by decide) rfl (fun c19 => ?_) (fun c19 => ?_)
        · skip
          refine v_iload_n C dX6_firstOther_27 rfl rfl rfl ?_
          refine v_aload_n C dX6_firstOther_28 rfl rfl rfl ?_
          refine v_getR C (Nat.le_of_ble_eq_true rfl) rfl rfl hinX6 26 (Nat.le_of_ble_eq_true rfl) lkX6_58 rfl dX6_firstOther_29 rfl ?_
          refine v_iload_n C dX6_firstOther_32 rfl rfl rfl ?_
          refine v_iald (i := i) C (Nat.le_of_ble_eq_true rfl) rfl rfl (by omega) (by decide) dX6_firstOther_33 rfl ?_
          refine v_icmp_eq (tgt := 39) C dX6_firstOther_34 (by decide) rfl (fun c34 => ?_) (fun c34 => ?_)
          · skip
            refine v_iinc (lv' := [(1, .int (nI (i + 1))), (2, .int r15_1), (0, .ref 0)]) C dX6_firstOther_39 rfl (nI_inc i) (Nat.le_of_ble_eq_true rfl) rfl rfl ?_
            refine v_goto (tgt := 2) C dX6_firstOther_42 (by decide) ?_
            exact V.sub [0, 2] rfl (ih2 (i + 1)  _ (by omega) (by omega)  (hsτ15_1) (by intro j hj; exact (Classical.em (j = i)).elim (fun e => by rw [e, rowP, ← hvr15_1]; simp [c19]; rw [← h17i]; exact c34) (fun e => hb j (by omega))))
          · skip
            refine v_iload_n C dX6_firstOther_37 rfl rfl rfl ?_
            exact v_iret C dX6_firstOther_38 (by rw [hX]; exact ⟨_, rfl, fst_some hb (by rw [rowP, ← hvr15_1]; simp [c19]; rw [← h17i]; exact c34) (by omega), hsτ15_1⟩)
        · skip
          refine v_bipush (v := 99) C dX6_firstOther_22 (by decide) rfl ?_
          refine v_goto (tgt := 28) C dX6_firstOther_24 (by decide) ?_
          refine v_aload_n C dX6_firstOther_28 rfl rfl rfl ?_
          refine v_getR C (Nat.le_of_ble_eq_true rfl) rfl rfl hinX6 26 (Nat.le_of_ble_eq_true rfl) lkX6_58 rfl dX6_firstOther_29 rfl ?_
          refine v_iload_n C dX6_firstOther_32 rfl rfl rfl ?_
          refine v_iald (i := i) C (Nat.le_of_ble_eq_true rfl) rfl rfl (by omega) (by decide) dX6_firstOther_33 rfl ?_
          refine v_icmp_eq (tgt := 39) C dX6_firstOther_34 (by decide) rfl (fun c34 => ?_) (fun c34 => ?_)
          · skip
            refine v_iinc (lv' := [(1, .int (nI (i + 1))), (2, .int r15_1), (0, .ref 0)]) C dX6_firstOther_39 rfl (nI_inc i) (Nat.le_of_ble_eq_true rfl) rfl rfl ?_
            refine v_goto (tgt := 2) C dX6_firstOther_42 (by decide) ?_
            exact V.sub [0, 2] rfl (ih2 (i + 1)  _ (by omega) (by omega)  (hsτ15_1) (by intro j hj; exact (Classical.em (j = i)).elim (fun e => by rw [e, rowP, ← hvr15_1]; simp [c19]; rw [← h17i]; exact c34) (fun e => hb j (by omega))))
          · skip
            refine v_iload_n C dX6_firstOther_37 rfl rfl rfl ?_
            exact v_iret C dX6_firstOther_38 (by rw [hX]; exact ⟨_, rfl, fst_some hb (by rw [rowP, ← hvr15_1]; simp [c19]; rw [← h17i]; exact c34) (by omega), hsτ15_1⟩)
  exact V.sub [0, 1] rfl (lp2 (u + 1) 0  _ (by omega) (by omega)  (Sm.rf σ) (by intro j hj; omega))
end
section
/-! the check's class: fits, judge, lots, count, the image taken and put back -/
noncomputable def fitG (σ : St) (n u p : Nat) (k : Nat) : Int32 := if othA (s2 σ 4 p (nI k)) n u < 0 then (1 : Int32) <<< (nI k &&& 31) else 0
noncomputable def fitA (σ : St) (n u : Nat) (p : Int32) : Int32 := cI (pieceP p (nI n)) (orN (fitG σ n u (tn p)) 6) (-1)
theorem Sm_put {σ τ : St} {k j : Nat} {x y : Int32} (h : Sm (s2 σ k j x) τ) (hk : 1 ≤ k ∧ k ≤ 9) : Sm (s2 σ k j y) (s2 τ k j y) := by
  refine ⟨fun a ha => ?_, fun b hb => ?_, fun b hb => ?_⟩
  · by_cases e : a = k
    · subst e; rw [s2_eq, s2_eq, h.1 a ha, s2_eq]
      funext b; simp only [upd]; split <;> rfl
    · rw [s2_ne e, s2_ne e, h.1 a ha, s2_ne e]
  · have h0 : (0 : Nat) ≠ k := by omega
    rw [s2_ne h0, s2_ne h0, h.2.1 b hb, s2_ne h0]
  · have h0 : (13 : Nat) ≠ k := by omega
    rw [s2_ne h0, s2_ne h0, h.2.2 b hb, s2_ne h0]
theorem rowP_sm {σ τ : St} (h : Sm σ τ) (n k : Nat) : rowP τ n k ↔ rowP σ n k := by
  rw [rowP, rowP, laF_sm h, Sm_r h 17 (by decide)]
theorem minN_cg {P Q : Nat → Prop} (h : ∀ k, P k ↔ Q k) (f : Nat → Int32) : ∀ m, minN P f m = minN Q f m
  | 0 => rfl
  | m + 1 => by
    have hp : P = Q := funext (fun k => propext (h k))
    rw [hp]
theorem oth_sm {σ τ : St} (h : Sm σ τ) (n u : Nat) : othA τ n u = othA σ n u := by
  rw [othA, othA, fstN, fstN, minN_cg (rowP_sm h n)]
theorem kX6_fits (p : Int32) (n u : Nat) (σ : St) (hn : σ 0 8 = nI n) (h7 : n ≤ 7) (hu : σ 0 27 = nI u) (h12 : u ≤ 12) : Ct yX6_fits cX6_fits 5 (some .int) 5 [.ref 0, .int p] σ (rI (fun r τ => r = fitA σ n u p ∧ ((¬ pieceP p (nI n) ∧ τ = noS σ 1) ∨ (pieceP p (nI n) ∧ Sm σ τ)))) := by
  refine ct_of plX6 rfl (Nat.le_of_ble_eq_true rfl) (fun X hX C => ?_)
  show V X 0 [(0, .ref 0), (1, .int p)] [] σ
  refine v_aload_n C dX6_fits_0 rfl rfl rfl ?_
  refine v_iload_n C dX6_fits_1 rfl rfl rfl ?_
  refine v_callV C (Nat.le_of_ble_eq_true rfl) rfl rfl (As := [.int p]) (rest := []) (kX6_isPiece p σ) rfl (Nat.le_of_ble_eq_true rfl) (Nat.le_of_ble_eq_true rfl) ⟨mlX6_116, mfX6_isPiece⟩ dkX6_isPiece (Nat.le_of_ble_eq_true rfl) dX6_fits_2 rfl (kI ?_)
  refine v_if_ne (tgt := 14) C dX6_fits_5 (by decide) rfl (fun c5 => ?_) (fun c5 => ?_)
  · skip
    have c5 := bI_n c5
    have hp1 : p = nI (tn p) := (piece_nat h7 (hn ▸ c5)).1
    have hp2 : tn p < n := (piece_nat h7 (hn ▸ c5)).2
    refine v_aload_n C dX6_fits_14 rfl rfl rfl ?_
    refine v_getR C (Nat.le_of_ble_eq_true rfl) rfl rfl hinX6 3 (Nat.le_of_ble_eq_true rfl) lkX6_19 rfl dX6_fits_15 rfl ?_
    refine v_iload_n C dX6_fits_18 rfl rfl rfl ?_
    refine V.tp hp1 ?_
    refine v_iald (i := tn p) C (Nat.le_of_ble_eq_true rfl) rfl rfl (by omega) (by decide) dX6_fits_19 rfl ?_
    refine V.top (fun v20_1 ev20_1 => ?_)
    refine v_istore_n (lv' := [(2, .int v20_1), (0, .ref 0), (1, .int p)]) C dX6_fits_20 rfl (Nat.le_of_ble_eq_true rfl) rfl rfl ?_
    refine v_iconst (v := 0) C dX6_fits_21 (by decide) rfl ?_
    refine v_istore_n (lv' := [(3, .int 0), (2, .int v20_1), (0, .ref 0), (1, .int p)]) C dX6_fits_22 rfl (Nat.le_of_ble_eq_true rfl) rfl rfl ?_
    refine v_iconst (v := 0) C dX6_fits_23 (by decide) rfl ?_
    refine v_istore (lv' := [(4, .int 0), (3, .int 0), (2, .int v20_1), (0, .ref 0), (1, .int p)]) C dX6_fits_24 (Nat.le_of_ble_eq_true rfl) rfl rfl ?_
    have lp26 : ∀ (k i : Nat) (x3 : Int32) (τ : St), 6 < i + k → i ≤ 6 → x3 = orN (fitG σ n u (tn p)) i → (∃ x, Sm (s2 σ 4 (tn p) x) τ) → V X 26 [(4, .int (nI i)), (3, .int x3), (2, .int v20_1), (0, .ref 0), (1, .int p)] [] τ := by
      intro k
      induction k with
      | zero => intro i x3 τ h1 h2; omega
      | succ k ih26 =>
        intro i x3 τ h1 h2 ex3 eτ
        refine v_iload C dX6_fits_26 rfl rfl ?_
        refine v_bipush (v := 6) C dX6_fits_28 (by decide) rfl ?_
        refine v_icmp_ge (tgt := 65) C dX6_fits_30 (by decide) rfl (fun c30 => ?_) (fun c30 => ?_)
        · skip
          have c30 := mt (nI_ltI (a := i) (b := 6) (by omega) (by omega)).mpr c30
          refine v_aload_n C dX6_fits_65 rfl rfl rfl ?_
          refine v_getR C (Nat.le_of_ble_eq_true rfl) rfl rfl hinX6 3 (Nat.le_of_ble_eq_true rfl) lkX6_19 rfl dX6_fits_66 rfl ?_
          refine v_iload_n C dX6_fits_69 rfl rfl rfl ?_
          refine V.tp hp1 ?_
          refine v_iload_n C dX6_fits_70 rfl rfl rfl ?_
          refine v_iast (i := tn p) C (Nat.le_of_ble_eq_true rfl) rfl rfl (by omega) (by decide) dX6_fits_71 rfl ?_
          refine V.nm (fun τ71_2 eτ71_2 => ?_)
          refine v_iload_n C dX6_fits_72 rfl rfl rfl ?_
          exact v_iret C dX6_fits_73 (by rw [hX]; exact ⟨_, rfl, by rw [fitA, cI_t (hn ▸ c5), ex3, show i = 6 by omega], Or.inr ⟨hn ▸ c5, by obtain ⟨x, hx⟩ := eτ; rw [eτ71_2, ev20_1]; have h := Sm_put (y := σ 4 (tn p)) hx (by decide); rw [s2_self] at h; exact h⟩⟩)
        · skip
          have c30 := (nI_ltI (a := i) (b := 6) (by omega) (by omega)).mp c30
          refine v_aload_n C dX6_fits_33 rfl rfl rfl ?_
          refine v_getR C (Nat.le_of_ble_eq_true rfl) rfl rfl hinX6 3 (Nat.le_of_ble_eq_true rfl) lkX6_19 rfl dX6_fits_34 rfl ?_
          refine v_iload_n C dX6_fits_37 rfl rfl rfl ?_
          refine V.tp hp1 ?_
          refine v_iload C dX6_fits_38 rfl rfl ?_
          refine v_iast (i := tn p) C (Nat.le_of_ble_eq_true rfl) rfl rfl (by omega) (by decide) dX6_fits_40 rfl ?_
          refine V.nm (fun τ40_3 eτ40_3 => ?_)
          have hsm : Sm (s2 σ 4 (tn p) (nI i)) τ40_3 := by obtain ⟨x, hx⟩ := eτ; rw [eτ40_3]; exact Sm_put hx (by decide)
          have hnt : τ40_3 0 8 = nI n := (hsm.2.1 8 (by decide)).trans hn
          have hut : τ40_3 0 27 = nI u := (hsm.2.1 27 (by decide)).trans hu
          refine v_iload_n C dX6_fits_41 rfl rfl rfl ?_
          refine v_aload_n C dX6_fits_42 rfl rfl rfl ?_
          refine v_callV C (Nat.le_of_ble_eq_true rfl) rfl rfl (As := []) (rest := [.int x3]) (kX6_firstOther n u τ40_3 hnt h7 hut h12) rfl (Nat.le_of_ble_eq_true rfl) (Nat.le_of_ble_eq_true rfl) ⟨mlX6_252, mfX6_firstOther⟩ dkX6_firstOther (Nat.le_of_ble_eq_true rfl) dX6_fits_43 rfl (krI (fun r46_4 τ46_4 h46_4 => ?_))
          have hvr46_4 : r46_4 = othA (s2 σ 4 (tn p) (nI i)) n u := h46_4.1.trans (oth_sm hsm _ _)
          have hsτ46_4 : Sm (s2 σ 4 (tn p) (nI i)) τ46_4 := hsm.tr h46_4.2
          refine v_if_ge (tgt := 56) C dX6_fits_46 (by decide) rfl (fun c46 => ?_) (fun c46 => ?_)
          · skip
            refine v_iconst (v := 0) C dX6_fits_56 (by decide) rfl ?_
            refine v_ior C dX6_fits_57 rfl ?_
            refine V.top (fun v58_5 ev58_5 => ?_)
            refine v_istore_n (lv' := [(3, .int v58_5), (4, .int (nI i)), (2, .int v20_1), (0, .ref 0), (1, .int p)]) C dX6_fits_58 rfl (Nat.le_of_ble_eq_true rfl) rfl rfl ?_
            refine v_iinc (lv' := [(4, .int (nI (i + 1))), (3, .int v58_5), (2, .int v20_1), (0, .ref 0), (1, .int p)]) C dX6_fits_59 rfl (nI_inc i) (Nat.le_of_ble_eq_true rfl) rfl rfl ?_
            refine v_goto (tgt := 26) C dX6_fits_62 (by decide) ?_
            exact V.sub [0, 1, 2, 3, 4] rfl (ih26 (i + 1) _ _ (by omega) (by omega) (by rw [ev58_5, ex3]; simp [orN, fitG, ← hvr46_4, c46]) (⟨_, hsτ46_4⟩))
          · skip
            refine v_iconst (v := 1) C dX6_fits_49 (by decide) rfl ?_
            refine v_iload C dX6_fits_50 rfl rfl ?_
            refine v_ishl C dX6_fits_52 rfl ?_
            refine v_goto (tgt := 57) C dX6_fits_53 (by decide) ?_
            refine v_ior C dX6_fits_57 rfl ?_
            refine V.top (fun v58_6 ev58_6 => ?_)
            refine v_istore_n (lv' := [(3, .int v58_6), (4, .int (nI i)), (2, .int v20_1), (0, .ref 0), (1, .int p)]) C dX6_fits_58 rfl (Nat.le_of_ble_eq_true rfl) rfl rfl ?_
            refine v_iinc (lv' := [(4, .int (nI (i + 1))), (3, .int v58_6), (2, .int v20_1), (0, .ref 0), (1, .int p)]) C dX6_fits_59 rfl (nI_inc i) (Nat.le_of_ble_eq_true rfl) rfl rfl ?_
            refine v_goto (tgt := 26) C dX6_fits_62 (by decide) ?_
            exact V.sub [0, 1, 2, 3, 4] rfl (ih26 (i + 1) _ _ (by omega) (by omega) (by rw [ev58_6, ex3]; simp [orN, fitG, ← hvr46_4, c46]) (⟨_, hsτ46_4⟩))
    exact V.sub [0, 1, 2, 3, 4] rfl (lp26 (6 + 1) 0 0 _ (by omega) (by omega) (rfl) (⟨σ 4 (tn p), by rw [s2_self]; exact Sm.rf σ⟩))
  · skip
    have c5 := bI_0 c5
    refine v_aload_n C dX6_fits_8 rfl rfl rfl ?_
    refine v_iconst (v := -1) C dX6_fits_9 (by decide) rfl ?_
    refine v_callV C (Nat.le_of_ble_eq_true rfl) rfl rfl (As := [.int (-1)]) (rest := []) (kX6_no (-1) 1 σ (by decide) (by decide)) rfl (Nat.le_of_ble_eq_true rfl) (Nat.le_of_ble_eq_true rfl) ⟨mlX6_79, mfX6_no⟩ dkX6_no (Nat.le_of_ble_eq_true rfl) dX6_fits_10 rfl (kI ?_)
    exact v_iret C dX6_fits_13 (by rw [hX]; exact ⟨_, rfl, by simp [fitA, cI, ← hn, c5], Or.inl ⟨hn ▸ c5, rfl⟩⟩)
theorem kX6_judge (n u : Nat) (σ : St) (hn : σ 0 8 = nI n) (h7 : n ≤ 7) (hu : σ 0 27 = nI u) (h12 : u ≤ 12) : Ct yX6_judge cX6_judge 2 (some .int) 5 [.ref 0] σ (rI (fun r τ => r = othA σ n u ∧ ∃ υ, Sm σ υ ∧ τ = s2 υ 0 27 0)) := by
  refine ct_of plX6 rfl (Nat.le_of_ble_eq_true rfl) (fun X hX C => ?_)
  show V X 0 [(0, .ref 0)] [] σ
  refine v_aload_n C dX6_judge_0 rfl rfl rfl ?_
  refine v_callV C (Nat.le_of_ble_eq_true rfl) rfl rfl (As := []) (rest := []) (kX6_firstOther n u σ hn h7 hu h12) rfl (Nat.le_of_ble_eq_true rfl) (Nat.le_of_ble_eq_true rfl) ⟨mlX6_252, mfX6_firstOther⟩ dkX6_firstOther (Nat.le_of_ble_eq_true rfl) dX6_judge_1 rfl (krI (fun r4_1 τ4_1 h4_1 => ?_))
  refine v_istore_n (lv' := [(1, .int r4_1), (0, .ref 0)]) C dX6_judge_4 rfl (Nat.le_of_ble_eq_true rfl) rfl rfl ?_
  refine v_aload_n C dX6_judge_5 rfl rfl rfl ?_
  refine v_iconst (v := 0) C dX6_judge_6 (by decide) rfl ?_
  refine v_put (ty := .int) C (Nat.le_of_ble_eq_true rfl) rfl rfl hinX6 tyX6_ok nmX6 27 (Nat.le_of_ble_eq_true rfl) lkX6_249 rfl (by decide +kernel) rfl rfl rfl dX6_judge_7 rfl ?_
  refine V.nm (fun τ7_2 eτ7_2 => ?_)
  refine v_iload_n C dX6_judge_10 rfl rfl rfl ?_
  exact v_iret C dX6_judge_11 (by rw [hX]; exact ⟨_, rfl, h4_1.1, _, h4_1.2, eτ7_2⟩)
def staG (pl : Nat → Int32) (p : Nat) : Int32 := if pl p = 9 then 0 else 1
def cntA (σ : St) (n : Nat) (w : Int32) : Int32 := if ¬ w < 11 ∧ ¬ 16 < w then σ 1 (tn w - 10) else if w = 0 then σ 0 8 else if w = 1 then σ 0 10 else if w = 2 then σ 0 9 else if w = 3 then sumN (σ 5) n else if w = 4 then sumN (σ 6) n else if w = 5 then sumN (staG (σ 8)) n else if w = 6 then sumN (σ 2) 6 else if w = 7 then σ 0 27 else if w = 8 then σ 0 15 else -9
theorem kX6_count (v : Int32) (n : Nat) (σ : St) (hn : σ 0 8 = nI n) (h7 : n ≤ 7) : Ct yX6_count cX6_count 4 (some .int) 1 [.ref 0, .int v] σ (fI (cntA σ n v) σ) := by
  refine ct_of plX6 rfl (Nat.le_of_ble_eq_true rfl) (fun X hX C => ?_)
  show V X 0 [(0, .ref 0), (1, .int v)] [] σ
  refine v_iload_n C dX6_count_0 rfl rfl rfl ?_
  refine v_bipush (v := 11) C dX6_count_1 (by decide) rfl ?_
  refine v_bipush (v := 16) C dX6_count_3 (by decide) rfl ?_
  refine v_callS C (As := [.int v, .int 11, .int 16]) (rest := []) (kX6_isIn v 11 16 σ) rfl (Nat.le_of_ble_eq_true rfl) (Nat.le_of_ble_eq_true rfl) ⟨mlX6_90, mfX6_isIn⟩ dkX6_isIn (Nat.le_of_ble_eq_true rfl) dX6_count_5 rfl (kI ?_)
  refine v_if_eq (tgt := 21) C dX6_count_8 (by decide) rfl (fun c8 => ?_) (fun c8 => ?_)
  · skip
    have c8 := bI_0 c8
    refine v_iconst (v := 0) C dX6_count_21 (by decide) rfl ?_
    refine v_istore_n (lv' := [(2, .int 0), (0, .ref 0), (1, .int v)]) C dX6_count_22 rfl (Nat.le_of_ble_eq_true rfl) rfl rfl ?_
    refine v_iload_n C dX6_count_23 rfl rfl rfl ?_
    by_cases s24_0 : v = 0
    · refine V.tp s24_0 ?_
      refine v_tableIn (off := 52) (tgt := 76) C dX6_count_24 (by decide) (by decide) rfl (by decide) ?_
      refine v_aload_n C dX6_count_76 rfl rfl rfl ?_
      refine v_getI C (Nat.le_of_ble_eq_true rfl) rfl rfl hinX6 8 (Nat.le_of_ble_eq_true rfl) lkX6_65 rfl dX6_count_77 rfl ?_
      refine V.tp hn ?_
      exact v_iret C dX6_count_80 (by rw [hX]; exact fI_of (by rw [cntA, if_neg (show ¬ (¬ v < 11 ∧ ¬ 16 < v) from c8)]; simp [s24_0, hn]) rfl)
    by_cases s24_1 : v = 1
    · refine V.tp s24_1 ?_
      refine v_tableIn (off := 57) (tgt := 81) C dX6_count_24 (by decide) (by decide) rfl (by decide) ?_
      refine v_aload_n C dX6_count_81 rfl rfl rfl ?_
      refine v_getI C (Nat.le_of_ble_eq_true rfl) rfl rfl hinX6 10 (Nat.le_of_ble_eq_true rfl) lkX6_128 rfl dX6_count_82 rfl ?_
      exact v_iret C dX6_count_85 (by rw [hX]; exact fI_of (by rw [cntA, if_neg (show ¬ (¬ v < 11 ∧ ¬ 16 < v) from c8)]; simp [s24_0, s24_1, hn]) rfl)
    by_cases s24_2 : v = 2
    · refine V.tp s24_2 ?_
      refine v_tableIn (off := 62) (tgt := 86) C dX6_count_24 (by decide) (by decide) rfl (by decide) ?_
      refine v_aload_n C dX6_count_86 rfl rfl rfl ?_
      refine v_getI C (Nat.le_of_ble_eq_true rfl) rfl rfl hinX6 9 (Nat.le_of_ble_eq_true rfl) lkX6_61 rfl dX6_count_87 rfl ?_
      exact v_iret C dX6_count_90 (by rw [hX]; exact fI_of (by rw [cntA, if_neg (show ¬ (¬ v < 11 ∧ ¬ 16 < v) from c8)]; simp [s24_0, s24_1, s24_2, hn]) rfl)
    by_cases s24_3 : v = 3
    · refine V.tp s24_3 ?_
      refine v_tableIn (off := 67) (tgt := 91) C dX6_count_24 (by decide) (by decide) rfl (by decide) ?_
      refine v_iconst (v := 0) C dX6_count_91 (by decide) rfl ?_
      refine v_istore_n (lv' := [(3, .int 0), (2, .int 0), (0, .ref 0), (1, .int v)]) C dX6_count_92 rfl (Nat.le_of_ble_eq_true rfl) rfl rfl ?_
      have lp93 : ∀ (k i : Nat) (x2 : Int32) , n < i + k → i ≤ n → x2 = sumN (σ 5) i → V X 93 [(3, .int (nI i)), (2, .int x2), (0, .ref 0), (1, .int v)] [] σ := by
        intro k
        induction k with
        | zero => intro i x2 h1 h2; omega
        | succ k ih93 =>
          intro i x2 h1 h2 ex2
          refine v_iload_n C dX6_count_93 rfl rfl rfl ?_
          refine v_aload_n C dX6_count_94 rfl rfl rfl ?_
          refine v_getI C (Nat.le_of_ble_eq_true rfl) rfl rfl hinX6 8 (Nat.le_of_ble_eq_true rfl) lkX6_65 rfl dX6_count_95 rfl ?_
          refine V.tp hn ?_
          refine v_icmp_ge (tgt := 116) C dX6_count_98 (by decide) rfl (fun c98 => ?_) (fun c98 => ?_)
          · skip
            have c98 := mt (nI_ltI (a := i) (b := n) (by omega) (by omega)).mpr c98
            refine v_iload_n C dX6_count_116 rfl rfl rfl ?_
            exact v_iret C dX6_count_117 (by rw [hX]; exact fI_of (by rw [cntA, if_neg (show ¬ (¬ v < 11 ∧ ¬ 16 < v) from c8)]; simp [s24_0, s24_1, s24_2, s24_3]; rw [ex2, show i = n by omega]) rfl)
          · skip
            have c98 := (nI_ltI (a := i) (b := n) (by omega) (by omega)).mp c98
            refine v_iload_n C dX6_count_101 rfl rfl rfl ?_
            refine v_aload_n C dX6_count_102 rfl rfl rfl ?_
            refine v_getR C (Nat.le_of_ble_eq_true rfl) rfl rfl hinX6 4 (Nat.le_of_ble_eq_true rfl) lkX6_22 rfl dX6_count_103 rfl ?_
            refine v_iload_n C dX6_count_106 rfl rfl rfl ?_
            refine v_iald (i := i) C (Nat.le_of_ble_eq_true rfl) rfl rfl (by omega) (by decide) dX6_count_107 rfl ?_
            refine v_iadd C dX6_count_108 rfl ?_
            refine V.top (fun v109_1 ev109_1 => ?_)
            refine v_istore_n (lv' := [(2, .int v109_1), (3, .int (nI i)), (0, .ref 0), (1, .int v)]) C dX6_count_109 rfl (Nat.le_of_ble_eq_true rfl) rfl rfl ?_
            refine v_iinc (lv' := [(3, .int (nI (i + 1))), (2, .int v109_1), (0, .ref 0), (1, .int v)]) C dX6_count_110 rfl (nI_inc i) (Nat.le_of_ble_eq_true rfl) rfl rfl ?_
            refine v_goto (tgt := 93) C dX6_count_113 (by decide) ?_
            exact V.sub [0, 1, 2, 3] rfl (ih93 (i + 1) _ (by omega) (by omega) (by rw [ev109_1, ex2]; rfl))
      exact V.sub [0, 1, 2, 3] rfl (lp93 (n + 1) 0 0 (by omega) (by omega) (rfl))
    by_cases s24_4 : v = 4
    · refine V.tp s24_4 ?_
      refine v_tableIn (off := 94) (tgt := 118) C dX6_count_24 (by decide) (by decide) rfl (by decide) ?_
      refine v_iconst (v := 0) C dX6_count_118 (by decide) rfl ?_
      refine v_istore_n (lv' := [(3, .int 0), (2, .int 0), (0, .ref 0), (1, .int v)]) C dX6_count_119 rfl (Nat.le_of_ble_eq_true rfl) rfl rfl ?_
      have lp120 : ∀ (k i : Nat) (x2 : Int32) , n < i + k → i ≤ n → x2 = sumN (σ 6) i → V X 120 [(3, .int (nI i)), (2, .int x2), (0, .ref 0), (1, .int v)] [] σ := by
        intro k
        induction k with
        | zero => intro i x2 h1 h2; omega
        | succ k ih120 =>
          intro i x2 h1 h2 ex2
          refine v_iload_n C dX6_count_120 rfl rfl rfl ?_
          refine v_aload_n C dX6_count_121 rfl rfl rfl ?_
          refine v_getI C (Nat.le_of_ble_eq_true rfl) rfl rfl hinX6 8 (Nat.le_of_ble_eq_true rfl) lkX6_65 rfl dX6_count_122 rfl ?_
          refine V.tp hn ?_
          refine v_icmp_ge (tgt := 143) C dX6_count_125 (by decide) rfl (fun c125 => ?_) (fun c125 => ?_)
          · skip
            have c125 := mt (nI_ltI (a := i) (b := n) (by omega) (by omega)).mpr c125
            refine v_iload_n C dX6_count_143 rfl rfl rfl ?_
            exact v_iret C dX6_count_144 (by rw [hX]; exact fI_of (by rw [cntA, if_neg (show ¬ (¬ v < 11 ∧ ¬ 16 < v) from c8)]; simp [s24_0, s24_1, s24_2, s24_3, s24_4]; rw [ex2, show i = n by omega]) rfl)
          · skip
            have c125 := (nI_ltI (a := i) (b := n) (by omega) (by omega)).mp c125
            refine v_iload_n C dX6_count_128 rfl rfl rfl ?_
            refine v_aload_n C dX6_count_129 rfl rfl rfl ?_
            refine v_getR C (Nat.le_of_ble_eq_true rfl) rfl rfl hinX6 5 (Nat.le_of_ble_eq_true rfl) lkX6_25 rfl dX6_count_130 rfl ?_
            refine v_iload_n C dX6_count_133 rfl rfl rfl ?_
            refine v_iald (i := i) C (Nat.le_of_ble_eq_true rfl) rfl rfl (by omega) (by decide) dX6_count_134 rfl ?_
            refine v_iadd C dX6_count_135 rfl ?_
            refine V.top (fun v136_2 ev136_2 => ?_)
            refine v_istore_n (lv' := [(2, .int v136_2), (3, .int (nI i)), (0, .ref 0), (1, .int v)]) C dX6_count_136 rfl (Nat.le_of_ble_eq_true rfl) rfl rfl ?_
            refine v_iinc (lv' := [(3, .int (nI (i + 1))), (2, .int v136_2), (0, .ref 0), (1, .int v)]) C dX6_count_137 rfl (nI_inc i) (Nat.le_of_ble_eq_true rfl) rfl rfl ?_
            refine v_goto (tgt := 120) C dX6_count_140 (by decide) ?_
            exact V.sub [0, 1, 2, 3] rfl (ih120 (i + 1) _ (by omega) (by omega) (by rw [ev136_2, ex2]; rfl))
      exact V.sub [0, 1, 2, 3] rfl (lp120 (n + 1) 0 0 (by omega) (by omega) (rfl))
    by_cases s24_5 : v = 5
    · refine V.tp s24_5 ?_
      refine v_tableIn (off := 121) (tgt := 145) C dX6_count_24 (by decide) (by decide) rfl (by decide) ?_
      refine v_iconst (v := 0) C dX6_count_145 (by decide) rfl ?_
      refine v_istore_n (lv' := [(3, .int 0), (2, .int 0), (0, .ref 0), (1, .int v)]) C dX6_count_146 rfl (Nat.le_of_ble_eq_true rfl) rfl rfl ?_
      have lp147 : ∀ (k i : Nat) (x2 : Int32) , n < i + k → i ≤ n → x2 = sumN (staG (σ 8)) i → V X 147 [(3, .int (nI i)), (2, .int x2), (0, .ref 0), (1, .int v)] [] σ := by
        intro k
        induction k with
        | zero => intro i x2 h1 h2; omega
        | succ k ih147 =>
          intro i x2 h1 h2 ex2
          refine v_iload_n C dX6_count_147 rfl rfl rfl ?_
          refine v_aload_n C dX6_count_148 rfl rfl rfl ?_
          refine v_getI C (Nat.le_of_ble_eq_true rfl) rfl rfl hinX6 8 (Nat.le_of_ble_eq_true rfl) lkX6_65 rfl dX6_count_149 rfl ?_
          refine V.tp hn ?_
          refine v_icmp_ge (tgt := 180) C dX6_count_152 (by decide) rfl (fun c152 => ?_) (fun c152 => ?_)
          · skip
            have c152 := mt (nI_ltI (a := i) (b := n) (by omega) (by omega)).mpr c152
            refine v_iload_n C dX6_count_180 rfl rfl rfl ?_
            exact v_iret C dX6_count_181 (by rw [hX]; exact fI_of (by rw [cntA, if_neg (show ¬ (¬ v < 11 ∧ ¬ 16 < v) from c8)]; simp [s24_0, s24_1, s24_2, s24_3, s24_4, s24_5]; rw [ex2, show i = n by omega]) rfl)
          · skip
            have c152 := (nI_ltI (a := i) (b := n) (by omega) (by omega)).mp c152
            refine v_iload_n C dX6_count_155 rfl rfl rfl ?_
            refine v_aload_n C dX6_count_156 rfl rfl rfl ?_
            refine v_getR C (Nat.le_of_ble_eq_true rfl) rfl rfl hinX6 7 (Nat.le_of_ble_eq_true rfl) lkX6_31 rfl dX6_count_157 rfl ?_
            refine v_iload_n C dX6_count_160 rfl rfl rfl ?_
            refine v_iald (i := i) C (Nat.le_of_ble_eq_true rfl) rfl rfl (by omega) (by decide) dX6_count_161 rfl ?_
            refine v_bipush (v := 9) C dX6_count_162 (by decide) rfl ?_
            refine v_icmp_ne (tgt := 171) C dX6_count_164 (by decide) rfl (fun c164 => ?_) (fun c164 => ?_)
            · skip
              refine v_iconst (v := 1) C dX6_count_171 (by decide) rfl ?_
              refine v_iadd C dX6_count_172 rfl ?_
              refine V.top (fun v173_3 ev173_3 => ?_)
              refine v_istore_n (lv' := [(2, .int v173_3), (3, .int (nI i)), (0, .ref 0), (1, .int v)]) C dX6_count_173 rfl (Nat.le_of_ble_eq_true rfl) rfl rfl ?_
              refine v_iinc (lv' := [(3, .int (nI (i + 1))), (2, .int v173_3), (0, .ref 0), (1, .int v)]) C dX6_count_174 rfl (nI_inc i) (Nat.le_of_ble_eq_true rfl) rfl rfl ?_
              refine v_goto (tgt := 147) C dX6_count_177 (by decide) ?_
              exact V.sub [0, 1, 2, 3] rfl (ih147 (i + 1) _ (by omega) (by omega) (by rw [ev173_3, ex2]; simp [sumN, staG, c164]))
            · skip
              refine v_iconst (v := 0) C dX6_count_167 (by decide) rfl ?_
              refine v_goto (tgt := 172) C dX6_count_168 (by decide) ?_
              refine v_iadd C dX6_count_172 rfl ?_
              refine V.top (fun v173_4 ev173_4 => ?_)
              refine v_istore_n (lv' := [(2, .int v173_4), (3, .int (nI i)), (0, .ref 0), (1, .int v)]) C dX6_count_173 rfl (Nat.le_of_ble_eq_true rfl) rfl rfl ?_
              refine v_iinc (lv' := [(3, .int (nI (i + 1))), (2, .int v173_4), (0, .ref 0), (1, .int v)]) C dX6_count_174 rfl (nI_inc i) (Nat.le_of_ble_eq_true rfl) rfl rfl ?_
              refine v_goto (tgt := 147) C dX6_count_177 (by decide) ?_
              exact V.sub [0, 1, 2, 3] rfl (ih147 (i + 1) _ (by omega) (by omega) (by rw [ev173_4, ex2]; simp [sumN, staG, c164]))
      exact V.sub [0, 1, 2, 3] rfl (lp147 (n + 1) 0 0 (by omega) (by omega) (rfl))
    by_cases s24_6 : v = 6
    · refine V.tp s24_6 ?_
      refine v_tableIn (off := 158) (tgt := 182) C dX6_count_24 (by decide) (by decide) rfl (by decide) ?_
      refine v_iconst (v := 0) C dX6_count_182 (by decide) rfl ?_
      refine v_istore_n (lv' := [(3, .int 0), (2, .int 0), (0, .ref 0), (1, .int v)]) C dX6_count_183 rfl (Nat.le_of_ble_eq_true rfl) rfl rfl ?_
      have lp184 : ∀ (k i : Nat) (x2 : Int32) , 6 < i + k → i ≤ 6 → x2 = sumN (σ 2) i → V X 184 [(3, .int (nI i)), (2, .int x2), (0, .ref 0), (1, .int v)] [] σ := by
        intro k
        induction k with
        | zero => intro i x2 h1 h2; omega
        | succ k ih184 =>
          intro i x2 h1 h2 ex2
          refine v_iload_n C dX6_count_184 rfl rfl rfl ?_
          refine v_bipush (v := 6) C dX6_count_185 (by decide) rfl ?_
          refine v_icmp_ge (tgt := 205) C dX6_count_187 (by decide) rfl (fun c187 => ?_) (fun c187 => ?_)
          · skip
            have c187 := mt (nI_ltI (a := i) (b := 6) (by omega) (by omega)).mpr c187
            refine v_iload_n C dX6_count_205 rfl rfl rfl ?_
            exact v_iret C dX6_count_206 (by rw [hX]; exact fI_of (by rw [cntA, if_neg (show ¬ (¬ v < 11 ∧ ¬ 16 < v) from c8)]; simp [s24_0, s24_1, s24_2, s24_3, s24_4, s24_5, s24_6]; rw [ex2, show i = 6 by omega]) rfl)
          · skip
            have c187 := (nI_ltI (a := i) (b := 6) (by omega) (by omega)).mp c187
            refine v_iload_n C dX6_count_190 rfl rfl rfl ?_
            refine v_aload_n C dX6_count_191 rfl rfl rfl ?_
            refine v_getR C (Nat.le_of_ble_eq_true rfl) rfl rfl hinX6 1 (Nat.le_of_ble_eq_true rfl) lkX6_13 rfl dX6_count_192 rfl ?_
            refine v_iload_n C dX6_count_195 rfl rfl rfl ?_
            refine v_iald (i := i) C (Nat.le_of_ble_eq_true rfl) rfl rfl (by omega) (by decide) dX6_count_196 rfl ?_
            refine v_iadd C dX6_count_197 rfl ?_
            refine V.top (fun v198_5 ev198_5 => ?_)
            refine v_istore_n (lv' := [(2, .int v198_5), (3, .int (nI i)), (0, .ref 0), (1, .int v)]) C dX6_count_198 rfl (Nat.le_of_ble_eq_true rfl) rfl rfl ?_
            refine v_iinc (lv' := [(3, .int (nI (i + 1))), (2, .int v198_5), (0, .ref 0), (1, .int v)]) C dX6_count_199 rfl (nI_inc i) (Nat.le_of_ble_eq_true rfl) rfl rfl ?_
            refine v_goto (tgt := 184) C dX6_count_202 (by decide) ?_
            exact V.sub [0, 1, 2, 3] rfl (ih184 (i + 1) _ (by omega) (by omega) (by rw [ev198_5, ex2]; rfl))
      exact V.sub [0, 1, 2, 3] rfl (lp184 (6 + 1) 0 0 (by omega) (by omega) (rfl))
    by_cases s24_7 : v = 7
    · refine V.tp s24_7 ?_
      refine v_tableIn (off := 183) (tgt := 207) C dX6_count_24 (by decide) (by decide) rfl (by decide) ?_
      refine v_aload_n C dX6_count_207 rfl rfl rfl ?_
      refine v_getI C (Nat.le_of_ble_eq_true rfl) rfl rfl hinX6 27 (Nat.le_of_ble_eq_true rfl) lkX6_249 rfl dX6_count_208 rfl ?_
      exact v_iret C dX6_count_211 (by rw [hX]; exact fI_of (by rw [cntA, if_neg (show ¬ (¬ v < 11 ∧ ¬ 16 < v) from c8)]; simp [s24_0, s24_1, s24_2, s24_3, s24_4, s24_5, s24_6, s24_7, hn]) rfl)
    by_cases s24_8 : v = 8
    · refine V.tp s24_8 ?_
      refine v_tableIn (off := 188) (tgt := 212) C dX6_count_24 (by decide) (by decide) rfl (by decide) ?_
      refine v_aload_n C dX6_count_212 rfl rfl rfl ?_
      refine v_getI C (Nat.le_of_ble_eq_true rfl) rfl rfl hinX6 15 (Nat.le_of_ble_eq_true rfl) lkX6_76 rfl dX6_count_213 rfl ?_
      exact v_iret C dX6_count_216 (by rw [hX]; exact fI_of (by rw [cntA, if_neg (show ¬ (¬ v < 11 ∧ ¬ 16 < v) from c8)]; simp [s24_0, s24_1, s24_2, s24_3, s24_4, s24_5, s24_6, s24_7, s24_8, hn]) rfl)
    refine v_tableOut (tgt := 217) C dX6_count_24 (by have e0 := lv_neT s24_0 (a := 0) (by decide); have e1 := lv_neT s24_1 (a := 1) (by decide); have e2 := lv_neT s24_2 (a := 2) (by decide); have e3 := lv_neT s24_3 (a := 3) (by decide); have e4 := lv_neT s24_4 (a := 4) (by decide); have e5 := lv_neT s24_5 (a := 5) (by decide); have e6 := lv_neT s24_6 (a := 6) (by decide); have e7 := lv_neT s24_7 (a := 7) (by decide); have e8 := lv_neT s24_8 (a := 8) (by decide); omega) (by decide) ?_
    refine v_bipush (v := -9) C dX6_count_217 (by decide) rfl ?_
    exact v_iret C dX6_count_219 (by rw [hX]; exact fI_of (by rw [cntA, if_neg (show ¬ (¬ v < 11 ∧ ¬ 16 < v) from c8)]; simp [s24_0, s24_1, s24_2, s24_3, s24_4, s24_5, s24_6, s24_7, s24_8, hn]) rfl)
  · skip
    have c8 := bI_n c8
    have hv1 := (nat_of (v := v) (a := 11) (b := 16) (by decide) (by decide) c8.1 c8.2)
    have hv2 := hv1.2
    refine v_aload_n C dX6_count_11 rfl rfl rfl ?_
    refine v_getR C (Nat.le_of_ble_eq_true rfl) rfl rfl hinX6 0 (Nat.le_of_ble_eq_true rfl) lkX6_7 rfl dX6_count_12 rfl ?_
    refine v_iload_n C dX6_count_15 rfl rfl rfl ?_
    refine V.tp hv1.1 ?_
    refine v_bipush (v := 10) C dX6_count_16 (by decide) rfl ?_
    refine v_isub C dX6_count_18 rfl ?_
    refine V.tp (pk_sub (a := (tn v)) (b := 10) (by omega)) ?_
    refine v_iald (i := (tn v) - 10) C (Nat.le_of_ble_eq_true rfl) rfl rfl (by omega) (by decide) dX6_count_19 rfl ?_
    exact v_iret C dX6_count_20 (by rw [hX]; exact fI_of (by rw [cntA, if_pos (show ¬ v < 11 ∧ ¬ 16 < v from c8)]) rfl)
theorem kX6_image (σ : St) : Ct yX6_image cX6_image 1 (some .int) 2 [.ref 0] σ (rI (fun r τ => r = σ 0 10 ∧ Svp (s2 σ 0 19 1) 0 47 τ)) := by
  refine ct_of plX6 rfl (Nat.le_of_ble_eq_true rfl) (fun X hX C => ?_)
  show V X 0 [(0, .ref 0)] [] σ
  refine v_aload_n C dX6_image_0 rfl rfl rfl ?_
  refine v_iconst (v := 1) C dX6_image_1 (by decide) rfl ?_
  refine v_put (ty := .boolean) C (Nat.le_of_ble_eq_true rfl) rfl rfl hinX6 tyX6_ok nmX6 19 (Nat.le_of_ble_eq_true rfl) lkX6_160 rfl (by decide +kernel) rfl rfl rfl dX6_image_2 rfl ?_
  refine V.nm (fun τ2_1 eτ2_1 => ?_)
  refine v_aload_n C dX6_image_5 rfl rfl rfl ?_
  refine v_iconst (v := 0) C dX6_image_6 (by decide) rfl ?_
  refine v_iconst (v := 1) C dX6_image_7 (by decide) rfl ?_
  refine v_callV C (Nat.le_of_ble_eq_true rfl) rfl rfl (As := [.int 0, .int 1]) (rest := []) (kX6_passesAllK0 τ2_1) rfl (Nat.le_of_ble_eq_true rfl) (Nat.le_of_ble_eq_true rfl) ⟨mlX6_139, mfX6_passesAll⟩ dkX6_passesAll (Nat.le_of_ble_eq_true rfl) dX6_image_8 rfl (krV (fun τ11_2 h11_2 => ?_))
  refine v_aload_n C dX6_image_11 rfl rfl rfl ?_
  refine v_getI C (Nat.le_of_ble_eq_true rfl) rfl rfl hinX6 10 (Nat.le_of_ble_eq_true rfl) lkX6_128 rfl dX6_image_12 rfl ?_
  exact v_iret C dX6_image_15 (by rw [hX]; exact ⟨_, rfl, by rw [h11_2.2.1 10 (by decide) (by decide), eτ2_1, s2_get, if_neg (by decide)], by rw [← eτ2_1]; exact h11_2⟩)
theorem kX6_on0 (σ : St) (hi : σ 0 19 = 0) : Ct yX6_on cX6_on 1 (some .int) 2 [.ref 0] σ (fI (-3) (noS σ 3)) := by
  refine ct_of plX6 rfl (Nat.le_of_ble_eq_true rfl) (fun X hX C => ?_)
  show V X 0 [(0, .ref 0)] [] σ
  refine v_aload_n C dX6_on_0 rfl rfl rfl ?_
  refine v_getI C (Nat.le_of_ble_eq_true rfl) rfl rfl hinX6 19 (Nat.le_of_ble_eq_true rfl) lkX6_160 rfl dX6_on_1 rfl ?_
  refine V.tp hi ?_
  refine v_if_ne (tgt := 14) C dX6_on_4 (by decide) rfl (fun q => absurd q (by decide)) (fun _ => ?_)
  refine v_aload_n C dX6_on_7 rfl rfl rfl ?_
  refine v_bipush (v := -3) C dX6_on_8 (by decide) rfl ?_
  refine v_callV C (Nat.le_of_ble_eq_true rfl) rfl rfl (As := [.int (-3)]) (rest := []) (kX6_no (-3) 3 σ (by decide) (by decide)) rfl (Nat.le_of_ble_eq_true rfl) (Nat.le_of_ble_eq_true rfl) ⟨mlX6_79, mfX6_no⟩ dkX6_no (Nat.le_of_ble_eq_true rfl) dX6_on_10 rfl (kI ?_)
  exact v_iret C dX6_on_13 (by rw [hX]; exact fI_of rfl rfl)
theorem kX6_on1 (σ : St) (hi : σ 0 19 = 1) : Ct yX6_on cX6_on 1 (some .int) 2 [.ref 0] σ (rI (fun r τ => r = τ 0 10 ∧ Rsp σ 0 47 τ)) := by
  refine ct_of plX6 rfl (Nat.le_of_ble_eq_true rfl) (fun X hX C => ?_)
  show V X 0 [(0, .ref 0)] [] σ
  refine v_aload_n C dX6_on_0 rfl rfl rfl ?_
  refine v_getI C (Nat.le_of_ble_eq_true rfl) rfl rfl hinX6 19 (Nat.le_of_ble_eq_true rfl) lkX6_160 rfl dX6_on_1 rfl ?_
  refine V.tp hi ?_
  refine v_if_ne (tgt := 14) C dX6_on_4 (by decide) rfl (fun _ => ?_) (fun q => absurd q (by decide))
  refine v_aload_n C dX6_on_14 rfl rfl rfl ?_
  refine v_iconst (v := 0) C dX6_on_15 (by decide) rfl ?_
  refine v_iconst (v := 0) C dX6_on_16 (by decide) rfl ?_
  refine v_callV C (Nat.le_of_ble_eq_true rfl) rfl rfl (As := [.int 0, .int 0]) (rest := []) (kX6_passesAllB0 σ) rfl (Nat.le_of_ble_eq_true rfl) (Nat.le_of_ble_eq_true rfl) ⟨mlX6_139, mfX6_passesAll⟩ dkX6_passesAll (Nat.le_of_ble_eq_true rfl) dX6_on_17 rfl (krV (fun τ20_1 h20_1 => ?_))
  refine v_aload_n C dX6_on_20 rfl rfl rfl ?_
  refine v_getI C (Nat.le_of_ble_eq_true rfl) rfl rfl hinX6 10 (Nat.le_of_ble_eq_true rfl) lkX6_128 rfl dX6_on_21 rfl ?_
  exact v_iret C dX6_on_24 (by rw [hX]; exact ⟨_, rfl, rfl, h20_1⟩)
end
section
/-! the check's class: shares -/
theorem setR_s2 (σ : St) (k j : Nat) (f : Nat → Int32) (v : Int32) : s2 (setR σ k f) k j v = setR σ k (upd f j v) := by
  funext a
  by_cases h : a = k
  · subst h; rw [s2_eq]; simp [setR]
  · rw [s2_ne h]; simp [setR, h]
theorem setR_o (σ : St) (k a : Nat) (f : Nat → Int32) (h : a ≠ k) : setR σ k f a = σ a := by simp [setR, h]
theorem setR_k (σ : St) (k : Nat) (f : Nat → Int32) : setR σ k f k = f := by simp [setR]
theorem setR_self (σ : St) (k : Nat) : setR σ k (σ k) = σ := by
  funext a
  by_cases h : a = k
  · subst h; simp [setR]
  · simp [setR, h]
theorem setR_setR (σ : St) (k : Nat) (f g : Nat → Int32) : setR (setR σ k f) k g = setR σ k g := by
  funext a
  by_cases h : a = k <;> simp [setR, h]
def shaN (s0 bl : Nat → Int32) (g : Nat → Nat) : Nat → (Nat → Int32)
  | 0 => s0
  | i + 1 => upd (shaN s0 bl g i) (g i) (shaN s0 bl g i (g i) + bl i)
def z4 (f : Nat → Int32) : Nat → Int32 := pre 4 (fun _ => 0) f
def blR (σ : St) (n : Nat) : Nat → Int32 := fun p => blaF (σ 4) (σ 6) (σ 7) (σ 8) n p
def minV (f : Nat → Int32) : Nat → Int32
  | 0 => f 0
  | i + 1 => if i = 0 then f 0 else if f i < minV f i then f i else minV f i
def maxV (f : Nat → Int32) : Nat → Int32
  | 0 => f 0
  | i + 1 => if i = 0 then f 0 else if maxV f i < f i then f i else maxV f i
def aptF (f : Nat → Int32) (h : Nat) : Int32 := maxV f h - minV f h
theorem blR_cg {σ τ : St} (h4 : τ 4 = σ 4) (h6 : τ 6 = σ 6) (h7 : τ 7 = σ 7) (h8 : τ 8 = σ 8) (n : Nat) : blR τ n = blR σ n := by
  funext p; rw [blR, blR, h4, h6, h7, h8]
theorem kX6_apart (σ : St) (h : Nat) (hh : σ 0 9 = nI h) (hl2 : 2 ≤ h) (hl4 : h ≤ 4) : Ct yX6_apart cX6_apart 4 (some .int) 0 [.ref 0] σ (fI (aptF (σ 16) h) σ) := by
  refine ct_of plX6 rfl (Nat.le_of_ble_eq_true rfl) (fun X hX C => ?_)
  show V X 0 [(0, .ref 0)] [] σ
  refine v_aload_n C dX6_apart_0 rfl rfl rfl ?_
  refine v_getR C (Nat.le_of_ble_eq_true rfl) rfl rfl hinX6 25 (Nat.le_of_ble_eq_true rfl) lkX6_55 rfl dX6_apart_1 rfl ?_
  refine v_iconst (v := 0) C dX6_apart_4 (by decide) rfl ?_
  refine v_iald (i := 0) C (Nat.le_of_ble_eq_true rfl) rfl rfl (Nat.le_of_ble_eq_true rfl) (by decide) dX6_apart_5 rfl ?_
  refine V.top (fun v6_1 ev6_1 => ?_)
  refine v_istore_n (lv' := [(1, .int v6_1), (0, .ref 0)]) C dX6_apart_6 rfl (Nat.le_of_ble_eq_true rfl) rfl rfl ?_
  refine v_aload_n C dX6_apart_7 rfl rfl rfl ?_
  refine v_getR C (Nat.le_of_ble_eq_true rfl) rfl rfl hinX6 25 (Nat.le_of_ble_eq_true rfl) lkX6_55 rfl dX6_apart_8 rfl ?_
  refine v_iconst (v := 0) C dX6_apart_11 (by decide) rfl ?_
  refine v_iald (i := 0) C (Nat.le_of_ble_eq_true rfl) rfl rfl (Nat.le_of_ble_eq_true rfl) (by decide) dX6_apart_12 rfl ?_
  refine V.top (fun v13_2 ev13_2 => ?_)
  refine v_istore_n (lv' := [(2, .int v13_2), (1, .int v6_1), (0, .ref 0)]) C dX6_apart_13 rfl (Nat.le_of_ble_eq_true rfl) rfl rfl ?_
  refine v_iconst (v := 1) C dX6_apart_14 (by decide) rfl ?_
  refine v_istore_n (lv' := [(3, .int 1), (2, .int v13_2), (1, .int v6_1), (0, .ref 0)]) C dX6_apart_15 rfl (Nat.le_of_ble_eq_true rfl) rfl rfl ?_
  have lp16 : ∀ (k i : Nat) (x1 : Int32) (x2 : Int32) , h < i + k → i ≤ h → x1 = minV (σ 16) i → x2 = maxV (σ 16) i → (1 ≤ i) → V X 16 [(3, .int (nI i)), (2, .int x2), (1, .int x1), (0, .ref 0)] [] σ := by
    intro k
    induction k with
    | zero => intro i x1 x2 h1 h2; omega
    | succ k ih16 =>
      intro i x1 x2 h1 h2 ex1 ex2 hi1
      refine v_iload_n C dX6_apart_16 rfl rfl rfl ?_
      refine v_aload_n C dX6_apart_17 rfl rfl rfl ?_
      refine v_getI C (Nat.le_of_ble_eq_true rfl) rfl rfl hinX6 9 (Nat.le_of_ble_eq_true rfl) lkX6_61 rfl dX6_apart_18 rfl ?_
      refine V.tp hh ?_
      refine v_icmp_ge (tgt := 72) C dX6_apart_21 (by decide) rfl (fun c21 => ?_) (fun c21 => ?_)
      · skip
        have c21 := mt (nI_ltI (a := i) (b := h) (by omega) (by omega)).mpr c21
        refine v_iload_n C dX6_apart_72 rfl rfl rfl ?_
        refine v_iload_n C dX6_apart_73 rfl rfl rfl ?_
        refine v_isub C dX6_apart_74 rfl ?_
        exact v_iret C dX6_apart_75 (by rw [hX]; exact fI_of (by rw [ex1, ex2, show i = h by omega, aptF]) rfl)
      · skip
        have c21 := (nI_ltI (a := i) (b := h) (by omega) (by omega)).mp c21
        refine v_aload_n C dX6_apart_24 rfl rfl rfl ?_
        refine v_getR C (Nat.le_of_ble_eq_true rfl) rfl rfl hinX6 25 (Nat.le_of_ble_eq_true rfl) lkX6_55 rfl dX6_apart_25 rfl ?_
        refine v_iload_n C dX6_apart_28 rfl rfl rfl ?_
        refine v_iald (i := i) C (Nat.le_of_ble_eq_true rfl) rfl rfl (by omega) (by decide) dX6_apart_29 rfl ?_
        refine v_iload_n C dX6_apart_30 rfl rfl rfl ?_
        refine v_icmp_ge (tgt := 43) C dX6_apart_31 (by decide) rfl (fun c31 => ?_) (fun c31 => ?_)
        · skip
          refine v_iload_n C dX6_apart_43 rfl rfl rfl ?_
          refine v_istore_n (lv' := [(1, .int x1), (3, .int (nI i)), (2, .int x2), (0, .ref 0)]) C dX6_apart_44 rfl (Nat.le_of_ble_eq_true rfl) rfl rfl ?_
          refine v_aload_n C dX6_apart_45 rfl rfl rfl ?_
          refine v_getR C (Nat.le_of_ble_eq_true rfl) rfl rfl hinX6 25 (Nat.le_of_ble_eq_true rfl) lkX6_55 rfl dX6_apart_46 rfl ?_
          refine v_iload_n C dX6_apart_49 rfl rfl rfl ?_
          refine v_iald (i := i) C (Nat.le_of_ble_eq_true rfl) rfl rfl (by omega) (by decide) dX6_apart_50 rfl ?_
          refine v_iload_n C dX6_apart_51 rfl rfl rfl ?_
          refine v_icmp_le (tgt := 64) C dX6_apart_52 (by decide) rfl (fun c52 => ?_) (fun c52 => ?_)
          · skip
            refine v_iload_n C dX6_apart_64 rfl rfl rfl ?_
            refine v_istore_n (lv' := [(2, .int x2), (1, .int x1), (3, .int (nI i)), (0, .ref 0)]) C dX6_apart_65 rfl (Nat.le_of_ble_eq_true rfl) rfl rfl ?_
            refine v_iinc (lv' := [(3, .int (nI (i + 1))), (2, .int x2), (1, .int x1), (0, .ref 0)]) C dX6_apart_66 rfl (nI_inc i) (Nat.le_of_ble_eq_true rfl) rfl rfl ?_
            refine v_goto (tgt := 16) C dX6_apart_69 (by decide) ?_
            exact V.sub [0, 1, 2, 3] rfl (ih16 (i + 1) _ _ (by omega) (by omega) (by simp [minV, show ¬ i = 0 by omega, ← ex1, c31]) (by simp [maxV, show ¬ i = 0 by omega, ← ex2, c52]) (by omega))
          · skip
            refine v_aload_n C dX6_apart_55 rfl rfl rfl ?_
            refine v_getR C (Nat.le_of_ble_eq_true rfl) rfl rfl hinX6 25 (Nat.le_of_ble_eq_true rfl) lkX6_55 rfl dX6_apart_56 rfl ?_
            refine v_iload_n C dX6_apart_59 rfl rfl rfl ?_
            refine v_iald (i := i) C (Nat.le_of_ble_eq_true rfl) rfl rfl (by omega) (by decide) dX6_apart_60 rfl ?_
            refine v_goto (tgt := 65) C dX6_apart_61 (by decide) ?_
            refine V.top (fun v65_3 ev65_3 => ?_)
            refine v_istore_n (lv' := [(2, .int v65_3), (1, .int x1), (3, .int (nI i)), (0, .ref 0)]) C dX6_apart_65 rfl (Nat.le_of_ble_eq_true rfl) rfl rfl ?_
            refine v_iinc (lv' := [(3, .int (nI (i + 1))), (2, .int v65_3), (1, .int x1), (0, .ref 0)]) C dX6_apart_66 rfl (nI_inc i) (Nat.le_of_ble_eq_true rfl) rfl rfl ?_
            refine v_goto (tgt := 16) C dX6_apart_69 (by decide) ?_
            exact V.sub [0, 1, 2, 3] rfl (ih16 (i + 1) _ _ (by omega) (by omega) (by simp [minV, show ¬ i = 0 by omega, ← ex1, c31]) (by rw [ev65_3]; simp [maxV, show ¬ i = 0 by omega, ← ex2, c52]) (by omega))
        · skip
          refine v_aload_n C dX6_apart_34 rfl rfl rfl ?_
          refine v_getR C (Nat.le_of_ble_eq_true rfl) rfl rfl hinX6 25 (Nat.le_of_ble_eq_true rfl) lkX6_55 rfl dX6_apart_35 rfl ?_
          refine v_iload_n C dX6_apart_38 rfl rfl rfl ?_
          refine v_iald (i := i) C (Nat.le_of_ble_eq_true rfl) rfl rfl (by omega) (by decide) dX6_apart_39 rfl ?_
          refine v_goto (tgt := 44) C dX6_apart_40 (by decide) ?_
          refine V.top (fun v44_4 ev44_4 => ?_)
          refine v_istore_n (lv' := [(1, .int v44_4), (3, .int (nI i)), (2, .int x2), (0, .ref 0)]) C dX6_apart_44 rfl (Nat.le_of_ble_eq_true rfl) rfl rfl ?_
          refine v_aload_n C dX6_apart_45 rfl rfl rfl ?_
          refine v_getR C (Nat.le_of_ble_eq_true rfl) rfl rfl hinX6 25 (Nat.le_of_ble_eq_true rfl) lkX6_55 rfl dX6_apart_46 rfl ?_
          refine v_iload_n C dX6_apart_49 rfl rfl rfl ?_
          refine v_iald (i := i) C (Nat.le_of_ble_eq_true rfl) rfl rfl (by omega) (by decide) dX6_apart_50 rfl ?_
          refine v_iload_n C dX6_apart_51 rfl rfl rfl ?_
          refine v_icmp_le (tgt := 64) C dX6_apart_52 (by decide) rfl (fun c52 => ?_) (fun c52 => ?_)
          · skip
            refine v_iload_n C dX6_apart_64 rfl rfl rfl ?_
            refine v_istore_n (lv' := [(2, .int x2), (1, .int v44_4), (3, .int (nI i)), (0, .ref 0)]) C dX6_apart_65 rfl (Nat.le_of_ble_eq_true rfl) rfl rfl ?_
            refine v_iinc (lv' := [(3, .int (nI (i + 1))), (2, .int x2), (1, .int v44_4), (0, .ref 0)]) C dX6_apart_66 rfl (nI_inc i) (Nat.le_of_ble_eq_true rfl) rfl rfl ?_
            refine v_goto (tgt := 16) C dX6_apart_69 (by decide) ?_
            exact V.sub [0, 1, 2, 3] rfl (ih16 (i + 1) _ _ (by omega) (by omega) (by rw [ev44_4]; simp [minV, show ¬ i = 0 by omega, ← ex1, c31]) (by simp [maxV, show ¬ i = 0 by omega, ← ex2, c52]) (by omega))
          · skip
            refine v_aload_n C dX6_apart_55 rfl rfl rfl ?_
            refine v_getR C (Nat.le_of_ble_eq_true rfl) rfl rfl hinX6 25 (Nat.le_of_ble_eq_true rfl) lkX6_55 rfl dX6_apart_56 rfl ?_
            refine v_iload_n C dX6_apart_59 rfl rfl rfl ?_
            refine v_iald (i := i) C (Nat.le_of_ble_eq_true rfl) rfl rfl (by omega) (by decide) dX6_apart_60 rfl ?_
            refine v_goto (tgt := 65) C dX6_apart_61 (by decide) ?_
            refine V.top (fun v65_5 ev65_5 => ?_)
            refine v_istore_n (lv' := [(2, .int v65_5), (1, .int v44_4), (3, .int (nI i)), (0, .ref 0)]) C dX6_apart_65 rfl (Nat.le_of_ble_eq_true rfl) rfl rfl ?_
            refine v_iinc (lv' := [(3, .int (nI (i + 1))), (2, .int v65_5), (1, .int v44_4), (0, .ref 0)]) C dX6_apart_66 rfl (nI_inc i) (Nat.le_of_ble_eq_true rfl) rfl rfl ?_
            refine v_goto (tgt := 16) C dX6_apart_69 (by decide) ?_
            exact V.sub [0, 1, 2, 3] rfl (ih16 (i + 1) _ _ (by omega) (by omega) (by rw [ev44_4]; simp [minV, show ¬ i = 0 by omega, ← ex1, c31]) (by rw [ev65_5]; simp [maxV, show ¬ i = 0 by omega, ← ex2, c52]) (by omega))
  exact V.sub [0, 1, 2, 3] rfl (lp16 (h + 1) 1 v6_1 v13_2 (by omega) (by omega) (by rw [ev6_1]; simp [minV]) (by rw [ev13_2]; simp [maxV]) (by omega))
theorem kX6_givesAll (n : Nat) (g : Nat → Nat) (σ : St) (hn : σ 0 8 = nI n) (h7 : n ≤ 7) (hg : ∀ p, p < n → σ 15 p = nI (g p) ∧ g p < 4) : Ct yX6_givesAll cX6_givesAll 2 none 2 [.ref 0] σ (fV (setR σ 16 (shaN (z4 (σ 16)) (blR σ n) g n))) := by
  refine ct_of plX6 rfl (Nat.le_of_ble_eq_true rfl) (fun X hX C => ?_)
  show V X 0 [(0, .ref 0)] [] σ
  refine v_iconst (v := 0) C dX6_givesAll_0 (by decide) rfl ?_
  refine v_istore_n (lv' := [(1, .int 0), (0, .ref 0)]) C dX6_givesAll_1 rfl (Nat.le_of_ble_eq_true rfl) rfl rfl ?_
  have lp2 : ∀ (k i : Nat)  (τ : St), 4 < i + k → i ≤ 4 → τ = setR σ 16 (pre i (fun _ => 0) (σ 16)) → V X 2 [(1, .int (nI i)), (0, .ref 0)] [] τ := by
    intro k
    induction k with
    | zero => intro i  τ h1 h2; omega
    | succ k ih2 =>
      intro i  τ h1 h2  eτ
      refine v_iload_n C dX6_givesAll_2 rfl rfl rfl ?_
      refine v_iconst (v := 4) C dX6_givesAll_3 (by decide) rfl ?_
      refine v_icmp_ge (tgt := 20) C dX6_givesAll_4 (by decide) rfl (fun c4 => ?_) (fun c4 => ?_)
      · skip
        have c4 := mt (nI_ltI (a := i) (b := 4) (by omega) (by omega)).mpr c4
        refine v_iconst (v := 0) C dX6_givesAll_20 (by decide) rfl ?_
        refine v_istore_n (lv' := [(1, .int 0), (0, .ref 0)]) C dX6_givesAll_21 rfl (Nat.le_of_ble_eq_true rfl) rfl rfl ?_
        have lp22 : ∀ (k q : Nat)  (υ : St), n < q + k → q ≤ n → υ = setR σ 16 (shaN (z4 (σ 16)) (blR σ n) g q) → V X 22 [(1, .int (nI q)), (0, .ref 0)] [] υ := by
          intro k
          induction k with
          | zero => intro q  υ h1 h2; omega
          | succ k ih22 =>
            intro q  υ h1 h2  eυ
            have hnt : υ 0 8 = nI n := by rw [eυ, setR_o _ _ _ _ (by decide)]; exact hn
            have hg1 : q < n → υ 15 q = nI (g q) := fun hq => by rw [eυ, setR_o _ _ _ _ (by decide)]; exact (hg q hq).1
            have hg2 : q < n → g q < 4 := fun hq => (hg q hq).2
            refine v_iload_n C dX6_givesAll_22 rfl rfl rfl ?_
            refine v_aload_n C dX6_givesAll_23 rfl rfl rfl ?_
            refine v_getI C (Nat.le_of_ble_eq_true rfl) rfl rfl hinX6 8 (Nat.le_of_ble_eq_true rfl) lkX6_65 rfl dX6_givesAll_24 rfl ?_
            refine V.tp hnt ?_
            refine v_icmp_ge (tgt := 55) C dX6_givesAll_27 (by decide) rfl (fun c27 => ?_) (fun c27 => ?_)
            · skip
              have c27 := mt (nI_ltI (a := q) (b := n) (by omega) (by omega)).mpr c27
              exact v_vret C dX6_givesAll_55 (by rw [hX]; exact fV_of (by rw [eυ, show q = n by omega]))
            · skip
              have c27 := (nI_ltI (a := q) (b := n) (by omega) (by omega)).mp c27
              refine v_aload_n C dX6_givesAll_30 rfl rfl rfl ?_
              refine v_getR C (Nat.le_of_ble_eq_true rfl) rfl rfl hinX6 25 (Nat.le_of_ble_eq_true rfl) lkX6_55 rfl dX6_givesAll_31 rfl ?_
              refine v_aload_n C dX6_givesAll_34 rfl rfl rfl ?_
              refine v_getR C (Nat.le_of_ble_eq_true rfl) rfl rfl hinX6 24 (Nat.le_of_ble_eq_true rfl) lkX6_52 rfl dX6_givesAll_35 rfl ?_
              refine v_iload_n C dX6_givesAll_38 rfl rfl rfl ?_
              refine v_iald (i := q) C (Nat.le_of_ble_eq_true rfl) rfl rfl (by omega) (by decide) dX6_givesAll_39 rfl ?_
              refine V.tp (hg1 (by assumption)) ?_
              refine v_dup2 C dX6_givesAll_40 rfl rfl rfl ?_
              refine v_iald (i := g q) C (Nat.le_of_ble_eq_true rfl) rfl rfl (by omega) (by decide) dX6_givesAll_41 rfl ?_
              refine v_aload_n C dX6_givesAll_42 rfl rfl rfl ?_
              refine v_iload_n C dX6_givesAll_43 rfl rfl rfl ?_
              refine v_callV C (Nat.le_of_ble_eq_true rfl) rfl rfl (As := [.int (nI q)]) (rest := [.int (υ 16 (g q)), .int (nI (g q)), .ref 16]) (kX6_blameOf n q υ hnt h7 (by assumption)) rfl (Nat.le_of_ble_eq_true rfl) (Nat.le_of_ble_eq_true rfl) ⟨mlX6_169, mfX6_blameOf⟩ dkX6_blameOf (Nat.le_of_ble_eq_true rfl) dX6_givesAll_44 rfl (kI ?_)
              refine V.tp (show blaF (υ 4) (υ 6) (υ 7) (υ 8) n q = blR σ n q from by rw [eυ]; rfl) ?_
              refine v_iadd C dX6_givesAll_47 rfl ?_
              refine v_iast (i := g q) C (Nat.le_of_ble_eq_true rfl) rfl rfl (by omega) (by decide) dX6_givesAll_48 rfl ?_
              refine V.nm (fun τ48_1 eτ48_1 => ?_)
              refine v_iinc (lv' := [(1, .int (nI (q + 1))), (0, .ref 0)]) C dX6_givesAll_49 rfl (nI_inc q) (Nat.le_of_ble_eq_true rfl) rfl rfl ?_
              refine v_goto (tgt := 22) C dX6_givesAll_52 (by decide) ?_
              exact V.sub [0, 1] rfl (ih22 (q + 1)  _ (by omega) (by omega)  (by rw [eτ48_1, eυ, setR_s2, setR_k]; rfl))
        exact V.sub [0, 1] rfl (lp22 (n + 1) 0  _ (by omega) (by omega)  (by rw [eτ, show i = 4 by omega]; rfl))
      · skip
        have c4 := (nI_ltI (a := i) (b := 4) (by omega) (by omega)).mp c4
        refine v_aload_n C dX6_givesAll_7 rfl rfl rfl ?_
        refine v_getR C (Nat.le_of_ble_eq_true rfl) rfl rfl hinX6 25 (Nat.le_of_ble_eq_true rfl) lkX6_55 rfl dX6_givesAll_8 rfl ?_
        refine v_iload_n C dX6_givesAll_11 rfl rfl rfl ?_
        refine v_iconst (v := 0) C dX6_givesAll_12 (by decide) rfl ?_
        refine v_iast (i := i) C (Nat.le_of_ble_eq_true rfl) rfl rfl (by omega) (by decide) dX6_givesAll_13 rfl ?_
        refine V.nm (fun τ13_2 eτ13_2 => ?_)
        refine v_iinc (lv' := [(1, .int (nI (i + 1))), (0, .ref 0)]) C dX6_givesAll_14 rfl (nI_inc i) (Nat.le_of_ble_eq_true rfl) rfl rfl ?_
        refine v_goto (tgt := 2) C dX6_givesAll_17 (by decide) ?_
        exact V.sub [0, 1] rfl (ih2 (i + 1)  _ (by omega) (by omega)  (by rw [eτ13_2, eτ, setR_s2, pre_upd _ _ _ rfl]))
  exact V.sub [0, 1] rfl (lp2 (4 + 1) 0  _ (by omega) (by omega)  (by rw [pre_0, setR_self]))
def deaN (s0 bl : Nat → Int32) (h : Nat) : Nat → (Nat → Int32)
  | 0 => s0
  | i + 1 => upd (deaN s0 bl h i) (firN (deaN s0 bl h i) h) (deaN s0 bl h i (firN (deaN s0 bl h i) h) + bl i)
def deaG (s0 bl : Nat → Int32) (h : Nat) : Nat → Int32 := fun p => nI (firN (deaN s0 bl h p) h)
def deaS (σ : St) (n h i : Nat) : St := setR (setR σ 15 (pre i (deaG (z4 (σ 16)) (blR σ n) h) (σ 15))) 16 (deaN (z4 (σ 16)) (blR σ n) h i)
theorem deaS_step (σ : St) (n h i : Nat) : s2 (s2 (deaS σ n h i) 15 i (nI (firN (deaN (z4 (σ 16)) (blR σ n) h i) h))) 16 (firN (deaN (z4 (σ 16)) (blR σ n) h i) h) (deaN (z4 (σ 16)) (blR σ n) h i (firN (deaN (z4 (σ 16)) (blR σ n) h i) h) + blR σ n i) = deaS σ n h (i + 1) := by
  funext a
  by_cases h16 : a = 16
  · subst h16
    rw [s2_eq, s2_ne (by decide), deaS, setR_k, deaS, setR_k]; rfl
  · rw [s2_ne h16]
    by_cases h15 : a = 15
    · subst h15
      rw [s2_eq, deaS, setR_o _ _ _ _ (by decide), setR_k, deaS, setR_o _ _ _ _ (by decide), setR_k]
      exact pre_upd i (deaG (z4 (σ 16)) (blR σ n) h) _ rfl
    · rw [s2_ne h15, deaS, deaS, setR_o _ _ _ _ h16, setR_o _ _ _ _ h15, setR_o _ _ _ _ h16, setR_o _ _ _ _ h15]
theorem kX6_deals (n : Nat) (σ : St) (hn : σ 0 8 = nI n) (h7 : n ≤ 7) (h : Nat) (hh : σ 0 9 = nI h) (hl2 : 2 ≤ h) (hl4 : h ≤ 4) : Ct yX6_deals cX6_deals 2 none 2 [.ref 0] σ (fV (deaS σ n h n)) := by
  refine ct_of plX6 rfl (Nat.le_of_ble_eq_true rfl) (fun X hX C => ?_)
  show V X 0 [(0, .ref 0)] [] σ
  refine v_iconst (v := 0) C dX6_deals_0 (by decide) rfl ?_
  refine v_istore_n (lv' := [(1, .int 0), (0, .ref 0)]) C dX6_deals_1 rfl (Nat.le_of_ble_eq_true rfl) rfl rfl ?_
  have lp2 : ∀ (k i : Nat)  (τ : St), 4 < i + k → i ≤ 4 → τ = setR σ 16 (pre i (fun _ => 0) (σ 16)) → V X 2 [(1, .int (nI i)), (0, .ref 0)] [] τ := by
    intro k
    induction k with
    | zero => intro i  τ h1 h2; omega
    | succ k ih2 =>
      intro i  τ h1 h2  eτ
      refine v_iload_n C dX6_deals_2 rfl rfl rfl ?_
      refine v_iconst (v := 4) C dX6_deals_3 (by decide) rfl ?_
      refine v_icmp_ge (tgt := 20) C dX6_deals_4 (by decide) rfl (fun c4 => ?_) (fun c4 => ?_)
      · skip
        have c4 := mt (nI_ltI (a := i) (b := 4) (by omega) (by omega)).mpr c4
        refine v_iconst (v := 0) C dX6_deals_20 (by decide) rfl ?_
        refine v_istore_n (lv' := [(1, .int 0), (0, .ref 0)]) C dX6_deals_21 rfl (Nat.le_of_ble_eq_true rfl) rfl rfl ?_
        have lp22 : ∀ (k q : Nat)  (υ : St), n < q + k → q ≤ n → υ = deaS σ n h q → V X 22 [(1, .int (nI q)), (0, .ref 0)] [] υ := by
          intro k
          induction k with
          | zero => intro q  υ h1 h2; omega
          | succ k ih22 =>
            intro q  υ h1 h2  eυ
            have hnt : υ 0 8 = nI n := by rw [eυ, deaS, setR_o _ _ _ _ (by decide), setR_o _ _ _ _ (by decide)]; exact hn
            have hht : υ 0 9 = nI h := by rw [eυ, deaS, setR_o _ _ _ _ (by decide), setR_o _ _ _ _ (by decide)]; exact hh
            have h16 : υ 16 = (deaN (z4 (σ 16)) (blR σ n) h q) := by rw [eυ, deaS, setR_k]
            have hfl := firN_lt (deaN (z4 (σ 16)) (blR σ n) h q) h (by omega)
            refine v_iload_n C dX6_deals_22 rfl rfl rfl ?_
            refine v_aload_n C dX6_deals_23 rfl rfl rfl ?_
            refine v_getI C (Nat.le_of_ble_eq_true rfl) rfl rfl hinX6 8 (Nat.le_of_ble_eq_true rfl) lkX6_65 rfl dX6_deals_24 rfl ?_
            refine V.tp hnt ?_
            refine v_icmp_ge (tgt := 65) C dX6_deals_27 (by decide) rfl (fun c27 => ?_) (fun c27 => ?_)
            · skip
              have c27 := mt (nI_ltI (a := q) (b := n) (by omega) (by omega)).mpr c27
              exact v_vret C dX6_deals_65 (by rw [hX]; exact fV_of (by rw [eυ, show q = n by omega]))
            · skip
              have c27 := (nI_ltI (a := q) (b := n) (by omega) (by omega)).mp c27
              refine v_aload_n C dX6_deals_30 rfl rfl rfl ?_
              refine v_getR C (Nat.le_of_ble_eq_true rfl) rfl rfl hinX6 24 (Nat.le_of_ble_eq_true rfl) lkX6_52 rfl dX6_deals_31 rfl ?_
              refine v_iload_n C dX6_deals_34 rfl rfl rfl ?_
              refine v_aload_n C dX6_deals_35 rfl rfl rfl ?_
              refine v_callV C (Nat.le_of_ble_eq_true rfl) rfl rfl (As := []) (rest := [.int (nI q), .ref 15]) (kX6_poorest h υ hht hl2 hl4) rfl (Nat.le_of_ble_eq_true rfl) (Nat.le_of_ble_eq_true rfl) ⟨mlX6_222, mfX6_poorest⟩ dkX6_poorest (Nat.le_of_ble_eq_true rfl) dX6_deals_36 rfl (kI ?_)
              refine V.tp (show nI (firN (υ 16) h) = nI (firN (deaN (z4 (σ 16)) (blR σ n) h q) h) from by rw [h16]) ?_
              refine v_iast (i := q) C (Nat.le_of_ble_eq_true rfl) rfl rfl (by omega) (by decide) dX6_deals_39 rfl ?_
              refine V.nm (fun τ39_1 eτ39_1 => ?_)
              have hn2 : τ39_1 0 8 = nI n := by rw [eτ39_1, s2_ne (by decide)]; exact hnt
              have hv15 : τ39_1 15 q = nI (firN (deaN (z4 (σ 16)) (blR σ n) h q) h) := by rw [eτ39_1, s2_get, if_pos ⟨rfl, rfl⟩]
              have hv16 : τ39_1 16 (firN (deaN (z4 (σ 16)) (blR σ n) h q) h) = (deaN (z4 (σ 16)) (blR σ n) h q) (firN (deaN (z4 (σ 16)) (blR σ n) h q) h) := by rw [eτ39_1, s2_ne (by decide), h16]
              refine v_aload_n C dX6_deals_40 rfl rfl rfl ?_
              refine v_getR C (Nat.le_of_ble_eq_true rfl) rfl rfl hinX6 25 (Nat.le_of_ble_eq_true rfl) lkX6_55 rfl dX6_deals_41 rfl ?_
              refine v_aload_n C dX6_deals_44 rfl rfl rfl ?_
              refine v_getR C (Nat.le_of_ble_eq_true rfl) rfl rfl hinX6 24 (Nat.le_of_ble_eq_true rfl) lkX6_52 rfl dX6_deals_45 rfl ?_
              refine v_iload_n C dX6_deals_48 rfl rfl rfl ?_
              refine v_iald (i := q) C (Nat.le_of_ble_eq_true rfl) rfl rfl (by omega) (by decide) dX6_deals_49 rfl ?_
              refine V.tp hv15 ?_
              refine v_dup2 C dX6_deals_50 rfl rfl rfl ?_
              refine v_iald (i := firN (deaN (z4 (σ 16)) (blR σ n) h q) h) C (Nat.le_of_ble_eq_true rfl) rfl rfl (by omega) (by decide) dX6_deals_51 rfl ?_
              refine V.tp hv16 ?_
              refine v_aload_n C dX6_deals_52 rfl rfl rfl ?_
              refine v_iload_n C dX6_deals_53 rfl rfl rfl ?_
              refine v_callV C (Nat.le_of_ble_eq_true rfl) rfl rfl (As := [.int (nI q)]) (rest := [.int ((deaN (z4 (σ 16)) (blR σ n) h q) (firN (deaN (z4 (σ 16)) (blR σ n) h q) h)), .int (nI (firN (deaN (z4 (σ 16)) (blR σ n) h q) h)), .ref 16]) (kX6_blameOf n q τ39_1 hn2 h7 (by assumption)) rfl (Nat.le_of_ble_eq_true rfl) (Nat.le_of_ble_eq_true rfl) ⟨mlX6_169, mfX6_blameOf⟩ dkX6_blameOf (Nat.le_of_ble_eq_true rfl) dX6_deals_54 rfl (kI ?_)
              refine V.tp (show blaF (τ39_1 4) (τ39_1 6) (τ39_1 7) (τ39_1 8) n q = blR σ n q from by rw [eτ39_1, eυ]; rfl) ?_
              refine v_iadd C dX6_deals_57 rfl ?_
              refine v_iast (i := firN (deaN (z4 (σ 16)) (blR σ n) h q) h) C (Nat.le_of_ble_eq_true rfl) rfl rfl (by omega) (by decide) dX6_deals_58 rfl ?_
              refine V.nm (fun τ58_2 eτ58_2 => ?_)
              refine v_iinc (lv' := [(1, .int (nI (q + 1))), (0, .ref 0)]) C dX6_deals_59 rfl (nI_inc q) (Nat.le_of_ble_eq_true rfl) rfl rfl ?_
              refine v_goto (tgt := 22) C dX6_deals_62 (by decide) ?_
              exact V.sub [0, 1] rfl (ih22 (q + 1)  _ (by omega) (by omega)  (by rw [eτ58_2, eτ39_1, eυ]; exact deaS_step σ n h q))
        exact V.sub [0, 1] rfl (lp22 (n + 1) 0  _ (by omega) (by omega)  (by rw [eτ, show i = 4 by omega, deaS, pre_0, setR_self]; rfl))
      · skip
        have c4 := (nI_ltI (a := i) (b := 4) (by omega) (by omega)).mp c4
        refine v_aload_n C dX6_deals_7 rfl rfl rfl ?_
        refine v_getR C (Nat.le_of_ble_eq_true rfl) rfl rfl hinX6 25 (Nat.le_of_ble_eq_true rfl) lkX6_55 rfl dX6_deals_8 rfl ?_
        refine v_iload_n C dX6_deals_11 rfl rfl rfl ?_
        refine v_iconst (v := 0) C dX6_deals_12 (by decide) rfl ?_
        refine v_iast (i := i) C (Nat.le_of_ble_eq_true rfl) rfl rfl (by omega) (by decide) dX6_deals_13 rfl ?_
        refine V.nm (fun τ13_3 eτ13_3 => ?_)
        refine v_iinc (lv' := [(1, .int (nI (i + 1))), (0, .ref 0)]) C dX6_deals_14 rfl (nI_inc i) (Nat.le_of_ble_eq_true rfl) rfl rfl ?_
        refine v_goto (tgt := 2) C dX6_deals_17 (by decide) ?_
        exact V.sub [0, 1] rfl (ih2 (i + 1)  _ (by omega) (by omega)  (by rw [eτ13_3, eτ, setR_s2, pre_upd _ _ _ rfl]))
  exact V.sub [0, 1] rfl (lp2 (4 + 1) 0  _ (by omega) (by omega)  (by rw [pre_0, setR_self]))
theorem nsh_cases (v n : Int32) : ((if v < -1 then -4 else if v < n then 0 else -1 : Int32) = -4 ∧ v < -1) ∨ ((if v < -1 then -4 else if v < n then 0 else -1 : Int32) = -1 ∧ ¬ v < -1 ∧ ¬ v < n) ∨ ((if v < -1 then -4 else if v < n then 0 else -1 : Int32) = 0 ∧ ¬ v < -1 ∧ v < n) := by
  by_cases h1 : v < -1
  · left; simp [h1]
  · by_cases h2 : v < n
    · right; right; simp [h1, h2]
    · right; left; simp [h1, h2]
def dltA (σ : St) (n h : Nat) (v : Int32) : Int32 := if v < -1 then -4 else if v < nI n then (if v < 0 then aptF (deaN (z4 (σ 16)) (blR σ n) h n) h else deaG (z4 (σ 16)) (blR σ n) h (tn v)) else -1
theorem deaS_Sm (σ : St) (n h i : Nat) : Sm σ (deaS σ n h i) := ⟨fun k hk => by rw [deaS, setR_o _ _ _ _ (by omega), setR_o _ _ _ _ (by omega)], fun j _ => by rw [deaS, setR_o _ _ _ _ (by decide), setR_o _ _ _ _ (by decide)], fun j _ => by rw [deaS, setR_o _ _ _ _ (by decide), setR_o _ _ _ _ (by decide)]⟩
theorem kX6_dealt (v : Int32) (n : Nat) (σ : St) (hn : σ 0 8 = nI n) (h7 : n ≤ 7) (h : Nat) (hh : σ 0 9 = nI h) (hl2 : 2 ≤ h) (hl4 : h ≤ 4) : Ct yX6_dealt cX6_dealt 3 (some .int) 3 [.ref 0, .int v] σ (rI (fun r τ => r = dltA σ n h v ∧ ((v < -1 ∧ τ = noS σ 4) ∨ (¬ v < -1 ∧ ¬ v < nI n ∧ τ = noS σ 1) ∨ (¬ v < -1 ∧ v < nI n ∧ Sm σ τ)))) := by
  refine ct_of plX6 rfl (Nat.le_of_ble_eq_true rfl) (fun X hX C => ?_)
  show V X 0 [(0, .ref 0), (1, .int v)] [] σ
  refine v_aload_n C dX6_dealt_0 rfl rfl rfl ?_
  refine v_iload_n C dX6_dealt_1 rfl rfl rfl ?_
  refine v_callV C (Nat.le_of_ble_eq_true rfl) rfl rfl (As := [.int v]) (rest := []) (kX6_notShare v σ) rfl (Nat.le_of_ble_eq_true rfl) (Nat.le_of_ble_eq_true rfl) ⟨mlX6_216, mfX6_notShare⟩ dkX6_notShare (Nat.le_of_ble_eq_true rfl) dX6_dealt_2 rfl (kI ?_)
  rcases nsh_cases v (σ 0 8) with ⟨hb, q1⟩ | ⟨hb, q1, q2⟩ | ⟨hb, q1, q2⟩
  · refine V.tp hb ?_
    refine v_istore_n (lv' := [(2, .int (-4)), (0, .ref 0), (1, .int v)]) C dX6_dealt_5 rfl (Nat.le_of_ble_eq_true rfl) rfl rfl ?_
    refine v_iload_n C dX6_dealt_6 rfl rfl rfl ?_
    refine v_if_eq (tgt := 16) C dX6_dealt_7 (by decide) rfl (fun q => absurd q (by decide)) (fun _ => ?_)
    refine v_aload_n C dX6_dealt_10 rfl rfl rfl ?_
    refine v_iload_n C dX6_dealt_11 rfl rfl rfl ?_
    refine v_callV C (Nat.le_of_ble_eq_true rfl) rfl rfl (As := [.int (-4)]) (rest := []) (kX6_no (-4) 4 σ (by decide) (by decide)) rfl (Nat.le_of_ble_eq_true rfl) (Nat.le_of_ble_eq_true rfl) ⟨mlX6_79, mfX6_no⟩ dkX6_no (Nat.le_of_ble_eq_true rfl) dX6_dealt_12 rfl (kI ?_)
    exact v_iret C dX6_dealt_15 (by rw [hX]; exact ⟨_, rfl, by simp [dltA, q1], Or.inl ⟨q1, rfl⟩⟩)
  · refine V.tp hb ?_
    refine v_istore_n (lv' := [(2, .int (-1)), (0, .ref 0), (1, .int v)]) C dX6_dealt_5 rfl (Nat.le_of_ble_eq_true rfl) rfl rfl ?_
    refine v_iload_n C dX6_dealt_6 rfl rfl rfl ?_
    refine v_if_eq (tgt := 16) C dX6_dealt_7 (by decide) rfl (fun q => absurd q (by decide)) (fun _ => ?_)
    refine v_aload_n C dX6_dealt_10 rfl rfl rfl ?_
    refine v_iload_n C dX6_dealt_11 rfl rfl rfl ?_
    refine v_callV C (Nat.le_of_ble_eq_true rfl) rfl rfl (As := [.int (-1)]) (rest := []) (kX6_no (-1) 1 σ (by decide) (by decide)) rfl (Nat.le_of_ble_eq_true rfl) (Nat.le_of_ble_eq_true rfl) ⟨mlX6_79, mfX6_no⟩ dkX6_no (Nat.le_of_ble_eq_true rfl) dX6_dealt_12 rfl (kI ?_)
    exact v_iret C dX6_dealt_15 (by rw [hX]; exact ⟨_, rfl, by simp [dltA, q1, ← hn, q2], Or.inr (Or.inl ⟨q1, hn ▸ q2, rfl⟩)⟩)
  · refine V.tp hb ?_
    refine v_istore_n (lv' := [(2, .int 0), (0, .ref 0), (1, .int v)]) C dX6_dealt_5 rfl (Nat.le_of_ble_eq_true rfl) rfl rfl ?_
    refine v_iload_n C dX6_dealt_6 rfl rfl rfl ?_
    refine v_if_eq (tgt := 16) C dX6_dealt_7 (by decide) rfl (fun _ => ?_) (fun q => absurd q (by decide))
    refine v_aload_n C dX6_dealt_16 rfl rfl rfl ?_
    refine v_callV C (Nat.le_of_ble_eq_true rfl) rfl rfl (As := []) (rest := []) (kX6_deals n σ hn h7 h hh hl2 hl4) rfl (Nat.le_of_ble_eq_true rfl) (Nat.le_of_ble_eq_true rfl) ⟨mlX6_225, mfX6_deals⟩ dkX6_deals (Nat.le_of_ble_eq_true rfl) dX6_dealt_17 rfl (kV ?_)
    refine v_iload_n C dX6_dealt_20 rfl rfl rfl ?_
    refine v_if_ge (tgt := 31) C dX6_dealt_21 (by decide) rfl (fun c21 => ?_) (fun c21 => ?_)
    · skip
      have hv1 : v = nI (tn v) ∧ tn v < n := piece_nat h7 ⟨c21, hn ▸ q2⟩
      have hv2 := hv1.2
      refine v_aload_n C dX6_dealt_31 rfl rfl rfl ?_
      refine v_getR C (Nat.le_of_ble_eq_true rfl) rfl rfl hinX6 24 (Nat.le_of_ble_eq_true rfl) lkX6_52 rfl dX6_dealt_32 rfl ?_
      refine v_iload_n C dX6_dealt_35 rfl rfl rfl ?_
      refine V.tp hv1.1 ?_
      refine v_iald (i := tn v) C (Nat.le_of_ble_eq_true rfl) rfl rfl (by omega) (by decide) dX6_dealt_36 rfl ?_
      exact v_iret C dX6_dealt_37 (by rw [hX]; exact ⟨_, rfl, by rw [dltA, if_neg q1, if_pos (hn ▸ q2), if_neg c21, deaS, setR_o _ _ _ _ (by decide), setR_k, pre, if_pos hv2], Or.inr (Or.inr ⟨q1, hn ▸ q2, deaS_Sm _ _ _ _⟩)⟩)
    · skip
      refine v_aload_n C dX6_dealt_24 rfl rfl rfl ?_
      refine v_callV C (Nat.le_of_ble_eq_true rfl) rfl rfl (As := []) (rest := []) (kX6_apart (deaS σ n h n) h (by rw [deaS, setR_o _ _ _ _ (by decide), setR_o _ _ _ _ (by decide)]; exact hh) hl2 hl4) rfl (Nat.le_of_ble_eq_true rfl) (Nat.le_of_ble_eq_true rfl) ⟨mlX6_213, mfX6_apart⟩ dkX6_apart (Nat.le_of_ble_eq_true rfl) dX6_dealt_25 rfl (kI ?_)
      refine v_goto (tgt := 37) C dX6_dealt_28 (by decide) ?_
      exact v_iret C dX6_dealt_37 (by rw [hX]; exact ⟨_, rfl, by rw [dltA, if_neg q1, if_pos (hn ▸ q2), if_pos c21, deaS, setR_k], Or.inr (Or.inr ⟨q1, hn ▸ q2, deaS_Sm _ _ _ _⟩)⟩)
def dig (h n k p : Nat) : Nat := k / h ^ (n - 1 - p) % h
def shbR (h n k i : Nat) (f : Nat → Int32) : Nat → Int32 := fun p => if i ≤ p ∧ p < n then nI (dig h n k p) else f p
def shbS (σ : St) (n h k : Nat) : St := setR (setR σ 15 (shbR h n k 0 (σ 15))) 16 (shaN (z4 (σ 16)) (blR σ n) (dig h n k) n)
theorem shbR_n (h n k : Nat) (f : Nat → Int32) : shbR h n k n f = f := by funext p; unfold shbR; rw [if_neg (by omega)]
theorem shbR_step {h n k i : Nat} {f : Nat → Int32} (hi : i + 1 ≤ n) : upd (shbR h n k (i + 1) f) i (nI (dig h n k i)) = shbR h n k i f := by
  funext p
  unfold upd shbR
  by_cases e : p = i
  · subst e; rw [if_pos rfl, if_pos (by omega)]
  · rw [if_neg e]
    by_cases g : i + 1 ≤ p ∧ p < n
    · rw [if_pos g, if_pos (by omega)]
    · rw [if_neg g, if_neg (by omega)]
theorem powN_nI (h : Nat) : ∀ n, powN (nI h) n = nI (h ^ n)
  | 0 => rfl
  | n + 1 => by rw [powN, powN_nI h n, pk_mul, Nat.pow_succ]
theorem kX6_sharesBy (n k : Nat) (σ : St) (hn : σ 0 8 = nI n) (h7 : n ≤ 7) (h : Nat) (hh : σ 0 9 = nI h) (hl2 : 2 ≤ h) (hl4 : h ≤ 4) (hk : k < 20000) : Ct yX6_sharesBy cX6_sharesBy 4 none 3 [.ref 0, .int (nI k)] σ (fV (shbS σ n h k)) := by
  refine ct_of plX6 rfl (Nat.le_of_ble_eq_true rfl) (fun X hX C => ?_)
  show V X 0 [(0, .ref 0), (1, .int (nI k))] [] σ
  refine v_iload_n C dX6_sharesBy_0 rfl rfl rfl ?_
  refine v_istore_n (lv' := [(2, .int (nI k)), (0, .ref 0), (1, .int (nI k))]) C dX6_sharesBy_1 rfl (Nat.le_of_ble_eq_true rfl) rfl rfl ?_
  refine v_aload_n C dX6_sharesBy_2 rfl rfl rfl ?_
  refine v_getI C (Nat.le_of_ble_eq_true rfl) rfl rfl hinX6 8 (Nat.le_of_ble_eq_true rfl) lkX6_65 rfl dX6_sharesBy_3 rfl ?_
  refine V.tp hn ?_
  refine v_iconst (v := 1) C dX6_sharesBy_6 (by decide) rfl ?_
  refine v_isub C dX6_sharesBy_7 rfl ?_
  refine V.top (fun v8_1 ev8_1 => ?_)
  refine v_istore_n (lv' := [(3, .int v8_1), (2, .int (nI k)), (0, .ref 0), (1, .int (nI k))]) C dX6_sharesBy_8 rfl (Nat.le_of_ble_eq_true rfl) rfl rfl ?_
  have lp9 : ∀ (i : Nat) (w9 : Int32) (x2 : Int32) (τ : St), i ≤ n → w9 = nI i - 1 → x2 = nI (k / h ^ (n - i)) → τ = setR σ 15 (shbR h n k i (σ 15)) → V X 9 [(3, .int w9), (2, .int x2), (0, .ref 0), (1, .int (nI k))] [] τ := by
    intro i
    induction i with
    | zero =>
      intro w9 x2 τ h1 ew9 ex2 eτ
      have hv9 : w9 = -1 := by rw [ew9]; decide
      have hht : τ 0 9 = nI h := by rw [eτ, setR_o _ _ _ _ (by decide)]; exact hh
      refine v_iload_n C dX6_sharesBy_9 rfl rfl rfl ?_
      refine V.tp hv9 ?_
      refine v_if_lt (tgt := 38) C dX6_sharesBy_10 (by decide) rfl (fun _ => ?_) (fun q => absurd q (by decide))
      refine v_aload_n C dX6_sharesBy_38 rfl rfl rfl ?_
      refine v_callV C (Nat.le_of_ble_eq_true rfl) rfl rfl (As := []) (rest := []) (kX6_givesAll n (dig h n k) τ (by rw [eτ, setR_o _ _ _ _ (by decide)]; exact hn) h7 (fun p hp => ⟨by rw [eτ, setR_k, shbR, if_pos ⟨Nat.zero_le _, hp⟩], by have := Nat.mod_lt (k / h ^ (n - 1 - p)) (show 0 < h by omega); unfold dig; omega⟩)) rfl (Nat.le_of_ble_eq_true rfl) (Nat.le_of_ble_eq_true rfl) ⟨mlX6_207, mfX6_givesAll⟩ dkX6_givesAll (Nat.le_of_ble_eq_true rfl) dX6_sharesBy_39 rfl (kV ?_)
      exact v_vret C dX6_sharesBy_42 (by rw [hX]; exact fV_of (by rw [eτ]; rfl))
    | succ i ih9 =>
      intro w9 x2 τ h1 ew9 ex2 eτ
      have hv9 : w9 = nI i := by rw [ew9]; exact nI_pred i
      have hht : τ 0 9 = nI h := by rw [eτ, setR_o _ _ _ _ (by decide)]; exact hh
      refine v_iload_n C dX6_sharesBy_9 rfl rfl rfl ?_
      refine V.tp hv9 ?_
      refine v_if_lt (tgt := 38) C dX6_sharesBy_10 (by decide) rfl (fun q => absurd q (nI_pos (by omega))) (fun _ => ?_)
      refine v_aload_n C dX6_sharesBy_13 rfl rfl rfl ?_
      refine v_getR C (Nat.le_of_ble_eq_true rfl) rfl rfl hinX6 24 (Nat.le_of_ble_eq_true rfl) lkX6_52 rfl dX6_sharesBy_14 rfl ?_
      refine v_iload_n C dX6_sharesBy_17 rfl rfl rfl ?_
      refine V.tp hv9 ?_
      refine v_iload_n C dX6_sharesBy_18 rfl rfl rfl ?_
      refine V.tp ex2 ?_
      refine v_aload_n C dX6_sharesBy_19 rfl rfl rfl ?_
      refine v_getI C (Nat.le_of_ble_eq_true rfl) rfl rfl hinX6 9 (Nat.le_of_ble_eq_true rfl) lkX6_61 rfl dX6_sharesBy_20 rfl ?_
      refine V.tp hht ?_
      refine v_irem C dX6_sharesBy_23 (nI_ne0 (by omega) (by omega)) rfl ?_
      refine V.tp (pk_rem (a := (k / h ^ (n - (i + 1)))) (d := h) (Nat.lt_of_le_of_lt (Nat.div_le_self _ _) (by omega)) (by omega) (by omega)) ?_
      refine v_iast (i := i) C (Nat.le_of_ble_eq_true rfl) rfl rfl (by omega) (by decide) dX6_sharesBy_24 rfl ?_
      refine V.nm (fun τ24_2 eτ24_2 => ?_)
      have hht2 : τ24_2 0 9 = nI h := by rw [eτ24_2, s2_ne (by decide)]; exact hht
      refine v_iload_n C dX6_sharesBy_25 rfl rfl rfl ?_
      refine V.tp ex2 ?_
      refine v_aload_n C dX6_sharesBy_26 rfl rfl rfl ?_
      refine v_getI C (Nat.le_of_ble_eq_true rfl) rfl rfl hinX6 9 (Nat.le_of_ble_eq_true rfl) lkX6_61 rfl dX6_sharesBy_27 rfl ?_
      refine V.tp hht2 ?_
      refine v_idiv C dX6_sharesBy_30 (nI_ne0 (by omega) (by omega)) rfl ?_
      refine V.tp (pk_div (a := (k / h ^ (n - (i + 1)))) (d := h) (Nat.lt_of_le_of_lt (Nat.div_le_self _ _) (by omega)) (by omega) (by omega)) ?_
      refine V.top (fun v31_3 ev31_3 => ?_)
      refine v_istore_n (lv' := [(2, .int v31_3), (3, .int w9), (0, .ref 0), (1, .int (nI k))]) C dX6_sharesBy_31 rfl (Nat.le_of_ble_eq_true rfl) rfl rfl ?_
      obtain ⟨v32_4, ev32_4⟩ : ∃ y : Int32, y = w9 + (-1) := ⟨_, rfl⟩
      refine v_iinc (lv' := [(3, .int v32_4), (2, .int v31_3), (0, .ref 0), (1, .int (nI k))]) C dX6_sharesBy_32 rfl (by rw [ev32_4]; rfl) (Nat.le_of_ble_eq_true rfl) rfl rfl ?_
      refine v_goto (tgt := 9) C dX6_sharesBy_35 (by decide) ?_
      exact V.sub [0, 1, 2, 3] rfl (ih9 _ _ _ (by omega) (by rw [ev32_4, hv9, Int32.sub_eq_add_neg]) (by rw [ev31_3, Nat.div_div_eq_div_mul, ← Nat.pow_succ, show (n - (i + 1)).succ = n - i by omega]) (by rw [eτ24_2, eτ, setR_s2, ← shbR_step (i := i) (by omega), dig, show n - 1 - i = n - (i + 1) by omega]))
  exact V.sub [0, 1, 2, 3] rfl (lp9 n _ _ _ (by omega) ev8_1 (by rw [Nat.sub_self]; simp) (by rw [shbR_n, setR_self]))
theorem shaN_cg {s0 s1 bl : Nat → Int32} {g : Nat → Nat} (hs : ∀ j, j < 4 → s0 j = s1 j) : ∀ n, (∀ p, p < n → g p < 4) → ∀ j, j < 4 → shaN s0 bl g n j = shaN s1 bl g n j
  | 0, _, j, hj => hs j hj
  | n + 1, hg, j, hj => by
    have ih := shaN_cg (bl := bl) (g := g) hs n (fun p hp => hg p (by omega))
    simp only [shaN, upd]
    rw [ih j hj, ih (g n) (hg n (by omega))]
theorem minV_cg {f g : Nat → Int32} : ∀ h, (∀ j, j < h ∨ j = 0 → f j = g j) → minV f h = minV g h
  | 0, hs => hs 0 (Or.inr rfl)
  | h + 1, hs => by
    rw [minV, minV, minV_cg h (fun j hj => hs j (by omega)), hs 0 (Or.inr rfl)]
    by_cases e : h = 0
    · rw [if_pos e, if_pos e]
    · rw [if_neg e, if_neg e, hs h (by omega)]
theorem maxV_cg {f g : Nat → Int32} : ∀ h, (∀ j, j < h ∨ j = 0 → f j = g j) → maxV f h = maxV g h
  | 0, hs => hs 0 (Or.inr rfl)
  | h + 1, hs => by
    rw [maxV, maxV, maxV_cg h (fun j hj => hs j (by omega)), hs 0 (Or.inr rfl)]
    by_cases e : h = 0
    · rw [if_pos e, if_pos e]
    · rw [if_neg e, if_neg e, hs h (by omega)]
theorem aptF_cg {f g : Nat → Int32} {h : Nat} (h1 : 0 < h) (hs : ∀ j, j < h → f j = g j) : aptF f h = aptF g h := by
  rw [aptF, aptF, minV_cg h (fun j hj => hs j (by omega)), maxV_cg h (fun j hj => hs j (by omega))]
def fshN (F : Nat → Int32) : Nat → Nat × Int32
  | 0 => (0, -9)
  | i + 1 => if (fshN F i).2 < 0 ∨ F i < (fshN F i).2 then (i, F i) else fshN F i
theorem fshN_le (F : Nat → Int32) : ∀ i, (fshN F i).1 ≤ i
  | 0 => Nat.le_refl 0
  | i + 1 => by
    have := fshN_le F i
    rw [fshN]
    split
    · exact Nat.le_succ i
    · omega
def shF (σ : St) (n h k : Nat) : Int32 := aptF (shaN (fun _ => 0) (blR σ n) (dig h n k) n) h
theorem dig_lt {h n k p : Nat} (h2 : 2 ≤ h) (h4 : h ≤ 4) : dig h n k p < 4 := by
  have := Nat.mod_lt (k / h ^ (n - 1 - p)) (show 0 < h by omega)
  unfold dig; omega
theorem shbS_Sm {σ τ : St} (h : Sm σ τ) (n k c : Nat) : Sm σ (shbS τ n k c) := ⟨fun a ha => by rw [shbS, setR_o _ _ _ _ (by omega), setR_o _ _ _ _ (by omega)]; exact h.1 a ha, fun j hj => by rw [shbS, setR_o _ _ _ _ (by decide), setR_o _ _ _ _ (by decide)]; exact h.2.1 j hj, fun j hj => by rw [shbS, setR_o _ _ _ _ (by decide), setR_o _ _ _ _ (by decide)]; exact h.2.2 j hj⟩
theorem blR_sm {σ τ : St} (h : Sm σ τ) (n : Nat) : blR τ n = blR σ n := blR_cg (Sm_r h 4 (by decide)) (Sm_r h 6 (by decide)) (Sm_r h 7 (by decide)) (Sm_r h 8 (by decide)) n
theorem shbS_16 {σ τ : St} (h : Sm σ τ) {n hh k : Nat} (h2 : 2 ≤ hh) (h4 : hh ≤ 4) (j : Nat) (hj : j < 4) : shbS τ n hh k 16 j = shaN (fun _ => 0) (blR σ n) (dig hh n k) n j := by
  rw [shbS, setR_k, blR_sm h]
  exact shaN_cg (fun j hj => by rw [z4, pre, if_pos hj]) n (fun p _ => dig_lt h2 h4) j hj
theorem shbS_15 (τ : St) {n hh k : Nat} (p : Nat) (hp : p < n) : shbS τ n hh k 15 p = nI (dig hh n k p) := by
  rw [shbS, setR_o _ _ _ _ (by decide), setR_k, shbR, if_pos ⟨Nat.zero_le _, hp⟩]
theorem pow_small {h n : Nat} (h4 : h ≤ 4) (h7 : n ≤ 7) : h ^ n ≤ 16384 := by
  have a : h ^ n ≤ 4 ^ n := Nat.pow_le_pow_left h4 n
  have b : 4 ^ n ≤ 4 ^ 7 := Nat.pow_le_pow_right (by decide) h7
  have c : (4 : Nat) ^ 7 = 16384 := by decide
  omega
theorem kX6_findShares (n : Nat) (σ : St) (hn : σ 0 8 = nI n) (h7 : n ≤ 7) (h : Nat) (hh : σ 0 9 = nI h) (hl2 : 2 ≤ h) (hl4 : h ≤ 4) : Ct yX6_findShares cX6_findShares 4 (some .int) 4 [.ref 0] σ (rI (fun v τ => v = (fshN (shF σ n h) (h ^ n)).2 ∧ Sm σ τ ∧ (∀ p, p < n → τ 15 p = nI (dig h n (fshN (shF σ n h) (h ^ n)).1 p)) ∧ (∀ j, j < 4 → τ 16 j = shaN (fun _ => 0) (blR σ n) (dig h n (fshN (shF σ n h) (h ^ n)).1) n j))) := by
  have hpw := pow_small hl4 h7
  refine ct_of plX6 rfl (Nat.le_of_ble_eq_true rfl) (fun X hX C => ?_)
  show V X 0 [(0, .ref 0)] [] σ
  refine v_iconst (v := 0) C dX6_findShares_0 (by decide) rfl ?_
  refine v_istore_n (lv' := [(1, .int 0), (0, .ref 0)]) C dX6_findShares_1 rfl (Nat.le_of_ble_eq_true rfl) rfl rfl ?_
  refine v_bipush (v := -9) C dX6_findShares_2 (by decide) rfl ?_
  refine v_istore_n (lv' := [(2, .int (-9)), (1, .int 0), (0, .ref 0)]) C dX6_findShares_4 rfl (Nat.le_of_ble_eq_true rfl) rfl rfl ?_
  refine v_iconst (v := 0) C dX6_findShares_5 (by decide) rfl ?_
  refine v_istore_n (lv' := [(3, .int 0), (2, .int (-9)), (1, .int 0), (0, .ref 0)]) C dX6_findShares_6 rfl (Nat.le_of_ble_eq_true rfl) rfl rfl ?_
  have lp7 : ∀ (k i : Nat) (x1 : Int32) (x2 : Int32) (τ : St), (h ^ n) < i + k → i ≤ (h ^ n) → x1 = nI (fshN (shF σ n h) i).1 → x2 = (fshN (shF σ n h) i).2 → Sm σ τ → V X 7 [(3, .int (nI i)), (2, .int x2), (1, .int x1), (0, .ref 0)] [] τ := by
    intro k
    induction k with
    | zero => intro i x1 x2 τ h1 h2; omega
    | succ k ih7 =>
      intro i x1 x2 τ h1 h2 ex1 ex2 eτ
      have hnt : τ 0 8 = nI n := Sm_n eτ hn
      have hht : τ 0 9 = nI h := (eτ.2.1 9 (by decide)).trans hh
      refine v_iload_n C dX6_findShares_7 rfl rfl rfl ?_
      refine v_aload_n C dX6_findShares_8 rfl rfl rfl ?_
      refine v_getI C (Nat.le_of_ble_eq_true rfl) rfl rfl hinX6 9 (Nat.le_of_ble_eq_true rfl) lkX6_61 rfl dX6_findShares_9 rfl ?_
      refine V.tp hht ?_
      refine v_aload_n C dX6_findShares_12 rfl rfl rfl ?_
      refine v_getI C (Nat.le_of_ble_eq_true rfl) rfl rfl hinX6 8 (Nat.le_of_ble_eq_true rfl) lkX6_65 rfl dX6_findShares_13 rfl ?_
      refine V.tp hnt ?_
      refine v_callS C (As := [.int (nI h), .int (nI n)]) (rest := [.int (nI i)]) (kX6_power (nI h) n τ h7) rfl (Nat.le_of_ble_eq_true rfl) (Nat.le_of_ble_eq_true rfl) ⟨mlX6_190, mfX6_power⟩ dkX6_power (Nat.le_of_ble_eq_true rfl) dX6_findShares_16 rfl (kI ?_)
      refine V.tp (powN_nI h n) ?_
      refine v_icmp_ge (tgt := 55) C dX6_findShares_19 (by decide) rfl (fun c19 => ?_) (fun c19 => ?_)
      · skip
        have c19 := mt (nI_ltI (a := i) (b := (h ^ n)) (by omega) (by omega)).mpr c19
        have hie : i = h ^ n := by omega
        have hfl := fshN_le (shF σ n h) i
        refine v_aload_n C dX6_findShares_55 rfl rfl rfl ?_
        refine v_iload_n C dX6_findShares_56 rfl rfl rfl ?_
        refine V.tp ex1 ?_
        refine v_callV C (Nat.le_of_ble_eq_true rfl) rfl rfl (As := [.int (nI (fshN (shF σ n h) i).1)]) (rest := []) (kX6_sharesBy n ((fshN (shF σ n h) i).1) τ hnt h7 h hht hl2 hl4 (by omega)) rfl (Nat.le_of_ble_eq_true rfl) (Nat.le_of_ble_eq_true rfl) ⟨mlX6_210, mfX6_sharesBy⟩ dkX6_sharesBy (Nat.le_of_ble_eq_true rfl) dX6_findShares_57 rfl (kV ?_)
        refine V.nm (fun τ60_1 eτ60_1 => ?_)
        have hsτ60_1 : Sm σ τ60_1 := by rw [eτ60_1]; exact shbS_Sm eτ _ _ _
        have hhτ60_1 : τ60_1 0 9 = nI h := (hsτ60_1.2.1 9 (by decide)).trans hh
        have haτ60_1 : aptF (τ60_1 16) h = shF σ n h ((fshN (shF σ n h) i).1) := by rw [shF]; exact aptF_cg (by omega) (fun j hj => by rw [eτ60_1]; exact shbS_16 eτ hl2 hl4 j (by omega))
        refine v_iload_n C dX6_findShares_60 rfl rfl rfl ?_
        exact v_iret C dX6_findShares_61 (by rw [hX]; exact ⟨_, rfl, by rw [ex2, hie], hsτ60_1, fun p hp => by rw [eτ60_1, ← hie]; exact shbS_15 _ p hp, fun j hj => by rw [eτ60_1, ← hie]; exact shbS_16 eτ hl2 hl4 j hj⟩)
      · skip
        have c19 := (nI_ltI (a := i) (b := (h ^ n)) (by omega) (by omega)).mp c19
        refine v_aload_n C dX6_findShares_22 rfl rfl rfl ?_
        refine v_iload_n C dX6_findShares_23 rfl rfl rfl ?_
        refine v_callV C (Nat.le_of_ble_eq_true rfl) rfl rfl (As := [.int (nI i)]) (rest := []) (kX6_sharesBy n i τ hnt h7 h hht hl2 hl4 (by omega)) rfl (Nat.le_of_ble_eq_true rfl) (Nat.le_of_ble_eq_true rfl) ⟨mlX6_210, mfX6_sharesBy⟩ dkX6_sharesBy (Nat.le_of_ble_eq_true rfl) dX6_findShares_24 rfl (kV ?_)
        refine V.nm (fun τ27_2 eτ27_2 => ?_)
        have hsτ27_2 : Sm σ τ27_2 := by rw [eτ27_2]; exact shbS_Sm eτ _ _ _
        have hhτ27_2 : τ27_2 0 9 = nI h := (hsτ27_2.2.1 9 (by decide)).trans hh
        have haτ27_2 : aptF (τ27_2 16) h = shF σ n h i := by rw [shF]; exact aptF_cg (by omega) (fun j hj => by rw [eτ27_2]; exact shbS_16 eτ hl2 hl4 j (by omega))
        refine v_iload_n C dX6_findShares_27 rfl rfl rfl ?_
        refine v_if_lt (tgt := 42) C dX6_findShares_28 (by decide) rfl (fun c28 => ?_) (fun c28 => ?_)
        · skip
          refine v_iload_n C dX6_findShares_42 rfl rfl rfl ?_
          refine v_istore_n (lv' := [(1, .int (nI i)), (3, .int (nI i)), (2, .int x2), (0, .ref 0)]) C dX6_findShares_43 rfl (Nat.le_of_ble_eq_true rfl) rfl rfl ?_
          refine v_aload_n C dX6_findShares_44 rfl rfl rfl ?_
          refine v_callV C (Nat.le_of_ble_eq_true rfl) rfl rfl (As := []) (rest := []) (kX6_apart τ27_2 h hhτ27_2 hl2 hl4) rfl (Nat.le_of_ble_eq_true rfl) (Nat.le_of_ble_eq_true rfl) ⟨mlX6_213, mfX6_apart⟩ dkX6_apart (Nat.le_of_ble_eq_true rfl) dX6_findShares_45 rfl (kI ?_)
          refine V.tp haτ27_2 ?_
          refine V.top (fun v48_3 ev48_3 => ?_)
          refine v_istore_n (lv' := [(2, .int v48_3), (1, .int (nI i)), (3, .int (nI i)), (0, .ref 0)]) C dX6_findShares_48 rfl (Nat.le_of_ble_eq_true rfl) rfl rfl ?_
          refine v_iinc (lv' := [(3, .int (nI (i + 1))), (2, .int v48_3), (1, .int (nI i)), (0, .ref 0)]) C dX6_findShares_49 rfl (nI_inc i) (Nat.le_of_ble_eq_true rfl) rfl rfl ?_
          refine v_goto (tgt := 7) C dX6_findShares_52 (by decide) ?_
          exact V.sub [0, 1, 2, 3] rfl (ih7 (i + 1) _ _ _ (by omega) (by omega) (by simp [fshN, ← ex1, ← ex2, c28]) (by rw [ev48_3]; simp [fshN, ← ex2, c28]) (hsτ27_2))
        · skip
          refine v_aload_n C dX6_findShares_31 rfl rfl rfl ?_
          refine v_callV C (Nat.le_of_ble_eq_true rfl) rfl rfl (As := []) (rest := []) (kX6_apart τ27_2 h hhτ27_2 hl2 hl4) rfl (Nat.le_of_ble_eq_true rfl) (Nat.le_of_ble_eq_true rfl) ⟨mlX6_213, mfX6_apart⟩ dkX6_apart (Nat.le_of_ble_eq_true rfl) dX6_findShares_32 rfl (kI ?_)
          refine V.tp haτ27_2 ?_
          refine v_iload_n C dX6_findShares_35 rfl rfl rfl ?_
          refine v_icmp_lt (tgt := 42) C dX6_findShares_36 (by decide) rfl (fun c36 => ?_) (fun c36 => ?_)
          · skip
            refine v_iload_n C dX6_findShares_42 rfl rfl rfl ?_
            refine v_istore_n (lv' := [(1, .int (nI i)), (3, .int (nI i)), (2, .int x2), (0, .ref 0)]) C dX6_findShares_43 rfl (Nat.le_of_ble_eq_true rfl) rfl rfl ?_
            refine v_aload_n C dX6_findShares_44 rfl rfl rfl ?_
            refine v_callV C (Nat.le_of_ble_eq_true rfl) rfl rfl (As := []) (rest := []) (kX6_apart τ27_2 h hhτ27_2 hl2 hl4) rfl (Nat.le_of_ble_eq_true rfl) (Nat.le_of_ble_eq_true rfl) ⟨mlX6_213, mfX6_apart⟩ dkX6_apart (Nat.le_of_ble_eq_true rfl) dX6_findShares_45 rfl (kI ?_)
            refine V.tp haτ27_2 ?_
            refine V.top (fun v48_4 ev48_4 => ?_)
            refine v_istore_n (lv' := [(2, .int v48_4), (1, .int (nI i)), (3, .int (nI i)), (0, .ref 0)]) C dX6_findShares_48 rfl (Nat.le_of_ble_eq_true rfl) rfl rfl ?_
            refine v_iinc (lv' := [(3, .int (nI (i + 1))), (2, .int v48_4), (1, .int (nI i)), (0, .ref 0)]) C dX6_findShares_49 rfl (nI_inc i) (Nat.le_of_ble_eq_true rfl) rfl rfl ?_
            refine v_goto (tgt := 7) C dX6_findShares_52 (by decide) ?_
            exact V.sub [0, 1, 2, 3] rfl (ih7 (i + 1) _ _ _ (by omega) (by omega) (by simp [fshN, ← ex1, ← ex2, c28, c36]) (by rw [ev48_4]; simp [fshN, ← ex2, c28, c36]) (hsτ27_2))
          · skip
            refine v_goto (tgt := 49) C dX6_findShares_39 (by decide) ?_
            refine v_iinc (lv' := [(3, .int (nI (i + 1))), (2, .int x2), (1, .int x1), (0, .ref 0)]) C dX6_findShares_49 rfl (nI_inc i) (Nat.le_of_ble_eq_true rfl) rfl rfl ?_
            refine v_goto (tgt := 7) C dX6_findShares_52 (by decide) ?_
            exact V.sub [0, 1, 2, 3] rfl (ih7 (i + 1) _ _ _ (by omega) (by omega) (by simp [fshN, ← ex1, ← ex2, c28, c36]) (by simp [fshN, ← ex2, c28, c36]) (hsτ27_2))
  exact V.sub [0, 1, 2, 3] rfl (lp7 ((h ^ n) + 1) 0 0 _ _ (by omega) (by omega) (rfl) (rfl) (Sm.rf σ))
end
section
/-! the check's class: choice, shares, envy (the rows on bits are the kit's, pasted) -/
def bt (x : Int32) (i : Nat) : Bool := x.toBitVec.getLsbD i
theorem b_ext {x y : Int32} (h : ∀ i, i < 32 → bt x i = bt y i) : x = y := Int32.toBitVec_inj.mp (BitVec.eq_of_getLsbD_eq (fun i hi => h i hi))
theorem b_or (x y : Int32) (i : Nat) : bt (x ||| y) i = (bt x i || bt y i) := by unfold bt; rw [Int32.toBitVec_or, BitVec.getLsbD_or]
theorem b_and (x y : Int32) (i : Nat) : bt (x &&& y) i = (bt x i && bt y i) := by unfold bt; rw [Int32.toBitVec_and, BitVec.getLsbD_and]
theorem b_xor (x y : Int32) (i : Nat) : bt (x ^^^ y) i = (bt x i ^^ bt y i) := by unfold bt; rw [Int32.toBitVec_xor, BitVec.getLsbD_xor]
theorem b_big {x : Int32} {i : Nat} (h : 32 ≤ i) : bt x i = false := BitVec.getLsbD_of_ge _ _ h
theorem b_255 (i : Nat) : bt 255 i = decide (i < 8) := by
  rcases Nat.lt_or_ge i 32 with h | h
  · exact (by decide +kernel : ∀ i, i < 32 → bt 255 i = decide (i < 8)) i h
  · rw [b_big h, decide_eq_false (by omega)]
theorem b_65535 (i : Nat) : bt 65535 i = decide (i < 16) := by
  rcases Nat.lt_or_ge i 32 with h | h
  · exact (by decide +kernel : ∀ i, i < 32 → bt 65535 i = decide (i < 16)) i h
  · rw [b_big h, decide_eq_false (by omega)]
theorem b_m1 : ∀ i, i < 32 → bt (-1) i = true := by decide +kernel
theorem b_0 (i : Nat) : bt 0 i = false := BitVec.getLsbD_zero
theorem s_l : ∀ n, n < 32 → ((nI n &&& 31).toBitVec.smod 32).toNat = n := by decide +kernel
theorem s_u : ∀ n, n < 32 → (((nI n).toUInt32 &&& Int32.toUInt32 31).toBitVec % 32).toNat = n := by decide +kernel
theorem b_shl (n : Nat) (hn : n < 32) (x : Int32) {i : Nat} (hi : i < 32) : bt (x <<< (nI n &&& 31)) i = (decide (n ≤ i) && bt x (i - n)) := by
  unfold bt
  rw [Int32.toBitVec_shiftLeft]
  show (x.toBitVec <<< ((nI n &&& 31).toBitVec.smod 32).toNat).getLsbD i = _
  rw [s_l n hn, BitVec.getLsbD_shiftLeft]
  rcases Nat.lt_or_ge i n with h | h
  · simp [h, Nat.not_le.mpr h]
  · simp [hi, h, Nat.not_lt.mpr h]
theorem b_ushr (n : Nat) (hn : n < 32) (x : Int32) (i : Nat) : bt ((x.toUInt32 >>> ((nI n).toUInt32 &&& Int32.toUInt32 31)).toInt32) i = bt x (n + i) := by
  show (x.toUInt32 >>> ((nI n).toUInt32 &&& Int32.toUInt32 31)).toBitVec.getLsbD i = x.toUInt32.toBitVec.getLsbD (n + i)
  rw [UInt32.toBitVec_shiftRight]
  show (x.toUInt32.toBitVec >>> (((nI n).toUInt32 &&& Int32.toUInt32 31).toBitVec % 32).toNat).getLsbD i = _
  rw [s_u n hn, BitVec.getLsbD_ushiftRight]
theorem b_sshr (n : Nat) (hn : n < 32) (x : Int32) {i : Nat} (hi : i < 32) : bt (x >>> (nI n &&& 31)) i = if n + i < 32 then bt x (n + i) else bt x 31 := by
  unfold bt
  rw [Int32.toBitVec_shiftRight]
  show (x.toBitVec.sshiftRight ((nI n &&& 31).toBitVec.smod 32).toNat).getLsbD i = _
  rw [s_l n hn, BitVec.getLsbD_sshiftRight, BitVec.msb_eq_getLsbD_last]
  simp [hi]
theorem b_1 (i : Nat) : bt 1 i = decide (i = 0) := by
  rcases Nat.lt_or_ge i 32 with h | h
  · exact (by decide +kernel : ∀ i, i < 32 → bt 1 i = decide (i = 0)) i h
  · rw [b_big h, decide_eq_false (by omega)]
theorem and1 (x : Int32) : x &&& 1 = 1 ↔ bt x 0 = true := by
  constructor
  · intro h
    have := b_and x 1 0
    rw [h, b_1] at this
    simpa using this.symm
  · intro h
    apply b_ext
    intro i hi
    rw [b_and, b_1]
    by_cases e : i = 0
    · subst e; simp [h]
    · simp [e]
theorem hasP_bt {s : Int32} {p : Nat} (hp : p < 31) : hasP s (nI p) ↔ bt s p = true := by
  rw [hasP, and1, b_sshr p (by omega) s (by decide), if_pos (by omega)]; rfl
theorem bt_set {t : Int32} {b p : Nat} (hb : b < 31) (hp : p < 31) : bt (t ||| (1 : Int32) <<< (nI b &&& 31)) p = (bt t p || decide (p = b)) := by
  rw [b_or, b_shl b (by omega) 1 (by omega), b_1]
  congr 1
  by_cases h : p = b
  · subst h; simp
  · by_cases g : b ≤ p
    · simp [h, g, show ¬ p - b = 0 by omega]
    · simp [h, g]
noncomputable def cN (P : Nat → Prop) : Nat → Nat
  | 0 => 0
  | i + 1 => cN P i + cI (P i) 1 0
theorem cN_full {P : Nat → Prop} : ∀ n, (∀ p, p < n → P p) → cN P n = n
  | 0, _ => rfl
  | n + 1, h => by rw [cN, cN_full n (fun p hp => h p (by omega)), cI_t (h n (by omega))]
theorem cN_none {P : Nat → Prop} : ∀ n, (∀ p, p < n → ¬ P p) → cN P n = 0
  | 0, _ => rfl
  | n + 1, h => by rw [cN, cN_none n (fun p hp => h p (by omega)), cI_f (h n (by omega))]
theorem cN_add {P Q : Nat → Prop} {b : Nat} : ∀ n, (∀ p, p < n → (Q p → P p ∨ p = b)) → cN Q n ≤ cN P n + cI (b < n) 1 0
  | 0, _ => Nat.zero_le _
  | n + 1, h => by
    have ih := cN_add (P := P) (Q := Q) (b := b) n (fun p hp => h p (by omega))
    rw [cN, cN]
    by_cases hb : b = n
    · subst hb
      rw [cI_f (by omega)] at ih
      rw [cI_t (P := b < b + 1) (by omega)]
      by_cases q : Q b
      · rw [cI_t q]; omega
      · rw [cI_f q]; omega
    · have hbn : cI (b < n + 1) 1 0 = cI (b < n) 1 0 := by
        by_cases g : b < n
        · rw [cI_t g, cI_t (by omega)]
        · rw [cI_f g, cI_f (by omega)]
      rw [hbn]
      by_cases q : Q n
      · rw [cI_t q]
        rcases h n (by omega) q with z | z
        · rw [cI_t z]; omega
        · exact absurd z.symm hb
      · rw [cI_f q]; omega
theorem minN_none {ok : Nat → Prop} {f : Nat → Int32} : ∀ n, minN ok f n = none → ∀ p, p < n → ¬ ok p
  | 0, _, p, hp => by omega
  | n + 1, h, p, hp => by
    simp only [minN] at h
    split at h
    · next hq =>
      by_cases g : ok n
      · rw [cI_t g] at h; cases h
      · by_cases e : p = n
        · subst e; exact g
        · exact minN_none n hq p (by omega)
    · next c hq =>
      by_cases g : ok n ∧ f n < f c
      · rw [cI_t g] at h; cases h
      · rw [cI_f g] at h; cases h
noncomputable def tkN (bl : Nat → Int32) (n : Nat) : Nat → Int32
  | 0 => 0
  | k + 1 => tkN bl n k ||| (1 : Int32) <<< (oI (minN (fun p => ¬ hasP (tkN bl n k) (nI p)) bl n) &&& 31)
noncomputable def chM (bl : Nat → Int32) (n k : Nat) : Option Nat := minN (fun p => ¬ hasP (tkN bl n k) (nI p)) bl n
noncomputable def chS (s0 bl : Nat → Int32) (n h : Nat) : Nat → (Nat → Int32)
  | 0 => s0
  | k + 1 => upd (chS s0 bl n h k) (k % h) (chS s0 bl n h k (k % h) + ofO bl 0 (chM bl n k))
def chL (h : Nat) : Nat → Int32
  | 0 => -9
  | k + 1 => nI (k % h)
theorem tk_bt (bl : Nat → Int32) {n : Nat} (h7 : n ≤ 7) (k : Nat) {p : Nat} (hp : p < 7) : bt (tkN bl n (k + 1)) p = (bt (tkN bl n k) p || decide (chM bl n k = some p)) := by
  rw [tkN]
  rcases hq : chM bl n k with _ | b
  · rw [show minN (fun p => ¬ hasP (tkN bl n k) (nI p)) bl n = none from hq]
    show bt (_ ||| (1 : Int32) <<< ((-9 : Int32) &&& 31)) p = _
    rw [show ((-9 : Int32) &&& 31) = (nI 23 &&& 31) by decide, bt_set (by decide) (by omega)]
    simp; omega
  · have hb : b < n := minN_lt hq
    rw [show minN (fun p => ¬ hasP (tkN bl n k) (nI p)) bl n = some b from hq]
    show bt (_ ||| (1 : Int32) <<< (nI b &&& 31)) p = _
    rw [bt_set (by omega) (by omega)]
    congr 1
    simp [eq_comm]
theorem tk_cnt (bl : Nat → Int32) {n : Nat} (h7 : n ≤ 7) : ∀ k, cN (fun p => hasP (tkN bl n k) (nI p)) n ≤ k
  | 0 => by
    rw [cN_none]
    · exact Nat.le_refl 0
    · intro p hp; rw [hasP_bt (by omega)]; simp [tkN, b_0]
  | k + 1 => by
    have ih := tk_cnt bl h7 k
    rcases hq : chM bl n k with _ | b
    · have : cN (fun p => hasP (tkN bl n (k + 1)) (nI p)) n ≤ cN (fun p => hasP (tkN bl n k) (nI p)) n + cI (n < n) 1 0 := cN_add (b := n) n (fun p hp q => by
        rw [hasP_bt (by omega), tk_bt bl h7 k (by omega), hq] at q
        left
        rw [hasP_bt (by omega)]
        simpa using q)
      rw [cI_f (by omega)] at this
      omega
    · have : cN (fun p => hasP (tkN bl n (k + 1)) (nI p)) n ≤ cN (fun p => hasP (tkN bl n k) (nI p)) n + cI (b < n) 1 0 := cN_add (b := b) n (fun p hp q => by
        rw [hasP_bt (by omega), tk_bt bl h7 k (by omega), hq] at q
        rw [hasP_bt (by omega)]
        simp at q
        rcases q with q | q
        · exact Or.inl q
        · exact Or.inr q.symm)
      have c1 : cI (b < n) 1 0 ≤ 1 := by
        by_cases g : b < n
        · rw [cI_t g]; omega
        · rw [cI_f g]; omega
      omega
theorem chM_some (bl : Nat → Int32) {n k : Nat} (h7 : n ≤ 7) (hk : k < n) : ∃ p, chM bl n k = some p ∧ p < n := by
  rcases hq : chM bl n k with _ | b
  · exfalso
    have h1 := minN_none n hq
    have h2 := cN_full (P := fun p => hasP (tkN bl n k) (nI p)) n (fun p hp => Classical.not_not.mp (h1 p hp))
    have := tk_cnt bl h7 k
    omega
  · exact ⟨b, rfl, minN_lt hq⟩
theorem kX6_mildest (t : Int32) (n : Nat) (σ : St) (hn : σ 0 8 = nI n) (h7 : n ≤ 7) : Ct yX6_mildest cX6_mildest 4 (some .int) 2 [.ref 0, .int t] σ (fI (oI (minN (fun p => ¬ hasP t (nI p)) (blR σ n) n)) σ) := by
  refine ct_of plX6 rfl (Nat.le_of_ble_eq_true rfl) (fun X hX C => ?_)
  show V X 0 [(0, .ref 0), (1, .int t)] [] σ
  refine v_bipush (v := -9) C dX6_mildest_0 (by decide) rfl ?_
  refine v_istore_n (lv' := [(2, .int (-9)), (0, .ref 0), (1, .int t)]) C dX6_mildest_2 rfl (Nat.le_of_ble_eq_true rfl) rfl rfl ?_
  refine v_iconst (v := 0) C dX6_mildest_3 (by decide) rfl ?_
  refine v_istore_n (lv' := [(3, .int 0), (2, .int (-9)), (0, .ref 0), (1, .int t)]) C dX6_mildest_4 rfl (Nat.le_of_ble_eq_true rfl) rfl rfl ?_
  have lp5 : ∀ (k i : Nat) (x2 : Int32) , n < i + k → i ≤ n → x2 = oI (minN (fun p => ¬ hasP t (nI p)) (blR σ n) i) → V X 5 [(3, .int (nI i)), (2, .int x2), (0, .ref 0), (1, .int t)] [] σ := by
    intro k
    induction k with
    | zero => intro i x2 h1 h2; omega
    | succ k ih5 =>
      intro i x2 h1 h2 ex2
      rcases hq : minN (fun p => ¬ hasP t (nI p)) (blR σ n) i with _ | b
      · have hx : x2 = -9 := by rw [ex2, hq]; rfl
        refine v_iload_n C dX6_mildest_5 rfl rfl rfl ?_
        refine v_aload_n C dX6_mildest_6 rfl rfl rfl ?_
        refine v_getI C (Nat.le_of_ble_eq_true rfl) rfl rfl hinX6 8 (Nat.le_of_ble_eq_true rfl) lkX6_65 rfl dX6_mildest_7 rfl ?_
        refine V.tp hn ?_
        refine v_icmp_ge (tgt := 46) C dX6_mildest_10 (by decide) rfl (fun c10 => ?_) (fun c10 => ?_)
        · skip
          have c10 := mt (nI_ltI (a := i) (b := n) (by omega) (by omega)).mpr c10
          refine v_iload_n C dX6_mildest_46 rfl rfl rfl ?_
          refine V.tp hx ?_
          exact v_iret C dX6_mildest_47 (by rw [hX]; exact fI_of (by rw [← hx, ex2, show i = n by omega]) rfl)
        · skip
          have c10 := (nI_ltI (a := i) (b := n) (by omega) (by omega)).mp c10
          refine v_iload_n C dX6_mildest_13 rfl rfl rfl ?_
          refine v_iload_n C dX6_mildest_14 rfl rfl rfl ?_
          refine v_callS C (As := [.int t, .int (nI i)]) (rest := []) (kX6_has t (nI i) σ) rfl (Nat.le_of_ble_eq_true rfl) (Nat.le_of_ble_eq_true rfl) ⟨mlX6_181, mfX6_has⟩ dkX6_has (Nat.le_of_ble_eq_true rfl) dX6_mildest_15 rfl (kI ?_)
          refine v_if_ne (tgt := 40) C dX6_mildest_18 (by decide) rfl (fun c18 => ?_) (fun c18 => ?_)
          · skip
            have c18 := bI_n c18
            refine v_iinc (lv' := [(3, .int (nI (i + 1))), (2, .int x2), (0, .ref 0), (1, .int t)]) C dX6_mildest_40 rfl (nI_inc i) (Nat.le_of_ble_eq_true rfl) rfl rfl ?_
            refine v_goto (tgt := 5) C dX6_mildest_43 (by decide) ?_
            exact V.sub [0, 1, 2, 3] rfl (ih5 (i + 1) _ (by omega) (by omega) (by rw [hx]; simp [minN, hq, oI, cI, blR, c18]))
          · skip
            have c18 := bI_0 c18
            refine v_iload_n C dX6_mildest_21 rfl rfl rfl ?_
            refine V.tp hx ?_
            refine v_if_lt (tgt := 38) C dX6_mildest_22 (by decide) rfl (fun _ => ?_) (fun q => absurd q (by decide))
            refine v_iload_n C dX6_mildest_38 rfl rfl rfl ?_
            refine v_istore_n (lv' := [(2, .int (nI i)), (3, .int (nI i)), (0, .ref 0), (1, .int t)]) C dX6_mildest_39 rfl (Nat.le_of_ble_eq_true rfl) rfl rfl ?_
            refine v_iinc (lv' := [(3, .int (nI (i + 1))), (2, .int (nI i)), (0, .ref 0), (1, .int t)]) C dX6_mildest_40 rfl (nI_inc i) (Nat.le_of_ble_eq_true rfl) rfl rfl ?_
            refine v_goto (tgt := 5) C dX6_mildest_43 (by decide) ?_
            exact V.sub [0, 1, 2, 3] rfl (ih5 (i + 1) _ (by omega) (by omega) (by simp [minN, hq, oI, cI, blR, c18]))
      · have hx : x2 = nI b := by rw [ex2, hq]; rfl
        have hbl := minN_lt hq
        refine v_iload_n C dX6_mildest_5 rfl rfl rfl ?_
        refine v_aload_n C dX6_mildest_6 rfl rfl rfl ?_
        refine v_getI C (Nat.le_of_ble_eq_true rfl) rfl rfl hinX6 8 (Nat.le_of_ble_eq_true rfl) lkX6_65 rfl dX6_mildest_7 rfl ?_
        refine V.tp hn ?_
        refine v_icmp_ge (tgt := 46) C dX6_mildest_10 (by decide) rfl (fun c10 => ?_) (fun c10 => ?_)
        · skip
          have c10 := mt (nI_ltI (a := i) (b := n) (by omega) (by omega)).mpr c10
          refine v_iload_n C dX6_mildest_46 rfl rfl rfl ?_
          refine V.tp hx ?_
          exact v_iret C dX6_mildest_47 (by rw [hX]; exact fI_of (by rw [← hx, ex2, show i = n by omega]) rfl)
        · skip
          have c10 := (nI_ltI (a := i) (b := n) (by omega) (by omega)).mp c10
          refine v_iload_n C dX6_mildest_13 rfl rfl rfl ?_
          refine v_iload_n C dX6_mildest_14 rfl rfl rfl ?_
          refine v_callS C (As := [.int t, .int (nI i)]) (rest := []) (kX6_has t (nI i) σ) rfl (Nat.le_of_ble_eq_true rfl) (Nat.le_of_ble_eq_true rfl) ⟨mlX6_181, mfX6_has⟩ dkX6_has (Nat.le_of_ble_eq_true rfl) dX6_mildest_15 rfl (kI ?_)
          refine v_if_ne (tgt := 40) C dX6_mildest_18 (by decide) rfl (fun c18 => ?_) (fun c18 => ?_)
          · skip
            have c18 := bI_n c18
            refine v_iinc (lv' := [(3, .int (nI (i + 1))), (2, .int x2), (0, .ref 0), (1, .int t)]) C dX6_mildest_40 rfl (nI_inc i) (Nat.le_of_ble_eq_true rfl) rfl rfl ?_
            refine v_goto (tgt := 5) C dX6_mildest_43 (by decide) ?_
            exact V.sub [0, 1, 2, 3] rfl (ih5 (i + 1) _ (by omega) (by omega) (by rw [hx]; simp [minN, hq, oI, cI, blR, c18]))
          · skip
            have c18 := bI_0 c18
            refine v_iload_n C dX6_mildest_21 rfl rfl rfl ?_
            refine V.tp hx ?_
            refine v_if_lt (tgt := 38) C dX6_mildest_22 (by decide) rfl (fun q => absurd q (nI_pos (by omega))) (fun _ => ?_)
            refine v_aload_n C dX6_mildest_25 rfl rfl rfl ?_
            refine v_iload_n C dX6_mildest_26 rfl rfl rfl ?_
            refine v_callV C (Nat.le_of_ble_eq_true rfl) rfl rfl (As := [.int (nI i)]) (rest := []) (kX6_blameOf n i σ hn h7 (by omega)) rfl (Nat.le_of_ble_eq_true rfl) (Nat.le_of_ble_eq_true rfl) ⟨mlX6_169, mfX6_blameOf⟩ dkX6_blameOf (Nat.le_of_ble_eq_true rfl) dX6_mildest_27 rfl (kI ?_)
            refine v_aload_n C dX6_mildest_30 rfl rfl rfl ?_
            refine v_iload_n C dX6_mildest_31 rfl rfl rfl ?_
            refine V.tp hx ?_
            refine v_callV C (Nat.le_of_ble_eq_true rfl) rfl rfl (As := [.int (nI b)]) (rest := [.int (blaF (σ 4) (σ 6) (σ 7) (σ 8) n i)]) (kX6_blameOf n b σ hn h7 (by omega)) rfl (Nat.le_of_ble_eq_true rfl) (Nat.le_of_ble_eq_true rfl) ⟨mlX6_169, mfX6_blameOf⟩ dkX6_blameOf (Nat.le_of_ble_eq_true rfl) dX6_mildest_32 rfl (kI ?_)
            refine v_icmp_ge (tgt := 40) C dX6_mildest_35 (by decide) rfl (fun c35 => ?_) (fun c35 => ?_)
            · skip
              refine v_iinc (lv' := [(3, .int (nI (i + 1))), (2, .int x2), (0, .ref 0), (1, .int t)]) C dX6_mildest_40 rfl (nI_inc i) (Nat.le_of_ble_eq_true rfl) rfl rfl ?_
              refine v_goto (tgt := 5) C dX6_mildest_43 (by decide) ?_
              exact V.sub [0, 1, 2, 3] rfl (ih5 (i + 1) _ (by omega) (by omega) (by rw [hx]; simp [minN, hq, oI, cI, blR, c18, c35]))
            · skip
              refine v_iload_n C dX6_mildest_38 rfl rfl rfl ?_
              refine v_istore_n (lv' := [(2, .int (nI i)), (3, .int (nI i)), (0, .ref 0), (1, .int t)]) C dX6_mildest_39 rfl (Nat.le_of_ble_eq_true rfl) rfl rfl ?_
              refine v_iinc (lv' := [(3, .int (nI (i + 1))), (2, .int (nI i)), (0, .ref 0), (1, .int t)]) C dX6_mildest_40 rfl (nI_inc i) (Nat.le_of_ble_eq_true rfl) rfl rfl ?_
              refine v_goto (tgt := 5) C dX6_mildest_43 (by decide) ?_
              exact V.sub [0, 1, 2, 3] rfl (ih5 (i + 1) _ (by omega) (by omega) (by simp [minN, hq, oI, cI, blR, c18, c35]))
  exact V.sub [0, 1, 2, 3] rfl (lp5 (n + 1) 0 _ (by omega) (by omega) (rfl))
noncomputable def choA (σ : St) (n h : Nat) (v : Int32) : Int32 := if v < -1 then -4 else if v < nI h then (if v < 0 then chL h n else chS (z4 (σ 16)) (blR σ n) n h n (tn v)) else -1
theorem heir_nat {v : Int32} {h : Nat} (h4 : h ≤ 4) (h1 : ¬ v < 0) (h2 : v < nI h) : v = nI (tn v) ∧ tn v < h := piece_nat (by omega) ⟨h1, h2⟩
theorem kX6_choice (v : Int32) (n : Nat) (σ : St) (hn : σ 0 8 = nI n) (h7 : n ≤ 7) (h : Nat) (hh : σ 0 9 = nI h) (hl2 : 2 ≤ h) (hl4 : h ≤ 4) : Ct yX6_choice cX6_choice 7 (some .int) 3 [.ref 0, .int v] σ (rI (fun r τ => r = choA σ n h v ∧ ((v < -1 ∧ τ = noS σ 4) ∨ (¬ v < -1 ∧ ¬ v < nI h ∧ τ = noS σ 1) ∨ (¬ v < -1 ∧ v < nI h ∧ Sm σ τ)))) := by
  refine ct_of plX6 rfl (Nat.le_of_ble_eq_true rfl) (fun X hX C => ?_)
  show V X 0 [(0, .ref 0), (1, .int v)] [] σ
  refine v_iload_n C dX6_choice_0 rfl rfl rfl ?_
  refine v_iconst (v := -1) C dX6_choice_1 (by decide) rfl ?_
  refine v_icmp_ge (tgt := 10) C dX6_choice_2 (by decide) rfl (fun c2 => ?_) (fun c2 => ?_)
  · skip
    refine v_iload_n C dX6_choice_10 rfl rfl rfl ?_
    refine v_aload_n C dX6_choice_11 rfl rfl rfl ?_
    refine v_getI C (Nat.le_of_ble_eq_true rfl) rfl rfl hinX6 9 (Nat.le_of_ble_eq_true rfl) lkX6_61 rfl dX6_choice_12 rfl ?_
    refine V.tp hh ?_
    refine v_icmp_lt (tgt := 22) C dX6_choice_15 (by decide) rfl (fun c15 => ?_) (fun c15 => ?_)
    · skip
      refine v_iconst (v := 0) C dX6_choice_22 (by decide) rfl ?_
      have q1 := c2
      have q2 := c15
      refine v_istore_n (lv' := [(2, .int 0), (0, .ref 0), (1, .int v)]) C dX6_choice_23 rfl (Nat.le_of_ble_eq_true rfl) rfl rfl ?_
      refine v_iload_n C dX6_choice_24 rfl rfl rfl ?_
      refine v_if_eq (tgt := 34) C dX6_choice_25 (by decide) rfl (fun _ => ?_) (fun q => absurd q (by decide))
      refine v_iconst (v := 0) C dX6_choice_34 (by decide) rfl ?_
      refine v_istore_n (lv' := [(3, .int 0), (2, .int 0), (0, .ref 0), (1, .int v)]) C dX6_choice_35 rfl (Nat.le_of_ble_eq_true rfl) rfl rfl ?_
      have lp36 : ∀ (k i : Nat)  (τ : St), 4 < i + k → i ≤ 4 → τ = setR σ 16 (pre i (fun _ => 0) (σ 16)) → V X 36 [(3, .int (nI i)), (2, .int 0), (0, .ref 0), (1, .int v)] [] τ := by
        intro k
        induction k with
        | zero => intro i  τ h1 h2; omega
        | succ k ih36 =>
          intro i  τ h1 h2  eτ
          refine v_iload_n C dX6_choice_36 rfl rfl rfl ?_
          refine v_iconst (v := 4) C dX6_choice_37 (by decide) rfl ?_
          refine v_icmp_ge (tgt := 54) C dX6_choice_38 (by decide) rfl (fun c38 => ?_) (fun c38 => ?_)
          · skip
            have c38 := mt (nI_ltI (a := i) (b := 4) (by omega) (by omega)).mpr c38
            refine v_iconst (v := 0) C dX6_choice_54 (by decide) rfl ?_
            refine v_istore_n (lv' := [(3, .int 0), (2, .int 0), (0, .ref 0), (1, .int v)]) C dX6_choice_55 rfl (Nat.le_of_ble_eq_true rfl) rfl rfl ?_
            refine v_bipush (v := -9) C dX6_choice_56 (by decide) rfl ?_
            refine v_istore (lv' := [(4, .int (-9)), (3, .int 0), (2, .int 0), (0, .ref 0), (1, .int v)]) C dX6_choice_58 (Nat.le_of_ble_eq_true rfl) rfl rfl ?_
            refine v_iconst (v := 0) C dX6_choice_60 (by decide) rfl ?_
            refine v_istore (lv' := [(5, .int 0), (4, .int (-9)), (3, .int 0), (2, .int 0), (0, .ref 0), (1, .int v)]) C dX6_choice_61 (Nat.le_of_ble_eq_true rfl) rfl rfl ?_
            have lp63 : ∀ (k q : Nat) (x3 : Int32) (x4 : Int32) (υ : St), n < q + k → q ≤ n → x3 = tkN (blR σ n) n q → x4 = chL h q → υ = setR σ 16 (chS (z4 (σ 16)) (blR σ n) n h q) → V X 63 [(5, .int (nI q)), (4, .int x4), (3, .int x3), (0, .ref 0), (1, .int v)] [] υ := by
              intro k
              induction k with
              | zero => intro q x3 x4 υ h1 h2; omega
              | succ k ih63 =>
                intro q x3 x4 υ h1 h2 ex3 ex4 eυ
                have hnt : υ 0 8 = nI n := by rw [eυ, setR_o _ _ _ _ (by decide)]; exact hn
                have hht : υ 0 9 = nI h := by rw [eυ, setR_o _ _ _ _ (by decide)]; exact hh
                have hv16 : υ 16 (q % h) = (chS (z4 (σ 16)) (blR σ n) n h q) (q % h) := by rw [eυ, setR_k]
                have hqh := Nat.mod_lt q (show 0 < h by omega)
                refine v_iload C dX6_choice_63 rfl rfl ?_
                refine v_aload_n C dX6_choice_65 rfl rfl rfl ?_
                refine v_getI C (Nat.le_of_ble_eq_true rfl) rfl rfl hinX6 8 (Nat.le_of_ble_eq_true rfl) lkX6_65 rfl dX6_choice_66 rfl ?_
                refine V.tp hnt ?_
                refine v_icmp_ge (tgt := 117) C dX6_choice_69 (by decide) rfl (fun c69 => ?_) (fun c69 => ?_)
                · skip
                  have c69 := mt (nI_ltI (a := q) (b := n) (by omega) (by omega)).mpr c69
                  refine v_iload_n C dX6_choice_117 rfl rfl rfl ?_
                  refine v_if_ge (tgt := 126) C dX6_choice_118 (by decide) rfl (fun c118 => ?_) (fun c118 => ?_)
                  · skip
                    have hv1 : v = nI (tn v) ∧ tn v < h := heir_nat hl4 c118 q2
                    have hv2 := hv1.2
                    refine v_aload_n C dX6_choice_126 rfl rfl rfl ?_
                    refine v_getR C (Nat.le_of_ble_eq_true rfl) rfl rfl hinX6 25 (Nat.le_of_ble_eq_true rfl) lkX6_55 rfl dX6_choice_127 rfl ?_
                    refine v_iload_n C dX6_choice_130 rfl rfl rfl ?_
                    refine V.tp hv1.1 ?_
                    refine v_iald (i := tn v) C (Nat.le_of_ble_eq_true rfl) rfl rfl (by omega) (by decide) dX6_choice_131 rfl ?_
                    exact v_iret C dX6_choice_132 (by rw [hX]; exact ⟨_, rfl, by rw [choA, if_neg q1, if_pos q2, if_neg c118, eυ, setR_k, show q = n by omega], Or.inr (Or.inr ⟨q1, q2, by rw [eυ]; exact ⟨fun k hk => setR_o _ _ _ _ (by omega), fun j _ => by rw [setR_o _ _ _ _ (by decide)], fun j _ => by rw [setR_o _ _ _ _ (by decide)]⟩⟩)⟩)
                  · skip
                    refine v_iload C dX6_choice_121 rfl rfl ?_
                    refine v_goto (tgt := 132) C dX6_choice_123 (by decide) ?_
                    exact v_iret C dX6_choice_132 (by rw [hX]; exact ⟨_, rfl, by rw [choA, if_neg q1, if_pos q2, if_pos c118, ex4, show q = n by omega], Or.inr (Or.inr ⟨q1, q2, by rw [eυ]; exact ⟨fun k hk => setR_o _ _ _ _ (by omega), fun j _ => by rw [setR_o _ _ _ _ (by decide)], fun j _ => by rw [setR_o _ _ _ _ (by decide)]⟩⟩)⟩)
                · skip
                  have c69 := (nI_ltI (a := q) (b := n) (by omega) (by omega)).mp c69
                  refine v_aload_n C dX6_choice_72 rfl rfl rfl ?_
                  refine v_iload_n C dX6_choice_73 rfl rfl rfl ?_
                  refine v_callV C (Nat.le_of_ble_eq_true rfl) rfl rfl (As := [.int x3]) (rest := []) (kX6_mildest x3 n υ hnt h7) rfl (Nat.le_of_ble_eq_true rfl) (Nat.le_of_ble_eq_true rfl) ⟨mlX6_228, mfX6_mildest⟩ dkX6_mildest (Nat.le_of_ble_eq_true rfl) dX6_choice_74 rfl (kI ?_)
                  obtain ⟨b, hb, hbn⟩ := chM_some (blR σ n) h7 (show q < n by assumption)
                  refine V.tp (show oI (minN (fun p => ¬ hasP x3 (nI p)) (blR υ n) n) = nI b from by rw [ex3, blR_cg (σ := σ) (τ := υ) (by rw [eυ]; rfl) (by rw [eυ]; rfl) (by rw [eυ]; rfl) (by rw [eυ]; rfl)]; exact congrArg oI hb) ?_
                  refine v_istore (lv' := [(6, .int (nI b)), (5, .int (nI q)), (4, .int x4), (3, .int x3), (0, .ref 0), (1, .int v)]) C dX6_choice_77 (Nat.le_of_ble_eq_true rfl) rfl rfl ?_
                  refine v_iload_n C dX6_choice_79 rfl rfl rfl ?_
                  refine v_iconst (v := 1) C dX6_choice_80 (by decide) rfl ?_
                  refine v_iload C dX6_choice_81 rfl rfl ?_
                  refine v_ishl C dX6_choice_83 rfl ?_
                  refine v_ior C dX6_choice_84 rfl ?_
                  refine V.top (fun v85_1 ev85_1 => ?_)
                  refine v_istore_n (lv' := [(3, .int v85_1), (6, .int (nI b)), (5, .int (nI q)), (4, .int x4), (0, .ref 0), (1, .int v)]) C dX6_choice_85 rfl (Nat.le_of_ble_eq_true rfl) rfl rfl ?_
                  refine v_iload C dX6_choice_86 rfl rfl ?_
                  refine v_aload_n C dX6_choice_88 rfl rfl rfl ?_
                  refine v_getI C (Nat.le_of_ble_eq_true rfl) rfl rfl hinX6 9 (Nat.le_of_ble_eq_true rfl) lkX6_61 rfl dX6_choice_89 rfl ?_
                  refine V.tp hht ?_
                  refine v_irem C dX6_choice_92 (nI_ne0 (by omega) (by omega)) rfl ?_
                  refine V.tp (pk_rem (a := q) (d := h) (by omega) (by omega) (by omega)) ?_
                  refine v_istore (lv' := [(4, .int (nI (q % h))), (3, .int v85_1), (6, .int (nI b)), (5, .int (nI q)), (0, .ref 0), (1, .int v)]) C dX6_choice_93 (Nat.le_of_ble_eq_true rfl) rfl rfl ?_
                  refine v_aload_n C dX6_choice_95 rfl rfl rfl ?_
                  refine v_getR C (Nat.le_of_ble_eq_true rfl) rfl rfl hinX6 25 (Nat.le_of_ble_eq_true rfl) lkX6_55 rfl dX6_choice_96 rfl ?_
                  refine v_iload C dX6_choice_99 rfl rfl ?_
                  refine v_dup2 C dX6_choice_101 rfl rfl rfl ?_
                  refine v_iald (i := q % h) C (Nat.le_of_ble_eq_true rfl) rfl rfl (by omega) (by decide) dX6_choice_102 rfl ?_
                  refine V.tp hv16 ?_
                  refine v_aload_n C dX6_choice_103 rfl rfl rfl ?_
                  refine v_iload C dX6_choice_104 rfl rfl ?_
                  refine v_callV C (Nat.le_of_ble_eq_true rfl) rfl rfl (As := [.int (nI b)]) (rest := [.int ((chS (z4 (σ 16)) (blR σ n) n h q) (q % h)), .int (nI (q % h)), .ref 16]) (kX6_blameOf n b υ hnt h7 hbn) rfl (Nat.le_of_ble_eq_true rfl) (Nat.le_of_ble_eq_true rfl) ⟨mlX6_169, mfX6_blameOf⟩ dkX6_blameOf (Nat.le_of_ble_eq_true rfl) dX6_choice_106 rfl (kI ?_)
                  refine V.tp (show blaF (υ 4) (υ 6) (υ 7) (υ 8) n b = ofO (blR σ n) 0 (chM (blR σ n) n q) from by rw [hb, eυ]; rfl) ?_
                  refine v_iadd C dX6_choice_109 rfl ?_
                  refine v_iast (i := q % h) C (Nat.le_of_ble_eq_true rfl) rfl rfl (by omega) (by decide) dX6_choice_110 rfl ?_
                  refine V.nm (fun τ110_2 eτ110_2 => ?_)
                  refine v_iinc (lv' := [(5, .int (nI (q + 1))), (4, .int (nI (q % h))), (3, .int v85_1), (6, .int (nI b)), (0, .ref 0), (1, .int v)]) C dX6_choice_111 rfl (nI_inc q) (Nat.le_of_ble_eq_true rfl) rfl rfl ?_
                  refine v_goto (tgt := 63) C dX6_choice_114 (by decide) ?_
                  exact V.sub [0, 1, 2, 4, 5] rfl (ih63 (q + 1) _ _ _ (by omega) (by omega) (by rw [ev85_1, tkN, show minN (fun p => ¬ hasP (tkN (blR σ n) n q) (nI p)) (blR σ n) n = some b from hb, ex3]; rfl) (rfl) (by rw [eτ110_2, eυ, setR_s2]; rfl))
            exact V.sub [0, 1, 2, 4, 5] rfl (lp63 (n + 1) 0 0 _ _ (by omega) (by omega) (rfl) (rfl) (by rw [eτ, show i = 4 by omega]; rfl))
          · skip
            have c38 := (nI_ltI (a := i) (b := 4) (by omega) (by omega)).mp c38
            refine v_aload_n C dX6_choice_41 rfl rfl rfl ?_
            refine v_getR C (Nat.le_of_ble_eq_true rfl) rfl rfl hinX6 25 (Nat.le_of_ble_eq_true rfl) lkX6_55 rfl dX6_choice_42 rfl ?_
            refine v_iload_n C dX6_choice_45 rfl rfl rfl ?_
            refine v_iconst (v := 0) C dX6_choice_46 (by decide) rfl ?_
            refine v_iast (i := i) C (Nat.le_of_ble_eq_true rfl) rfl rfl (by omega) (by decide) dX6_choice_47 rfl ?_
            refine V.nm (fun τ47_3 eτ47_3 => ?_)
            refine v_iinc (lv' := [(3, .int (nI (i + 1))), (2, .int 0), (0, .ref 0), (1, .int v)]) C dX6_choice_48 rfl (nI_inc i) (Nat.le_of_ble_eq_true rfl) rfl rfl ?_
            refine v_goto (tgt := 36) C dX6_choice_51 (by decide) ?_
            exact V.sub [0, 1, 2, 3] rfl (ih36 (i + 1)  _ (by omega) (by omega)  (by rw [eτ47_3, eτ, setR_s2, pre_upd _ _ _ rfl]))
      exact V.sub [0, 1, 2, 3] rfl (lp36 (4 + 1) 0  _ (by omega) (by omega)  (by rw [pre_0, setR_self]))
    · skip
      refine v_iconst (v := -1) C dX6_choice_18 (by decide) rfl ?_
      refine v_goto (tgt := 23) C dX6_choice_19 (by decide) ?_
      have q1 := c2
      have q2 := c15
      refine v_istore_n (lv' := [(2, .int (-1)), (0, .ref 0), (1, .int v)]) C dX6_choice_23 rfl (Nat.le_of_ble_eq_true rfl) rfl rfl ?_
      refine v_iload_n C dX6_choice_24 rfl rfl rfl ?_
      refine v_if_eq (tgt := 34) C dX6_choice_25 (by decide) rfl (fun q => absurd q (by decide)) (fun _ => ?_)
      refine v_aload_n C dX6_choice_28 rfl rfl rfl ?_
      refine v_iload_n C dX6_choice_29 rfl rfl rfl ?_
      refine v_callV C (Nat.le_of_ble_eq_true rfl) rfl rfl (As := [.int (-1)]) (rest := []) (kX6_no (-1) 1 σ (by decide) (by decide)) rfl (Nat.le_of_ble_eq_true rfl) (Nat.le_of_ble_eq_true rfl) ⟨mlX6_79, mfX6_no⟩ dkX6_no (Nat.le_of_ble_eq_true rfl) dX6_choice_30 rfl (kI ?_)
      exact v_iret C dX6_choice_33 (by rw [hX]; exact ⟨_, rfl, by simp [choA, q1, q2], Or.inr (Or.inl ⟨q1, q2, rfl⟩)⟩)
  · skip
    refine v_bipush (v := -4) C dX6_choice_5 (by decide) rfl ?_
    refine v_goto (tgt := 23) C dX6_choice_7 (by decide) ?_
    have q1 := c2
    refine v_istore_n (lv' := [(2, .int (-4)), (0, .ref 0), (1, .int v)]) C dX6_choice_23 rfl (Nat.le_of_ble_eq_true rfl) rfl rfl ?_
    refine v_iload_n C dX6_choice_24 rfl rfl rfl ?_
    refine v_if_eq (tgt := 34) C dX6_choice_25 (by decide) rfl (fun q => absurd q (by decide)) (fun _ => ?_)
    refine v_aload_n C dX6_choice_28 rfl rfl rfl ?_
    refine v_iload_n C dX6_choice_29 rfl rfl rfl ?_
    refine v_callV C (Nat.le_of_ble_eq_true rfl) rfl rfl (As := [.int (-4)]) (rest := []) (kX6_no (-4) 4 σ (by decide) (by decide)) rfl (Nat.le_of_ble_eq_true rfl) (Nat.le_of_ble_eq_true rfl) ⟨mlX6_79, mfX6_no⟩ dkX6_no (Nat.le_of_ble_eq_true rfl) dX6_choice_30 rfl (kI ?_)
    exact v_iret C dX6_choice_33 (by rw [hX]; exact ⟨_, rfl, by simp [choA, q1], Or.inl ⟨q1, rfl⟩⟩)
end
section
/-! the check's class: shares, envy -/
def shrB (σ : St) (n h : Nat) : Nat := (fshN (shF σ n h) (h ^ n)).1
def shrS (σ : St) (n h : Nat) : Nat → Int32 := shaN (fun _ => 0) (blR σ n) (dig h n (shrB σ n h)) n
def shrA (σ : St) (n h : Nat) (v : Int32) : Int32 := if v < -1 then -4 else if v < nI n then (if v < 0 then (fshN (shF σ n h) (h ^ n)).2 else nI (dig h n (shrB σ n h) (tn v))) else -1
def envG (s : Nat → Int32) (m : Int32) (j : Nat) : Int32 := if m < s j then 1 else 0
def envA (σ : St) (n h : Nat) : Int32 := sumN (envG (shrS σ n h) (shrS σ n h (firN (shrS σ n h) h))) h
theorem firN_cg {f g : Nat → Int32} : ∀ h, (∀ j, j < h → f j = g j) → firN f h = firN g h
  | 0, _ => rfl
  | h + 1, hs => by
    rw [firN, firN, firN_cg h (fun j hj => hs j (by omega))]
    by_cases e : h = 0
    · rw [if_pos e, if_pos e]
    · rw [if_neg e, if_neg e, hs h (by omega), hs (firN g h) (by have := firN_lt g h (by omega); omega)]
theorem kX6_shares (v : Int32) (n : Nat) (σ : St) (hn : σ 0 8 = nI n) (h7 : n ≤ 7) (h : Nat) (hh : σ 0 9 = nI h) (hl2 : 2 ≤ h) (hl4 : h ≤ 4) : Ct yX6_shares cX6_shares 4 (some .int) 5 [.ref 0, .int v] σ (rI (fun r τ => r = shrA σ n h v ∧ ((v < -1 ∧ τ = noS σ 4) ∨ (¬ v < -1 ∧ ¬ v < nI n ∧ τ = noS σ 1) ∨ (¬ v < -1 ∧ v < nI n ∧ Sm σ τ)))) := by
  refine ct_of plX6 rfl (Nat.le_of_ble_eq_true rfl) (fun X hX C => ?_)
  show V X 0 [(0, .ref 0), (1, .int v)] [] σ
  refine v_aload_n C dX6_shares_0 rfl rfl rfl ?_
  refine v_iload_n C dX6_shares_1 rfl rfl rfl ?_
  refine v_callV C (Nat.le_of_ble_eq_true rfl) rfl rfl (As := [.int v]) (rest := []) (kX6_notShare v σ) rfl (Nat.le_of_ble_eq_true rfl) (Nat.le_of_ble_eq_true rfl) ⟨mlX6_216, mfX6_notShare⟩ dkX6_notShare (Nat.le_of_ble_eq_true rfl) dX6_shares_2 rfl (kI ?_)
  rcases nsh_cases v (σ 0 8) with ⟨hb, q1⟩ | ⟨hb, q1, q2⟩ | ⟨hb, q1, q2⟩
  · refine V.tp hb ?_
    refine v_istore_n (lv' := [(2, .int (-4)), (0, .ref 0), (1, .int v)]) C dX6_shares_5 rfl (Nat.le_of_ble_eq_true rfl) rfl rfl ?_
    refine v_iload_n C dX6_shares_6 rfl rfl rfl ?_
    refine v_if_eq (tgt := 16) C dX6_shares_7 (by decide) rfl (fun q => absurd q (by decide)) (fun _ => ?_)
    refine v_aload_n C dX6_shares_10 rfl rfl rfl ?_
    refine v_iload_n C dX6_shares_11 rfl rfl rfl ?_
    refine v_callV C (Nat.le_of_ble_eq_true rfl) rfl rfl (As := [.int (-4)]) (rest := []) (kX6_no (-4) 4 σ (by decide) (by decide)) rfl (Nat.le_of_ble_eq_true rfl) (Nat.le_of_ble_eq_true rfl) ⟨mlX6_79, mfX6_no⟩ dkX6_no (Nat.le_of_ble_eq_true rfl) dX6_shares_12 rfl (kI ?_)
    exact v_iret C dX6_shares_15 (by rw [hX]; exact ⟨_, rfl, by simp [shrA, q1], Or.inl ⟨q1, rfl⟩⟩)
  · refine V.tp hb ?_
    refine v_istore_n (lv' := [(2, .int (-1)), (0, .ref 0), (1, .int v)]) C dX6_shares_5 rfl (Nat.le_of_ble_eq_true rfl) rfl rfl ?_
    refine v_iload_n C dX6_shares_6 rfl rfl rfl ?_
    refine v_if_eq (tgt := 16) C dX6_shares_7 (by decide) rfl (fun q => absurd q (by decide)) (fun _ => ?_)
    refine v_aload_n C dX6_shares_10 rfl rfl rfl ?_
    refine v_iload_n C dX6_shares_11 rfl rfl rfl ?_
    refine v_callV C (Nat.le_of_ble_eq_true rfl) rfl rfl (As := [.int (-1)]) (rest := []) (kX6_no (-1) 1 σ (by decide) (by decide)) rfl (Nat.le_of_ble_eq_true rfl) (Nat.le_of_ble_eq_true rfl) ⟨mlX6_79, mfX6_no⟩ dkX6_no (Nat.le_of_ble_eq_true rfl) dX6_shares_12 rfl (kI ?_)
    exact v_iret C dX6_shares_15 (by rw [hX]; exact ⟨_, rfl, by simp [shrA, q1, ← hn, q2], Or.inr (Or.inl ⟨q1, hn ▸ q2, rfl⟩)⟩)
  · refine V.tp hb ?_
    refine v_istore_n (lv' := [(2, .int 0), (0, .ref 0), (1, .int v)]) C dX6_shares_5 rfl (Nat.le_of_ble_eq_true rfl) rfl rfl ?_
    refine v_iload_n C dX6_shares_6 rfl rfl rfl ?_
    refine v_if_eq (tgt := 16) C dX6_shares_7 (by decide) rfl (fun _ => ?_) (fun q => absurd q (by decide))
    refine v_aload_n C dX6_shares_16 rfl rfl rfl ?_
    refine v_callV C (Nat.le_of_ble_eq_true rfl) rfl rfl (As := []) (rest := []) (kX6_findShares n σ hn h7 h hh hl2 hl4) rfl (Nat.le_of_ble_eq_true rfl) (Nat.le_of_ble_eq_true rfl) ⟨mlX6_219, mfX6_findShares⟩ dkX6_findShares (Nat.le_of_ble_eq_true rfl) dX6_shares_17 rfl (krI (fun r20_1 τ20_1 h20_1 => ?_))
    refine v_istore_n (lv' := [(3, .int r20_1), (2, .int 0), (0, .ref 0), (1, .int v)]) C dX6_shares_20 rfl (Nat.le_of_ble_eq_true rfl) rfl rfl ?_
    refine v_iload_n C dX6_shares_21 rfl rfl rfl ?_
    refine v_if_ge (tgt := 29) C dX6_shares_22 (by decide) rfl (fun c22 => ?_) (fun c22 => ?_)
    · skip
      have hv1 : v = nI (tn v) ∧ tn v < n := piece_nat h7 ⟨c22, hn ▸ q2⟩
      have hv2 := hv1.2
      refine v_aload_n C dX6_shares_29 rfl rfl rfl ?_
      refine v_getR C (Nat.le_of_ble_eq_true rfl) rfl rfl hinX6 24 (Nat.le_of_ble_eq_true rfl) lkX6_52 rfl dX6_shares_30 rfl ?_
      refine v_iload_n C dX6_shares_33 rfl rfl rfl ?_
      refine V.tp hv1.1 ?_
      refine v_iald (i := tn v) C (Nat.le_of_ble_eq_true rfl) rfl rfl (by omega) (by decide) dX6_shares_34 rfl ?_
      exact v_iret C dX6_shares_35 (by rw [hX]; exact ⟨_, rfl, by rw [shrA, if_neg q1, if_pos (hn ▸ q2), if_neg c22]; exact h20_1.2.2.1 _ hv2, Or.inr (Or.inr ⟨q1, hn ▸ q2, h20_1.2.1⟩)⟩)
    · skip
      refine v_iload_n C dX6_shares_25 rfl rfl rfl ?_
      refine v_goto (tgt := 35) C dX6_shares_26 (by decide) ?_
      exact v_iret C dX6_shares_35 (by rw [hX]; exact ⟨_, rfl, by rw [shrA, if_neg q1, if_pos (hn ▸ q2), if_pos c22]; exact h20_1.1, Or.inr (Or.inr ⟨q1, hn ▸ q2, h20_1.2.1⟩)⟩)
theorem kX6_envy (n : Nat) (σ : St) (hn : σ 0 8 = nI n) (h7 : n ≤ 7) (h : Nat) (hh : σ 0 9 = nI h) (hl2 : 2 ≤ h) (hl4 : h ≤ 4) : Ct yX6_envy cX6_envy 4 (some .int) 5 [.ref 0] σ (rI (fun r τ => r = envA σ n h ∧ Sm σ τ)) := by
  refine ct_of plX6 rfl (Nat.le_of_ble_eq_true rfl) (fun X hX C => ?_)
  show V X 0 [(0, .ref 0)] [] σ
  refine v_aload_n C dX6_envy_0 rfl rfl rfl ?_
  refine v_callV C (Nat.le_of_ble_eq_true rfl) rfl rfl (As := []) (rest := []) (kX6_findShares n σ hn h7 h hh hl2 hl4) rfl (Nat.le_of_ble_eq_true rfl) (Nat.le_of_ble_eq_true rfl) ⟨mlX6_219, mfX6_findShares⟩ dkX6_findShares (Nat.le_of_ble_eq_true rfl) dX6_envy_1 rfl (krI (fun r4_1 τ4_1 h4_1 => ?_))
  have hht : τ4_1 0 9 = nI h := (h4_1.2.1.2.1 9 (by decide)).trans hh
  have hfl := firN_lt (τ4_1 16) h (by omega)
  refine v_pop C dX6_envy_4 rfl rfl ?_
  refine v_aload_n C dX6_envy_5 rfl rfl rfl ?_
  refine v_getR C (Nat.le_of_ble_eq_true rfl) rfl rfl hinX6 25 (Nat.le_of_ble_eq_true rfl) lkX6_55 rfl dX6_envy_6 rfl ?_
  refine v_aload_n C dX6_envy_9 rfl rfl rfl ?_
  refine v_callV C (Nat.le_of_ble_eq_true rfl) rfl rfl (As := []) (rest := [.ref 16]) (kX6_poorest h τ4_1 hht hl2 hl4) rfl (Nat.le_of_ble_eq_true rfl) (Nat.le_of_ble_eq_true rfl) ⟨mlX6_222, mfX6_poorest⟩ dkX6_poorest (Nat.le_of_ble_eq_true rfl) dX6_envy_10 rfl (kI ?_)
  refine v_iald (i := firN (τ4_1 16) h) C (Nat.le_of_ble_eq_true rfl) rfl rfl (by omega) (by decide) dX6_envy_13 rfl ?_
  refine V.top (fun v14_2 ev14_2 => ?_)
  refine v_istore_n (lv' := [(1, .int v14_2), (0, .ref 0)]) C dX6_envy_14 rfl (Nat.le_of_ble_eq_true rfl) rfl rfl ?_
  refine v_iconst (v := 0) C dX6_envy_15 (by decide) rfl ?_
  refine v_istore_n (lv' := [(2, .int 0), (1, .int v14_2), (0, .ref 0)]) C dX6_envy_16 rfl (Nat.le_of_ble_eq_true rfl) rfl rfl ?_
  refine v_iconst (v := 0) C dX6_envy_17 (by decide) rfl ?_
  refine v_istore_n (lv' := [(3, .int 0), (2, .int 0), (1, .int v14_2), (0, .ref 0)]) C dX6_envy_18 rfl (Nat.le_of_ble_eq_true rfl) rfl rfl ?_
  have lp19 : ∀ (k i : Nat) (x2 : Int32) , h < i + k → i ≤ h → x2 = sumN (envG (τ4_1 16) (τ4_1 16 (firN (τ4_1 16) h))) i → V X 19 [(3, .int (nI i)), (2, .int x2), (1, .int v14_2), (0, .ref 0)] [] τ4_1 := by
    intro k
    induction k with
    | zero => intro i x2 h1 h2; omega
    | succ k ih19 =>
      intro i x2 h1 h2 ex2
      refine v_iload_n C dX6_envy_19 rfl rfl rfl ?_
      refine v_aload_n C dX6_envy_20 rfl rfl rfl ?_
      refine v_getI C (Nat.le_of_ble_eq_true rfl) rfl rfl hinX6 9 (Nat.le_of_ble_eq_true rfl) lkX6_61 rfl dX6_envy_21 rfl ?_
      refine V.tp hht ?_
      refine v_icmp_ge (tgt := 51) C dX6_envy_24 (by decide) rfl (fun c24 => ?_) (fun c24 => ?_)
      · skip
        have c24 := mt (nI_ltI (a := i) (b := h) (by omega) (by omega)).mpr c24
        refine v_iload_n C dX6_envy_51 rfl rfl rfl ?_
        exact v_iret C dX6_envy_52 (by rw [hX]; exact ⟨_, rfl, by rw [ex2, show i = h by omega, envA, firN_cg h (fun j hj => h4_1.2.2.2 j (by omega))]; exact sumN_congr (fun j hj => by rw [envG, envG, h4_1.2.2.2 j (by omega), h4_1.2.2.2 (firN (shaN (fun _ => 0) (blR σ n) (dig h n (fshN (shF σ n h) (h ^ n)).1) n) h) (by have := firN_lt (shaN (fun _ => 0) (blR σ n) (dig h n (fshN (shF σ n h) (h ^ n)).1) n) h (by omega); omega)]; rfl), h4_1.2.1⟩)
      · skip
        have c24 := (nI_ltI (a := i) (b := h) (by omega) (by omega)).mp c24
        refine v_iload_n C dX6_envy_27 rfl rfl rfl ?_
        refine v_aload_n C dX6_envy_28 rfl rfl rfl ?_
        refine v_getR C (Nat.le_of_ble_eq_true rfl) rfl rfl hinX6 25 (Nat.le_of_ble_eq_true rfl) lkX6_55 rfl dX6_envy_29 rfl ?_
        refine v_iload_n C dX6_envy_32 rfl rfl rfl ?_
        refine v_iald (i := i) C (Nat.le_of_ble_eq_true rfl) rfl rfl (by omega) (by decide) dX6_envy_33 rfl ?_
        refine v_iload_n C dX6_envy_34 rfl rfl rfl ?_
        refine v_icmp_le (tgt := 42) C dX6_envy_35 (by decide) rfl (fun c35 => ?_) (fun c35 => ?_)
        · skip
          refine v_iconst (v := 0) C dX6_envy_42 (by decide) rfl ?_
          refine v_iadd C dX6_envy_43 rfl ?_
          refine V.top (fun v44_3 ev44_3 => ?_)
          refine v_istore_n (lv' := [(2, .int v44_3), (3, .int (nI i)), (1, .int v14_2), (0, .ref 0)]) C dX6_envy_44 rfl (Nat.le_of_ble_eq_true rfl) rfl rfl ?_
          refine v_iinc (lv' := [(3, .int (nI (i + 1))), (2, .int v44_3), (1, .int v14_2), (0, .ref 0)]) C dX6_envy_45 rfl (nI_inc i) (Nat.le_of_ble_eq_true rfl) rfl rfl ?_
          refine v_goto (tgt := 19) C dX6_envy_48 (by decide) ?_
          exact V.sub [0, 1, 2, 3] rfl (ih19 (i + 1) _ (by omega) (by omega) (by rw [ev44_3, ex2]; simp [sumN, envG, ← ev14_2, c35]))
        · skip
          refine v_iconst (v := 1) C dX6_envy_38 (by decide) rfl ?_
          refine v_goto (tgt := 43) C dX6_envy_39 (by decide) ?_
          refine v_iadd C dX6_envy_43 rfl ?_
          refine V.top (fun v44_4 ev44_4 => ?_)
          refine v_istore_n (lv' := [(2, .int v44_4), (3, .int (nI i)), (1, .int v14_2), (0, .ref 0)]) C dX6_envy_44 rfl (Nat.le_of_ble_eq_true rfl) rfl rfl ?_
          refine v_iinc (lv' := [(3, .int (nI (i + 1))), (2, .int v44_4), (1, .int v14_2), (0, .ref 0)]) C dX6_envy_45 rfl (nI_inc i) (Nat.le_of_ble_eq_true rfl) rfl rfl ?_
          refine v_goto (tgt := 19) C dX6_envy_48 (by decide) ?_
          exact V.sub [0, 1, 2, 3] rfl (ih19 (i + 1) _ (by omega) (by omega) (by rw [ev44_4, ex2]; simp [sumN, envG, ← ev14_2, c35]))
  exact V.sub [0, 1, 2, 3] rfl (lp19 (h + 1) 0 0 (by omega) (by omega) (rfl))
end
section
/-! the check's class: placings -/
theorem bulF_cg {bk pl pl' : Nat → Int32} {n : Nat} (h : ∀ p, p < n → pl p = pl' p) (r : Int32) : bulF bk pl n r = bulF bk pl' n r :=
  sumN_congr (fun p hp => by rw [bulG, bulG, h p hp])
theorem suiF_cg {kd ft pl pl' : Nat → Int32} {n p : Nat} (hp : p < n) (h : ∀ p, p < n → pl p = pl' p) : suiF kd ft pl n p = suiF kd ft pl' n p := by
  rw [suiF, suiF, sumN_congr (g := suiG kd pl' p) (fun q hq => by rw [suiG, suiG, h q hq, h p hp])]
theorem blaF_cg {kd ft ag pl pl' : Nat → Int32} {n p : Nat} (hp : p < n) (h : ∀ p, p < n → pl p = pl' p) : blaF kd ft ag pl n p = blaF kd ft ag pl' n p := by
  rw [blaF, blaF, suiF_cg hp h]
theorem binF_cg {kd ft ag pl pl' : Nat → Int32} {n : Nat} (h : ∀ p, p < n → pl p = pl' p) (r : Int32) : binF kd ft ag pl n r = binF kd ft ag pl' n r :=
  sumN_congr (fun p hp => by rw [binG, binG, h p hp, blaF_cg hp h])
def plc (n k : Nat) : Nat → Int32 := fun p => nI (dig 6 n k p)
def plP (σ : St) (n : Nat) (v : Int32) (k : Nat) : Prop := (∀ p, p < n → hasP v (plc n k p)) ∧ (∀ r, r < 6 → ¬ σ 2 r < bulF (σ 5) (plc n k) n (nI r))
theorem shb_plc {n k : Nat} {f : Nat → Int32} (p : Nat) (hp : p < n) : shbR 6 n k 0 f p = plc n k p := by rw [shbR, if_pos ⟨Nat.zero_le _, hp⟩]; rfl
def useG (pl : Nat → Int32) (p : Nat) : Int32 := (1 : Int32) <<< (pl p &&& 31)
def useF (pl : Nat → Int32) (n : Nat) : Int32 := sumN (bitG (orN (useG pl) n)) 31
theorem orN_cg {f g : Nat → Int32} : ∀ n, (∀ p, p < n → f p = g p) → orN f n = orN g n
  | 0, _ => rfl
  | n + 1, h => by rw [orN, orN, orN_cg n (fun p hp => h p (by omega)), h n (by omega)]
theorem useF_cg {pl pl' : Nat → Int32} {n : Nat} (h : ∀ p, p < n → pl p = pl' p) : useF pl n = useF pl' n := by
  rw [useF, useF, orN_cg (g := useG pl') n (fun p hp => by rw [useG, useG, h p hp])]
theorem kX6_isPlaced (v : Int32) (n k : Nat) (σ : St) (hn : σ 0 8 = nI n) (h7 : n ≤ 7) (hk : k < 20000) : Ct yX6_isPlaced cX6_isPlaced 5 (some .boolean) 1 [.ref 0, .int v, .int (nI k)] σ (fI (bI (plP σ n v k)) (setR σ 8 (shbR 6 n k 0 (σ 8)))) := by
  refine ct_of plX6 rfl (Nat.le_of_ble_eq_true rfl) (fun X hX C => ?_)
  show V X 0 [(0, .ref 0), (1, .int v), (2, .int (nI k))] [] σ
  refine v_iload_n C dX6_isPlaced_0 rfl rfl rfl ?_
  refine v_istore_n (lv' := [(3, .int (nI k)), (0, .ref 0), (1, .int v), (2, .int (nI k))]) C dX6_isPlaced_1 rfl (Nat.le_of_ble_eq_true rfl) rfl rfl ?_
  refine v_aload_n C dX6_isPlaced_2 rfl rfl rfl ?_
  refine v_getI C (Nat.le_of_ble_eq_true rfl) rfl rfl hinX6 8 (Nat.le_of_ble_eq_true rfl) lkX6_65 rfl dX6_isPlaced_3 rfl ?_
  refine V.tp hn ?_
  refine v_iconst (v := 1) C dX6_isPlaced_6 (by decide) rfl ?_
  refine v_isub C dX6_isPlaced_7 rfl ?_
  refine V.top (fun v8_1 ev8_1 => ?_)
  refine v_istore (lv' := [(4, .int v8_1), (3, .int (nI k)), (0, .ref 0), (1, .int v), (2, .int (nI k))]) C dX6_isPlaced_8 (Nat.le_of_ble_eq_true rfl) rfl rfl ?_
  have lp10 : ∀ (i : Nat) (w10 : Int32) (x3 : Int32) (τ : St), i ≤ n → w10 = nI i - 1 → x3 = nI (k / 6 ^ (n - i)) → τ = setR σ 8 (shbR 6 n k i (σ 8)) → V X 10 [(4, .int w10), (3, .int x3), (0, .ref 0), (1, .int v), (2, .int (nI k))] [] τ := by
    intro i
    induction i with
    | zero =>
      intro w10 x3 τ h1 ew10 ex3 eτ
      have hv10 : w10 = -1 := by rw [ew10]; decide
      have hn0 : τ 0 8 = nI n := by rw [eτ, setR_o _ _ _ _ (by decide)]; exact hn
      refine v_iload C dX6_isPlaced_10 rfl rfl ?_
      refine V.tp hv10 ?_
      refine v_if_lt (tgt := 37) C dX6_isPlaced_12 (by decide) rfl (fun _ => ?_) (fun q => absurd q (by decide))
      have hnt : τ 0 8 = nI n := by rw [eτ, setR_o _ _ _ _ (by decide)]; exact hn
      have h8 : ∀ p, p < n → τ 8 p = plc n k p := fun p hp => by rw [eτ, setR_k]; exact shb_plc p hp
      have hbu : ∀ r, bulF (τ 5) (τ 8) n r = bulF (σ 5) (plc n k) n r := fun r => by rw [bulF_cg h8, eτ, setR_o _ _ _ _ (by decide)]
      have h2r : τ 2 = σ 2 := by rw [eτ, setR_o _ _ _ _ (by decide)]
      refine v_iconst (v := 0) C dX6_isPlaced_37 (by decide) rfl ?_
      refine v_istore (lv' := [(4, .int 0), (3, .int x3), (0, .ref 0), (1, .int v), (2, .int (nI k))]) C dX6_isPlaced_38 (Nat.le_of_ble_eq_true rfl) rfl rfl ?_
      have lp40 : ∀ (kf q_ : Nat)  , n < q_ + kf → q_ ≤ n → (∀ p, p < q_ → hasP v (τ 8 p)) → V X 40 [(4, .int (nI q_)), (3, .int x3), (0, .ref 0), (1, .int v), (2, .int (nI k))] [] τ := by
        intro kf
        induction kf with
        | zero => intro q_  h1 h2; omega
        | succ kf ih40 =>
          intro q_  h1 h2  hb
          refine v_iload C dX6_isPlaced_40 rfl rfl ?_
          refine v_aload_n C dX6_isPlaced_42 rfl rfl rfl ?_
          refine v_getI C (Nat.le_of_ble_eq_true rfl) rfl rfl hinX6 8 (Nat.le_of_ble_eq_true rfl) lkX6_65 rfl dX6_isPlaced_43 rfl ?_
          refine V.tp hnt ?_
          refine v_icmp_ge (tgt := 71) C dX6_isPlaced_46 (by decide) rfl (fun c46 => ?_) (fun c46 => ?_)
          · skip
            have c46 := mt (nI_ltI (a := q_) (b := n) (by omega) (by omega)).mpr c46
            refine v_iconst (v := 0) C dX6_isPlaced_71 (by decide) rfl ?_
            refine v_istore (lv' := [(4, .int 0), (3, .int x3), (0, .ref 0), (1, .int v), (2, .int (nI k))]) C dX6_isPlaced_72 (Nat.le_of_ble_eq_true rfl) rfl rfl ?_
            have lp74 : ∀ (kf r_ : Nat)  , 6 < r_ + kf → r_ ≤ 6 → (∀ r, r < r_ → ¬ σ 2 r < bulF (σ 5) (plc n k) n (nI r)) → V X 74 [(4, .int (nI r_)), (3, .int x3), (0, .ref 0), (1, .int v), (2, .int (nI k))] [] τ := by
              intro kf
              induction kf with
              | zero => intro r_  h1 h2; omega
              | succ kf ih74 =>
                intro r_  h1 h2  hc
                refine v_iload C dX6_isPlaced_74 rfl rfl ?_
                refine v_bipush (v := 6) C dX6_isPlaced_76 (by decide) rfl ?_
                refine v_icmp_ge (tgt := 105) C dX6_isPlaced_78 (by decide) rfl (fun c78 => ?_) (fun c78 => ?_)
                · skip
                  have c78 := mt (nI_ltI (a := r_) (b := 6) (by omega) (by omega)).mpr c78
                  refine v_iconst (v := 1) C dX6_isPlaced_105 (by decide) rfl ?_
                  exact v_zret C rfl dX6_isPlaced_106 (by rw [hX]; exact fI_of (bI_t ⟨fun p hp => by rw [← h8 p hp]; exact hb p (by omega), fun r hr => hc r (by omega)⟩) (by rw [eτ]))
                · skip
                  have c78 := (nI_ltI (a := r_) (b := 6) (by omega) (by omega)).mp c78
                  refine v_aload_n C dX6_isPlaced_81 rfl rfl rfl ?_
                  refine v_iload C dX6_isPlaced_82 rfl rfl ?_
                  refine v_callV C (Nat.le_of_ble_eq_true rfl) rfl rfl (As := [.int (nI r_)]) (rest := []) (kX6_bulkIn n (nI r_) τ hnt h7) rfl (Nat.le_of_ble_eq_true rfl) (Nat.le_of_ble_eq_true rfl) ⟨mlX6_125, mfX6_bulkIn⟩ dkX6_bulkIn (Nat.le_of_ble_eq_true rfl) dX6_isPlaced_84 rfl (kI ?_)
                  refine v_aload_n C dX6_isPlaced_87 rfl rfl rfl ?_
                  refine v_getR C (Nat.le_of_ble_eq_true rfl) rfl rfl hinX6 1 (Nat.le_of_ble_eq_true rfl) lkX6_13 rfl dX6_isPlaced_88 rfl ?_
                  refine v_iload C dX6_isPlaced_91 rfl rfl ?_
                  refine v_iald (i := r_) C (Nat.le_of_ble_eq_true rfl) rfl rfl (by omega) (by decide) dX6_isPlaced_93 rfl ?_
                  refine v_icmp_le (tgt := 99) C dX6_isPlaced_94 (by decide) rfl (fun c94 => ?_) (fun c94 => ?_)
                  · skip
                    refine v_iinc (lv' := [(4, .int (nI (r_ + 1))), (3, .int x3), (0, .ref 0), (1, .int v), (2, .int (nI k))]) C dX6_isPlaced_99 rfl (nI_inc r_) (Nat.le_of_ble_eq_true rfl) rfl rfl ?_
                    refine v_goto (tgt := 74) C dX6_isPlaced_102 (by decide) ?_
                    exact V.sub [0, 1, 2, 3, 4] rfl (ih74 (r_ + 1)  (by omega) (by omega)  (by intro r hr; exact (Classical.em (r = r_)).elim (fun e => by rw [e, ← hbu, ← h2r]; exact c94) (fun e => hc r (by omega))))
                  · skip
                    refine v_iconst (v := 0) C dX6_isPlaced_97 (by decide) rfl ?_
                    exact v_zret C rfl dX6_isPlaced_98 (by rw [hX]; exact fI_of (bI_f (fun q => q.2 r_ (by omega) (by rw [← hbu, ← h2r]; exact c94))) (by rw [eτ]))
            exact V.sub [0, 1, 2, 3, 4] rfl (lp74 (6 + 1) 0  (by omega) (by omega)  (by intro p hp; omega))
          · skip
            have c46 := (nI_ltI (a := q_) (b := n) (by omega) (by omega)).mp c46
            refine v_iload_n C dX6_isPlaced_49 rfl rfl rfl ?_
            refine v_aload_n C dX6_isPlaced_50 rfl rfl rfl ?_
            refine v_getR C (Nat.le_of_ble_eq_true rfl) rfl rfl hinX6 7 (Nat.le_of_ble_eq_true rfl) lkX6_31 rfl dX6_isPlaced_51 rfl ?_
            refine v_iload C dX6_isPlaced_54 rfl rfl ?_
            refine v_iald (i := q_) C (Nat.le_of_ble_eq_true rfl) rfl rfl (by omega) (by decide) dX6_isPlaced_56 rfl ?_
            refine v_callS C (As := [.int v, .int (τ 8 q_)]) (rest := []) (kX6_has v (τ 8 q_) τ) rfl (Nat.le_of_ble_eq_true rfl) (Nat.le_of_ble_eq_true rfl) ⟨mlX6_181, mfX6_has⟩ dkX6_has (Nat.le_of_ble_eq_true rfl) dX6_isPlaced_57 rfl (kI ?_)
            refine v_if_ne (tgt := 65) C dX6_isPlaced_60 (by decide) rfl (fun c60 => ?_) (fun c60 => ?_)
            · skip
              have c60 := bI_n c60
              refine v_iinc (lv' := [(4, .int (nI (q_ + 1))), (3, .int x3), (0, .ref 0), (1, .int v), (2, .int (nI k))]) C dX6_isPlaced_65 rfl (nI_inc q_) (Nat.le_of_ble_eq_true rfl) rfl rfl ?_
              refine v_goto (tgt := 40) C dX6_isPlaced_68 (by decide) ?_
              exact V.sub [0, 1, 2, 3, 4] rfl (ih40 (q_ + 1)  (by omega) (by omega)  (by intro p hp; exact (Classical.em (p = q_)).elim (fun e => by rw [e]; exact c60) (fun e => hb p (by omega))))
            · skip
              have c60 := bI_0 c60
              refine v_iconst (v := 0) C dX6_isPlaced_63 (by decide) rfl ?_
              exact v_zret C rfl dX6_isPlaced_64 (by rw [hX]; exact fI_of (bI_f (fun q => c60 (by rw [h8 q_ (by omega)]; exact q.1 q_ (by omega)))) (by rw [eτ]))
      exact V.sub [0, 1, 2, 3, 4] rfl (lp40 (n + 1) 0  (by omega) (by omega)  (by intro p hp; omega))
    | succ i ih10 =>
      intro w10 x3 τ h1 ew10 ex3 eτ
      have hv10 : w10 = nI i := by rw [ew10]; exact nI_pred i
      have hn0 : τ 0 8 = nI n := by rw [eτ, setR_o _ _ _ _ (by decide)]; exact hn
      refine v_iload C dX6_isPlaced_10 rfl rfl ?_
      refine V.tp hv10 ?_
      refine v_if_lt (tgt := 37) C dX6_isPlaced_12 (by decide) rfl (fun q => absurd q (nI_pos (by omega))) (fun _ => ?_)
      refine v_aload_n C dX6_isPlaced_15 rfl rfl rfl ?_
      refine v_getR C (Nat.le_of_ble_eq_true rfl) rfl rfl hinX6 7 (Nat.le_of_ble_eq_true rfl) lkX6_31 rfl dX6_isPlaced_16 rfl ?_
      refine v_iload C dX6_isPlaced_19 rfl rfl ?_
      refine V.tp hv10 ?_
      refine v_iload_n C dX6_isPlaced_21 rfl rfl rfl ?_
      refine V.tp ex3 ?_
      refine v_bipush (v := 6) C dX6_isPlaced_22 (by decide) rfl ?_
      refine v_irem C dX6_isPlaced_24 (by decide) rfl ?_
      refine V.tp (pk_rem (a := (k / 6 ^ (n - (i + 1)))) (d := 6) (Nat.lt_of_le_of_lt (Nat.div_le_self _ _) (by omega)) (by omega) (by omega)) ?_
      refine v_iast (i := i) C (Nat.le_of_ble_eq_true rfl) rfl rfl (by omega) (by decide) dX6_isPlaced_25 rfl ?_
      refine V.nm (fun τ25_2 eτ25_2 => ?_)
      refine v_iload_n C dX6_isPlaced_26 rfl rfl rfl ?_
      refine V.tp ex3 ?_
      refine v_bipush (v := 6) C dX6_isPlaced_27 (by decide) rfl ?_
      refine v_idiv C dX6_isPlaced_29 (by decide) rfl ?_
      refine V.tp (pk_div (a := (k / 6 ^ (n - (i + 1)))) (d := 6) (Nat.lt_of_le_of_lt (Nat.div_le_self _ _) (by omega)) (by omega) (by omega)) ?_
      refine V.top (fun v30_3 ev30_3 => ?_)
      refine v_istore_n (lv' := [(3, .int v30_3), (4, .int w10), (0, .ref 0), (1, .int v), (2, .int (nI k))]) C dX6_isPlaced_30 rfl (Nat.le_of_ble_eq_true rfl) rfl rfl ?_
      obtain ⟨v31_4, ev31_4⟩ : ∃ y : Int32, y = w10 + (-1) := ⟨_, rfl⟩
      refine v_iinc (lv' := [(4, .int v31_4), (3, .int v30_3), (0, .ref 0), (1, .int v), (2, .int (nI k))]) C dX6_isPlaced_31 rfl (by rw [ev31_4]; rfl) (Nat.le_of_ble_eq_true rfl) rfl rfl ?_
      refine v_goto (tgt := 10) C dX6_isPlaced_34 (by decide) ?_
      exact V.sub [0, 1, 2, 3, 4] rfl (ih10 _ _ _ (by omega) (by rw [ev31_4, hv10, Int32.sub_eq_add_neg]) (by rw [ev30_3, Nat.div_div_eq_div_mul, ← Nat.pow_succ, show (n - (i + 1)).succ = n - i by omega]) (by rw [eτ25_2, eτ, setR_s2, ← shbR_step (i := i) (by omega), dig, show n - 1 - i = n - (i + 1) by omega]))
  exact V.sub [0, 1, 2, 3, 4] rfl (lp10 n _ _ _ (by omega) ev8_1 (by rw [Nat.sub_self]; simp) (by rw [shbR_n, setR_self]))
theorem kX6_roomsUsed (n : Nat) (σ : St) (hn : σ 0 8 = nI n) (h7 : n ≤ 7) : Ct yX6_roomsUsed cX6_roomsUsed 3 (some .int) 1 [.ref 0] σ (fI (useF (σ 8) n) σ) := by
  refine ct_of plX6 rfl (Nat.le_of_ble_eq_true rfl) (fun X hX C => ?_)
  show V X 0 [(0, .ref 0)] [] σ
  refine v_iconst (v := 0) C dX6_roomsUsed_0 (by decide) rfl ?_
  refine v_istore_n (lv' := [(1, .int 0), (0, .ref 0)]) C dX6_roomsUsed_1 rfl (Nat.le_of_ble_eq_true rfl) rfl rfl ?_
  refine v_iconst (v := 0) C dX6_roomsUsed_2 (by decide) rfl ?_
  refine v_istore_n (lv' := [(2, .int 0), (1, .int 0), (0, .ref 0)]) C dX6_roomsUsed_3 rfl (Nat.le_of_ble_eq_true rfl) rfl rfl ?_
  have lp4 : ∀ (kf i : Nat) (x1 : Int32) , n < i + kf → i ≤ n → x1 = orN (useG (σ 8)) i → V X 4 [(2, .int (nI i)), (1, .int x1), (0, .ref 0)] [] σ := by
    intro kf
    induction kf with
    | zero => intro i x1 h1 h2; omega
    | succ kf ih4 =>
      intro i x1 h1 h2 ex1
      refine v_iload_n C dX6_roomsUsed_4 rfl rfl rfl ?_
      refine v_aload_n C dX6_roomsUsed_5 rfl rfl rfl ?_
      refine v_getI C (Nat.le_of_ble_eq_true rfl) rfl rfl hinX6 8 (Nat.le_of_ble_eq_true rfl) lkX6_65 rfl dX6_roomsUsed_6 rfl ?_
      refine V.tp hn ?_
      refine v_icmp_ge (tgt := 29) C dX6_roomsUsed_9 (by decide) rfl (fun c9 => ?_) (fun c9 => ?_)
      · skip
        have c9 := mt (nI_ltI (a := i) (b := n) (by omega) (by omega)).mpr c9
        refine v_iload_n C dX6_roomsUsed_29 rfl rfl rfl ?_
        refine v_callS C (As := [.int x1]) (rest := []) (kX6_bits x1 σ) rfl (Nat.le_of_ble_eq_true rfl) (Nat.le_of_ble_eq_true rfl) ⟨mlX6_184, mfX6_bits⟩ dkX6_bits (Nat.le_of_ble_eq_true rfl) dX6_roomsUsed_30 rfl (kI ?_)
        exact v_iret C dX6_roomsUsed_33 (by rw [hX]; exact fI_of (by rw [useF, ex1, show i = n by omega]) rfl)
      · skip
        have c9 := (nI_ltI (a := i) (b := n) (by omega) (by omega)).mp c9
        refine v_iload_n C dX6_roomsUsed_12 rfl rfl rfl ?_
        refine v_iconst (v := 1) C dX6_roomsUsed_13 (by decide) rfl ?_
        refine v_aload_n C dX6_roomsUsed_14 rfl rfl rfl ?_
        refine v_getR C (Nat.le_of_ble_eq_true rfl) rfl rfl hinX6 7 (Nat.le_of_ble_eq_true rfl) lkX6_31 rfl dX6_roomsUsed_15 rfl ?_
        refine v_iload_n C dX6_roomsUsed_18 rfl rfl rfl ?_
        refine v_iald (i := i) C (Nat.le_of_ble_eq_true rfl) rfl rfl (by omega) (by decide) dX6_roomsUsed_19 rfl ?_
        refine v_ishl C dX6_roomsUsed_20 rfl ?_
        refine v_ior C dX6_roomsUsed_21 rfl ?_
        refine V.top (fun v22_1 ev22_1 => ?_)
        refine v_istore_n (lv' := [(1, .int v22_1), (2, .int (nI i)), (0, .ref 0)]) C dX6_roomsUsed_22 rfl (Nat.le_of_ble_eq_true rfl) rfl rfl ?_
        refine v_iinc (lv' := [(2, .int (nI (i + 1))), (1, .int v22_1), (0, .ref 0)]) C dX6_roomsUsed_23 rfl (nI_inc i) (Nat.le_of_ble_eq_true rfl) rfl rfl ?_
        refine v_goto (tgt := 4) C dX6_roomsUsed_26 (by decide) ?_
        exact V.sub [0, 1, 2] rfl (ih4 (i + 1) _ (by omega) (by omega) (by rw [ev22_1, ex1]; rfl))
  exact V.sub [0, 1, 2] rfl (lp4 (n + 1) 0 0 (by omega) (by omega) (rfl))
noncomputable def fpN (ok : Nat → Prop) (F : Nat → Int32) : Nat → Nat × Int32
  | 0 => (0, -9)
  | i + 1 => cI (ok i) (if (fpN ok F i).2 < 0 ∨ F i < (fpN ok F i).2 then (i, F i) else fpN ok F i) (fpN ok F i)
def plF (σ : St) (n : Nat) (w : Int32) (k : Nat) : Int32 := if w = 0 then binF (σ 4) (σ 6) (σ 7) (plc n k) n (worN (binF (σ 4) (σ 6) (σ 7) (plc n k) n) 6) else useF (plc n k) n
def Plr (σ τ : St) : Prop := (∀ a, a ≠ 0 → a ≠ 8 → a ≠ 14 → τ a = σ a) ∧ (∀ j, j ≠ 23 → τ 0 j = σ 0 j) ∧ (∀ j, 7 ≤ j → τ 8 j = σ 8 j)
theorem Plr_put {σ τ : St} (h : Plr σ τ) {n k : Nat} (h7 : n ≤ 7) : Plr σ (setR τ 8 (shbR 6 n k 0 (τ 8))) := by
  refine ⟨fun a a0 a8 a14 => by rw [setR_o _ _ _ _ a8]; exact h.1 a a0 a8 a14, fun j hj => by rw [setR_o _ _ _ _ (by decide)]; exact h.2.1 j hj, fun j hj => ?_⟩
  rw [setR_k, shbR, if_neg (by omega)]; exact h.2.2 j hj
theorem Plr_23 {σ τ : St} (h : Plr σ τ) (v : Int32) : Plr σ (s2 τ 0 23 v) :=
  ⟨fun a a0 a8 a14 => by rw [s2_ne a0]; exact h.1 a a0 a8 a14, fun j hj => by rw [s2_get, if_neg (fun q => hj q.2)]; exact h.2.1 j hj, fun j hj => by rw [s2_ne (by decide)]; exact h.2.2 j hj⟩
theorem Plr_14 {σ τ : St} (h : Plr σ τ) (f : Nat → Int32) : Plr σ (setR τ 14 f) :=
  ⟨fun a a0 a8 a14 => by rw [setR_o _ _ _ _ a14]; exact h.1 a a0 a8 a14, fun j hj => by rw [setR_o _ _ _ _ (by decide)]; exact h.2.1 j hj, fun j hj => by rw [setR_o _ _ _ _ (by decide)]; exact h.2.2 j hj⟩
def FpI (σ τ : St) (n : Nat) (q : Nat × Int32) : Prop := Plr σ τ ∧ τ 0 23 = q.2 ∧ (¬ q.2 < 0 → ∀ p, p < n → τ 14 p = plc n q.1 p)
theorem plF_cg {σ τ : St} (h4 : τ 4 = σ 4) (h6 : τ 6 = σ 6) (h7 : τ 7 = σ 7) (n : Nat) (w : Int32) (k : Nat) : plF τ n w k = plF σ n w k := by rw [plF, plF, h4, h6, h7]
theorem pow6_small {n : Nat} (h5 : n ≤ 5) : 6 ^ n ≤ 7776 := by
  have b : 6 ^ n ≤ 6 ^ 5 := Nat.pow_le_pow_right (by decide) h5
  have c : (6 : Nat) ^ 5 = 7776 := by decide
  omega
theorem kX6_findPlacing (v w : Int32) (n : Nat) (σ : St) (hn : σ 0 8 = nI n) (h5 : n ≤ 5) : Ct yX6_findPlacing cX6_findPlacing 6 none 4 [.ref 0, .int v, .int w] σ (rV (fun τ => Sm σ τ ∧ τ 0 23 = (fpN (plP σ n v) (plF σ n w) (6 ^ n)).2 ∧ (¬ (fpN (plP σ n v) (plF σ n w) (6 ^ n)).2 < 0 → ∀ p, p < n → τ 14 p = plc n (fpN (plP σ n v) (plF σ n w) (6 ^ n)).1 p))) := by
  have h7 : n ≤ 7 := by omega
  have hpw := pow6_small h5
  have hp0 : 0 < 6 ^ n := Nat.pow_pos (by decide)
  refine ct_of plX6 rfl (Nat.le_of_ble_eq_true rfl) (fun X hX C => ?_)
  show V X 0 [(0, .ref 0), (1, .int v), (2, .int w)] [] σ
  refine v_aload_n C dX6_findPlacing_0 rfl rfl rfl ?_
  refine v_iconst (v := 1) C dX6_findPlacing_1 (by decide) rfl ?_
  refine v_iconst (v := 1) C dX6_findPlacing_2 (by decide) rfl ?_
  refine v_callV C (Nat.le_of_ble_eq_true rfl) rfl rfl (As := [.int 1, .int 1]) (rest := []) (kX6_passesAllK1 σ) rfl (Nat.le_of_ble_eq_true rfl) (Nat.le_of_ble_eq_true rfl) ⟨mlX6_139, mfX6_passesAll⟩ dkX6_passesAll (Nat.le_of_ble_eq_true rfl) dX6_findPlacing_3 rfl (krV (fun τ6_1 h6_1 => ?_))
  have hnτ6_1 : τ6_1 0 8 = nI n := by rw [h6_1.2.1 8 (by decide) (by decide)]; exact hn
  refine v_aload_n C dX6_findPlacing_6 rfl rfl rfl ?_
  refine v_bipush (v := -9) C dX6_findPlacing_7 (by decide) rfl ?_
  refine v_put (ty := .int) C (Nat.le_of_ble_eq_true rfl) rfl rfl hinX6 tyX6_ok nmX6 23 (Nat.le_of_ble_eq_true rfl) lkX6_187 rfl (by decide +kernel) rfl rfl rfl dX6_findPlacing_9 rfl ?_
  refine V.nm (fun τ9_2 eτ9_2 => ?_)
  refine v_iconst (v := 0) C dX6_findPlacing_12 (by decide) rfl ?_
  refine v_istore_n (lv' := [(3, .int 0), (0, .ref 0), (1, .int v), (2, .int w)]) C dX6_findPlacing_13 rfl (Nat.le_of_ble_eq_true rfl) rfl rfl ?_
  have lp14 : ∀ (kf i : Nat)  (τ : St), (6 ^ n) < i + kf → i ≤ (6 ^ n) → FpI τ6_1 τ n (fpN (plP σ n v) (plF σ n w) i) → V X 14 [(3, .int (nI i)), (0, .ref 0), (1, .int v), (2, .int w)] [] τ := by
    intro kf
    induction kf with
    | zero => intro i  τ h1 h2; omega
    | succ kf ih14 =>
      intro i  τ h1 h2  eτ
      have hPl := eτ.1
      have hnt : τ 0 8 = nI n := (hPl.2.1 8 (by decide)).trans hnτ6_1
      refine v_iload_n C dX6_findPlacing_14 rfl rfl rfl ?_
      refine v_bipush (v := 6) C dX6_findPlacing_15 (by decide) rfl ?_
      refine v_aload_n C dX6_findPlacing_17 rfl rfl rfl ?_
      refine v_getI C (Nat.le_of_ble_eq_true rfl) rfl rfl hinX6 8 (Nat.le_of_ble_eq_true rfl) lkX6_65 rfl dX6_findPlacing_18 rfl ?_
      refine V.tp hnt ?_
      refine v_callS C (As := [.int 6, .int (nI n)]) (rest := [.int (nI i)]) (kX6_power 6 n τ h7) rfl (Nat.le_of_ble_eq_true rfl) (Nat.le_of_ble_eq_true rfl) ⟨mlX6_190, mfX6_power⟩ dkX6_power (Nat.le_of_ble_eq_true rfl) dX6_findPlacing_21 rfl (kI ?_)
      refine V.tp (powN_nI 6 n) ?_
      refine v_icmp_ge (tgt := 123) C dX6_findPlacing_24 (by decide) rfl (fun c24 => ?_) (fun c24 => ?_)
      · skip
        have c24 := mt (nI_ltI (a := i) (b := (6 ^ n)) (by omega) (by omega)).mpr c24
        have hie : i = 6 ^ n := by omega
        refine v_aload_n C dX6_findPlacing_123 rfl rfl rfl ?_
        refine v_iconst (v := 1) C dX6_findPlacing_124 (by decide) rfl ?_
        refine v_iconst (v := 0) C dX6_findPlacing_125 (by decide) rfl ?_
        refine v_callV C (Nat.le_of_ble_eq_true rfl) rfl rfl (As := [.int 1, .int 0]) (rest := []) (kX6_passesAllB1 τ) rfl (Nat.le_of_ble_eq_true rfl) (Nat.le_of_ble_eq_true rfl) ⟨mlX6_139, mfX6_passesAll⟩ dkX6_passesAll (Nat.le_of_ble_eq_true rfl) dX6_findPlacing_126 rfl (krV (fun τ129_3 h129_3 => ?_))
        exact v_vret C dX6_findPlacing_129 (by rw [hX]; exact ⟨rfl, KB h6_1 h129_3 (hPl.1 13 (by decide) (by decide) (by decide)) (fun k h2 h8 j hj => (Classical.em (k = 8)).elim (fun e => by subst e; rw [hPl.2.2 j hj, h6_1.1 8 (by decide) (by decide)]) (fun e => by rw [hPl.1 k (by omega) e (by omega), h6_1.1 k (by omega) (by omega)])) (fun a ha => by rw [hPl.1 a (by omega) (by omega) (by omega)]; exact h6_1.1 a (by omega) (by omega)) (fun j hj => by rw [hPl.2.1 j (by omega)]; exact h6_1.2.1 j (by omega) (by omega)), by rw [h129_3.2.1 23 (by decide) (by decide) (by decide) (by decide) (by decide), eτ.2.1, hie], fun z p hp => by rw [h129_3.1 14 (by decide) (by decide), eτ.2.2 (by rw [hie]; exact z) p hp, hie]⟩)
      · skip
        have c24 := (nI_ltI (a := i) (b := (6 ^ n)) (by omega) (by omega)).mp c24
        refine v_aload_n C dX6_findPlacing_27 rfl rfl rfl ?_
        refine v_iload_n C dX6_findPlacing_28 rfl rfl rfl ?_
        refine v_iload_n C dX6_findPlacing_29 rfl rfl rfl ?_
        refine v_callV C (Nat.le_of_ble_eq_true rfl) rfl rfl (As := [.int v, .int (nI i)]) (rest := []) (kX6_isPlaced v n i τ hnt h7 (by omega)) rfl (Nat.le_of_ble_eq_true rfl) (Nat.le_of_ble_eq_true rfl) ⟨mlX6_194, mfX6_isPlaced⟩ dkX6_isPlaced (Nat.le_of_ble_eq_true rfl) dX6_findPlacing_30 rfl (kI ?_)
        refine V.tp (show bI (plP τ n v i) = bI (plP σ n v i) from by rw [plP, plP, hPl.1 2 (by decide) (by decide) (by decide), hPl.1 5 (by decide) (by decide) (by decide), h6_1.1 2 (by decide) (by decide), h6_1.1 5 (by decide) (by decide)]) ?_
        refine V.nm (fun τ33_4 eτ33_4 => ?_)
        have hP3 : Plr τ6_1 τ33_4 := by rw [eτ33_4]; exact Plr_put hPl h7
        have hn3 : τ33_4 0 8 = nI n := (hP3.2.1 8 (by decide)).trans hnτ6_1
        have h83 : ∀ p, p < n → τ33_4 8 p = plc n i p := fun p hp => by rw [eτ33_4, setR_k]; exact shb_plc p hp
        have r4 : τ33_4 4 = σ 4 := (hP3.1 4 (by decide) (by decide) (by decide)).trans (h6_1.1 4 (by decide) (by decide))
        have r6 : τ33_4 6 = σ 6 := (hP3.1 6 (by decide) (by decide) (by decide)).trans (h6_1.1 6 (by decide) (by decide))
        have r7 : τ33_4 7 = σ 7 := (hP3.1 7 (by decide) (by decide) (by decide)).trans (h6_1.1 7 (by decide) (by decide))
        have h23 : τ33_4 0 23 = τ 0 23 := by rw [eτ33_4, setR_o _ _ _ _ (by decide)]
        have h14 : τ33_4 14 = τ 14 := by rw [eτ33_4, setR_o _ _ _ _ (by decide)]
        have hq23 : τ33_4 0 23 = (fpN (plP σ n v) (plF σ n w) i).2 := h23.trans eτ.2.1
        refine v_if_ne (tgt := 39) C dX6_findPlacing_33 (by decide) rfl (fun c33 => ?_) (fun c33 => ?_)
        · skip
          have c33 := bI_n c33
          refine v_iload_n C dX6_findPlacing_39 rfl rfl rfl ?_
          refine v_if_ne (tgt := 54) C dX6_findPlacing_40 (by decide) rfl (fun c40 => ?_) (fun c40 => ?_)
          · skip
            refine v_aload_n C dX6_findPlacing_54 rfl rfl rfl ?_
            refine v_callV C (Nat.le_of_ble_eq_true rfl) rfl rfl (As := []) (rest := []) (kX6_roomsUsed n τ33_4 hn3 h7) rfl (Nat.le_of_ble_eq_true rfl) (Nat.le_of_ble_eq_true rfl) ⟨mlX6_200, mfX6_roomsUsed⟩ dkX6_roomsUsed (Nat.le_of_ble_eq_true rfl) dX6_findPlacing_55 rfl (kI ?_)
            refine V.tp (show useF (τ33_4 8) n = plF σ n w i from by rw [plF, if_neg c40, useF_cg h83]) ?_
            refine V.top (fun v58_5 ev58_5 => ?_)
            refine v_istore (lv' := [(4, .int v58_5), (3, .int (nI i)), (0, .ref 0), (1, .int v), (2, .int w)]) C dX6_findPlacing_58 (Nat.le_of_ble_eq_true rfl) rfl rfl ?_
            refine v_aload_n C dX6_findPlacing_60 rfl rfl rfl ?_
            refine v_getI C (Nat.le_of_ble_eq_true rfl) rfl rfl hinX6 23 (Nat.le_of_ble_eq_true rfl) lkX6_187 rfl dX6_findPlacing_61 rfl ?_
            refine V.tp hq23 ?_
            refine v_if_lt (tgt := 79) C dX6_findPlacing_64 (by decide) rfl (fun c64 => ?_) (fun c64 => ?_)
            · skip
              refine v_aload_n C dX6_findPlacing_79 rfl rfl rfl ?_
              refine v_iload C dX6_findPlacing_80 rfl rfl ?_
              refine v_put (ty := .int) C (Nat.le_of_ble_eq_true rfl) rfl rfl hinX6 tyX6_ok nmX6 23 (Nat.le_of_ble_eq_true rfl) lkX6_187 rfl (by decide +kernel) rfl rfl rfl dX6_findPlacing_82 rfl ?_
              refine V.nm (fun τ82_6 eτ82_6 => ?_)
              refine v_iconst (v := 0) C dX6_findPlacing_85 (by decide) rfl ?_
              refine v_istore (lv' := [(5, .int 0), (4, .int v58_5), (3, .int (nI i)), (0, .ref 0), (1, .int v), (2, .int w)]) C dX6_findPlacing_86 (Nat.le_of_ble_eq_true rfl) rfl rfl ?_
              have lp88 : ∀ (kf p_ : Nat)  (υ : St), n < p_ + kf → p_ ≤ n → υ = setR τ82_6 14 (pre p_ (τ33_4 8) (τ82_6 14)) → V X 88 [(5, .int (nI p_)), (4, .int v58_5), (3, .int (nI i)), (0, .ref 0), (1, .int v), (2, .int w)] [] υ := by
                intro kf
                induction kf with
                | zero => intro p_  υ h1 h2; omega
                | succ kf ih88 =>
                  intro p_  υ h1 h2  eυ
                  have hn4 : υ 0 8 = nI n := by rw [eυ, setR_o _ _ _ _ (by decide), eτ82_6, s2_get, if_neg (by decide)]; exact hn3
                  have h84 : υ 8 p_ = τ33_4 8 p_ := by rw [eυ, setR_o _ _ _ _ (by decide), eτ82_6, s2_ne (by decide)]
                  refine v_iload C dX6_findPlacing_88 rfl rfl ?_
                  refine v_aload_n C dX6_findPlacing_90 rfl rfl rfl ?_
                  refine v_getI C (Nat.le_of_ble_eq_true rfl) rfl rfl hinX6 8 (Nat.le_of_ble_eq_true rfl) lkX6_65 rfl dX6_findPlacing_91 rfl ?_
                  refine V.tp hn4 ?_
                  refine v_icmp_ge (tgt := 117) C dX6_findPlacing_94 (by decide) rfl (fun c94 => ?_) (fun c94 => ?_)
                  · skip
                    have c94 := mt (nI_ltI (a := p_) (b := n) (by omega) (by omega)).mpr c94
                    refine v_iinc (lv' := [(3, .int (nI (i + 1))), (5, .int (nI p_)), (4, .int v58_5), (0, .ref 0), (1, .int v), (2, .int w)]) C dX6_findPlacing_117 rfl (nI_inc i) (Nat.le_of_ble_eq_true rfl) rfl rfl ?_
                    refine v_goto (tgt := 14) C dX6_findPlacing_120 (by decide) ?_
                    exact V.sub [0, 3, 4, 5] rfl (ih14 (i + 1)  _ (by omega) (by omega)  (by rw [fpN, cI_t c33, if_pos (Or.inl c64)]; exact ⟨by rw [eυ]; exact Plr_14 (by rw [eτ82_6]; exact Plr_23 hP3 _) _, by rw [eυ, setR_o _ _ _ _ (by decide), eτ82_6, s2_get, if_pos ⟨rfl, rfl⟩, ev58_5], fun _ p hp => by rw [eυ, setR_k, pre, if_pos (by omega)]; exact h83 p hp⟩))
                  · skip
                    have c94 := (nI_ltI (a := p_) (b := n) (by omega) (by omega)).mp c94
                    refine v_aload_n C dX6_findPlacing_97 rfl rfl rfl ?_
                    refine v_getR C (Nat.le_of_ble_eq_true rfl) rfl rfl hinX6 22 (Nat.le_of_ble_eq_true rfl) lkX6_49 rfl dX6_findPlacing_98 rfl ?_
                    refine v_iload C dX6_findPlacing_101 rfl rfl ?_
                    refine v_aload_n C dX6_findPlacing_103 rfl rfl rfl ?_
                    refine v_getR C (Nat.le_of_ble_eq_true rfl) rfl rfl hinX6 7 (Nat.le_of_ble_eq_true rfl) lkX6_31 rfl dX6_findPlacing_104 rfl ?_
                    refine v_iload C dX6_findPlacing_107 rfl rfl ?_
                    refine v_iald (i := p_) C (Nat.le_of_ble_eq_true rfl) rfl rfl (by omega) (by decide) dX6_findPlacing_109 rfl ?_
                    refine V.tp h84 ?_
                    refine v_iast (i := p_) C (Nat.le_of_ble_eq_true rfl) rfl rfl (by omega) (by decide) dX6_findPlacing_110 rfl ?_
                    refine V.nm (fun τ110_7 eτ110_7 => ?_)
                    refine v_iinc (lv' := [(5, .int (nI (p_ + 1))), (4, .int v58_5), (3, .int (nI i)), (0, .ref 0), (1, .int v), (2, .int w)]) C dX6_findPlacing_111 rfl (nI_inc p_) (Nat.le_of_ble_eq_true rfl) rfl rfl ?_
                    refine v_goto (tgt := 88) C dX6_findPlacing_114 (by decide) ?_
                    exact V.sub [0, 1, 2, 3, 4, 5] rfl (ih88 (p_ + 1)  _ (by omega) (by omega)  (by rw [eτ110_7, eυ, setR_s2, pre_upd _ _ _ rfl]))
              exact V.sub [0, 1, 2, 3, 4, 5] rfl (lp88 (n + 1) 0  _ (by omega) (by omega)  (by rw [pre_0, setR_self]))
            · skip
              refine v_iload C dX6_findPlacing_67 rfl rfl ?_
              refine v_aload_n C dX6_findPlacing_69 rfl rfl rfl ?_
              refine v_getI C (Nat.le_of_ble_eq_true rfl) rfl rfl hinX6 23 (Nat.le_of_ble_eq_true rfl) lkX6_187 rfl dX6_findPlacing_70 rfl ?_
              refine V.tp hq23 ?_
              refine v_icmp_lt (tgt := 79) C dX6_findPlacing_73 (by decide) rfl (fun c73 => ?_) (fun c73 => ?_)
              · skip
                refine v_aload_n C dX6_findPlacing_79 rfl rfl rfl ?_
                refine v_iload C dX6_findPlacing_80 rfl rfl ?_
                refine v_put (ty := .int) C (Nat.le_of_ble_eq_true rfl) rfl rfl hinX6 tyX6_ok nmX6 23 (Nat.le_of_ble_eq_true rfl) lkX6_187 rfl (by decide +kernel) rfl rfl rfl dX6_findPlacing_82 rfl ?_
                refine V.nm (fun τ82_8 eτ82_8 => ?_)
                refine v_iconst (v := 0) C dX6_findPlacing_85 (by decide) rfl ?_
                refine v_istore (lv' := [(5, .int 0), (4, .int v58_5), (3, .int (nI i)), (0, .ref 0), (1, .int v), (2, .int w)]) C dX6_findPlacing_86 (Nat.le_of_ble_eq_true rfl) rfl rfl ?_
                have lp88 : ∀ (kf p_ : Nat)  (υ : St), n < p_ + kf → p_ ≤ n → υ = setR τ82_8 14 (pre p_ (τ33_4 8) (τ82_8 14)) → V X 88 [(5, .int (nI p_)), (4, .int v58_5), (3, .int (nI i)), (0, .ref 0), (1, .int v), (2, .int w)] [] υ := by
                  intro kf
                  induction kf with
                  | zero => intro p_  υ h1 h2; omega
                  | succ kf ih88 =>
                    intro p_  υ h1 h2  eυ
                    have hn4 : υ 0 8 = nI n := by rw [eυ, setR_o _ _ _ _ (by decide), eτ82_8, s2_get, if_neg (by decide)]; exact hn3
                    have h84 : υ 8 p_ = τ33_4 8 p_ := by rw [eυ, setR_o _ _ _ _ (by decide), eτ82_8, s2_ne (by decide)]
                    refine v_iload C dX6_findPlacing_88 rfl rfl ?_
                    refine v_aload_n C dX6_findPlacing_90 rfl rfl rfl ?_
                    refine v_getI C (Nat.le_of_ble_eq_true rfl) rfl rfl hinX6 8 (Nat.le_of_ble_eq_true rfl) lkX6_65 rfl dX6_findPlacing_91 rfl ?_
                    refine V.tp hn4 ?_
                    refine v_icmp_ge (tgt := 117) C dX6_findPlacing_94 (by decide) rfl (fun c94 => ?_) (fun c94 => ?_)
                    · skip
                      have c94 := mt (nI_ltI (a := p_) (b := n) (by omega) (by omega)).mpr c94
                      refine v_iinc (lv' := [(3, .int (nI (i + 1))), (5, .int (nI p_)), (4, .int v58_5), (0, .ref 0), (1, .int v), (2, .int w)]) C dX6_findPlacing_117 rfl (nI_inc i) (Nat.le_of_ble_eq_true rfl) rfl rfl ?_
                      refine v_goto (tgt := 14) C dX6_findPlacing_120 (by decide) ?_
                      exact V.sub [0, 3, 4, 5] rfl (ih14 (i + 1)  _ (by omega) (by omega)  (by rw [fpN, cI_t c33, if_pos (Or.inr (by rw [← ev58_5]; exact c73))]; exact ⟨by rw [eυ]; exact Plr_14 (by rw [eτ82_8]; exact Plr_23 hP3 _) _, by rw [eυ, setR_o _ _ _ _ (by decide), eτ82_8, s2_get, if_pos ⟨rfl, rfl⟩, ev58_5], fun _ p hp => by rw [eυ, setR_k, pre, if_pos (by omega)]; exact h83 p hp⟩))
                    · skip
                      have c94 := (nI_ltI (a := p_) (b := n) (by omega) (by omega)).mp c94
                      refine v_aload_n C dX6_findPlacing_97 rfl rfl rfl ?_
                      refine v_getR C (Nat.le_of_ble_eq_true rfl) rfl rfl hinX6 22 (Nat.le_of_ble_eq_true rfl) lkX6_49 rfl dX6_findPlacing_98 rfl ?_
                      refine v_iload C dX6_findPlacing_101 rfl rfl ?_
                      refine v_aload_n C dX6_findPlacing_103 rfl rfl rfl ?_
                      refine v_getR C (Nat.le_of_ble_eq_true rfl) rfl rfl hinX6 7 (Nat.le_of_ble_eq_true rfl) lkX6_31 rfl dX6_findPlacing_104 rfl ?_
                      refine v_iload C dX6_findPlacing_107 rfl rfl ?_
                      refine v_iald (i := p_) C (Nat.le_of_ble_eq_true rfl) rfl rfl (by omega) (by decide) dX6_findPlacing_109 rfl ?_
                      refine V.tp h84 ?_
                      refine v_iast (i := p_) C (Nat.le_of_ble_eq_true rfl) rfl rfl (by omega) (by decide) dX6_findPlacing_110 rfl ?_
                      refine V.nm (fun τ110_9 eτ110_9 => ?_)
                      refine v_iinc (lv' := [(5, .int (nI (p_ + 1))), (4, .int v58_5), (3, .int (nI i)), (0, .ref 0), (1, .int v), (2, .int w)]) C dX6_findPlacing_111 rfl (nI_inc p_) (Nat.le_of_ble_eq_true rfl) rfl rfl ?_
                      refine v_goto (tgt := 88) C dX6_findPlacing_114 (by decide) ?_
                      exact V.sub [0, 1, 2, 3, 4, 5] rfl (ih88 (p_ + 1)  _ (by omega) (by omega)  (by rw [eτ110_9, eυ, setR_s2, pre_upd _ _ _ rfl]))
                exact V.sub [0, 1, 2, 3, 4, 5] rfl (lp88 (n + 1) 0  _ (by omega) (by omega)  (by rw [pre_0, setR_self]))
              · skip
                refine v_goto (tgt := 117) C dX6_findPlacing_76 (by decide) ?_
                refine v_iinc (lv' := [(3, .int (nI (i + 1))), (4, .int v58_5), (0, .ref 0), (1, .int v), (2, .int w)]) C dX6_findPlacing_117 rfl (nI_inc i) (Nat.le_of_ble_eq_true rfl) rfl rfl ?_
                refine v_goto (tgt := 14) C dX6_findPlacing_120 (by decide) ?_
                exact V.sub [0, 2, 3, 4] rfl (ih14 (i + 1)  _ (by omega) (by omega)  (by rw [fpN, cI_t c33, if_neg (fun z => z.elim c64 (fun z => c73 (by rw [ev58_5]; exact z)))]; exact ⟨hP3, h23.trans eτ.2.1, fun z p hp => by rw [h14]; exact eτ.2.2 z p hp⟩))
          · skip
            refine v_aload_n C dX6_findPlacing_43 rfl rfl rfl ?_
            refine v_aload_n C dX6_findPlacing_44 rfl rfl rfl ?_
            refine v_callV C (Nat.le_of_ble_eq_true rfl) rfl rfl (As := []) (rest := [.ref 0]) (kX6_worst n τ33_4 hn3 h7) rfl (Nat.le_of_ble_eq_true rfl) (Nat.le_of_ble_eq_true rfl) ⟨mlX6_197, mfX6_worst⟩ dkX6_worst (Nat.le_of_ble_eq_true rfl) dX6_findPlacing_45 rfl (kI ?_)
            refine v_callV C (Nat.le_of_ble_eq_true rfl) rfl rfl (As := [.int (worN (binF (τ33_4 4) (τ33_4 6) (τ33_4 7) (τ33_4 8) n) 6)]) (rest := []) (kX6_blameIn n (worN (binF (τ33_4 4) (τ33_4 6) (τ33_4 7) (τ33_4 8) n) 6) τ33_4 hn3 h7) rfl (Nat.le_of_ble_eq_true rfl) (Nat.le_of_ble_eq_true rfl) ⟨mlX6_178, mfX6_blameIn⟩ dkX6_blameIn (Nat.le_of_ble_eq_true rfl) dX6_findPlacing_48 rfl (kI ?_)
            refine V.tp (show binF (τ33_4 4) (τ33_4 6) (τ33_4 7) (τ33_4 8) n (worN (binF (τ33_4 4) (τ33_4 6) (τ33_4 7) (τ33_4 8) n) 6) = plF σ n w i from by rw [plF, if_pos c40, r4, r6, r7, binF_cg h83, show binF (σ 4) (σ 6) (σ 7) (τ33_4 8) n = binF (σ 4) (σ 6) (σ 7) (plc n i) n from funext (fun r => binF_cg h83 r)]) ?_
            refine v_goto (tgt := 58) C dX6_findPlacing_51 (by decide) ?_
            refine V.top (fun v58_10 ev58_10 => ?_)
            refine v_istore (lv' := [(4, .int v58_10), (3, .int (nI i)), (0, .ref 0), (1, .int v), (2, .int w)]) C dX6_findPlacing_58 (Nat.le_of_ble_eq_true rfl) rfl rfl ?_
            refine v_aload_n C dX6_findPlacing_60 rfl rfl rfl ?_
            refine v_getI C (Nat.le_of_ble_eq_true rfl) rfl rfl hinX6 23 (Nat.le_of_ble_eq_true rfl) lkX6_187 rfl dX6_findPlacing_61 rfl ?_
            refine V.tp hq23 ?_
            refine v_if_lt (tgt := 79) C dX6_findPlacing_64 (by decide) rfl (fun c64 => ?_) (fun c64 => ?_)
            · skip
              refine v_aload_n C dX6_findPlacing_79 rfl rfl rfl ?_
              refine v_iload C dX6_findPlacing_80 rfl rfl ?_
              refine v_put (ty := .int) C (Nat.le_of_ble_eq_true rfl) rfl rfl hinX6 tyX6_ok nmX6 23 (Nat.le_of_ble_eq_true rfl) lkX6_187 rfl (by decide +kernel) rfl rfl rfl dX6_findPlacing_82 rfl ?_
              refine V.nm (fun τ82_11 eτ82_11 => ?_)
              refine v_iconst (v := 0) C dX6_findPlacing_85 (by decide) rfl ?_
              refine v_istore (lv' := [(5, .int 0), (4, .int v58_10), (3, .int (nI i)), (0, .ref 0), (1, .int v), (2, .int w)]) C dX6_findPlacing_86 (Nat.le_of_ble_eq_true rfl) rfl rfl ?_
              have lp88 : ∀ (kf p_ : Nat)  (υ : St), n < p_ + kf → p_ ≤ n → υ = setR τ82_11 14 (pre p_ (τ33_4 8) (τ82_11 14)) → V X 88 [(5, .int (nI p_)), (4, .int v58_10), (3, .int (nI i)), (0, .ref 0), (1, .int v), (2, .int w)] [] υ := by
                intro kf
                induction kf with
                | zero => intro p_  υ h1 h2; omega
                | succ kf ih88 =>
                  intro p_  υ h1 h2  eυ
                  have hn4 : υ 0 8 = nI n := by rw [eυ, setR_o _ _ _ _ (by decide), eτ82_11, s2_get, if_neg (by decide)]; exact hn3
                  have h84 : υ 8 p_ = τ33_4 8 p_ := by rw [eυ, setR_o _ _ _ _ (by decide), eτ82_11, s2_ne (by decide)]
                  refine v_iload C dX6_findPlacing_88 rfl rfl ?_
                  refine v_aload_n C dX6_findPlacing_90 rfl rfl rfl ?_
                  refine v_getI C (Nat.le_of_ble_eq_true rfl) rfl rfl hinX6 8 (Nat.le_of_ble_eq_true rfl) lkX6_65 rfl dX6_findPlacing_91 rfl ?_
                  refine V.tp hn4 ?_
                  refine v_icmp_ge (tgt := 117) C dX6_findPlacing_94 (by decide) rfl (fun c94 => ?_) (fun c94 => ?_)
                  · skip
                    have c94 := mt (nI_ltI (a := p_) (b := n) (by omega) (by omega)).mpr c94
                    refine v_iinc (lv' := [(3, .int (nI (i + 1))), (5, .int (nI p_)), (4, .int v58_10), (0, .ref 0), (1, .int v), (2, .int w)]) C dX6_findPlacing_117 rfl (nI_inc i) (Nat.le_of_ble_eq_true rfl) rfl rfl ?_
                    refine v_goto (tgt := 14) C dX6_findPlacing_120 (by decide) ?_
                    exact V.sub [0, 3, 4, 5] rfl (ih14 (i + 1)  _ (by omega) (by omega)  (by rw [fpN, cI_t c33, if_pos (Or.inl c64)]; exact ⟨by rw [eυ]; exact Plr_14 (by rw [eτ82_11]; exact Plr_23 hP3 _) _, by rw [eυ, setR_o _ _ _ _ (by decide), eτ82_11, s2_get, if_pos ⟨rfl, rfl⟩, ev58_10], fun _ p hp => by rw [eυ, setR_k, pre, if_pos (by omega)]; exact h83 p hp⟩))
                  · skip
                    have c94 := (nI_ltI (a := p_) (b := n) (by omega) (by omega)).mp c94
                    refine v_aload_n C dX6_findPlacing_97 rfl rfl rfl ?_
                    refine v_getR C (Nat.le_of_ble_eq_true rfl) rfl rfl hinX6 22 (Nat.le_of_ble_eq_true rfl) lkX6_49 rfl dX6_findPlacing_98 rfl ?_
                    refine v_iload C dX6_findPlacing_101 rfl rfl ?_
                    refine v_aload_n C dX6_findPlacing_103 rfl rfl rfl ?_
                    refine v_getR C (Nat.le_of_ble_eq_true rfl) rfl rfl hinX6 7 (Nat.le_of_ble_eq_true rfl) lkX6_31 rfl dX6_findPlacing_104 rfl ?_
                    refine v_iload C dX6_findPlacing_107 rfl rfl ?_
                    refine v_iald (i := p_) C (Nat.le_of_ble_eq_true rfl) rfl rfl (by omega) (by decide) dX6_findPlacing_109 rfl ?_
                    refine V.tp h84 ?_
                    refine v_iast (i := p_) C (Nat.le_of_ble_eq_true rfl) rfl rfl (by omega) (by decide) dX6_findPlacing_110 rfl ?_
                    refine V.nm (fun τ110_12 eτ110_12 => ?_)
                    refine v_iinc (lv' := [(5, .int (nI (p_ + 1))), (4, .int v58_10), (3, .int (nI i)), (0, .ref 0), (1, .int v), (2, .int w)]) C dX6_findPlacing_111 rfl (nI_inc p_) (Nat.le_of_ble_eq_true rfl) rfl rfl ?_
                    refine v_goto (tgt := 88) C dX6_findPlacing_114 (by decide) ?_
                    exact V.sub [0, 1, 2, 3, 4, 5] rfl (ih88 (p_ + 1)  _ (by omega) (by omega)  (by rw [eτ110_12, eυ, setR_s2, pre_upd _ _ _ rfl]))
              exact V.sub [0, 1, 2, 3, 4, 5] rfl (lp88 (n + 1) 0  _ (by omega) (by omega)  (by rw [pre_0, setR_self]))
            · skip
              refine v_iload C dX6_findPlacing_67 rfl rfl ?_
              refine v_aload_n C dX6_findPlacing_69 rfl rfl rfl ?_
              refine v_getI C (Nat.le_of_ble_eq_true rfl) rfl rfl hinX6 23 (Nat.le_of_ble_eq_true rfl) lkX6_187 rfl dX6_findPlacing_70 rfl ?_
              refine V.tp hq23 ?_
              refine v_icmp_lt (tgt := 79) C dX6_findPlacing_73 (by decide) rfl (fun c73 => ?_) (fun c73 => ?_)
              · skip
                refine v_aload_n C dX6_findPlacing_79 rfl rfl rfl ?_
                refine v_iload C dX6_findPlacing_80 rfl rfl ?_
                refine v_put (ty := .int) C (Nat.le_of_ble_eq_true rfl) rfl rfl hinX6 tyX6_ok nmX6 23 (Nat.le_of_ble_eq_true rfl) lkX6_187 rfl (by decide +kernel) rfl rfl rfl dX6_findPlacing_82 rfl ?_
                refine V.nm (fun τ82_13 eτ82_13 => ?_)
                refine v_iconst (v := 0) C dX6_findPlacing_85 (by decide) rfl ?_
                refine v_istore (lv' := [(5, .int 0), (4, .int v58_10), (3, .int (nI i)), (0, .ref 0), (1, .int v), (2, .int w)]) C dX6_findPlacing_86 (Nat.le_of_ble_eq_true rfl) rfl rfl ?_
                have lp88 : ∀ (kf p_ : Nat)  (υ : St), n < p_ + kf → p_ ≤ n → υ = setR τ82_13 14 (pre p_ (τ33_4 8) (τ82_13 14)) → V X 88 [(5, .int (nI p_)), (4, .int v58_10), (3, .int (nI i)), (0, .ref 0), (1, .int v), (2, .int w)] [] υ := by
                  intro kf
                  induction kf with
                  | zero => intro p_  υ h1 h2; omega
                  | succ kf ih88 =>
                    intro p_  υ h1 h2  eυ
                    have hn4 : υ 0 8 = nI n := by rw [eυ, setR_o _ _ _ _ (by decide), eτ82_13, s2_get, if_neg (by decide)]; exact hn3
                    have h84 : υ 8 p_ = τ33_4 8 p_ := by rw [eυ, setR_o _ _ _ _ (by decide), eτ82_13, s2_ne (by decide)]
                    refine v_iload C dX6_findPlacing_88 rfl rfl ?_
                    refine v_aload_n C dX6_findPlacing_90 rfl rfl rfl ?_
                    refine v_getI C (Nat.le_of_ble_eq_true rfl) rfl rfl hinX6 8 (Nat.le_of_ble_eq_true rfl) lkX6_65 rfl dX6_findPlacing_91 rfl ?_
                    refine V.tp hn4 ?_
                    refine v_icmp_ge (tgt := 117) C dX6_findPlacing_94 (by decide) rfl (fun c94 => ?_) (fun c94 => ?_)
                    · skip
                      have c94 := mt (nI_ltI (a := p_) (b := n) (by omega) (by omega)).mpr c94
                      refine v_iinc (lv' := [(3, .int (nI (i + 1))), (5, .int (nI p_)), (4, .int v58_10), (0, .ref 0), (1, .int v), (2, .int w)]) C dX6_findPlacing_117 rfl (nI_inc i) (Nat.le_of_ble_eq_true rfl) rfl rfl ?_
                      refine v_goto (tgt := 14) C dX6_findPlacing_120 (by decide) ?_
                      exact V.sub [0, 3, 4, 5] rfl (ih14 (i + 1)  _ (by omega) (by omega)  (by rw [fpN, cI_t c33, if_pos (Or.inr (by rw [← ev58_10]; exact c73))]; exact ⟨by rw [eυ]; exact Plr_14 (by rw [eτ82_13]; exact Plr_23 hP3 _) _, by rw [eυ, setR_o _ _ _ _ (by decide), eτ82_13, s2_get, if_pos ⟨rfl, rfl⟩, ev58_10], fun _ p hp => by rw [eυ, setR_k, pre, if_pos (by omega)]; exact h83 p hp⟩))
                    · skip
                      have c94 := (nI_ltI (a := p_) (b := n) (by omega) (by omega)).mp c94
                      refine v_aload_n C dX6_findPlacing_97 rfl rfl rfl ?_
                      refine v_getR C (Nat.le_of_ble_eq_true rfl) rfl rfl hinX6 22 (Nat.le_of_ble_eq_true rfl) lkX6_49 rfl dX6_findPlacing_98 rfl ?_
                      refine v_iload C dX6_findPlacing_101 rfl rfl ?_
                      refine v_aload_n C dX6_findPlacing_103 rfl rfl rfl ?_
                      refine v_getR C (Nat.le_of_ble_eq_true rfl) rfl rfl hinX6 7 (Nat.le_of_ble_eq_true rfl) lkX6_31 rfl dX6_findPlacing_104 rfl ?_
                      refine v_iload C dX6_findPlacing_107 rfl rfl ?_
                      refine v_iald (i := p_) C (Nat.le_of_ble_eq_true rfl) rfl rfl (by omega) (by decide) dX6_findPlacing_109 rfl ?_
                      refine V.tp h84 ?_
                      refine v_iast (i := p_) C (Nat.le_of_ble_eq_true rfl) rfl rfl (by omega) (by decide) dX6_findPlacing_110 rfl ?_
                      refine V.nm (fun τ110_14 eτ110_14 => ?_)
                      refine v_iinc (lv' := [(5, .int (nI (p_ + 1))), (4, .int v58_10), (3, .int (nI i)), (0, .ref 0), (1, .int v), (2, .int w)]) C dX6_findPlacing_111 rfl (nI_inc p_) (Nat.le_of_ble_eq_true rfl) rfl rfl ?_
                      refine v_goto (tgt := 88) C dX6_findPlacing_114 (by decide) ?_
                      exact V.sub [0, 1, 2, 3, 4, 5] rfl (ih88 (p_ + 1)  _ (by omega) (by omega)  (by rw [eτ110_14, eυ, setR_s2, pre_upd _ _ _ rfl]))
                exact V.sub [0, 1, 2, 3, 4, 5] rfl (lp88 (n + 1) 0  _ (by omega) (by omega)  (by rw [pre_0, setR_self]))
              · skip
                refine v_goto (tgt := 117) C dX6_findPlacing_76 (by decide) ?_
                refine v_iinc (lv' := [(3, .int (nI (i + 1))), (4, .int v58_10), (0, .ref 0), (1, .int v), (2, .int w)]) C dX6_findPlacing_117 rfl (nI_inc i) (Nat.le_of_ble_eq_true rfl) rfl rfl ?_
                refine v_goto (tgt := 14) C dX6_findPlacing_120 (by decide) ?_
                exact V.sub [0, 2, 3, 4] rfl (ih14 (i + 1)  _ (by omega) (by omega)  (by rw [fpN, cI_t c33, if_neg (fun z => z.elim c64 (fun z => c73 (by rw [ev58_10]; exact z)))]; exact ⟨hP3, h23.trans eτ.2.1, fun z p hp => by rw [h14]; exact eτ.2.2 z p hp⟩))
        · skip
          have c33 := bI_0 c33
          refine v_goto (tgt := 117) C dX6_findPlacing_36 (by decide) ?_
          refine v_iinc (lv' := [(3, .int (nI (i + 1))), (0, .ref 0), (1, .int v), (2, .int w)]) C dX6_findPlacing_117 rfl (nI_inc i) (Nat.le_of_ble_eq_true rfl) rfl rfl ?_
          refine v_goto (tgt := 14) C dX6_findPlacing_120 (by decide) ?_
          exact V.sub [0, 1, 2, 3] rfl (ih14 (i + 1)  _ (by omega) (by omega)  (by rw [fpN, cI_f c33]; exact ⟨hP3, h23.trans eτ.2.1, fun z p hp => by rw [h14]; exact eτ.2.2 z p hp⟩))
  exact V.sub [0, 1, 2, 3] rfl (lp14 ((6 ^ n) + 1) 0  _ (by omega) (by omega)  (by rw [eτ9_2]; exact ⟨Plr_23 ⟨fun _ _ _ _ => rfl, fun _ _ => rfl, fun _ _ => rfl⟩ _, by rw [s2_get, if_pos ⟨rfl, rfl⟩]; rfl, fun z => absurd (show ((-9 : Int32) < 0) by decide) z⟩))
end
