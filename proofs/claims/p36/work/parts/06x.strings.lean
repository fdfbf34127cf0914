/-! texts: the literals, what a text's own methods answer -/
theorem plJ0 : plainName RJ0 = true := by decide +kernel
theorem mfJ0_length_8abf5 : Cond.instanceMethod yJ0_length_8abf5 ∈ BIG ∧ Cond.selects yJ0_length_8abf5.cls yJ0_length_8abf5 yJ0_length_8abf5 ∈ BIG ∧ Cond.initialized yJ0_length_8abf5.cls ∈ BIG ∧ Cond.code yJ0_length_8abf5 cJ0_length_8abf5 1 (some .int) ∈ BIG := ⟨big_of (List.mem_of_getElem? (i := 347) (by decide +kernel)) (by decide +kernel), big_of (List.mem_of_getElem? (i := 348) (by decide +kernel)) (by decide +kernel), big_of (List.mem_of_getElem? (i := 112) (by decide +kernel)) (by decide +kernel), big_of (List.mem_of_getElem? (i := 349) (by decide +kernel)) (by decide +kernel)⟩
theorem dkJ0_length_8abf5 : dOK yJ0_length_8abf5 0 := by unfold dOK; decide +kernel
theorem mfJ0_isEmpty_aae02 : Cond.instanceMethod yJ0_isEmpty_aae02 ∈ BIG ∧ Cond.selects yJ0_isEmpty_aae02.cls yJ0_isEmpty_aae02 yJ0_isEmpty_aae02 ∈ BIG ∧ Cond.initialized yJ0_isEmpty_aae02.cls ∈ BIG ∧ Cond.code yJ0_isEmpty_aae02 cJ0_isEmpty_aae02 1 (some .boolean) ∈ BIG := ⟨big_of (List.mem_of_getElem? (i := 343) (by decide +kernel)) (by decide +kernel), big_of (List.mem_of_getElem? (i := 344) (by decide +kernel)) (by decide +kernel), big_of (List.mem_of_getElem? (i := 112) (by decide +kernel)) (by decide +kernel), big_of (List.mem_of_getElem? (i := 345) (by decide +kernel)) (by decide +kernel)⟩
theorem dkJ0_isEmpty_aae02 : dOK yJ0_isEmpty_aae02 0 := by unfold dOK; decide +kernel
theorem mfJ0_charAt_5068e : Cond.instanceMethod yJ0_charAt_5068e ∈ BIG ∧ Cond.selects yJ0_charAt_5068e.cls yJ0_charAt_5068e yJ0_charAt_5068e ∈ BIG ∧ Cond.initialized yJ0_charAt_5068e.cls ∈ BIG ∧ Cond.code yJ0_charAt_5068e cJ0_charAt_5068e 2 (some .char) ∈ BIG := ⟨big_of (List.mem_of_getElem? (i := 357) (by decide +kernel)) (by decide +kernel), big_of (List.mem_of_getElem? (i := 358) (by decide +kernel)) (by decide +kernel), big_of (List.mem_of_getElem? (i := 112) (by decide +kernel)) (by decide +kernel), big_of (List.mem_of_getElem? (i := 359) (by decide +kernel)) (by decide +kernel)⟩
theorem dkJ0_charAt_5068e : dOK yJ0_charAt_5068e 1 := by unfold dOK; decide +kernel
theorem mfJ0_coder_7d493 : Cond.instanceMethod yJ0_coder_7d493 ∈ BIG ∧ Cond.selects yJ0_coder_7d493.cls yJ0_coder_7d493 yJ0_coder_7d493 ∈ BIG ∧ Cond.initialized yJ0_coder_7d493.cls ∈ BIG ∧ Cond.code yJ0_coder_7d493 cJ0_coder_7d493 1 (some .byte) ∈ BIG := ⟨big_of (List.mem_of_getElem? (i := 351) (by decide +kernel)) (by decide +kernel), big_of (List.mem_of_getElem? (i := 352) (by decide +kernel)) (by decide +kernel), big_of (List.mem_of_getElem? (i := 112) (by decide +kernel)) (by decide +kernel), big_of (List.mem_of_getElem? (i := 353) (by decide +kernel)) (by decide +kernel)⟩
theorem dkJ0_coder_7d493 : dOK yJ0_coder_7d493 0 := by unfold dOK; decide +kernel
theorem mfJ0_isLatin1_aae02 : Cond.instanceMethod yJ0_isLatin1_aae02 ∈ BIG ∧ Cond.selects yJ0_isLatin1_aae02.cls yJ0_isLatin1_aae02 yJ0_isLatin1_aae02 ∈ BIG ∧ Cond.initialized yJ0_isLatin1_aae02.cls ∈ BIG ∧ Cond.code yJ0_isLatin1_aae02 cJ0_isLatin1_aae02 1 (some .boolean) ∈ BIG := ⟨big_of (List.mem_of_getElem? (i := 361) (by decide +kernel)) (by decide +kernel), big_of (List.mem_of_getElem? (i := 362) (by decide +kernel)) (by decide +kernel), big_of (List.mem_of_getElem? (i := 112) (by decide +kernel)) (by decide +kernel), big_of (List.mem_of_getElem? (i := 363) (by decide +kernel)) (by decide +kernel)⟩
theorem dkJ0_isLatin1_aae02 : dOK yJ0_isLatin1_aae02 0 := by unfold dOK; decide +kernel
theorem mfJ0_checkIndex_df160 : Cond.static yJ0_checkIndex_df160 ∈ BIG ∧ Cond.initialized yJ0_checkIndex_df160.cls ∈ BIG ∧ Cond.code yJ0_checkIndex_df160 cJ0_checkIndex_df160 2 none ∈ BIG := ⟨big_of (List.mem_of_getElem? (i := 368) (by decide +kernel)) (by decide +kernel), big_of (List.mem_of_getElem? (i := 112) (by decide +kernel)) (by decide +kernel), big_of (List.mem_of_getElem? (i := 369) (by decide +kernel)) (by decide +kernel)⟩
theorem dkJ0_checkIndex_df160 : dOK yJ0_checkIndex_df160 2 := by unfold dOK; decide +kernel
theorem mlJ0_335 : Cond.methodLink RJ0 335 yJ0_coder_7d493 ∈ BIG := big_of (List.mem_of_getElem? (i := 350) (by decide +kernel)) (by decide +kernel)
theorem mlJ0_492 : Cond.methodLink RJ0 492 yJ0_isLatin1_aae02 ∈ BIG := big_of (List.mem_of_getElem? (i := 360) (by decide +kernel)) (by decide +kernel)
theorem mlJ0_495 : Cond.methodLink RJ0 495 yJ1_charAt_3b067 ∈ BIG := big_of (List.mem_of_getElem? (i := 364) (by decide +kernel)) (by decide +kernel)
theorem mlJ0_1059 : Cond.methodLink RJ0 1059 yJ3_checkIndex_8e157 ∈ BIG := big_of (List.mem_of_getElem? (i := 372) (by decide +kernel)) (by decide +kernel)
theorem dJ0_charAt_5068e_0 : decode cJ0_charAt_5068e 0 = .ok (.aload_n 0, 1) := by decide +kernel
theorem dJ0_charAt_5068e_1 : decode cJ0_charAt_5068e 1 = .ok (.invokevirtual 492, 3) := by decide +kernel
theorem dJ0_charAt_5068e_4 : decode cJ0_charAt_5068e 4 = .ok (.ifCond .eq 12, 3) := by decide +kernel
theorem dJ0_charAt_5068e_7 : decode cJ0_charAt_5068e 7 = .ok (.aload_n 0, 1) := by decide +kernel
theorem dJ0_charAt_5068e_8 : decode cJ0_charAt_5068e 8 = .ok (.getfield 9, 3) := by decide +kernel
theorem dJ0_charAt_5068e_11 : decode cJ0_charAt_5068e 11 = .ok (.iload_n 1, 1) := by decide +kernel
theorem dJ0_charAt_5068e_12 : decode cJ0_charAt_5068e 12 = .ok (.invokestatic 495, 3) := by decide +kernel
theorem dJ0_charAt_5068e_15 : decode cJ0_charAt_5068e 15 = .ok (.ireturn, 1) := by decide +kernel
theorem dJ0_charAt_5068e_16 : decode cJ0_charAt_5068e 16 = .ok (.aload_n 0, 1) := by decide +kernel
theorem dJ0_charAt_5068e_17 : decode cJ0_charAt_5068e 17 = .ok (.getfield 9, 3) := by decide +kernel
theorem dJ0_charAt_5068e_20 : decode cJ0_charAt_5068e 20 = .ok (.iload_n 1, 1) := by decide +kernel
theorem dJ0_charAt_5068e_21 : decode cJ0_charAt_5068e 21 = .ok (.invokestatic 498, 3) := by decide +kernel
theorem dJ0_charAt_5068e_24 : decode cJ0_charAt_5068e 24 = .ok (.ireturn, 1) := by decide +kernel
theorem dJ0_checkIndex_df160_0 : decode cJ0_checkIndex_df160 0 = .ok (.iload_n 0, 1) := by decide +kernel
theorem dJ0_checkIndex_df160_1 : decode cJ0_checkIndex_df160 1 = .ok (.iload_n 1, 1) := by decide +kernel
theorem dJ0_checkIndex_df160_2 : decode cJ0_checkIndex_df160 2 = .ok (.getstatic 1053, 3) := by decide +kernel
theorem dJ0_checkIndex_df160_5 : decode cJ0_checkIndex_df160 5 = .ok (.invokestatic 1059, 3) := by decide +kernel
theorem dJ0_checkIndex_df160_8 : decode cJ0_checkIndex_df160 8 = .ok (.pop, 1) := by decide +kernel
theorem dJ0_checkIndex_df160_9 : decode cJ0_checkIndex_df160 9 = .ok (.return_, 1) := by decide +kernel
theorem dJ0_coder_7d493_0 : decode cJ0_coder_7d493 0 = .ok (.getstatic 38, 3) := by decide +kernel
theorem dJ0_coder_7d493_3 : decode cJ0_coder_7d493 3 = .ok (.ifCond .eq 10, 3) := by decide +kernel
theorem dJ0_coder_7d493_6 : decode cJ0_coder_7d493 6 = .ok (.aload_n 0, 1) := by decide +kernel
theorem dJ0_coder_7d493_7 : decode cJ0_coder_7d493 7 = .ok (.getfield 15, 3) := by decide +kernel
theorem dJ0_coder_7d493_10 : decode cJ0_coder_7d493 10 = .ok (.goto 4, 3) := by decide +kernel
theorem dJ0_coder_7d493_13 : decode cJ0_coder_7d493 13 = .ok (.iconst 1, 1) := by decide +kernel
theorem dJ0_coder_7d493_14 : decode cJ0_coder_7d493 14 = .ok (.ireturn, 1) := by decide +kernel
theorem dJ0_isEmpty_aae02_0 : decode cJ0_isEmpty_aae02 0 = .ok (.aload_n 0, 1) := by decide +kernel
theorem dJ0_isEmpty_aae02_1 : decode cJ0_isEmpty_aae02 1 = .ok (.getfield 9, 3) := by decide +kernel
theorem dJ0_isEmpty_aae02_4 : decode cJ0_isEmpty_aae02 4 = .ok (.arraylength, 1) := by decide +kernel
theorem dJ0_isEmpty_aae02_5 : decode cJ0_isEmpty_aae02 5 = .ok (.ifCond .ne 7, 3) := by decide +kernel
theorem dJ0_isEmpty_aae02_8 : decode cJ0_isEmpty_aae02 8 = .ok (.iconst 1, 1) := by decide +kernel
theorem dJ0_isEmpty_aae02_9 : decode cJ0_isEmpty_aae02 9 = .ok (.goto 4, 3) := by decide +kernel
theorem dJ0_isEmpty_aae02_12 : decode cJ0_isEmpty_aae02 12 = .ok (.iconst 0, 1) := by decide +kernel
theorem dJ0_isEmpty_aae02_13 : decode cJ0_isEmpty_aae02 13 = .ok (.ireturn, 1) := by decide +kernel
theorem dJ0_isLatin1_aae02_0 : decode cJ0_isLatin1_aae02 0 = .ok (.getstatic 38, 3) := by decide +kernel
theorem dJ0_isLatin1_aae02_3 : decode cJ0_isLatin1_aae02 3 = .ok (.ifCond .eq 14, 3) := by decide +kernel
theorem dJ0_isLatin1_aae02_6 : decode cJ0_isLatin1_aae02 6 = .ok (.aload_n 0, 1) := by decide +kernel
theorem dJ0_isLatin1_aae02_7 : decode cJ0_isLatin1_aae02 7 = .ok (.getfield 15, 3) := by decide +kernel
theorem dJ0_isLatin1_aae02_10 : decode cJ0_isLatin1_aae02 10 = .ok (.ifCond .ne 7, 3) := by decide +kernel
theorem dJ0_isLatin1_aae02_13 : decode cJ0_isLatin1_aae02 13 = .ok (.iconst 1, 1) := by decide +kernel
theorem dJ0_isLatin1_aae02_14 : decode cJ0_isLatin1_aae02 14 = .ok (.goto 4, 3) := by decide +kernel
theorem dJ0_isLatin1_aae02_17 : decode cJ0_isLatin1_aae02 17 = .ok (.iconst 0, 1) := by decide +kernel
theorem dJ0_isLatin1_aae02_18 : decode cJ0_isLatin1_aae02 18 = .ok (.ireturn, 1) := by decide +kernel
theorem dJ0_length_8abf5_0 : decode cJ0_length_8abf5 0 = .ok (.aload_n 0, 1) := by decide +kernel
theorem dJ0_length_8abf5_1 : decode cJ0_length_8abf5 1 = .ok (.getfield 9, 3) := by decide +kernel
theorem dJ0_length_8abf5_4 : decode cJ0_length_8abf5 4 = .ok (.arraylength, 1) := by decide +kernel
theorem dJ0_length_8abf5_5 : decode cJ0_length_8abf5 5 = .ok (.aload_n 0, 1) := by decide +kernel
theorem dJ0_length_8abf5_6 : decode cJ0_length_8abf5 6 = .ok (.invokevirtual 335, 3) := by decide +kernel
theorem dJ0_length_8abf5_9 : decode cJ0_length_8abf5 9 = .ok (.ishr, 1) := by decide +kernel
theorem dJ0_length_8abf5_10 : decode cJ0_length_8abf5 10 = .ok (.ireturn, 1) := by decide +kernel
theorem plJ1 : plainName RJ1 = true := by decide +kernel
theorem mfJ1_charAt_3b067 : Cond.static yJ1_charAt_3b067 ∈ BIG ∧ Cond.initialized yJ1_charAt_3b067.cls ∈ BIG ∧ Cond.code yJ1_charAt_3b067 cJ1_charAt_3b067 2 (some .char) ∈ BIG := ⟨big_of (List.mem_of_getElem? (i := 365) (by decide +kernel)) (by decide +kernel), big_of (List.mem_of_getElem? (i := 113) (by decide +kernel)) (by decide +kernel), big_of (List.mem_of_getElem? (i := 366) (by decide +kernel)) (by decide +kernel)⟩
theorem dkJ1_charAt_3b067 : dOK yJ1_charAt_3b067 2 := by unfold dOK; decide +kernel
theorem mlJ1_9 : Cond.methodLink RJ1 9 yJ0_checkIndex_df160 ∈ BIG := big_of (List.mem_of_getElem? (i := 367) (by decide +kernel)) (by decide +kernel)
theorem dJ1_charAt_3b067_0 : decode cJ1_charAt_3b067 0 = .ok (.iload_n 1, 1) := by decide +kernel
theorem dJ1_charAt_3b067_1 : decode cJ1_charAt_3b067 1 = .ok (.aload_n 0, 1) := by decide +kernel
theorem dJ1_charAt_3b067_2 : decode cJ1_charAt_3b067 2 = .ok (.arraylength, 1) := by decide +kernel
theorem dJ1_charAt_3b067_3 : decode cJ1_charAt_3b067 3 = .ok (.invokestatic 9, 3) := by decide +kernel
theorem dJ1_charAt_3b067_6 : decode cJ1_charAt_3b067 6 = .ok (.aload_n 0, 1) := by decide +kernel
theorem dJ1_charAt_3b067_7 : decode cJ1_charAt_3b067 7 = .ok (.iload_n 1, 1) := by decide +kernel
theorem dJ1_charAt_3b067_8 : decode cJ1_charAt_3b067 8 = .ok (.baload, 1) := by decide +kernel
theorem dJ1_charAt_3b067_9 : decode cJ1_charAt_3b067 9 = .ok (.sipush 255, 3) := by decide +kernel
theorem dJ1_charAt_3b067_12 : decode cJ1_charAt_3b067 12 = .ok (.iand, 1) := by decide +kernel
theorem dJ1_charAt_3b067_13 : decode cJ1_charAt_3b067 13 = .ok (.i2c, 1) := by decide +kernel
theorem dJ1_charAt_3b067_14 : decode cJ1_charAt_3b067 14 = .ok (.ireturn, 1) := by decide +kernel
theorem plJ3 : plainName RJ3 = true := by decide +kernel
theorem mfJ3_checkIndex_8e157 : Cond.static yJ3_checkIndex_8e157 ∈ BIG ∧ Cond.initialized yJ3_checkIndex_8e157.cls ∈ BIG ∧ Cond.code yJ3_checkIndex_8e157 cJ3_checkIndex_8e157 3 (some .int) ∈ BIG := ⟨big_of (List.mem_of_getElem? (i := 373) (by decide +kernel)) (by decide +kernel), big_of (List.mem_of_getElem? (i := 114) (by decide +kernel)) (by decide +kernel), big_of (List.mem_of_getElem? (i := 374) (by decide +kernel)) (by decide +kernel)⟩
theorem dkJ3_checkIndex_8e157 : dOK yJ3_checkIndex_8e157 3 := by unfold dOK; decide +kernel
theorem dJ3_checkIndex_8e157_0 : decode cJ3_checkIndex_8e157 0 = .ok (.iload_n 0, 1) := by decide +kernel
theorem dJ3_checkIndex_8e157_1 : decode cJ3_checkIndex_8e157 1 = .ok (.ifCond .lt 8, 3) := by decide +kernel
theorem dJ3_checkIndex_8e157_4 : decode cJ3_checkIndex_8e157 4 = .ok (.iload_n 0, 1) := by decide +kernel
theorem dJ3_checkIndex_8e157_5 : decode cJ3_checkIndex_8e157 5 = .ok (.iload_n 1, 1) := by decide +kernel
theorem dJ3_checkIndex_8e157_6 : decode cJ3_checkIndex_8e157 6 = .ok (.if_icmp .lt 10, 3) := by decide +kernel
theorem dJ3_checkIndex_8e157_9 : decode cJ3_checkIndex_8e157 9 = .ok (.aload_n 2, 1) := by decide +kernel
theorem dJ3_checkIndex_8e157_10 : decode cJ3_checkIndex_8e157 10 = .ok (.iload_n 0, 1) := by decide +kernel
theorem dJ3_checkIndex_8e157_11 : decode cJ3_checkIndex_8e157 11 = .ok (.iload_n 1, 1) := by decide +kernel
theorem dJ3_checkIndex_8e157_12 : decode cJ3_checkIndex_8e157 12 = .ok (.invokestatic 95, 3) := by decide +kernel
theorem dJ3_checkIndex_8e157_15 : decode cJ3_checkIndex_8e157 15 = .ok (.athrow, 1) := by decide +kernel
theorem dJ3_checkIndex_8e157_16 : decode cJ3_checkIndex_8e157 16 = .ok (.iload_n 0, 1) := by decide +kernel
theorem dJ3_checkIndex_8e157_17 : decode cJ3_checkIndex_8e157 17 = .ok (.ireturn, 1) := by decide +kernel
theorem lkJ0_38 : Cond.fieldLink RJ0 38 RStr "COMPACT_STRINGS" "Z" ∈ BIG := big_of (List.mem_of_getElem? (i := 354) (by decide +kernel)) (by decide +kernel)
theorem lkJ0_1053 : Cond.fieldLink RJ0 1053 fmC fmN fmD ∈ BIG := big_of (List.mem_of_getElem? (i := 370) (by decide +kernel)) (by decide +kernel)
theorem lkJ0_9 : Cond.fieldLink RJ0 9 RStr "value" "[B" ∈ BIG := big_of (List.mem_of_getElem? (i := 1260) (by decide +kernel)) (by decide +kernel)
theorem lkJ0_15 : Cond.fieldLink RJ0 15 RStr "coder" "B" ∈ BIG := big_of (List.mem_of_getElem? (i := 1261) (by decide +kernel)) (by decide +kernel)
theorem lit_n : ∀ i, i < 6 → litN.getD i 0 ≤ 6 := by decide +kernel
section STR
variable {X : CxT} {own : String} {cc : ByteArray} {n L : Nat} {ret : Option FieldType} {pc pc' : Nat} {lv lv' : List (Nat × Value)} {st : List Value} {σ : St}
theorem v_ldcS (C : Cx X RX4 cc n ret L) {i idx : Nat} (hi : i < 6) (hx : litI.getD i 0 = idx) (hd : decode cc pc = .ok (.ldc idx, 2)) (hn : pc + 2 = pc') (kk : V X pc' lv (.ref (100 + i) :: st) σ) : V X pc lv st σ := by
  obtain ⟨p, l, e, s, m, args, below, meth, c, D, cI, ad, nL, lev, P⟩ := X
  subst hn; subst hx
  intro H locs ls hP hS hL
  exact va_ldcS C.1 C.2.1 C.2.2.2.2.2.2.2.1 (C.2.2.2.2.2.2.2.2.2.1.2.2 i hi) hd (kk H locs ls hP hS hL)
theorem v_strV (C : Cx X own cc n ret L) {i idx : Nat} (hi : i < 6) (hlink : Cond.fieldLink own idx RStr "value" "[B" ∈ BIG) (hd : decode cc pc = .ok (.getfield idx, 3)) (hn : pc + 3 = pc') (kk : V X pc' lv (.ref (200 + i) :: st) σ) : V X pc lv (.ref (100 + i) :: st) σ := by
  obtain ⟨p, l, e, s, m, args, below, meth, c, D, cI, ad, nL, lev, P⟩ := X
  subst hn
  intro H locs ls hP hS hL
  exact vk_getf C.1 C.2.1 (C.2.2.2.2.2.2.2.2.2.1.2.1.1.1 i hi).2.2.1 hS C.2.2.2.2.2.2.2.1 (C.2.2.2.2.2.2.2.2.1 _ hlink) (fun _ h => h) hd (kk H locs ls hP hS hL)
theorem v_strC (C : Cx X own cc n ret L) {i idx : Nat} (hi : i < 6) (hlink : Cond.fieldLink own idx RStr "coder" "B" ∈ BIG) (hd : decode cc pc = .ok (.getfield idx, 3)) (hn : pc + 3 = pc') (kk : V X pc' lv (.int 0 :: st) σ) : V X pc lv (.ref (100 + i) :: st) σ := by
  obtain ⟨p, l, e, s, m, args, below, meth, c, D, cI, ad, nL, lev, P⟩ := X
  subst hn
  intro H locs ls hP hS hL
  exact vk_getf C.1 C.2.1 (C.2.2.2.2.2.2.2.2.2.1.2.1.1.1 i hi).2.1 hS C.2.2.2.2.2.2.2.1 (C.2.2.2.2.2.2.2.2.1 _ hlink) (fun _ h => h) hd (kk H locs ls hP hS hL)
theorem v_getCS (C : Cx X own cc n ret L) {idx : Nat} (hlink : Cond.fieldLink own idx RStr "COMPACT_STRINGS" "Z" ∈ BIG) (hd : decode cc pc = .ok (.getstatic idx, 3)) (hn : pc + 3 = pc') (kk : V X pc' lv (.int 1 :: st) σ) : V X pc lv st σ := by
  obtain ⟨p, l, e, s, m, args, below, meth, c, D, cI, ad, nL, lev, P⟩ := X
  subst hn
  intro H locs ls hP hS hL
  exact va_gets C.1 C.2.1 C.2.2.2.2.2.2.2.2.2.1.2.1.2.1 hS C.2.2.2.2.2.2.2.1 (C.2.2.2.2.2.2.2.2.1 _ hlink) (fun _ h => h) hd (kk H locs ls hP hS hL)
theorem v_getFm (C : Cx X own cc n ret L) {idx : Nat} (hlink : Cond.fieldLink own idx fmC fmN fmD ∈ BIG) (hd : decode cc pc = .ok (.getstatic idx, 3)) (hn : pc + 3 = pc') (kk : ∀ v : Value, v = .null ∨ v = .ref 300 → V X pc' lv (v :: st) σ) : V X pc lv st σ := by
  obtain ⟨p, l, e, s, m, args, below, meth, c, D, cI, ad, nL, lev, P⟩ := X
  subst hn
  intro H locs ls hP hS hL
  rcases C.2.2.2.2.2.2.2.2.2.1.2.1.2.2 with hz | hz
  · exact va_gets C.1 C.2.1 hz hS C.2.2.2.2.2.2.2.1 (C.2.2.2.2.2.2.2.2.1 _ hlink) (fun _ h => h) hd (kk .null (Or.inl rfl) H locs ls hP hS hL)
  · exact va_gets C.1 C.2.1 hz hS C.2.2.2.2.2.2.2.1 (C.2.2.2.2.2.2.2.2.1 _ hlink) (fun _ h => h) hd (kk (.ref 300) (Or.inr rfl) H locs ls hP hS hL)
theorem v_slen (C : Cx X own cc n ret L) {i : Nat} (hi : i < 6) (hd : decode cc pc = .ok (.arraylength, 1)) (hn : pc + 1 = pc') (kk : V X pc' lv (.int (nI (litN.getD i 0)) :: st) σ) : V X pc lv (.ref (200 + i) :: st) σ := by
  obtain ⟨p, l, e, s, m, args, below, meth, c, D, cI, ad, nL, lev, P⟩ := X
  subst hn
  intro H locs ls hP hS hL
  exact va_tlen C.1 C.2.1 (C.2.2.2.2.2.2.2.2.2.1.2.1.1.1 i hi).2.2.2 hS rfl hd (kk H locs ls hP hS hL)
def litCh (i j : Nat) : Int32 := (litB.getD i []).getD j 0
theorem v_sld (C : Cx X own cc n ret L) {i j : Nat} (hi : i < 6) (hj : j < litN.getD i 0) (hj2 : j < 2 ^ 31) (hd : decode cc pc = .ok (.baload, 1)) (hn : pc + 1 = pc') (kk : V X pc' lv (.int (litCh i j) :: st) σ) : V X pc lv (.int (nI j) :: .ref (200 + i) :: st) σ := by
  obtain ⟨p, l, e, s, m, args, below, meth, c, D, cI, ad, nL, lev, P⟩ := X
  subst hn
  intro H locs ls hP hS hL
  exact va_tb C.1 C.2.1 (C.2.2.2.2.2.2.2.2.2.1.2.1.1.1 i hi).2.2.2 hS (vp_in_nI hj (by have := lit_n i hi; omega)) (v := .int (litCh i j)) (by rw [nI_clamp hj2]; rfl) hd (kk H locs ls hP hS hL)
theorem v_i2c (C : Cx X own cc n ret L) {x v : Int32} (hv : (x.toUInt32 % 65536).toInt32 = v) (hd : decode cc pc = .ok (.i2c, 1)) (hn : pc + 1 = pc') (kk : V X pc' lv (.int v :: st) σ) : V X pc lv (.int x :: st) σ := by
  obtain ⟨p, l, e, s, m, args, below, meth, c, D, cI, ad, nL, lev, P⟩ := X
  subst hn
  intro H locs ls hP hS hL
  exact lv_i2c C.1 C.2.1 hd hv (kk H locs ls hP hS hL)
theorem v_nret {ty : FieldType} (C : Cx X own cc n (some ty) L) {v : Int32} (hv : narrow ty (.int v) = .int v) (hd : decode cc pc = .ok (.ireturn, 1)) (hp : Pof X (some (.int v)) σ) : V X pc lv [.int v] σ := by
  obtain ⟨p, l, e, s, m, args, below, meth, c, D, cI, ad, nL, lev, P⟩ := X
  intro H locs ls hP hS hL
  exact W.zret C.1 C.2.1 C.2.2.2.2.2.1 hv (fun t ht hW => ⟨⟨some (.int v), σ, rfl, hp, by rw [ht]; exact hP⟩, hS.F ht⟩) hS.2.2 hd C.2.2.2.2.2.2.1
theorem v_popv (C : Cx X own cc n ret L) {a : Value} (hd : decode cc pc = .ok (.pop, 1)) (ha : a.category = 1) (hn : pc + 1 = pc') (kk : V X pc' lv st σ) : V X pc lv (a :: st) σ := v_pop C hd ha hn kk
theorem v_callT {y : MethodName} {bytes : ByteArray} {maxL lev idx : Nat} {ret' : Option FieldType} {As rest : List Value} {P' : Option Value → St → Prop} (C : Cx X own cc n ret L) {i : Nat} (hi : i < 6) (hy : y.cls = RStr) (hct : Ct y bytes maxL ret' lev (.ref (100 + i) :: As) σ P') (hst : st = As.reverse ++ .ref (100 + i) :: rest) (hlev : lev < L) (hmx : maxL ≤ 41)
    (hw : Cond.methodLink own idx y ∈ BIG ∧ Cond.instanceMethod y ∈ BIG ∧ Cond.selects y.cls y y ∈ BIG ∧ Cond.initialized y.cls ∈ BIG ∧ Cond.code y bytes maxL ret' ∈ BIG) (hdesc : dOK y As.length) (hsum : (rest.map fun v => v.category).sum ≤ 8)
    (hd : decode cc pc = .ok (.invokevirtual idx, 3)) (hn : pc + 3 = pc') (kk : ∀ (r : Option Value) (σ' : St), P' r σ' → V X pc' lv (r.toList ++ rest) σ') : V X pc lv st σ := by
  obtain ⟨p, l, e, s, m, args, below, meth, c, D, cI, ad, nL, lev0, P⟩ := X
  obtain ⟨hx, hb, hml, hnL, hle, hr, hlk, hown, hts, hN, hK, hI⟩ := C
  subst hn; subst hst; subst hle
  intro H locs ls hP hS hL
  have cw : CallW (rmL lev0) s args own y.cls idx y bytes maxL ret' (Cond.code y bytes maxL ret' :: BIG) (rmL lev) 0 0 As.length := ⟨callB_of As.length hts (good_code hw.2.2.2.2) rfl rfl rfl (hts _ hw.2.2.2.1) (hts _ hw.1) hdesc ⟨hlev, by show 8 + (maxL + 11) + 60 * lev ≤ 60 * lev0; omega⟩, hts _ hw.2.1, hts _ hw.2.2.1⟩
  refine v_after (rest := rest) (P := P') (D := D) (cI := cI) (ad := ad) (va_runV (As := As.map (cv ad)) (rest := rest.map (cv ad)) (b := ad (100 + i)) ⟨hx, hb, hml, hown, hts⟩ (hct l D cI ad) cw ⟨bw_blind, by rw [hy]; exact vk_recv (N := 6) (i := i) (adK := fun i => ad (100 + i)) hN.2.1.1 hi hS, fun U hU hW => ⟨rfl, by rw [hU]; exact hP, va_K.moved hW.alike hK, nsl_warm hW hU hS hN, hI⟩⟩ rfl (by simp) hL.1 (by simp [cv]) (lv_room (by rw [cv_sum]; exact hsum)) hd ⟨Nat.zero_le _, Nat.zero_le _⟩) hS (fun r σ' H1 locs1 hp hP1 hS1 => ?_)
  exact kk r σ' hp H1 locs1 ls hP1 hS1 hL
end STR
theorem lit_c : ∀ i, i < 6 → ∀ j, j < 7 → ((litCh i j &&& 255).toUInt32 % 65536).toInt32 = litCh i j ∧ narrow .char (.int (litCh i j)) = .int (litCh i j) := by decide +kernel
theorem kJ0_coder (i : Nat) (hi : i < 6) (σ : St) : Ct yJ0_coder_7d493 cJ0_coder_7d493 1 (some .byte) 0 [.ref (100 + i)] σ (fI 0 σ) := by
  refine ct_of plJ0 rfl (Nat.le_of_ble_eq_true rfl) (fun X hX C => ?_)
  show V X 0 [(0, .ref (100 + i))] [] σ
  refine v_getCS C lkJ0_38 dJ0_coder_7d493_0 rfl ?_
  refine v_if_eq (tgt := 13) C dJ0_coder_7d493_3 (by decide) rfl (fun q => absurd q (by decide)) (fun _ => ?_)
  refine v_aload_n C dJ0_coder_7d493_6 rfl rfl rfl ?_
  refine v_strC C hi lkJ0_15 dJ0_coder_7d493_7 rfl ?_
  refine v_goto (tgt := 14) C dJ0_coder_7d493_10 (by decide) ?_
  exact v_nret C rfl dJ0_coder_7d493_14 (by rw [hX]; exact fI_of rfl rfl)
theorem kJ0_isLatin1 (i : Nat) (hi : i < 6) (σ : St) : Ct yJ0_isLatin1_aae02 cJ0_isLatin1_aae02 1 (some .boolean) 0 [.ref (100 + i)] σ (fI 1 σ) := by
  refine ct_of plJ0 rfl (Nat.le_of_ble_eq_true rfl) (fun X hX C => ?_)
  show V X 0 [(0, .ref (100 + i))] [] σ
  refine v_getCS C lkJ0_38 dJ0_isLatin1_aae02_0 rfl ?_
  refine v_if_eq (tgt := 17) C dJ0_isLatin1_aae02_3 (by decide) rfl (fun q => absurd q (by decide)) (fun _ => ?_)
  refine v_aload_n C dJ0_isLatin1_aae02_6 rfl rfl rfl ?_
  refine v_strC C hi lkJ0_15 dJ0_isLatin1_aae02_7 rfl ?_
  refine v_if_ne (tgt := 17) C dJ0_isLatin1_aae02_10 (by decide) rfl (fun q => absurd rfl q) (fun _ => ?_)
  refine v_iconst (v := 1) C dJ0_isLatin1_aae02_13 (by decide) rfl ?_
  refine v_goto (tgt := 18) C dJ0_isLatin1_aae02_14 (by decide) ?_
  exact v_nret C rfl dJ0_isLatin1_aae02_18 (by rw [hX]; exact fI_of rfl rfl)
theorem kJ0_length (i : Nat) (hi : i < 6) (σ : St) : Ct yJ0_length_8abf5 cJ0_length_8abf5 1 (some .int) 1 [.ref (100 + i)] σ (fI (nI (litN.getD i 0)) σ) := by
  refine ct_of plJ0 rfl (Nat.le_of_ble_eq_true rfl) (fun X hX C => ?_)
  show V X 0 [(0, .ref (100 + i))] [] σ
  refine v_aload_n C dJ0_length_8abf5_0 rfl rfl rfl ?_
  refine v_strV C hi lkJ0_9 dJ0_length_8abf5_1 rfl ?_
  refine v_slen C hi dJ0_length_8abf5_4 rfl ?_
  refine v_aload_n C dJ0_length_8abf5_5 rfl rfl rfl ?_
  refine v_callT C hi rfl (As := []) (rest := [.int (nI (litN.getD i 0))]) (kJ0_coder i hi σ) rfl (Nat.le_of_ble_eq_true rfl) (Nat.le_of_ble_eq_true rfl) ⟨mlJ0_335, mfJ0_coder_7d493⟩ dkJ0_coder_7d493 (Nat.le_of_ble_eq_true rfl) dJ0_length_8abf5_6 rfl (kI ?_)
  refine v_ishr C dJ0_length_8abf5_9 rfl ?_
  exact v_iret C dJ0_length_8abf5_10 (by rw [hX]; exact fI_of ((by decide +kernel : ∀ i, i < 6 → nI (litN.getD i 0) >>> ((0 : Int32) &&& 31) = nI (litN.getD i 0)) i hi) rfl)
theorem kJ0_isEmpty (i : Nat) (hi : i < 6) (σ : St) : Ct yJ0_isEmpty_aae02 cJ0_isEmpty_aae02 1 (some .boolean) 0 [.ref (100 + i)] σ (fI (bI (litN.getD i 0 = 0)) σ) := by
  refine ct_of plJ0 rfl (Nat.le_of_ble_eq_true rfl) (fun X hX C => ?_)
  show V X 0 [(0, .ref (100 + i))] [] σ
  have hl := lit_n i hi
  refine v_aload_n C dJ0_isEmpty_aae02_0 rfl rfl rfl ?_
  refine v_strV C hi lkJ0_9 dJ0_isEmpty_aae02_1 rfl ?_
  refine v_slen C hi dJ0_isEmpty_aae02_4 rfl ?_
  refine v_if_ne (tgt := 12) C dJ0_isEmpty_aae02_5 (by decide) rfl (fun q => ?_) (fun q => ?_)
  · have q := mt (nI_eq (a := litN.getD i 0) (b := 0) (by omega) (by omega)).mpr q
    refine v_iconst (v := 0) C dJ0_isEmpty_aae02_12 (by decide) rfl ?_
    exact v_nret C rfl dJ0_isEmpty_aae02_13 (by rw [hX]; exact fI_of (bI_f q) rfl)
  · have q := (nI_eq (a := litN.getD i 0) (b := 0) (by omega) (by omega)).mp q
    refine v_iconst (v := 1) C dJ0_isEmpty_aae02_8 (by decide) rfl ?_
    refine v_goto (tgt := 13) C dJ0_isEmpty_aae02_9 (by decide) ?_
    exact v_nret C rfl dJ0_isEmpty_aae02_13 (by rw [hX]; exact fI_of (bI_t q) rfl)
theorem kJ3_checkIndex (j N : Nat) (f : Value) (hf : f = .null ∨ f = .ref 300) (hj : j < N) (hN : N < 100) (σ : St) : Ct yJ3_checkIndex_8e157 cJ3_checkIndex_8e157 3 (some .int) 0 [.int (nI j), .int (nI N), f] σ (fI (nI j) σ) := by
  refine ct_of plJ3 (by rcases hf with rfl | rfl <;> rfl) (Nat.le_of_ble_eq_true rfl) (fun X hX C => ?_)
  have e : lv_args 0 [.int (nI j), .int (nI N), f] = [(0, .int (nI j)), (1, .int (nI N)), (2, f)] := by rcases hf with rfl | rfl <;> rfl
  rw [e]
  refine v_iload_n C dJ3_checkIndex_8e157_0 rfl rfl rfl ?_
  refine v_if_lt (tgt := 9) C dJ3_checkIndex_8e157_1 (by decide) rfl (fun q => absurd q (nI_pos (by omega))) (fun _ => ?_)
  refine v_iload_n C dJ3_checkIndex_8e157_4 rfl rfl rfl ?_
  refine v_iload_n C dJ3_checkIndex_8e157_5 rfl rfl rfl ?_
  refine v_icmp_lt (tgt := 16) C dJ3_checkIndex_8e157_6 (by decide) rfl (fun _ => ?_) (fun q => absurd ((nI_ltI (a := j) (b := N) (by omega) (by omega)).mpr hj) q)
  refine v_iload_n C dJ3_checkIndex_8e157_16 rfl rfl rfl ?_
  exact v_iret C dJ3_checkIndex_8e157_17 (by rw [hX]; exact fI_of rfl rfl)
theorem kJ0_checkIndex (j N : Nat) (hj : j < N) (hN : N < 100) (σ : St) : Ct yJ0_checkIndex_df160 cJ0_checkIndex_df160 2 none 1 [.int (nI j), .int (nI N)] σ (fV σ) := by
  refine ct_of plJ0 rfl (Nat.le_of_ble_eq_true rfl) (fun X hX C => ?_)
  show V X 0 [(0, .int (nI j)), (1, .int (nI N))] [] σ
  refine v_iload_n C dJ0_checkIndex_df160_0 rfl rfl rfl ?_
  refine v_iload_n C dJ0_checkIndex_df160_1 rfl rfl rfl ?_
  refine v_getFm C lkJ0_1053 dJ0_checkIndex_df160_2 rfl (fun f hf => ?_)
  refine v_callS C (As := [.int (nI j), .int (nI N), f]) (rest := []) (kJ3_checkIndex j N f hf hj hN σ) rfl (Nat.le_of_ble_eq_true rfl) (Nat.le_of_ble_eq_true rfl) ⟨mlJ0_1059, mfJ3_checkIndex_8e157⟩ dkJ3_checkIndex_8e157 (Nat.le_of_ble_eq_true rfl) dJ0_checkIndex_df160_5 rfl (kI ?_)
  refine v_pop C dJ0_checkIndex_df160_8 rfl rfl ?_
  exact v_vret C dJ0_checkIndex_df160_9 (by rw [hX]; exact fV_of rfl)
theorem kJ1_charAt (i j : Nat) (hi : i < 6) (hj : j < litN.getD i 0) (σ : St) : Ct yJ1_charAt_3b067 cJ1_charAt_3b067 2 (some .char) 2 [.ref (200 + i), .int (nI j)] σ (fI (litCh i j) σ) := by
  refine ct_of plJ1 rfl (Nat.le_of_ble_eq_true rfl) (fun X hX C => ?_)
  show V X 0 [(0, .ref (200 + i)), (1, .int (nI j))] [] σ
  have hl := lit_n i hi
  have hc := lit_c i hi j (by omega)
  refine v_iload_n C dJ1_charAt_3b067_0 rfl rfl rfl ?_
  refine v_aload_n C dJ1_charAt_3b067_1 rfl rfl rfl ?_
  refine v_slen C hi dJ1_charAt_3b067_2 rfl ?_
  refine v_callS C (As := [.int (nI j), .int (nI (litN.getD i 0))]) (rest := []) (kJ0_checkIndex j (litN.getD i 0) hj (by omega) σ) rfl (Nat.le_of_ble_eq_true rfl) (Nat.le_of_ble_eq_true rfl) ⟨mlJ1_9, mfJ0_checkIndex_df160⟩ dkJ0_checkIndex_df160 (Nat.le_of_ble_eq_true rfl) dJ1_charAt_3b067_3 rfl (kV ?_)
  refine v_aload_n C dJ1_charAt_3b067_6 rfl rfl rfl ?_
  refine v_iload_n C dJ1_charAt_3b067_7 rfl rfl rfl ?_
  refine v_sld C hi hj (by omega) dJ1_charAt_3b067_8 rfl ?_
  refine v_sipush (v := 255) C dJ1_charAt_3b067_9 (by decide) rfl ?_
  refine v_iand C dJ1_charAt_3b067_12 rfl ?_
  refine v_i2c C hc.1 dJ1_charAt_3b067_13 rfl ?_
  exact v_nret C hc.2 dJ1_charAt_3b067_14 (by rw [hX]; exact fI_of rfl rfl)
theorem kJ0_charAt (i j : Nat) (hi : i < 6) (hj : j < litN.getD i 0) (σ : St) : Ct yJ0_charAt_5068e cJ0_charAt_5068e 2 (some .char) 3 [.ref (100 + i), .int (nI j)] σ (fI (litCh i j) σ) := by
  refine ct_of plJ0 rfl (Nat.le_of_ble_eq_true rfl) (fun X hX C => ?_)
  show V X 0 [(0, .ref (100 + i)), (1, .int (nI j))] [] σ
  have hl := lit_n i hi
  have hc := lit_c i hi j (by omega)
  refine v_aload_n C dJ0_charAt_5068e_0 rfl rfl rfl ?_
  refine v_callT C hi rfl (As := []) (rest := []) (kJ0_isLatin1 i hi σ) rfl (Nat.le_of_ble_eq_true rfl) (Nat.le_of_ble_eq_true rfl) ⟨mlJ0_492, mfJ0_isLatin1_aae02⟩ dkJ0_isLatin1_aae02 (Nat.le_of_ble_eq_true rfl) dJ0_charAt_5068e_1 rfl (kI ?_)
  refine v_if_eq (tgt := 16) C dJ0_charAt_5068e_4 (by decide) rfl (fun q => absurd q (by decide)) (fun _ => ?_)
  refine v_aload_n C dJ0_charAt_5068e_7 rfl rfl rfl ?_
  refine v_strV C hi lkJ0_9 dJ0_charAt_5068e_8 rfl ?_
  refine v_iload_n C dJ0_charAt_5068e_11 rfl rfl rfl ?_
  refine v_callS C (As := [.ref (200 + i), .int (nI j)]) (rest := []) (kJ1_charAt i j hi hj σ) rfl (Nat.le_of_ble_eq_true rfl) (Nat.le_of_ble_eq_true rfl) ⟨mlJ0_495, mfJ1_charAt_3b067⟩ dkJ1_charAt_3b067 (Nat.le_of_ble_eq_true rfl) dJ0_charAt_5068e_12 rfl (kI ?_)
  exact v_nret C hc.2 dJ0_charAt_5068e_15 (by rw [hX]; exact fI_of rfl rfl)
