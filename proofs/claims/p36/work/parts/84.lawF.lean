/-! the law: its loop, and its start -/
theorem law_run {X : LxT} (C : Lx X) (hL : lenX X ≤ 2048) : ∀ (k i : Nat) (σ : St), lenX X < i + k → i ≤ lenX X → RelB σ → LV X 18 (LVS i) [] σ := by
  intro k
  induction k with
  | zero => intro i σ h1 h2; omega
  | succ k ih =>
    intro i σ h1 h2 R
    refine l_iload_n C dL_law_18 rfl rfl rfl ?_
    refine l_aload_n C dL_law_19 rfl rfl rfl ?_
    refine l_slen C dL_law_20 rfl ?_
    refine l_iconst (v := 4) C dL_law_21 (by decide) rfl ?_
    refine l_isub C dL_law_22 rfl ?_
    refine l_icmp_gt (tgt := 1036) C dL_law_23 (by decide) rfl (fun _ => ?_) (fun c => ?_)
    · refine l_iconst (v := 1) C dL_law_1036 (by decide) rfl ?_
      exact l_ret C dL_law_1037
    · have hi : i + 4 ≤ lenX X := by
        have e4 : (4 : Int32).toInt = 4 := rfl
        have eL : (nI (lenX X)).toInt = lenX X := nI_toInt (by omega)
        have ei : (nI i).toInt = i := nI_toInt (by omega)
        rw [i32_lt, i32_sub (by rw [e4, eL]; omega) (by rw [e4, eL]; omega), e4, eL, ei] at c
        omega
      refine l_aload_n C dL_law_26 rfl rfl rfl ?_
      refine l_iload_n C dL_law_27 rfl rfl rfl ?_
      refine l_sld C (i := i) rfl (by omega) (by omega) dL_law_28 rfl ?_
      refine l_bipush (v := 63) C dL_law_29 (by decide) rfl ?_
      refine l_iand C dL_law_31 rfl ?_
      refine LV.agr (nrm_ok R).2 ?_
      obtain ⟨n, q, y, t, u, RE⟩ := (nrm_ok R).1
      have kk : ∀ υ, RelB υ → LV X 1030 (LVS i) [] υ := fun υ hυ => by
        refine l_iinc (v := nI (i + 4)) (lv' := LVS (i + 4)) C dL_law_1030 rfl (nI_add i 4) (by decide) rfl rfl ?_
        refine l_goto (tgt := 18) C dL_law_1033 (by decide) ?_
        exact ih (i + 4) υ (by omega) (by omega) hυ
      generalize scrX X i &&& 63 = x
      by_cases g1 : x.toInt < 0
      · exact l_tableOut (tgt := 1030) C dL_law_32 (Or.inl g1) (by decide) (kk _ RE.b)
      by_cases g2 : 35 < x.toInt
      · exact l_tableOut (tgt := 1030) C dL_law_32 (Or.inr g2) (by decide) (kk _ RE.b)
      rcases (by omega : x.toInt = 0 ∨ x.toInt = 1 ∨ x.toInt = 2 ∨ x.toInt = 3 ∨ x.toInt = 4 ∨ x.toInt = 5 ∨ x.toInt = 6 ∨ x.toInt = 7 ∨ x.toInt = 8 ∨ x.toInt = 9 ∨ x.toInt = 10 ∨ x.toInt = 11 ∨ x.toInt = 12 ∨ x.toInt = 13 ∨ x.toInt = 14 ∨ x.toInt = 15 ∨ x.toInt = 16 ∨ x.toInt = 17 ∨ x.toInt = 18 ∨ x.toInt = 19 ∨ x.toInt = 20 ∨ x.toInt = 21 ∨ x.toInt = 22 ∨ x.toInt = 23 ∨ x.toInt = 24 ∨ x.toInt = 25 ∨ x.toInt = 26 ∨ x.toInt = 27 ∨ x.toInt = 28 ∨ x.toInt = 29 ∨ x.toInt = 30 ∨ x.toInt = 31 ∨ x.toInt = 32 ∨ x.toInt = 33 ∨ x.toInt = 34 ∨ x.toInt = 35) with e | e | e | e | e | e | e | e | e | e | e | e | e | e | e | e | e | e | e | e | e | e | e | e | e | e | e | e | e | e | e | e | e | e | e | e
      · exact l_tableIn (tgt := 192) (off := 160) C dL_law_32 g1 g2 (by rw [e]; rfl) (by decide) (lc_letter C hL hi RE kk)
      · exact l_tableIn (tgt := 215) (off := 183) C dL_law_32 g1 g2 (by rw [e]; rfl) (by decide) (lc_house C hL hi RE kk)
      · exact l_tableIn (tgt := 228) (off := 196) C dL_law_32 g1 g2 (by rw [e]; rfl) (by decide) (lc_piece C hL hi RE kk)
      · exact l_tableIn (tgt := 261) (off := 229) C dL_law_32 g1 g2 (by rw [e]; rfl) (by decide) (lc_carry C hL hi RE kk)
      · exact l_tableIn (tgt := 294) (off := 262) C dL_law_32 g1 g2 (by rw [e]; rfl) (by decide) (lc_stands C hL hi RE kk)
      · exact l_tableIn (tgt := 327) (off := 295) C dL_law_32 g1 g2 (by rw [e]; rfl) (by decide) (lc_polish C hL hi RE kk)
      · exact l_tableIn (tgt := 350) (off := 318) C dL_law_32 g1 g2 (by rw [e]; rfl) (by decide) (lc_size C hL hi RE kk)
      · exact l_tableIn (tgt := 383) (off := 351) C dL_law_32 g1 g2 (by rw [e]; rfl) (by decide) (lc_wide C hL hi RE kk)
      · exact l_tableIn (tgt := 416) (off := 384) C dL_law_32 g1 g2 (by rw [e]; rfl) (by decide) (lc_heirs C hL hi RE kk)
      · exact l_tableIn (tgt := 439) (off := 407) C dL_law_32 g1 g2 (by rw [e]; rfl) (by decide) (lc_years C hL hi RE kk)
      · exact l_tableIn (tgt := 462) (off := 430) C dL_law_32 g1 g2 (by rw [e]; rfl) (by decide) (lc_blame C hL hi RE kk)
      · exact l_tableIn (tgt := 485) (off := 453) C dL_law_32 g1 g2 (by rw [e]; rfl) (by decide) (lc_worst C hL hi RE kk)
      · exact l_tableIn (tgt := 498) (off := 466) C dL_law_32 g1 g2 (by rw [e]; rfl) (by decide) (lc_crowded C hL hi RE kk)
      · exact l_tableIn (tgt := 511) (off := 479) C dL_law_32 g1 g2 (by rw [e]; rfl) (by decide) (lc_placing C hL hi RE kk)
      · exact l_tableIn (tgt := 554) (off := 522) C dL_law_32 g1 g2 (by rw [e]; rfl) (by decide) (lc_innocent C hL hi RE kk)
      · exact l_tableIn (tgt := 567) (off := 535) C dL_law_32 g1 g2 (by rw [e]; rfl) (by decide) (lc_shares C hL hi RE kk)
      · exact l_tableIn (tgt := 590) (off := 558) C dL_law_32 g1 g2 (by rw [e]; rfl) (by decide) (lc_dealt C hL hi RE kk)
      · exact l_tableIn (tgt := 613) (off := 581) C dL_law_32 g1 g2 (by rw [e]; rfl) (by decide) (lc_envy C hL hi RE kk)
      · exact l_tableIn (tgt := 626) (off := 594) C dL_law_32 g1 g2 (by rw [e]; rfl) (by decide) (lc_choice C hL hi RE kk)
      · exact l_tableIn (tgt := 649) (off := 617) C dL_law_32 g1 g2 (by rw [e]; rfl) (by decide) (lc_sell C hL hi RE kk)
      · exact l_tableIn (tgt := 672) (off := 640) C dL_law_32 g1 g2 (by rw [e]; rfl) (by decide) (lc_burn C hL hi RE kk)
      · exact l_tableIn (tgt := 685) (off := 653) C dL_law_32 g1 g2 (by rw [e]; rfl) (by decide) (lc_heavier C hL hi RE kk)
      · exact l_tableIn (tgt := 698) (off := 666) C dL_law_32 g1 g2 (by rw [e]; rfl) (by decide) (lc_later C hL hi RE kk)
      · exact l_tableIn (tgt := 721) (off := 689) C dL_law_32 g1 g2 (by rw [e]; rfl) (by decide) (lc_gone C hL hi RE kk)
      · exact l_tableIn (tgt := 744) (off := 712) C dL_law_32 g1 g2 (by rw [e]; rfl) (by decide) (lc_whose C hL hi RE kk)
      · exact l_tableIn (tgt := 767) (off := 735) C dL_law_32 g1 g2 (by rw [e]; rfl) (by decide) (lc_ask C hL hi RE kk)
      · exact l_tableIn (tgt := 790) (off := 758) C dL_law_32 g1 g2 (by rw [e]; rfl) (by decide) (lc_wider C hL hi RE kk)
      · exact l_tableIn (tgt := 833) (off := 801) C dL_law_32 g1 g2 (by rw [e]; rfl) (by decide) (lc_bigger C hL hi RE kk)
      · exact l_tableIn (tgt := 866) (off := 834) C dL_law_32 g1 g2 (by rw [e]; rfl) (by decide) (lc_guest C hL hi RE kk)
      · exact l_tableIn (tgt := 889) (off := 857) C dL_law_32 g1 g2 (by rw [e]; rfl) (by decide) (lc_row C hL hi RE kk)
      · exact l_tableIn (tgt := 912) (off := 880) C dL_law_32 g1 g2 (by rw [e]; rfl) (by decide) (lc_fits C hL hi RE kk)
      · exact l_tableIn (tgt := 935) (off := 903) C dL_law_32 g1 g2 (by rw [e]; rfl) (by decide) (lc_judge C hL hi RE kk)
      · exact l_tableIn (tgt := 948) (off := 916) C dL_law_32 g1 g2 (by rw [e]; rfl) (by decide) (lc_lots C hL hi RE kk)
      · exact l_tableIn (tgt := 981) (off := 949) C dL_law_32 g1 g2 (by rw [e]; rfl) (by decide) (lc_image C hL hi RE kk)
      · exact l_tableIn (tgt := 994) (off := 962) C dL_law_32 g1 g2 (by rw [e]; rfl) (by decide) (lc_on C hL hi RE kk)
      · exact l_tableIn (tgt := 1007) (off := 975) C dL_law_32 g1 g2 (by rw [e]; rfl) (by decide) (lc_count C hL hi RE kk)
theorem whole_start {p : Program} {e : Env} {s : State} {m : MethodId} {below : List Frame} {meth : Method} {c : Code} (l : Launch) (hflags : l.flags = flags0) {b L : Nat} {xs : Nat → Int32} (hL : L ≤ 2048) (C0 : lw_At p s m meth c b L xs) : W p l e room_1 s m #[Value.ref b] below meth c s.heap [] 0 0 (lw_Z below #[Value.ref b] s) (entryFrame m ([Value.ref b] : List Value).toArray 4) := by
  exact law_begin l C0 (fun X hX eL _ => law_run hX (by omega) (L + 1) 0 σ0 (by omega) (Nat.zero_le _) rel_0)
