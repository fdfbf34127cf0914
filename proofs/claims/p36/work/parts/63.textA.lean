/-! the class: Text's plain ones -/
def hx (tx : Nat → Int32) (t a : Nat) : Int32 := if a < t then tx a else -9
def frmIx (b : Int32) : Nat := if b = 105 then 0 else if b = 109 ∨ b = 115 ∨ b = 121 then 1 else if b = 114 then 2 else if b = 104 ∨ b = 112 then 3 else 4
theorem frmIx_lt (b : Int32) : frmIx b < 6 := by
  unfold frmIx
  split
  · decide
  · split
    · decide
    · split
      · decide
      · split <;> decide
def kinC (c : Int32) : Int32 := if c = 112 then 0 else if c = 115 then 1 else if c = 118 then 2 else if c = 99 then 3 else if c = 119 then 4 else if c = 116 then 5 else -9
theorem kin_at {c : Int32} {i : Nat} (hi : i < 6) (e : litCh 5 i = c) : nI i = kinC c := by
  rcases (by omega : i = 0 ∨ i = 1 ∨ i = 2 ∨ i = 3 ∨ i = 4 ∨ i = 5) with rfl | rfl | rfl | rfl | rfl | rfl <;> subst e <;> decide
theorem kin_no {c : Int32} (h : ∀ j, j < 6 → ¬ litCh 5 j = c) : (-9 : Int32) = kinC c := by
  have h0 := h 0 (by decide); have h1 := h 1 (by decide); have h2 := h 2 (by decide); have h3 := h 3 (by decide); have h4 := h 4 (by decide); have h5 := h 5 (by decide)
  rw [kinC, if_neg (fun z => h0 z.symm), if_neg (fun z => h1 z.symm), if_neg (fun z => h2 z.symm), if_neg (fun z => h3 z.symm), if_neg (fun z => h4 z.symm), if_neg (fun z => h5 z.symm)]
theorem kin_iff (c : Int32) : kinC c = -9 ↔ kinF c < 0 := by
  unfold kinC kinF
  by_cases h0 : c = 112
  · subst h0; decide
  by_cases h1 : c = 115
  · subst h1; decide
  by_cases h2 : c = 118
  · subst h2; decide
  by_cases h3 : c = 99
  · subst h3; decide
  by_cases h4 : c = 119
  · subst h4; decide
  by_cases h5 : c = 116
  · subst h5; decide
  simp only [h0, h1, h2, h3, h4, h5, if_false]; decide
theorem kin_same {c : Int32} (h : ¬ kinF c < 0) : kinC c = kinF c := by
  unfold kinC kinF at *
  by_cases h0 : c = 112
  · subst h0; decide
  by_cases h1 : c = 115
  · subst h1; decide
  by_cases h2 : c = 118
  · subst h2; decide
  by_cases h3 : c = 99
  · subst h3; decide
  by_cases h4 : c = 119
  · subst h4; decide
  by_cases h5 : c = 116
  · subst h5; decide
  simp only [h0, h1, h2, h3, h4, h5, if_false] at h; exact absurd (show (-1 : Int32) < 0 by decide) h
/-- a form's letters, told as the check tells them -/
def litF : List (List Nat) := [[1, 0, 0, 0, 0, 2], [0, 0, 2], [0, 0, 0, 2], [0, 2], []]
def askC (f : Nat) : Int32 := if f = 0 then 48 else if f = 1 then 107 else 59
theorem lit_F : ∀ i, i < 5 → litN.getD i 0 = (litF.getD i []).length ∧ ∀ j, j < litN.getD i 0 → litCh i j = askC ((litF.getD i []).getD j 0) ∧ (litF.getD i []).getD j 0 < 3 := by decide +kernel
theorem frm_lit {b : Int32} (h : letP b) : frmIx b < 4 ∧ litF.getD (frmIx b) [] = frmB b ++ [2] := by
  rcases h with h | h | h | h | h | h | h <;> subst h <;> decide
theorem frm_no {b : Int32} (h : ¬ letP b) : frmIx b = 4 := by
  unfold letP at h
  unfold frmIx
  rw [if_neg (fun z => h (by simp [z])), if_neg (fun z => h (by rcases z with z | z | z <;> simp [z])), if_neg (fun z => h (by simp [z])), if_neg (fun z => h (by rcases z with z | z <;> simp [z]))]
theorem kX4_letterAt (a t : Nat) (σ : St) (hT : σ 43 1 = nI t) (h96 : t ≤ 96) (ha : a < 1000) : Ct yX4_letterAt cX4_letterAt 2 (some .int) 0 [.ref 43, .int (nI a)] σ (fI (hx (σ 44) t a) σ) := by
  refine ct_of plX4 rfl (Nat.le_of_ble_eq_true rfl) (fun X hX C => ?_)
  show V X 0 [(0, .ref 43), (1, .int (nI a))] [] σ
  refine v_iload_n C dX4_letterAt_0 rfl rfl rfl ?_
  refine v_if_lt (tgt := 27) C dX4_letterAt_1 (by decide) rfl (fun q => absurd q (nI_pos (by omega))) (fun _ => ?_)
  refine v_iload_n C dX4_letterAt_4 rfl rfl rfl ?_
  refine v_aload_n C dX4_letterAt_5 rfl rfl rfl ?_
  refine v_getI C (Nat.le_of_ble_eq_true rfl) rfl rfl hinX4 1 (Nat.le_of_ble_eq_true rfl) lkX4_15 rfl dX4_letterAt_6 rfl ?_
  refine V.tp hT ?_
  refine v_icmp_ge (tgt := 27) C dX4_letterAt_9 (by decide) rfl (fun c9 => ?_) (fun c9 => ?_)
  · skip
    have c9 := mt (nI_ltI (a := a) (b := t) (by omega) (by omega)).mpr c9
    refine v_bipush (v := -9) C dX4_letterAt_27 (by decide) rfl ?_
    exact v_iret C dX4_letterAt_29 (by rw [hX]; exact fI_of (by first | (exfalso; omega) | simp [hx, c9]) rfl)
  · skip
    have c9 := (nI_ltI (a := a) (b := t) (by omega) (by omega)).mp c9
    refine v_iload_n C dX4_letterAt_12 rfl rfl rfl ?_
    refine v_bipush (v := 96) C dX4_letterAt_13 (by decide) rfl ?_
    refine v_icmp_ge (tgt := 27) C dX4_letterAt_15 (by decide) rfl (fun c15 => ?_) (fun c15 => ?_)
    · skip
      have c15 := mt (nI_ltI (a := a) (b := 96) (by omega) (by omega)).mpr c15
      refine v_bipush (v := -9) C dX4_letterAt_27 (by decide) rfl ?_
      exact v_iret C dX4_letterAt_29 (by rw [hX]; exact fI_of (by first | (exfalso; omega) | simp [hx, c9]) rfl)
    · skip
      have c15 := (nI_ltI (a := a) (b := 96) (by omega) (by omega)).mp c15
      refine v_aload_n C dX4_letterAt_18 rfl rfl rfl ?_
      refine v_getR C (Nat.le_of_ble_eq_true rfl) rfl rfl hinX4 0 (Nat.le_of_ble_eq_true rfl) lkX4_9 rfl dX4_letterAt_19 rfl ?_
      refine v_iload_n C dX4_letterAt_22 rfl rfl rfl ?_
      refine v_iald (i := a) C (Nat.le_of_ble_eq_true rfl) rfl rfl (by omega) (by decide) dX4_letterAt_23 rfl ?_
      refine v_goto (tgt := 29) C dX4_letterAt_24 (by decide) ?_
      exact v_iret C dX4_letterAt_29 (by rw [hX]; exact fI_of (by first | (exfalso; omega) | simp [hx, c9]) rfl)
theorem kX4_digitAt (a t : Nat) (σ : St) (hT : σ 43 1 = nI t) (h96 : t ≤ 96) (ha : a < 1000) : Ct yX4_digitAt cX4_digitAt 2 (some .int) 1 [.ref 43, .int (nI a)] σ (fI (hx (σ 44) t a - 48) σ) := by
  refine ct_of plX4 rfl (Nat.le_of_ble_eq_true rfl) (fun X hX C => ?_)
  show V X 0 [(0, .ref 43), (1, .int (nI a))] [] σ
  refine v_aload_n C dX4_digitAt_0 rfl rfl rfl ?_
  refine v_iload_n C dX4_digitAt_1 rfl rfl rfl ?_
  refine v_callV C (Nat.le_of_ble_eq_true rfl) rfl rfl (As := [.int (nI a)]) (rest := []) (kX4_letterAt a t σ hT h96 (by omega)) rfl (Nat.le_of_ble_eq_true rfl) (Nat.le_of_ble_eq_true rfl) ⟨mlX4_27, mfX4_letterAt⟩ dkX4_letterAt (Nat.le_of_ble_eq_true rfl) dX4_digitAt_2 rfl (kI ?_)
  refine v_bipush (v := 48) C dX4_digitAt_5 (by decide) rfl ?_
  refine v_isub C dX4_digitAt_7 rfl ?_
  exact v_iret C dX4_digitAt_8 (by rw [hX]; exact fI_of (by first | rfl | (simp []; done)) rfl)
theorem kX4_numberAt (a t : Nat) (σ : St) (hT : σ 43 1 = nI t) (h96 : t ≤ 96) (ha : a < 990) : Ct yX4_numberAt cX4_numberAt 2 (some .int) 2 [.ref 43, .int (nI a)] σ (fI (10 * (hx (σ 44) t a - 48) + (hx (σ 44) t (a + 1) - 48)) σ) := by
  refine ct_of plX4 rfl (Nat.le_of_ble_eq_true rfl) (fun X hX C => ?_)
  show V X 0 [(0, .ref 43), (1, .int (nI a))] [] σ
  refine v_bipush (v := 10) C dX4_numberAt_0 (by decide) rfl ?_
  refine v_aload_n C dX4_numberAt_2 rfl rfl rfl ?_
  refine v_iload_n C dX4_numberAt_3 rfl rfl rfl ?_
  refine v_callV C (Nat.le_of_ble_eq_true rfl) rfl rfl (As := [.int (nI a)]) (rest := [.int 10]) (kX4_digitAt a t σ hT h96 (by omega)) rfl (Nat.le_of_ble_eq_true rfl) (Nat.le_of_ble_eq_true rfl) ⟨mlX4_64, mfX4_digitAt⟩ dkX4_digitAt (Nat.le_of_ble_eq_true rfl) dX4_numberAt_4 rfl (kI ?_)
  refine v_imul C dX4_numberAt_7 rfl ?_
  refine v_aload_n C dX4_numberAt_8 rfl rfl rfl ?_
  refine v_iload_n C dX4_numberAt_9 rfl rfl rfl ?_
  refine v_iconst (v := 1) C dX4_numberAt_10 (by decide) rfl ?_
  refine v_iadd C dX4_numberAt_11 rfl ?_
  refine V.tp (nI_add a 1) ?_
  refine v_callV C (Nat.le_of_ble_eq_true rfl) rfl rfl (As := [.int (nI (a + 1))]) (rest := [.int (10 * (hx (σ 44) t a - 48))]) (kX4_digitAt (a + 1) t σ hT h96 (by omega)) rfl (Nat.le_of_ble_eq_true rfl) (Nat.le_of_ble_eq_true rfl) ⟨mlX4_64, mfX4_digitAt⟩ dkX4_digitAt (Nat.le_of_ble_eq_true rfl) dX4_numberAt_12 rfl (kI ?_)
  refine v_iadd C dX4_numberAt_15 rfl ?_
  exact v_iret C dX4_numberAt_16 (by rw [hX]; exact fI_of (by first | rfl | (simp []; done)) rfl)
theorem kX4_formBehind (b : Int32) (σ : St) : Ct yX4_formBehind cX4_formBehind 1 (some (.object "java/lang/String")) 0 [.int b] σ (fR (100 + frmIx b) σ) := by
  refine ct_of plX4 rfl (Nat.le_of_ble_eq_true rfl) (fun X hX C => ?_)
  show V X 0 [(0, .int b)] [] σ
  refine v_iload_n C dX4_formBehind_0 rfl rfl rfl ?_
  by_cases s1_104 : b = 104
  · refine V.tp s1_104 ?_
    refine v_tableIn (off := 99) (tgt := 100) C dX4_formBehind_1 (by decide) (by decide) rfl (by decide) ?_
    refine v_ldcS (i := 3) C (by decide) rfl dX4_formBehind_100 rfl ?_
    exact v_aret C dX4_formBehind_102 (by rw [hX]; exact ⟨by rw [show frmIx b = 3 from by first | (rw [s1_104]; rfl) | simp [frmIx, s1_104]], rfl⟩)
  by_cases s1_105 : b = 105
  · refine V.tp s1_105 ?_
    refine v_tableIn (off := 87) (tgt := 88) C dX4_formBehind_1 (by decide) (by decide) rfl (by decide) ?_
    refine v_ldcS (i := 0) C (by decide) rfl dX4_formBehind_88 rfl ?_
    exact v_aret C dX4_formBehind_90 (by rw [hX]; exact ⟨by rw [show frmIx b = 0 from by first | (rw [s1_105]; rfl) | simp [frmIx, s1_104, s1_105]], rfl⟩)
  by_cases s1_106 : b = 106
  · refine V.tp s1_106 ?_
    refine v_tableIn (off := 108) (tgt := 109) C dX4_formBehind_1 (by decide) (by decide) rfl (by decide) ?_
    refine v_ldcS (i := 4) C (by decide) rfl dX4_formBehind_109 rfl ?_
    exact v_aret C dX4_formBehind_111 (by rw [hX]; exact ⟨by rw [show frmIx b = 4 from by first | (rw [s1_106]; rfl) | simp [frmIx, s1_104, s1_105, s1_106]], rfl⟩)
  by_cases s1_107 : b = 107
  · refine V.tp s1_107 ?_
    refine v_tableIn (off := 108) (tgt := 109) C dX4_formBehind_1 (by decide) (by decide) rfl (by decide) ?_
    refine v_ldcS (i := 4) C (by decide) rfl dX4_formBehind_109 rfl ?_
    exact v_aret C dX4_formBehind_111 (by rw [hX]; exact ⟨by rw [show frmIx b = 4 from by first | (rw [s1_107]; rfl) | simp [frmIx, s1_104, s1_105, s1_106, s1_107]], rfl⟩)
  by_cases s1_108 : b = 108
  · refine V.tp s1_108 ?_
    refine v_tableIn (off := 108) (tgt := 109) C dX4_formBehind_1 (by decide) (by decide) rfl (by decide) ?_
    refine v_ldcS (i := 4) C (by decide) rfl dX4_formBehind_109 rfl ?_
    exact v_aret C dX4_formBehind_111 (by rw [hX]; exact ⟨by rw [show frmIx b = 4 from by first | (rw [s1_108]; rfl) | simp [frmIx, s1_104, s1_105, s1_106, s1_107, s1_108]], rfl⟩)
  by_cases s1_109 : b = 109
  · refine V.tp s1_109 ?_
    refine v_tableIn (off := 90) (tgt := 91) C dX4_formBehind_1 (by decide) (by decide) rfl (by decide) ?_
    refine v_ldcS (i := 1) C (by decide) rfl dX4_formBehind_91 rfl ?_
    exact v_aret C dX4_formBehind_93 (by rw [hX]; exact ⟨by rw [show frmIx b = 1 from by first | (rw [s1_109]; rfl) | simp [frmIx, s1_104, s1_105, s1_106, s1_107, s1_108, s1_109]], rfl⟩)
  by_cases s1_110 : b = 110
  · refine V.tp s1_110 ?_
    refine v_tableIn (off := 108) (tgt := 109) C dX4_formBehind_1 (by decide) (by decide) rfl (by decide) ?_
    refine v_ldcS (i := 4) C (by decide) rfl dX4_formBehind_109 rfl ?_
    exact v_aret C dX4_formBehind_111 (by rw [hX]; exact ⟨by rw [show frmIx b = 4 from by first | (rw [s1_110]; rfl) | simp [frmIx, s1_104, s1_105, s1_106, s1_107, s1_108, s1_109, s1_110]], rfl⟩)
  by_cases s1_111 : b = 111
  · refine V.tp s1_111 ?_
    refine v_tableIn (off := 108) (tgt := 109) C dX4_formBehind_1 (by decide) (by decide) rfl (by decide) ?_
    refine v_ldcS (i := 4) C (by decide) rfl dX4_formBehind_109 rfl ?_
    exact v_aret C dX4_formBehind_111 (by rw [hX]; exact ⟨by rw [show frmIx b = 4 from by first | (rw [s1_111]; rfl) | simp [frmIx, s1_104, s1_105, s1_106, s1_107, s1_108, s1_109, s1_110, s1_111]], rfl⟩)
  by_cases s1_112 : b = 112
  · refine V.tp s1_112 ?_
    refine v_tableIn (off := 105) (tgt := 106) C dX4_formBehind_1 (by decide) (by decide) rfl (by decide) ?_
    refine v_ldcS (i := 3) C (by decide) rfl dX4_formBehind_106 rfl ?_
    exact v_aret C dX4_formBehind_108 (by rw [hX]; exact ⟨by rw [show frmIx b = 3 from by first | (rw [s1_112]; rfl) | simp [frmIx, s1_104, s1_105, s1_106, s1_107, s1_108, s1_109, s1_110, s1_111, s1_112]], rfl⟩)
  by_cases s1_113 : b = 113
  · refine V.tp s1_113 ?_
    refine v_tableIn (off := 108) (tgt := 109) C dX4_formBehind_1 (by decide) (by decide) rfl (by decide) ?_
    refine v_ldcS (i := 4) C (by decide) rfl dX4_formBehind_109 rfl ?_
    exact v_aret C dX4_formBehind_111 (by rw [hX]; exact ⟨by rw [show frmIx b = 4 from by first | (rw [s1_113]; rfl) | simp [frmIx, s1_104, s1_105, s1_106, s1_107, s1_108, s1_109, s1_110, s1_111, s1_112, s1_113]], rfl⟩)
  by_cases s1_114 : b = 114
  · refine V.tp s1_114 ?_
    refine v_tableIn (off := 93) (tgt := 94) C dX4_formBehind_1 (by decide) (by decide) rfl (by decide) ?_
    refine v_ldcS (i := 2) C (by decide) rfl dX4_formBehind_94 rfl ?_
    exact v_aret C dX4_formBehind_96 (by rw [hX]; exact ⟨by rw [show frmIx b = 2 from by first | (rw [s1_114]; rfl) | simp [frmIx, s1_104, s1_105, s1_106, s1_107, s1_108, s1_109, s1_110, s1_111, s1_112, s1_113, s1_114]], rfl⟩)
  by_cases s1_115 : b = 115
  · refine V.tp s1_115 ?_
    refine v_tableIn (off := 96) (tgt := 97) C dX4_formBehind_1 (by decide) (by decide) rfl (by decide) ?_
    refine v_ldcS (i := 1) C (by decide) rfl dX4_formBehind_97 rfl ?_
    exact v_aret C dX4_formBehind_99 (by rw [hX]; exact ⟨by rw [show frmIx b = 1 from by first | (rw [s1_115]; rfl) | simp [frmIx, s1_104, s1_105, s1_106, s1_107, s1_108, s1_109, s1_110, s1_111, s1_112, s1_113, s1_114, s1_115]], rfl⟩)
  by_cases s1_116 : b = 116
  · refine V.tp s1_116 ?_
    refine v_tableIn (off := 108) (tgt := 109) C dX4_formBehind_1 (by decide) (by decide) rfl (by decide) ?_
    refine v_ldcS (i := 4) C (by decide) rfl dX4_formBehind_109 rfl ?_
    exact v_aret C dX4_formBehind_111 (by rw [hX]; exact ⟨by rw [show frmIx b = 4 from by first | (rw [s1_116]; rfl) | simp [frmIx, s1_104, s1_105, s1_106, s1_107, s1_108, s1_109, s1_110, s1_111, s1_112, s1_113, s1_114, s1_115, s1_116]], rfl⟩)
  by_cases s1_117 : b = 117
  · refine V.tp s1_117 ?_
    refine v_tableIn (off := 108) (tgt := 109) C dX4_formBehind_1 (by decide) (by decide) rfl (by decide) ?_
    refine v_ldcS (i := 4) C (by decide) rfl dX4_formBehind_109 rfl ?_
    exact v_aret C dX4_formBehind_111 (by rw [hX]; exact ⟨by rw [show frmIx b = 4 from by first | (rw [s1_117]; rfl) | simp [frmIx, s1_104, s1_105, s1_106, s1_107, s1_108, s1_109, s1_110, s1_111, s1_112, s1_113, s1_114, s1_115, s1_116, s1_117]], rfl⟩)
  by_cases s1_118 : b = 118
  · refine V.tp s1_118 ?_
    refine v_tableIn (off := 108) (tgt := 109) C dX4_formBehind_1 (by decide) (by decide) rfl (by decide) ?_
    refine v_ldcS (i := 4) C (by decide) rfl dX4_formBehind_109 rfl ?_
    exact v_aret C dX4_formBehind_111 (by rw [hX]; exact ⟨by rw [show frmIx b = 4 from by first | (rw [s1_118]; rfl) | simp [frmIx, s1_104, s1_105, s1_106, s1_107, s1_108, s1_109, s1_110, s1_111, s1_112, s1_113, s1_114, s1_115, s1_116, s1_117, s1_118]], rfl⟩)
  by_cases s1_119 : b = 119
  · refine V.tp s1_119 ?_
    refine v_tableIn (off := 108) (tgt := 109) C dX4_formBehind_1 (by decide) (by decide) rfl (by decide) ?_
    refine v_ldcS (i := 4) C (by decide) rfl dX4_formBehind_109 rfl ?_
    exact v_aret C dX4_formBehind_111 (by rw [hX]; exact ⟨by rw [show frmIx b = 4 from by first | (rw [s1_119]; rfl) | simp [frmIx, s1_104, s1_105, s1_106, s1_107, s1_108, s1_109, s1_110, s1_111, s1_112, s1_113, s1_114, s1_115, s1_116, s1_117, s1_118, s1_119]], rfl⟩)
  by_cases s1_120 : b = 120
  · refine V.tp s1_120 ?_
    refine v_tableIn (off := 108) (tgt := 109) C dX4_formBehind_1 (by decide) (by decide) rfl (by decide) ?_
    refine v_ldcS (i := 4) C (by decide) rfl dX4_formBehind_109 rfl ?_
    exact v_aret C dX4_formBehind_111 (by rw [hX]; exact ⟨by rw [show frmIx b = 4 from by first | (rw [s1_120]; rfl) | simp [frmIx, s1_104, s1_105, s1_106, s1_107, s1_108, s1_109, s1_110, s1_111, s1_112, s1_113, s1_114, s1_115, s1_116, s1_117, s1_118, s1_119, s1_120]], rfl⟩)
  by_cases s1_121 : b = 121
  · refine V.tp s1_121 ?_
    refine v_tableIn (off := 102) (tgt := 103) C dX4_formBehind_1 (by decide) (by decide) rfl (by decide) ?_
    refine v_ldcS (i := 1) C (by decide) rfl dX4_formBehind_103 rfl ?_
    exact v_aret C dX4_formBehind_105 (by rw [hX]; exact ⟨by rw [show frmIx b = 1 from by first | (rw [s1_121]; rfl) | simp [frmIx, s1_104, s1_105, s1_106, s1_107, s1_108, s1_109, s1_110, s1_111, s1_112, s1_113, s1_114, s1_115, s1_116, s1_117, s1_118, s1_119, s1_120, s1_121]], rfl⟩)
  refine v_tableOut (tgt := 109) C dX4_formBehind_1 (by have e0 := lv_neT s1_104 (a := 104) (by decide); have e1 := lv_neT s1_105 (a := 105) (by decide); have e2 := lv_neT s1_106 (a := 106) (by decide); have e3 := lv_neT s1_107 (a := 107) (by decide); have e4 := lv_neT s1_108 (a := 108) (by decide); have e5 := lv_neT s1_109 (a := 109) (by decide); have e6 := lv_neT s1_110 (a := 110) (by decide); have e7 := lv_neT s1_111 (a := 111) (by decide); have e8 := lv_neT s1_112 (a := 112) (by decide); have e9 := lv_neT s1_113 (a := 113) (by decide); have e10 := lv_neT s1_114 (a := 114) (by decide); have e11 := lv_neT s1_115 (a := 115) (by decide); have e12 := lv_neT s1_116 (a := 116) (by decide); have e13 := lv_neT s1_117 (a := 117) (by decide); have e14 := lv_neT s1_118 (a := 118) (by decide); have e15 := lv_neT s1_119 (a := 119) (by decide); have e16 := lv_neT s1_120 (a := 120) (by decide); have e17 := lv_neT s1_121 (a := 121) (by decide); omega) (by decide) ?_
  refine v_ldcS (i := 4) C (by decide) rfl dX4_formBehind_109 rfl ?_
  exact v_aret C dX4_formBehind_111 (by rw [hX]; exact ⟨by rw [show frmIx b = 4 from by first | (rw [s1_121]; rfl) | simp [frmIx, s1_104, s1_105, s1_106, s1_107, s1_108, s1_109, s1_110, s1_111, s1_112, s1_113, s1_114, s1_115, s1_116, s1_117, s1_118, s1_119, s1_120, s1_121]], rfl⟩)
theorem kX4_kindOfLetter (c : Int32) (σ : St) : Ct yX4_kindOfLetter cX4_kindOfLetter 2 (some .int) 5 [.int c] σ (fI (kinC c) σ) := by
  refine ct_of plX4 rfl (Nat.le_of_ble_eq_true rfl) (fun X hX C => ?_)
  show V X 0 [(0, .int c)] [] σ
  refine v_iconst (v := 0) C dX4_kindOfLetter_0 (by decide) rfl ?_
  refine v_istore_n (lv' := [(1, .int 0), (0, .int c)]) C dX4_kindOfLetter_1 rfl (Nat.le_of_ble_eq_true rfl) rfl rfl ?_
  have lp2 : ∀ (kf i : Nat)  , 6 < i + kf → i ≤ 6 → (∀ j, j < i → ¬ litCh 5 j = c) → V X 2 [(1, .int (nI i)), (0, .int c)] [] σ := by
    intro kf
    induction kf with
    | zero => intro i  h1 h2; omega
    | succ kf ih2 =>
      intro i  h1 h2  hal
      refine v_iload_n C dX4_kindOfLetter_2 rfl rfl rfl ?_
      refine v_ldcS (i := 5) C (by decide) rfl dX4_kindOfLetter_3 rfl ?_
      refine v_callT C (i := 5) (by decide) rfl (As := []) (rest := [.int (nI i)]) (kJ0_length 5 (by decide) σ) rfl (Nat.le_of_ble_eq_true rfl) (Nat.le_of_ble_eq_true rfl) ⟨mlX4_35, mfJ0_length_8abf5⟩ dkJ0_length_8abf5 (Nat.le_of_ble_eq_true rfl) dX4_kindOfLetter_5 rfl (kI ?_)
      refine V.tp (show nI (litN.getD 5 0) = nI 6 from rfl) ?_
      refine v_icmp_ge (tgt := 29) C dX4_kindOfLetter_8 (by decide) rfl (fun c8 => ?_) (fun c8 => ?_)
      · skip
        have c8 := mt (nI_ltI (a := i) (b := 6) (by omega) (by omega)).mpr c8
        refine v_bipush (v := -9) C dX4_kindOfLetter_29 (by decide) rfl ?_
        exact v_iret C dX4_kindOfLetter_31 (by rw [hX]; exact fI_of (kin_no (fun j hj => hal j (by omega))) rfl)
      · skip
        have c8 := (nI_ltI (a := i) (b := 6) (by omega) (by omega)).mp c8
        refine v_ldcS (i := 5) C (by decide) rfl dX4_kindOfLetter_11 rfl ?_
        refine v_iload_n C dX4_kindOfLetter_13 rfl rfl rfl ?_
        refine v_callT C (i := 5) (by decide) rfl (As := [.int (nI i)]) (rest := []) (kJ0_charAt 5 i (by decide) (show i < 6 from c8) σ) rfl (Nat.le_of_ble_eq_true rfl) (Nat.le_of_ble_eq_true rfl) ⟨mlX4_43, mfJ0_charAt_5068e⟩ dkJ0_charAt_5068e (Nat.le_of_ble_eq_true rfl) dX4_kindOfLetter_14 rfl (kI ?_)
        refine v_iload_n C dX4_kindOfLetter_17 rfl rfl rfl ?_
        refine v_icmp_ne (tgt := 23) C dX4_kindOfLetter_18 (by decide) rfl (fun c18 => ?_) (fun c18 => ?_)
        · skip
          refine v_iinc (lv' := [(1, .int (nI (i + 1))), (0, .int c)]) C dX4_kindOfLetter_23 rfl (nI_inc i) (Nat.le_of_ble_eq_true rfl) rfl rfl ?_
          refine v_goto (tgt := 2) C dX4_kindOfLetter_26 (by decide) ?_
          exact V.sub [0, 1] rfl (ih2 (i + 1)  (by omega) (by omega)  (fun j hj => (Nat.lt_succ_iff_lt_or_eq.mp hj).elim (hal j) (fun q => by rw [q]; exact c18)))
        · skip
          refine v_iload_n C dX4_kindOfLetter_21 rfl rfl rfl ?_
          exact v_iret C dX4_kindOfLetter_22 (by rw [hX]; exact fI_of (kin_at c8 c18) rfl)
  exact V.sub [0, 1] rfl (lp2 (6 + 1) 0  (by omega) (by omega)  (fun j hj => absurd hj (Nat.not_lt_zero j)))
theorem kX4_isAsAsked0 (c : Int32) (σ : St) : Ct yX4_isAsAsked cX4_isAsAsked 2 (some .boolean) 6 [.int 48, .int c] σ (fI (bI (chk 0 c)) σ) := by
  refine ct_of plX4 rfl (Nat.le_of_ble_eq_true rfl) (fun X hX C => ?_)
  show V X 0 [(0, .int 48), (1, .int c)] [] σ
  refine v_iload_n C dX4_isAsAsked_0 rfl rfl rfl ?_
  refine v_lookup (off := 27) (tgt := 28) C dX4_isAsAsked_1 (by decide) (by decide) (by decide) ?_
  refine v_iload_n C dX4_isAsAsked_28 rfl rfl rfl ?_
  refine v_bipush (v := 48) C dX4_isAsAsked_29 (by decide) rfl ?_
  refine v_icmp_lt (tgt := 44) C dX4_isAsAsked_31 (by decide) rfl (fun c31 => ?_) (fun c31 => ?_)
  · skip
    refine v_iconst (v := 0) C dX4_isAsAsked_44 (by decide) rfl ?_
    exact v_zret C rfl dX4_isAsAsked_45 (by rw [hX]; exact fI_of (bI_f (fun z : chk 0 c => z.1 c31)) rfl)
  · skip
    refine v_iload_n C dX4_isAsAsked_34 rfl rfl rfl ?_
    refine v_bipush (v := 57) C dX4_isAsAsked_35 (by decide) rfl ?_
    refine v_icmp_gt (tgt := 44) C dX4_isAsAsked_37 (by decide) rfl (fun c37 => ?_) (fun c37 => ?_)
    · skip
      refine v_iconst (v := 0) C dX4_isAsAsked_44 (by decide) rfl ?_
      exact v_zret C rfl dX4_isAsAsked_45 (by rw [hX]; exact fI_of (bI_f (fun z : chk 0 c => z.2 c37)) rfl)
    · skip
      refine v_iconst (v := 1) C dX4_isAsAsked_40 (by decide) rfl ?_
      refine v_goto (tgt := 45) C dX4_isAsAsked_41 (by decide) ?_
      exact v_zret C rfl dX4_isAsAsked_45 (by rw [hX]; exact fI_of (bI_t (show chk 0 c from ⟨c31, c37⟩)) rfl)
theorem kX4_isAsAsked1 (c : Int32) (σ : St) : Ct yX4_isAsAsked cX4_isAsAsked 2 (some .boolean) 6 [.int 107, .int c] σ (fI (bI (chk 1 c)) σ) := by
  refine ct_of plX4 rfl (Nat.le_of_ble_eq_true rfl) (fun X hX C => ?_)
  show V X 0 [(0, .int 107), (1, .int c)] [] σ
  refine v_iload_n C dX4_isAsAsked_0 rfl rfl rfl ?_
  refine v_lookup (off := 45) (tgt := 46) C dX4_isAsAsked_1 (by decide) (by decide) (by decide) ?_
  refine v_iload_n C dX4_isAsAsked_46 rfl rfl rfl ?_
  refine v_callS C (As := [.int c]) (rest := []) (kX4_kindOfLetter c σ) rfl (Nat.le_of_ble_eq_true rfl) (Nat.le_of_ble_eq_true rfl) ⟨mlX4_61, mfX4_kindOfLetter⟩ dkX4_kindOfLetter (Nat.le_of_ble_eq_true rfl) dX4_isAsAsked_47 rfl (kI ?_)
  refine v_bipush (v := -9) C dX4_isAsAsked_50 (by decide) rfl ?_
  refine v_icmp_eq (tgt := 59) C dX4_isAsAsked_52 (by decide) rfl (fun c52 => ?_) (fun c52 => ?_)
  · skip
    refine v_iconst (v := 0) C dX4_isAsAsked_59 (by decide) rfl ?_
    exact v_zret C rfl dX4_isAsAsked_60 (by rw [hX]; exact fI_of (bI_f (fun z : chk 1 c => z ((kin_iff c).mp c52))) rfl)
  · skip
    refine v_iconst (v := 1) C dX4_isAsAsked_55 (by decide) rfl ?_
    refine v_goto (tgt := 60) C dX4_isAsAsked_56 (by decide) ?_
    exact v_zret C rfl dX4_isAsAsked_60 (by rw [hX]; exact fI_of (bI_t (show chk 1 c from fun z => c52 ((kin_iff c).mpr z))) rfl)
theorem kX4_isAsAsked2 (c : Int32) (σ : St) : Ct yX4_isAsAsked cX4_isAsAsked 2 (some .boolean) 6 [.int 59, .int c] σ (fI (bI (chk 2 c)) σ) := by
  refine ct_of plX4 rfl (Nat.le_of_ble_eq_true rfl) (fun X hX C => ?_)
  show V X 0 [(0, .int 59), (1, .int c)] [] σ
  refine v_iload_n C dX4_isAsAsked_0 rfl rfl rfl ?_
  refine v_lookup (off := 60) (tgt := 61) C dX4_isAsAsked_1 (by decide) (by decide) (by decide) ?_
  refine v_iload_n C dX4_isAsAsked_61 rfl rfl rfl ?_
  refine v_iload_n C dX4_isAsAsked_62 rfl rfl rfl ?_
  refine v_icmp_ne (tgt := 70) C dX4_isAsAsked_63 (by decide) rfl (fun c63 => ?_) (fun c63 => ?_)
  · skip
    refine v_iconst (v := 0) C dX4_isAsAsked_70 (by decide) rfl ?_
    exact v_zret C rfl dX4_isAsAsked_71 (by rw [hX]; exact fI_of (bI_f (fun z : chk 2 c => c63 z)) rfl)
  · skip
    refine v_iconst (v := 1) C dX4_isAsAsked_66 (by decide) rfl ?_
    refine v_goto (tgt := 71) C dX4_isAsAsked_67 (by decide) ?_
    exact v_zret C rfl dX4_isAsAsked_71 (by rw [hX]; exact fI_of (bI_t (show chk 2 c from c63)) rfl)
theorem kX4_isAsAsked (f : Nat) (hf : f < 3) (c : Int32) (σ : St) : Ct yX4_isAsAsked cX4_isAsAsked 2 (some .boolean) 6 [.int (askC f), .int c] σ (fI (bI (chk f c)) σ) := by
  rcases (by omega : f = 0 ∨ f = 1 ∨ f = 2) with rfl | rfl | rfl
  · exact kX4_isAsAsked0 c σ
  · exact kX4_isAsAsked1 c σ
  · exact kX4_isAsAsked2 c σ
