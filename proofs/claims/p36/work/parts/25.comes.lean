/-! the check's class: a statement comes; house -/
def piS (σ : St) (n : Nat) (v0 v1 v2 v3 : Int32) : St := s2 (s2 (s2 (s2 (s2 (s2 σ 4 n v0) 5 n v1) 6 n v2) 7 n v3) 8 n 9) 0 8 (nI (n + 1))
def cmP (σ : St) (n y : Nat) (b v0 v1 : Int32) : Prop :=
  if b = 105 then ¬ v1 < 1 ∧ ¬ n = 7 else if b = 109 then pieceP v0 (nI n) ∧ placeP v1 ∧ carP (σ 4) (σ 5) (σ 8) (σ 2) (σ 3) n (tn v0) v1
  else if b = 115 then isInP v0 1 2 else if b = 114 then roomP v0 ∧ ¬ 20 < v1 ∧ ¬ v1 < bulF (σ 5) (σ 8) n v0
  else if b = 121 then isInP v0 1 60 ∧ ¬ 999 < y + tn v0 else if b = 104 then isInP v0 2 4 else pieceP v0 (nI n) ∧ ¬ σ 6 (tn v0) = 9
def cmS (σ : St) (n : Nat) (b v0 v1 v2 v3 : Int32) : St :=
  if b = 105 then piS σ n v0 v1 v2 v3 else if b = 109 then s2 σ 8 (tn v0) v1 else if b = 115 then s2 σ 3 (tn v0) v1 else if b = 114 then s2 σ 2 (tn v0) v1
  else if b = 121 then yrs n σ (tn v0) else if b = 104 then s2 σ 0 9 v0 else s2 σ 6 (tn v0) (σ 6 (tn v0) + 1)
theorem kX6_comesPiece (p n : Nat) (σ : St) (hn : σ 0 8 = nI n) (h7 : n ≤ 7) (hp : p < 180) : Ct yX6_comesPiece cX6_comesPiece 2 (some .boolean) 0 [.ref 0, .int (nI p)] σ (rI (fun r τ => (r = 1 ∧ (¬ σ 12 (p + 1) < 1 ∧ ¬ n = 7) ∧ τ = piS σ n (σ 12 p) (σ 12 (p + 1)) (σ 12 (p + 2)) (σ 12 (p + 3))) ∨ (r = 0 ∧ ¬ (¬ σ 12 (p + 1) < 1 ∧ ¬ n = 7) ∧ τ = σ))) := by
  refine ct_of plX6 rfl (Nat.le_of_ble_eq_true rfl) (fun X hX C => ?_)
  show V X 0 [(0, .ref 0), (1, .int (nI p))] [] σ
  refine v_aload_n C dX6_comesPiece_0 rfl rfl rfl ?_
  refine v_getR C (Nat.le_of_ble_eq_true rfl) rfl rfl hinX6 14 (Nat.le_of_ble_eq_true rfl) lkX6_43 rfl dX6_comesPiece_1 rfl ?_
  refine v_iload_n C dX6_comesPiece_4 rfl rfl rfl ?_
  refine v_iconst (v := 1) C dX6_comesPiece_5 (by decide) rfl ?_
  refine v_iadd C dX6_comesPiece_6 rfl ?_
  refine V.tp (nI_add p 1) ?_
  refine v_iald (i := p + 1) C (Nat.le_of_ble_eq_true rfl) rfl rfl (by omega) (by decide) dX6_comesPiece_7 rfl ?_
  refine v_iconst (v := 1) C dX6_comesPiece_8 (by decide) rfl ?_
  refine v_icmp_lt (tgt := 21) C dX6_comesPiece_9 (by decide) rfl (fun c9 => ?_) (fun c9 => ?_)
  · skip
    refine v_iconst (v := 0) C dX6_comesPiece_21 (by decide) rfl ?_
    exact v_zret C rfl dX6_comesPiece_22 (by rw [hX]; exact ⟨_, rfl, Or.inr ⟨rfl, fun q => q.1 c9, rfl⟩⟩)
  · skip
    refine v_aload_n C dX6_comesPiece_12 rfl rfl rfl ?_
    refine v_getI C (Nat.le_of_ble_eq_true rfl) rfl rfl hinX6 8 (Nat.le_of_ble_eq_true rfl) lkX6_65 rfl dX6_comesPiece_13 rfl ?_
    refine V.tp hn ?_
    refine v_bipush (v := 7) C dX6_comesPiece_16 (by decide) rfl ?_
    refine v_icmp_ne (tgt := 23) C dX6_comesPiece_18 (by decide) rfl (fun c18 => ?_) (fun c18 => ?_)
    · skip
      have c18 := mt (nI_eq (a := n) (b := 7) (by omega) (by omega)).mpr c18
      refine v_aload_n C dX6_comesPiece_23 rfl rfl rfl ?_
      refine v_getR C (Nat.le_of_ble_eq_true rfl) rfl rfl hinX6 3 (Nat.le_of_ble_eq_true rfl) lkX6_19 rfl dX6_comesPiece_24 rfl ?_
      refine v_aload_n C dX6_comesPiece_27 rfl rfl rfl ?_
      refine v_getI C (Nat.le_of_ble_eq_true rfl) rfl rfl hinX6 8 (Nat.le_of_ble_eq_true rfl) lkX6_65 rfl dX6_comesPiece_28 rfl ?_
      refine V.tp hn ?_
      refine v_aload_n C dX6_comesPiece_31 rfl rfl rfl ?_
      refine v_getR C (Nat.le_of_ble_eq_true rfl) rfl rfl hinX6 14 (Nat.le_of_ble_eq_true rfl) lkX6_43 rfl dX6_comesPiece_32 rfl ?_
      refine v_iload_n C dX6_comesPiece_35 rfl rfl rfl ?_
      refine v_iald (i := p) C (Nat.le_of_ble_eq_true rfl) rfl rfl (by omega) (by decide) dX6_comesPiece_36 rfl ?_
      refine v_iast (i := n) C (Nat.le_of_ble_eq_true rfl) rfl rfl (by omega) (by decide) dX6_comesPiece_37 rfl ?_
      refine V.nm (fun τ37_1 eτ37_1 => ?_)
      have hnτ37_1 : τ37_1 0 8 = nI n := by rw [eτ37_1, s2_ne (by decide)]; exact hn
      have h12τ37_1 : τ37_1 12 = σ 12 := by rw [eτ37_1, s2_ne (by decide)]
      refine v_aload_n C dX6_comesPiece_38 rfl rfl rfl ?_
      refine v_getR C (Nat.le_of_ble_eq_true rfl) rfl rfl hinX6 4 (Nat.le_of_ble_eq_true rfl) lkX6_22 rfl dX6_comesPiece_39 rfl ?_
      refine v_aload_n C dX6_comesPiece_42 rfl rfl rfl ?_
      refine v_getI C (Nat.le_of_ble_eq_true rfl) rfl rfl hinX6 8 (Nat.le_of_ble_eq_true rfl) lkX6_65 rfl dX6_comesPiece_43 rfl ?_
      refine V.tp hnτ37_1 ?_
      refine v_aload_n C dX6_comesPiece_46 rfl rfl rfl ?_
      refine v_getR C (Nat.le_of_ble_eq_true rfl) rfl rfl hinX6 14 (Nat.le_of_ble_eq_true rfl) lkX6_43 rfl dX6_comesPiece_47 rfl ?_
      refine v_iload_n C dX6_comesPiece_50 rfl rfl rfl ?_
      refine v_iconst (v := 1) C dX6_comesPiece_51 (by decide) rfl ?_
      refine v_iadd C dX6_comesPiece_52 rfl ?_
      refine V.tp (nI_add p 1) ?_
      refine v_iald (i := p + 1) C (Nat.le_of_ble_eq_true rfl) rfl rfl (by omega) (by decide) dX6_comesPiece_53 rfl ?_
      refine V.tp (by rw [h12τ37_1]) ?_
      refine v_iast (i := n) C (Nat.le_of_ble_eq_true rfl) rfl rfl (by omega) (by decide) dX6_comesPiece_54 rfl ?_
      refine V.nm (fun τ54_2 eτ54_2 => ?_)
      have hnτ54_2 : τ54_2 0 8 = nI n := by rw [eτ54_2, s2_ne (by decide)]; exact hnτ37_1
      have h12τ54_2 : τ54_2 12 = σ 12 := by rw [eτ54_2, s2_ne (by decide)]; exact h12τ37_1
      refine v_aload_n C dX6_comesPiece_55 rfl rfl rfl ?_
      refine v_getR C (Nat.le_of_ble_eq_true rfl) rfl rfl hinX6 5 (Nat.le_of_ble_eq_true rfl) lkX6_25 rfl dX6_comesPiece_56 rfl ?_
      refine v_aload_n C dX6_comesPiece_59 rfl rfl rfl ?_
      refine v_getI C (Nat.le_of_ble_eq_true rfl) rfl rfl hinX6 8 (Nat.le_of_ble_eq_true rfl) lkX6_65 rfl dX6_comesPiece_60 rfl ?_
      refine V.tp hnτ54_2 ?_
      refine v_aload_n C dX6_comesPiece_63 rfl rfl rfl ?_
      refine v_getR C (Nat.le_of_ble_eq_true rfl) rfl rfl hinX6 14 (Nat.le_of_ble_eq_true rfl) lkX6_43 rfl dX6_comesPiece_64 rfl ?_
      refine v_iload_n C dX6_comesPiece_67 rfl rfl rfl ?_
      refine v_iconst (v := 2) C dX6_comesPiece_68 (by decide) rfl ?_
      refine v_iadd C dX6_comesPiece_69 rfl ?_
      refine V.tp (nI_add p 2) ?_
      refine v_iald (i := p + 2) C (Nat.le_of_ble_eq_true rfl) rfl rfl (by omega) (by decide) dX6_comesPiece_70 rfl ?_
      refine V.tp (by rw [h12τ54_2]) ?_
      refine v_iast (i := n) C (Nat.le_of_ble_eq_true rfl) rfl rfl (by omega) (by decide) dX6_comesPiece_71 rfl ?_
      refine V.nm (fun τ71_3 eτ71_3 => ?_)
      have hnτ71_3 : τ71_3 0 8 = nI n := by rw [eτ71_3, s2_ne (by decide)]; exact hnτ54_2
      have h12τ71_3 : τ71_3 12 = σ 12 := by rw [eτ71_3, s2_ne (by decide)]; exact h12τ54_2
      refine v_aload_n C dX6_comesPiece_72 rfl rfl rfl ?_
      refine v_getR C (Nat.le_of_ble_eq_true rfl) rfl rfl hinX6 6 (Nat.le_of_ble_eq_true rfl) lkX6_28 rfl dX6_comesPiece_73 rfl ?_
      refine v_aload_n C dX6_comesPiece_76 rfl rfl rfl ?_
      refine v_getI C (Nat.le_of_ble_eq_true rfl) rfl rfl hinX6 8 (Nat.le_of_ble_eq_true rfl) lkX6_65 rfl dX6_comesPiece_77 rfl ?_
      refine V.tp hnτ71_3 ?_
      refine v_aload_n C dX6_comesPiece_80 rfl rfl rfl ?_
      refine v_getR C (Nat.le_of_ble_eq_true rfl) rfl rfl hinX6 14 (Nat.le_of_ble_eq_true rfl) lkX6_43 rfl dX6_comesPiece_81 rfl ?_
      refine v_iload_n C dX6_comesPiece_84 rfl rfl rfl ?_
      refine v_iconst (v := 3) C dX6_comesPiece_85 (by decide) rfl ?_
      refine v_iadd C dX6_comesPiece_86 rfl ?_
      refine V.tp (nI_add p 3) ?_
      refine v_iald (i := p + 3) C (Nat.le_of_ble_eq_true rfl) rfl rfl (by omega) (by decide) dX6_comesPiece_87 rfl ?_
      refine V.tp (by rw [h12τ71_3]) ?_
      refine v_iast (i := n) C (Nat.le_of_ble_eq_true rfl) rfl rfl (by omega) (by decide) dX6_comesPiece_88 rfl ?_
      refine V.nm (fun τ88_4 eτ88_4 => ?_)
      have hnτ88_4 : τ88_4 0 8 = nI n := by rw [eτ88_4, s2_ne (by decide)]; exact hnτ71_3
      have h12τ88_4 : τ88_4 12 = σ 12 := by rw [eτ88_4, s2_ne (by decide)]; exact h12τ71_3
      refine v_aload_n C dX6_comesPiece_89 rfl rfl rfl ?_
      refine v_getR C (Nat.le_of_ble_eq_true rfl) rfl rfl hinX6 7 (Nat.le_of_ble_eq_true rfl) lkX6_31 rfl dX6_comesPiece_90 rfl ?_
      refine v_aload_n C dX6_comesPiece_93 rfl rfl rfl ?_
      refine v_getI C (Nat.le_of_ble_eq_true rfl) rfl rfl hinX6 8 (Nat.le_of_ble_eq_true rfl) lkX6_65 rfl dX6_comesPiece_94 rfl ?_
      refine V.tp hnτ88_4 ?_
      refine v_bipush (v := 9) C dX6_comesPiece_97 (by decide) rfl ?_
      refine v_iast (i := n) C (Nat.le_of_ble_eq_true rfl) rfl rfl (by omega) (by decide) dX6_comesPiece_99 rfl ?_
      refine V.nm (fun τ99_5 eτ99_5 => ?_)
      have hnτ99_5 : τ99_5 0 8 = nI n := by rw [eτ99_5, s2_ne (by decide)]; exact hnτ88_4
      have h12τ99_5 : τ99_5 12 = σ 12 := by rw [eτ99_5, s2_ne (by decide)]; exact h12τ88_4
      refine v_aload_n C dX6_comesPiece_100 rfl rfl rfl ?_
      refine v_dup C dX6_comesPiece_101 rfl rfl ?_
      refine v_getI C (Nat.le_of_ble_eq_true rfl) rfl rfl hinX6 8 (Nat.le_of_ble_eq_true rfl) lkX6_65 rfl dX6_comesPiece_102 rfl ?_
      refine V.tp hnτ99_5 ?_
      refine v_iconst (v := 1) C dX6_comesPiece_105 (by decide) rfl ?_
      refine v_iadd C dX6_comesPiece_106 rfl ?_
      refine V.tp (nI_add n 1) ?_
      refine v_put (ty := .int) C (Nat.le_of_ble_eq_true rfl) rfl rfl hinX6 tyX6_ok nmX6 8 (Nat.le_of_ble_eq_true rfl) lkX6_65 rfl (by decide +kernel) rfl rfl rfl dX6_comesPiece_107 rfl ?_
      refine V.nm (fun τ107_6 eτ107_6 => ?_)
      refine v_iconst (v := 1) C dX6_comesPiece_110 (by decide) rfl ?_
      exact v_zret C rfl dX6_comesPiece_111 (by rw [hX]; exact ⟨_, rfl, Or.inl ⟨rfl, ⟨c9, c18⟩, by rw [eτ107_6, eτ99_5, eτ88_4, eτ71_3, eτ54_2, eτ37_1]; rfl⟩⟩)
    · skip
      have c18 := (nI_eq (a := n) (b := 7) (by omega) (by omega)).mp c18
      refine v_iconst (v := 0) C dX6_comesPiece_21 (by decide) rfl ?_
      exact v_zret C rfl dX6_comesPiece_22 (by rw [hX]; exact ⟨_, rfl, Or.inr ⟨rfl, fun q => q.2 c18, rfl⟩⟩)
theorem kX6_comes (k n y : Nat) (σ : St) (hn : σ 0 8 = nI n) (h7 : n ≤ 7) (hk : k < 40) (hy : σ 0 10 = nI y) (hy9 : y ≤ 999) (hlet : letP (σ 10 k)) : Ct yX6_comes cX6_comes 4 (some .boolean) 2 [.ref 0, .int (nI k)] σ (rI (fun r τ => (r = 1 ∧ cmP σ n y (σ 10 k) (σ 12 (4 * k)) (σ 12 (4 * k + 1)) ∧ τ = cmS σ n (σ 10 k) (σ 12 (4 * k)) (σ 12 (4 * k + 1)) (σ 12 (4 * k + 2)) (σ 12 (4 * k + 3))) ∨ (r = 0 ∧ ¬ cmP σ n y (σ 10 k) (σ 12 (4 * k)) (σ 12 (4 * k + 1)) ∧ (τ = σ ∨ τ = s2 σ 0 9 (σ 12 (4 * k)))))) := by
  refine ct_of plX6 rfl (Nat.le_of_ble_eq_true rfl) (fun X hX C => ?_)
  show V X 0 [(0, .ref 0), (1, .int (nI k))] [] σ
  refine v_aload_n C dX6_comes_0 rfl rfl rfl ?_
  refine v_getR C (Nat.le_of_ble_eq_true rfl) rfl rfl hinX6 14 (Nat.le_of_ble_eq_true rfl) lkX6_43 rfl dX6_comes_1 rfl ?_
  refine v_iconst (v := 4) C dX6_comes_4 (by decide) rfl ?_
  refine v_iload_n C dX6_comes_5 rfl rfl rfl ?_
  refine v_imul C dX6_comes_6 rfl ?_
  refine V.tp (pk_mul 4 k) ?_
  refine v_iald (i := 4 * k) C (Nat.le_of_ble_eq_true rfl) rfl rfl (by omega) (by decide) dX6_comes_7 rfl ?_
  refine v_istore_n (lv' := [(2, .int (σ 12 (4 * k))), (0, .ref 0), (1, .int (nI k))]) C dX6_comes_8 rfl (Nat.le_of_ble_eq_true rfl) rfl rfl ?_
  refine v_aload_n C dX6_comes_9 rfl rfl rfl ?_
  refine v_getR C (Nat.le_of_ble_eq_true rfl) rfl rfl hinX6 14 (Nat.le_of_ble_eq_true rfl) lkX6_43 rfl dX6_comes_10 rfl ?_
  refine v_iconst (v := 4) C dX6_comes_13 (by decide) rfl ?_
  refine v_iload_n C dX6_comes_14 rfl rfl rfl ?_
  refine v_imul C dX6_comes_15 rfl ?_
  refine V.tp (pk_mul 4 k) ?_
  refine v_iconst (v := 1) C dX6_comes_16 (by decide) rfl ?_
  refine v_iadd C dX6_comes_17 rfl ?_
  refine V.tp (nI_add (4 * k) 1) ?_
  refine v_iald (i := (4 * k) + 1) C (Nat.le_of_ble_eq_true rfl) rfl rfl (by omega) (by decide) dX6_comes_18 rfl ?_
  refine v_istore_n (lv' := [(3, .int (σ 12 ((4 * k) + 1))), (2, .int (σ 12 (4 * k))), (0, .ref 0), (1, .int (nI k))]) C dX6_comes_19 rfl (Nat.le_of_ble_eq_true rfl) rfl rfl ?_
  refine v_aload_n C dX6_comes_20 rfl rfl rfl ?_
  refine v_getR C (Nat.le_of_ble_eq_true rfl) rfl rfl hinX6 12 (Nat.le_of_ble_eq_true rfl) lkX6_37 rfl dX6_comes_21 rfl ?_
  refine v_iload_n C dX6_comes_24 rfl rfl rfl ?_
  refine v_iald (i := k) C (Nat.le_of_ble_eq_true rfl) rfl rfl (by omega) (by decide) dX6_comes_25 rfl ?_
  by_cases s26_105 : σ 10 k = 105
  · refine V.tp s26_105 ?_
    refine v_tableIn (off := 86) (tgt := 112) C dX6_comes_26 (by decide) (by decide) rfl (by decide) ?_
    refine v_aload_n C dX6_comes_112 rfl rfl rfl ?_
    refine v_iconst (v := 4) C dX6_comes_113 (by decide) rfl ?_
    refine v_iload_n C dX6_comes_114 rfl rfl rfl ?_
    refine v_imul C dX6_comes_115 rfl ?_
    refine V.tp (pk_mul 4 k) ?_
    refine v_callV C (Nat.le_of_ble_eq_true rfl) rfl rfl (As := [.int (nI (4 * k))]) (rest := []) (kX6_comesPiece (4 * k) n σ hn h7 (by omega)) rfl (Nat.le_of_ble_eq_true rfl) (Nat.le_of_ble_eq_true rfl) ⟨mlX6_113, mfX6_comesPiece⟩ dkX6_comesPiece (Nat.le_of_ble_eq_true rfl) dX6_comes_116 rfl (krI (fun r119_1 τ119_1 h119_1 => ?_))
    have hnar : narrow .boolean (.int r119_1) = .int r119_1 := h119_1.elim (fun q => by rw [q.1]; rfl) (fun q => by rw [q.1]; rfl)
    exact v_zret C hnar dX6_comes_119 (by rw [hX]; exact ⟨_, rfl, h119_1.elim (fun q => Or.inl ⟨q.1, (show cmP σ n y (σ 10 k) (σ 12 (4 * k)) (σ 12 (4 * k + 1)) by rw [cmP, if_pos s26_105]; exact q.2.1), by rw [cmS, if_pos s26_105]; exact q.2.2⟩) (fun q => Or.inr ⟨q.1, fun z => q.2.1 (by rw [cmP, if_pos s26_105] at z; exact z), Or.inl q.2.2⟩)⟩)
  by_cases s26_109 : σ 10 k = 109
  · refine V.tp s26_109 ?_
    refine v_tableIn (off := 94) (tgt := 120) C dX6_comes_26 (by decide) (by decide) rfl (by decide) ?_
    refine v_aload_n C dX6_comes_120 rfl rfl rfl ?_
    refine v_iload_n C dX6_comes_121 rfl rfl rfl ?_
    refine v_callV C (Nat.le_of_ble_eq_true rfl) rfl rfl (As := [.int (σ 12 (4 * k))]) (rest := []) (kX6_isPiece (σ 12 (4 * k)) σ) rfl (Nat.le_of_ble_eq_true rfl) (Nat.le_of_ble_eq_true rfl) ⟨mlX6_116, mfX6_isPiece⟩ dkX6_isPiece (Nat.le_of_ble_eq_true rfl) dX6_comes_122 rfl (kI ?_)
    refine v_if_eq (tgt := 144) C dX6_comes_125 (by decide) rfl (fun c125 => ?_) (fun c125 => ?_)
    · skip
      have c125 := bI_0 c125
      refine v_iconst (v := 0) C dX6_comes_144 (by decide) rfl ?_
      exact v_zret C rfl dX6_comes_145 (by rw [hX]; exact ⟨_, rfl, Or.inr ⟨rfl, fun z => by rw [cmP, if_neg s26_105, if_pos s26_109] at z; exact c125 (hn.symm ▸ z.1), Or.inl rfl⟩⟩)
    · skip
      have c125 := bI_n c125
      have hp1 : (σ 12 (4 * k)) = nI (tn (σ 12 (4 * k))) := (piece_nat h7 (hn ▸ c125)).1
      have hp2 : tn (σ 12 (4 * k)) < n := (piece_nat h7 (hn ▸ c125)).2
      refine v_iload_n C dX6_comes_128 rfl rfl rfl ?_
      refine v_callS C (As := [.int (σ 12 ((4 * k) + 1))]) (rest := []) (kX6_isPlace (σ 12 ((4 * k) + 1)) σ) rfl (Nat.le_of_ble_eq_true rfl) (Nat.le_of_ble_eq_true rfl) ⟨mlX6_119, mfX6_isPlace⟩ dkX6_isPlace (Nat.le_of_ble_eq_true rfl) dX6_comes_129 rfl (kI ?_)
      refine v_if_eq (tgt := 144) C dX6_comes_132 (by decide) rfl (fun c132 => ?_) (fun c132 => ?_)
      · skip
        have c132 := bI_0 c132
        refine v_iconst (v := 0) C dX6_comes_144 (by decide) rfl ?_
        exact v_zret C rfl dX6_comes_145 (by rw [hX]; exact ⟨_, rfl, Or.inr ⟨rfl, fun z => by rw [cmP, if_neg s26_105, if_pos s26_109] at z; exact c132 z.2.1, Or.inl rfl⟩⟩)
      · skip
        have c132 := bI_n c132
        have hr : placeP (σ 12 (4 * k + 1)) := c132
        refine v_aload_n C dX6_comes_135 rfl rfl rfl ?_
        refine v_iload_n C dX6_comes_136 rfl rfl rfl ?_
        refine V.tp hp1 ?_
        refine v_iload_n C dX6_comes_137 rfl rfl rfl ?_
        refine v_callV C (Nat.le_of_ble_eq_true rfl) rfl rfl (As := [.int (nI (tn (σ 12 (4 * k)))), .int (σ 12 ((4 * k) + 1))]) (rest := []) (kX6_canCarry n (tn (σ 12 (4 * k))) (σ 12 (4 * k + 1)) σ hn h7 hp2 hr) rfl (Nat.le_of_ble_eq_true rfl) (Nat.le_of_ble_eq_true rfl) ⟨mlX6_122, mfX6_canCarry⟩ dkX6_canCarry (Nat.le_of_ble_eq_true rfl) dX6_comes_138 rfl (kI ?_)
        refine v_if_ne (tgt := 146) C dX6_comes_141 (by decide) rfl (fun c141 => ?_) (fun c141 => ?_)
        · skip
          have c141 := bI_n c141
          refine v_aload_n C dX6_comes_146 rfl rfl rfl ?_
          refine v_getR C (Nat.le_of_ble_eq_true rfl) rfl rfl hinX6 7 (Nat.le_of_ble_eq_true rfl) lkX6_31 rfl dX6_comes_147 rfl ?_
          refine v_iload_n C dX6_comes_150 rfl rfl rfl ?_
          refine V.tp hp1 ?_
          refine v_iload_n C dX6_comes_151 rfl rfl rfl ?_
          refine v_iast (i := tn (σ 12 (4 * k))) C (Nat.le_of_ble_eq_true rfl) rfl rfl (by omega) (by decide) dX6_comes_152 rfl ?_
          refine V.nm (fun τ152_2 eτ152_2 => ?_)
          refine v_iconst (v := 1) C dX6_comes_153 (by decide) rfl ?_
          exact v_zret C rfl dX6_comes_154 (by rw [hX]; exact ⟨_, rfl, Or.inl ⟨rfl, (show cmP σ n y (σ 10 k) (σ 12 (4 * k)) (σ 12 (4 * k + 1)) by rw [cmP, if_neg s26_105, if_pos s26_109]; exact ⟨hn ▸ c125, c132, c141⟩), by rw [eτ152_2, cmS, if_neg s26_105, if_pos s26_109]⟩⟩)
        · skip
          have c141 := bI_0 c141
          refine v_iconst (v := 0) C dX6_comes_144 (by decide) rfl ?_
          exact v_zret C rfl dX6_comes_145 (by rw [hX]; exact ⟨_, rfl, Or.inr ⟨rfl, fun z => by rw [cmP, if_neg s26_105, if_pos s26_109] at z; exact c141 z.2.2, Or.inl rfl⟩⟩)
  by_cases s26_115 : σ 10 k = 115
  · refine V.tp s26_115 ?_
    refine v_tableIn (off := 129) (tgt := 155) C dX6_comes_26 (by decide) (by decide) rfl (by decide) ?_
    refine v_iload_n C dX6_comes_155 rfl rfl rfl ?_
    refine v_iconst (v := 1) C dX6_comes_156 (by decide) rfl ?_
    refine v_iconst (v := 2) C dX6_comes_157 (by decide) rfl ?_
    refine v_callS C (As := [.int (σ 12 (4 * k)), .int 1, .int 2]) (rest := []) (kX6_isIn (σ 12 (4 * k)) 1 2 σ) rfl (Nat.le_of_ble_eq_true rfl) (Nat.le_of_ble_eq_true rfl) ⟨mlX6_90, mfX6_isIn⟩ dkX6_isIn (Nat.le_of_ble_eq_true rfl) dX6_comes_158 rfl (kI ?_)
    refine v_if_ne (tgt := 166) C dX6_comes_161 (by decide) rfl (fun c161 => ?_) (fun c161 => ?_)
    · skip
      have c161 := bI_n c161
      have hv1 := (nat_of (v := (σ 12 (4 * k))) (a := 1) (b := 2) (by decide) (by decide) c161.1 c161.2)
      have hv2 := hv1.2
      refine v_aload_n C dX6_comes_166 rfl rfl rfl ?_
      refine v_getR C (Nat.le_of_ble_eq_true rfl) rfl rfl hinX6 2 (Nat.le_of_ble_eq_true rfl) lkX6_16 rfl dX6_comes_167 rfl ?_
      refine v_iload_n C dX6_comes_170 rfl rfl rfl ?_
      refine V.tp hv1.1 ?_
      refine v_iload_n C dX6_comes_171 rfl rfl rfl ?_
      refine v_iast (i := tn (σ 12 (4 * k))) C (Nat.le_of_ble_eq_true rfl) rfl rfl (by omega) (by decide) dX6_comes_172 rfl ?_
      refine V.nm (fun τ172_3 eτ172_3 => ?_)
      refine v_iconst (v := 1) C dX6_comes_173 (by decide) rfl ?_
      exact v_zret C rfl dX6_comes_174 (by rw [hX]; exact ⟨_, rfl, Or.inl ⟨rfl, (show cmP σ n y (σ 10 k) (σ 12 (4 * k)) (σ 12 (4 * k + 1)) by rw [cmP, if_neg s26_105, if_neg s26_109, if_pos s26_115]; exact c161), by rw [eτ172_3, cmS, if_neg s26_105, if_neg s26_109, if_pos s26_115]⟩⟩)
    · skip
      have c161 := bI_0 c161
      refine v_iconst (v := 0) C dX6_comes_164 (by decide) rfl ?_
      exact v_zret C rfl dX6_comes_165 (by rw [hX]; exact ⟨_, rfl, Or.inr ⟨rfl, fun z => by rw [cmP, if_neg s26_105, if_neg s26_109, if_pos s26_115] at z; exact c161 z, Or.inl rfl⟩⟩)
  by_cases s26_114 : σ 10 k = 114
  · refine V.tp s26_114 ?_
    refine v_tableIn (off := 149) (tgt := 175) C dX6_comes_26 (by decide) (by decide) rfl (by decide) ?_
    refine v_iload_n C dX6_comes_175 rfl rfl rfl ?_
    refine v_callS C (As := [.int (σ 12 (4 * k))]) (rest := []) (kX6_isRoom (σ 12 (4 * k)) σ) rfl (Nat.le_of_ble_eq_true rfl) (Nat.le_of_ble_eq_true rfl) ⟨mlX6_68, mfX6_isRoom⟩ dkX6_isRoom (Nat.le_of_ble_eq_true rfl) dX6_comes_176 rfl (kI ?_)
    refine v_if_eq (tgt := 197) C dX6_comes_179 (by decide) rfl (fun c179 => ?_) (fun c179 => ?_)
    · skip
      have c179 := bI_0 c179
      refine v_iconst (v := 0) C dX6_comes_197 (by decide) rfl ?_
      exact v_zret C rfl dX6_comes_198 (by rw [hX]; exact ⟨_, rfl, Or.inr ⟨rfl, fun z => by rw [cmP, if_neg s26_105, if_neg s26_109, if_neg s26_115, if_pos s26_114] at z; exact c179 z.1, Or.inl rfl⟩⟩)
    · skip
      have c179 := bI_n c179
      have hrm : roomP (σ 12 (4 * k)) := c179
      refine v_iload_n C dX6_comes_182 rfl rfl rfl ?_
      refine v_bipush (v := 20) C dX6_comes_183 (by decide) rfl ?_
      refine v_icmp_gt (tgt := 197) C dX6_comes_185 (by decide) rfl (fun c185 => ?_) (fun c185 => ?_)
      · skip
        refine v_iconst (v := 0) C dX6_comes_197 (by decide) rfl ?_
        exact v_zret C rfl dX6_comes_198 (by rw [hX]; exact ⟨_, rfl, Or.inr ⟨rfl, fun z => by rw [cmP, if_neg s26_105, if_neg s26_109, if_neg s26_115, if_pos s26_114] at z; exact z.2.1 c185, Or.inl rfl⟩⟩)
      · skip
        refine v_iload_n C dX6_comes_188 rfl rfl rfl ?_
        refine v_aload_n C dX6_comes_189 rfl rfl rfl ?_
        refine v_iload_n C dX6_comes_190 rfl rfl rfl ?_
        refine v_callV C (Nat.le_of_ble_eq_true rfl) rfl rfl (As := [.int (σ 12 (4 * k))]) (rest := [.int (σ 12 ((4 * k) + 1))]) (kX6_bulkIn n (σ 12 (4 * k)) σ hn h7) rfl (Nat.le_of_ble_eq_true rfl) (Nat.le_of_ble_eq_true rfl) ⟨mlX6_125, mfX6_bulkIn⟩ dkX6_bulkIn (Nat.le_of_ble_eq_true rfl) dX6_comes_191 rfl (kI ?_)
        refine v_icmp_ge (tgt := 199) C dX6_comes_194 (by decide) rfl (fun c194 => ?_) (fun c194 => ?_)
        · skip
          refine v_aload_n C dX6_comes_199 rfl rfl rfl ?_
          refine v_getR C (Nat.le_of_ble_eq_true rfl) rfl rfl hinX6 1 (Nat.le_of_ble_eq_true rfl) lkX6_13 rfl dX6_comes_200 rfl ?_
          refine v_iload_n C dX6_comes_203 rfl rfl rfl ?_
          refine v_iload_n C dX6_comes_204 rfl rfl rfl ?_
          refine v_iast (i := (tn (σ 12 (4 * k)))) C (Nat.le_of_ble_eq_true rfl) rfl (room_nat hrm).1 (room_nat hrm).2 (by decide) dX6_comes_205 rfl ?_
          refine V.nm (fun τ205_4 eτ205_4 => ?_)
          refine v_iconst (v := 1) C dX6_comes_206 (by decide) rfl ?_
          exact v_zret C rfl dX6_comes_207 (by rw [hX]; exact ⟨_, rfl, Or.inl ⟨rfl, (show cmP σ n y (σ 10 k) (σ 12 (4 * k)) (σ 12 (4 * k + 1)) by rw [cmP, if_neg s26_105, if_neg s26_109, if_neg s26_115, if_pos s26_114]; exact ⟨c179, c185, c194⟩), by rw [eτ205_4, cmS, if_neg s26_105, if_neg s26_109, if_neg s26_115, if_pos s26_114]⟩⟩)
        · skip
          refine v_iconst (v := 0) C dX6_comes_197 (by decide) rfl ?_
          exact v_zret C rfl dX6_comes_198 (by rw [hX]; exact ⟨_, rfl, Or.inr ⟨rfl, fun z => by rw [cmP, if_neg s26_105, if_neg s26_109, if_neg s26_115, if_pos s26_114] at z; exact z.2.2 c194, Or.inl rfl⟩⟩)
  by_cases s26_121 : σ 10 k = 121
  · refine V.tp s26_121 ?_
    refine v_tableIn (off := 182) (tgt := 208) C dX6_comes_26 (by decide) (by decide) rfl (by decide) ?_
    refine v_iload_n C dX6_comes_208 rfl rfl rfl ?_
    refine v_iconst (v := 1) C dX6_comes_209 (by decide) rfl ?_
    refine v_bipush (v := 60) C dX6_comes_210 (by decide) rfl ?_
    refine v_callS C (As := [.int (σ 12 (4 * k)), .int 1, .int 60]) (rest := []) (kX6_isIn (σ 12 (4 * k)) 1 60 σ) rfl (Nat.le_of_ble_eq_true rfl) (Nat.le_of_ble_eq_true rfl) ⟨mlX6_90, mfX6_isIn⟩ dkX6_isIn (Nat.le_of_ble_eq_true rfl) dX6_comes_212 rfl (kI ?_)
    refine v_if_eq (tgt := 230) C dX6_comes_215 (by decide) rfl (fun c215 => ?_) (fun c215 => ?_)
    · skip
      have c215 := bI_0 c215
      refine v_iconst (v := 0) C dX6_comes_230 (by decide) rfl ?_
      exact v_zret C rfl dX6_comes_231 (by rw [hX]; exact ⟨_, rfl, Or.inr ⟨rfl, fun z => by rw [cmP, if_neg s26_105, if_neg s26_109, if_neg s26_115, if_neg s26_114, if_pos s26_121] at z; exact c215 z.1, Or.inl rfl⟩⟩)
    · skip
      have c215 := bI_n c215
      have hv1 := (nat_of (v := (σ 12 (4 * k))) (a := 1) (b := 60) (by decide) (by decide) c215.1 c215.2)
      have hv2 := hv1.2
      refine v_aload_n C dX6_comes_218 rfl rfl rfl ?_
      refine v_getI C (Nat.le_of_ble_eq_true rfl) rfl rfl hinX6 10 (Nat.le_of_ble_eq_true rfl) lkX6_128 rfl dX6_comes_219 rfl ?_
      refine V.tp hy ?_
      refine v_iload_n C dX6_comes_222 rfl rfl rfl ?_
      refine V.tp hv1.1 ?_
      refine v_iadd C dX6_comes_223 rfl ?_
      refine V.tp (nI_add y (tn (σ 12 (4 * k)))) ?_
      refine v_sipush (v := 999) C dX6_comes_224 (by decide) rfl ?_
      refine v_icmp_le (tgt := 232) C dX6_comes_227 (by decide) rfl (fun c227 => ?_) (fun c227 => ?_)
      · skip
        have c227 := mt (nI_ltI (a := 999) (b := (y + (tn (σ 12 (4 * k))))) (by omega) (by omega)).mpr c227
        refine v_aload_n C dX6_comes_232 rfl rfl rfl ?_
        refine v_iload_n C dX6_comes_233 rfl rfl rfl ?_
        refine V.tp hv1.1 ?_
        refine v_callV C (Nat.le_of_ble_eq_true rfl) rfl rfl (As := [.int (nI (tn (σ 12 (4 * k))))]) (rest := []) (kX6_goes n (tn (σ 12 (4 * k))) σ hn h7 (by omega)) rfl (Nat.le_of_ble_eq_true rfl) (Nat.le_of_ble_eq_true rfl) ⟨mlX6_131, mfX6_goes⟩ dkX6_goes (Nat.le_of_ble_eq_true rfl) dX6_comes_234 rfl (kV ?_)
        refine v_iconst (v := 1) C dX6_comes_237 (by decide) rfl ?_
        exact v_zret C rfl dX6_comes_238 (by rw [hX]; exact ⟨_, rfl, Or.inl ⟨rfl, (show cmP σ n y (σ 10 k) (σ 12 (4 * k)) (σ 12 (4 * k + 1)) by rw [cmP, if_neg s26_105, if_neg s26_109, if_neg s26_115, if_neg s26_114, if_pos s26_121]; exact ⟨c215, c227⟩), by rw [cmS, if_neg s26_105, if_neg s26_109, if_neg s26_115, if_neg s26_114, if_pos s26_121]⟩⟩)
      · skip
        have c227 := (nI_ltI (a := 999) (b := (y + (tn (σ 12 (4 * k))))) (by omega) (by omega)).mp c227
        refine v_iconst (v := 0) C dX6_comes_230 (by decide) rfl ?_
        exact v_zret C rfl dX6_comes_231 (by rw [hX]; exact ⟨_, rfl, Or.inr ⟨rfl, fun z => by rw [cmP, if_neg s26_105, if_neg s26_109, if_neg s26_115, if_neg s26_114, if_pos s26_121] at z; exact z.2 c227, Or.inl rfl⟩⟩)
  by_cases s26_104 : σ 10 k = 104
  · refine V.tp s26_104 ?_
    refine v_tableIn (off := 213) (tgt := 239) C dX6_comes_26 (by decide) (by decide) rfl (by decide) ?_
    refine v_aload_n C dX6_comes_239 rfl rfl rfl ?_
    refine v_iload_n C dX6_comes_240 rfl rfl rfl ?_
    refine v_put (ty := .int) C (Nat.le_of_ble_eq_true rfl) rfl rfl hinX6 tyX6_ok nmX6 9 (Nat.le_of_ble_eq_true rfl) lkX6_61 rfl (by decide +kernel) rfl rfl rfl dX6_comes_241 rfl ?_
    refine V.nm (fun τ241_5 eτ241_5 => ?_)
    refine v_iload_n C dX6_comes_244 rfl rfl rfl ?_
    refine v_iconst (v := 2) C dX6_comes_245 (by decide) rfl ?_
    refine v_iconst (v := 4) C dX6_comes_246 (by decide) rfl ?_
    refine v_callS C (As := [.int (σ 12 (4 * k)), .int 2, .int 4]) (rest := []) (kX6_isIn (σ 12 (4 * k)) 2 4 τ241_5) rfl (Nat.le_of_ble_eq_true rfl) (Nat.le_of_ble_eq_true rfl) ⟨mlX6_90, mfX6_isIn⟩ dkX6_isIn (Nat.le_of_ble_eq_true rfl) dX6_comes_247 rfl (kI ?_)
    exact v_zret C bI_nar dX6_comes_250 (by rw [hX]; exact ⟨_, rfl, (Classical.em (isInP (σ 12 (4 * k)) 2 4)).elim (fun q => Or.inl ⟨(bI_t q).symm, (show cmP σ n y (σ 10 k) (σ 12 (4 * k)) (σ 12 (4 * k + 1)) by rw [cmP, if_neg s26_105, if_neg s26_109, if_neg s26_115, if_neg s26_114, if_neg s26_121, if_pos s26_104]; exact q), by rw [eτ241_5, cmS, if_neg s26_105, if_neg s26_109, if_neg s26_115, if_neg s26_114, if_neg s26_121, if_pos s26_104]⟩) (fun q => Or.inr ⟨(bI_f q).symm, fun z => q (by rw [cmP, if_neg s26_105, if_neg s26_109, if_neg s26_115, if_neg s26_114, if_neg s26_121, if_pos s26_104] at z; exact z), Or.inr eτ241_5⟩)⟩)
  by_cases s26_112 : σ 10 k = 112
  · refine V.tp s26_112 ?_
    refine v_tableIn (off := 225) (tgt := 251) C dX6_comes_26 (by decide) (by decide) rfl (by decide) ?_
    refine v_aload_n C dX6_comes_251 rfl rfl rfl ?_
    refine v_iload_n C dX6_comes_252 rfl rfl rfl ?_
    refine v_callV C (Nat.le_of_ble_eq_true rfl) rfl rfl (As := [.int (σ 12 (4 * k))]) (rest := []) (kX6_isPiece (σ 12 (4 * k)) σ) rfl (Nat.le_of_ble_eq_true rfl) (Nat.le_of_ble_eq_true rfl) ⟨mlX6_116, mfX6_isPiece⟩ dkX6_isPiece (Nat.le_of_ble_eq_true rfl) dX6_comes_253 rfl (kI ?_)
    refine v_if_eq (tgt := 270) C dX6_comes_256 (by decide) rfl (fun c256 => ?_) (fun c256 => ?_)
    · skip
      have c256 := bI_0 c256
      refine v_iconst (v := 0) C dX6_comes_270 (by decide) rfl ?_
      exact v_zret C rfl dX6_comes_271 (by rw [hX]; exact ⟨_, rfl, Or.inr ⟨rfl, fun z => by rw [cmP, if_neg s26_105, if_neg s26_109, if_neg s26_115, if_neg s26_114, if_neg s26_121, if_neg s26_104] at z; exact c256 (hn.symm ▸ z.1), Or.inl rfl⟩⟩)
    · skip
      have c256 := bI_n c256
      have hp1 : (σ 12 (4 * k)) = nI (tn (σ 12 (4 * k))) := (piece_nat h7 (hn ▸ c256)).1
      have hp2 : tn (σ 12 (4 * k)) < n := (piece_nat h7 (hn ▸ c256)).2
      refine v_aload_n C dX6_comes_259 rfl rfl rfl ?_
      refine v_getR C (Nat.le_of_ble_eq_true rfl) rfl rfl hinX6 5 (Nat.le_of_ble_eq_true rfl) lkX6_25 rfl dX6_comes_260 rfl ?_
      refine v_iload_n C dX6_comes_263 rfl rfl rfl ?_
      refine V.tp hp1 ?_
      refine v_iald (i := tn (σ 12 (4 * k))) C (Nat.le_of_ble_eq_true rfl) rfl rfl (by omega) (by decide) dX6_comes_264 rfl ?_
      refine v_bipush (v := 9) C dX6_comes_265 (by decide) rfl ?_
      refine v_icmp_ne (tgt := 272) C dX6_comes_267 (by decide) rfl (fun c267 => ?_) (fun c267 => ?_)
      · skip
        refine v_aload_n C dX6_comes_272 rfl rfl rfl ?_
        refine v_getR C (Nat.le_of_ble_eq_true rfl) rfl rfl hinX6 5 (Nat.le_of_ble_eq_true rfl) lkX6_25 rfl dX6_comes_273 rfl ?_
        refine v_iload_n C dX6_comes_276 rfl rfl rfl ?_
        refine V.tp hp1 ?_
        refine v_dup2 C dX6_comes_277 rfl rfl rfl ?_
        refine v_iald (i := tn (σ 12 (4 * k))) C (Nat.le_of_ble_eq_true rfl) rfl rfl (by omega) (by decide) dX6_comes_278 rfl ?_
        refine v_iconst (v := 1) C dX6_comes_279 (by decide) rfl ?_
        refine v_iadd C dX6_comes_280 rfl ?_
        refine v_iast (i := tn (σ 12 (4 * k))) C (Nat.le_of_ble_eq_true rfl) rfl rfl (by omega) (by decide) dX6_comes_281 rfl ?_
        refine V.nm (fun τ281_6 eτ281_6 => ?_)
        refine v_iconst (v := 1) C dX6_comes_282 (by decide) rfl ?_
        exact v_zret C rfl dX6_comes_283 (by rw [hX]; exact ⟨_, rfl, Or.inl ⟨rfl, (show cmP σ n y (σ 10 k) (σ 12 (4 * k)) (σ 12 (4 * k + 1)) by rw [cmP, if_neg s26_105, if_neg s26_109, if_neg s26_115, if_neg s26_114, if_neg s26_121, if_neg s26_104]; exact ⟨hn ▸ c256, c267⟩), by rw [eτ281_6, cmS, if_neg s26_105, if_neg s26_109, if_neg s26_115, if_neg s26_114, if_neg s26_121, if_neg s26_104]⟩⟩)
      · skip
        refine v_iconst (v := 0) C dX6_comes_270 (by decide) rfl ?_
        exact v_zret C rfl dX6_comes_271 (by rw [hX]; exact ⟨_, rfl, Or.inr ⟨rfl, fun z => by rw [cmP, if_neg s26_105, if_neg s26_109, if_neg s26_115, if_neg s26_114, if_neg s26_121, if_neg s26_104] at z; exact z.2 c267, Or.inl rfl⟩⟩)
  exact absurd hlet (by simp [letP, s26_105, s26_109, s26_115, s26_114, s26_121, s26_104, s26_112])
