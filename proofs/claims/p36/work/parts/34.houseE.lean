/-! the class: years go by, a piece goes, a copy, a piece comes -/
theorem kX0_letYearsGoBy (v : Int32) (y : Nat) (h n : Nat) (hh : isH h) (σ : St) (hn : σ h 7 = nI n) (h7 : n ≤ 7) (hy : σ h 9 = nI y) (hy9 : y ≤ 999) : Ct yX0_letYearsGoBy cX0_letYearsGoBy 4 (some .int) 2 [.ref h, .int v] σ (fI (hYeaA σ h n y v) (hYeaS σ h n y v)) := by
  refine ct_of plX0 rfl (Nat.le_of_ble_eq_true rfl) (fun X hX C => ?_)
  show V X 0 [(0, .ref h), (1, .int v)] [] σ
  refine v_iload_n C dX0_letYearsGoBy_0 rfl rfl rfl ?_
  refine v_iconst (v := 1) C dX0_letYearsGoBy_1 (by decide) rfl ?_
  refine v_bipush (v := 60) C dX0_letYearsGoBy_2 (by decide) rfl ?_
  refine v_sipush (v := 999) C dX0_letYearsGoBy_4 (by decide) rfl ?_
  refine v_aload_n C dX0_letYearsGoBy_7 rfl rfl rfl ?_
  refine v_getI C hh.l0 hh.s0 rfl hinX0 9 (Nat.le_of_ble_eq_true rfl) lkX0_40 rfl dX0_letYearsGoBy_8 rfl ?_
  refine V.tp hy ?_
  refine v_isub C dX0_letYearsGoBy_11 rfl ?_
  refine V.tp (pk_sub (a := 999) (b := y) (by omega)) ?_
  refine v_mmin C (Nat.le_of_ble_eq_true rfl) maX0_91 (Nat.le_of_ble_eq_true rfl) dX0_letYearsGoBy_12 rfl ?_
  refine v_callSN C (As := [.int v, .int 1, .int (minI 60 (nI (999 - y)))]) (rest := []) (kX5_refusalOutside v 1 (minI 60 (nI (999 - y))) σ) rfl (Nat.le_of_ble_eq_true rfl) (Nat.le_of_ble_eq_true rfl) ⟨mlX0_106, mfX5_refusalOutside⟩ dkX5_refusalOutside (Nat.le_of_ble_eq_true rfl) dX0_letYearsGoBy_15 rfl (kI ?_)
  rcases bnd_cases v 1 (minI 60 (nI (999 - y))) with ⟨hb, q1⟩ | ⟨hb, q1, q2⟩ | ⟨hb, q1, q2⟩
  · refine V.tp hb ?_
    refine v_istore_n (lv' := [(2, .int (-4)), (0, .ref h), (1, .int v)]) C dX0_letYearsGoBy_18 rfl (Nat.le_of_ble_eq_true rfl) rfl rfl ?_
    refine v_iload_n C dX0_letYearsGoBy_19 rfl rfl rfl ?_
    refine v_if_eq (tgt := 25) C dX0_letYearsGoBy_20 (by decide) rfl (fun q => absurd q (by decide)) (fun _ => ?_)
    refine v_iload_n C dX0_letYearsGoBy_23 rfl rfl rfl ?_
    exact v_iret C dX0_letYearsGoBy_24 (by rw [hX]; exact fI_of (by simp [hYeaA, q1]) (by simp [hYeaS, q1]))
  · refine V.tp hb ?_
    refine v_istore_n (lv' := [(2, .int (-6)), (0, .ref h), (1, .int v)]) C dX0_letYearsGoBy_18 rfl (Nat.le_of_ble_eq_true rfl) rfl rfl ?_
    refine v_iload_n C dX0_letYearsGoBy_19 rfl rfl rfl ?_
    refine v_if_eq (tgt := 25) C dX0_letYearsGoBy_20 (by decide) rfl (fun q => absurd q (by decide)) (fun _ => ?_)
    refine v_iload_n C dX0_letYearsGoBy_23 rfl rfl rfl ?_
    exact v_iret C dX0_letYearsGoBy_24 (by rw [hX]; exact fI_of (by simp [hYeaA, q1, q2]) (by simp [hYeaS, q1, q2]))
  · refine V.tp hb ?_
    refine v_istore_n (lv' := [(2, .int 0), (0, .ref h), (1, .int v)]) C dX0_letYearsGoBy_18 rfl (Nat.le_of_ble_eq_true rfl) rfl rfl ?_
    refine v_iload_n C dX0_letYearsGoBy_19 rfl rfl rfl ?_
    refine v_if_eq (tgt := 25) C dX0_letYearsGoBy_20 (by decide) rfl (fun _ => ?_) (fun q => absurd q (by decide))
    have hv1 := min_60 q1 q2
    have hv2 := hv1.2.2
    refine v_iconst (v := 0) C dX0_letYearsGoBy_25 (by decide) rfl ?_
    refine v_istore_n (lv' := [(3, .int 0), (2, .int 0), (0, .ref h), (1, .int v)]) C dX0_letYearsGoBy_26 rfl (Nat.le_of_ble_eq_true rfl) rfl rfl ?_
    have lp27 : ∀ (kf i : Nat)  (τ : St), (tn v) < i + kf → i ≤ (tn v) → τ = hYrs σ h n i → V X 27 [(3, .int (nI i)), (2, .int 0), (0, .ref h), (1, .int v)] [] τ := by
      intro kf
      induction kf with
      | zero => intro i  τ h1 h2; omega
      | succ kf ih27 =>
        intro i  τ h1 h2  eτ
        have hnτ : τ h 7 = nI n := by rw [eτ, hYrs_z _ _ _ _ (by decide)]; exact hn
        refine v_iload_n C dX0_letYearsGoBy_27 rfl rfl rfl ?_
        refine v_iload_n C dX0_letYearsGoBy_28 rfl rfl rfl ?_
        refine V.tp hv1.1 ?_
        refine v_icmp_ge (tgt := 42) C dX0_letYearsGoBy_29 (by decide) rfl (fun c29 => ?_) (fun c29 => ?_)
        · skip
          have c29 := mt (nI_ltI (a := i) (b := (tn v)) (by omega) (by omega)).mpr c29
          refine v_aload_n C dX0_letYearsGoBy_42 rfl rfl rfl ?_
          refine v_getI C hh.l0 hh.s0 rfl hinX0 9 (Nat.le_of_ble_eq_true rfl) lkX0_40 rfl dX0_letYearsGoBy_43 rfl ?_
          exact v_iret C dX0_letYearsGoBy_46 (by rw [hX]; exact fI_of (by simp only [hYeaA, if_neg q1, if_neg q2]; rw [eτ, show i = tn v from by omega]) (by simp only [hYeaS, if_neg q1, if_neg q2]; rw [eτ, show i = tn v from by omega]))
        · skip
          have c29 := (nI_ltI (a := i) (b := (tn v)) (by omega) (by omega)).mp c29
          refine v_aload_n C dX0_letYearsGoBy_32 rfl rfl rfl ?_
          refine v_callV C hh.l0 hh.s0 rfl (As := []) (rest := []) (kX0_passYear h n hh τ hnτ h7) rfl (Nat.le_of_ble_eq_true rfl) (Nat.le_of_ble_eq_true rfl) ⟨mlX0_113, mfX0_passYear⟩ dkX0_passYear (Nat.le_of_ble_eq_true rfl) dX0_letYearsGoBy_33 rfl (kV ?_)
          refine v_iinc (lv' := [(3, .int (nI (i + 1))), (2, .int 0), (0, .ref h), (1, .int v)]) C dX0_letYearsGoBy_36 rfl (nI_inc i) (Nat.le_of_ble_eq_true rfl) rfl rfl ?_
          refine v_goto (tgt := 27) C dX0_letYearsGoBy_39 (by decide) ?_
          exact V.sub [0, 1, 2, 3] rfl (ih27 (i + 1)  _ (by omega) (by omega)  (by rw [eτ]; rfl))
    exact V.sub [0, 1, 2, 3] rfl (lp27 ((tn v) + 1) 0  _ (by omega) (by omega)  (rfl))
theorem kX0_removePiece (p : Nat) (h n : Nat) (hh : isH h) (σ : St) (hn : σ h 7 = nI n) (h7 : n ≤ 7) (hp : p < n) : Ct yX0_removePiece cX0_removePiece 3 none 1 [.ref h, .int (nI p)] σ (fV (s2 (hDel σ h p (n - 1)) h 7 (nI (n - 1)))) := by
  refine ct_of plX0 rfl (Nat.le_of_ble_eq_true rfl) (fun X hX C => ?_)
  show V X 0 [(0, .ref h), (1, .int (nI p))] [] σ
  refine v_aload_n C dX0_removePiece_0 rfl rfl rfl ?_
  refine v_iload_n C dX0_removePiece_1 rfl rfl rfl ?_
  refine v_callV C hh.l0 hh.s0 rfl (As := [.int (nI p)]) (rest := []) (kX0_hasPiece (nI p) h n hh σ hn h7) rfl (Nat.le_of_ble_eq_true rfl) (Nat.le_of_ble_eq_true rfl) ⟨mlX0_55, mfX0_hasPiece⟩ dkX0_hasPiece (Nat.le_of_ble_eq_true rfl) dX0_removePiece_2 rfl (kI ?_)
  refine V.tp (show bI (pieceP (nI p) (nI n)) = 1 from (bI_t (pie_nI (by omega) h7)).symm) ?_
  refine v_if_ne (tgt := 9) C dX0_removePiece_5 (by decide) rfl (fun _ => ?_) (fun q => absurd q (by decide))
  refine v_iload_n C dX0_removePiece_9 rfl rfl rfl ?_
  refine v_istore_n (lv' := [(2, .int (nI p)), (0, .ref h), (1, .int (nI p))]) C dX0_removePiece_10 rfl (Nat.le_of_ble_eq_true rfl) rfl rfl ?_
  have lp11 : ∀ (kf i : Nat)  (τ : St), (n - 1) < i + kf → i ≤ (n - 1) → τ = hDel σ h p i → (p ≤ i) → V X 11 [(2, .int (nI i)), (0, .ref h), (1, .int (nI p))] [] τ := by
    intro kf
    induction kf with
    | zero => intro i  τ h1 h2; omega
    | succ kf ih11 =>
      intro i  τ h1 h2  eτ hpi
      have hnτ : τ h 7 = nI n := by rw [eτ, hDel_o _ _ _ _ _ (Or.inl (by omega))]; exact hn
      have hdτ : ∀ j, 0 < j → j ≤ 5 → τ (h + j) (i + 1) = σ (h + j) (i + 1) := fun j a b => by rw [eτ, hDel_r _ _ _ _ _ (by omega) (by omega), delR_at _ (by omega)]
      refine v_iload_n C dX0_removePiece_11 rfl rfl rfl ?_
      refine v_iconst (v := 1) C dX0_removePiece_12 (by decide) rfl ?_
      refine v_iadd C dX0_removePiece_13 rfl ?_
      refine V.tp (nI_add i 1) ?_
      refine v_aload_n C dX0_removePiece_14 rfl rfl rfl ?_
      refine v_getI C hh.l0 hh.s0 rfl hinX0 7 (Nat.le_of_ble_eq_true rfl) lkX0_33 rfl dX0_removePiece_15 rfl ?_
      refine V.tp hnτ ?_
      refine v_icmp_ge (tgt := 97) C dX0_removePiece_18 (by decide) rfl (fun c18 => ?_) (fun c18 => ?_)
      · skip
        have c18 := mt (nI_ltI (a := (i + 1)) (b := n) (by omega) (by omega)).mpr c18
        refine v_aload_n C dX0_removePiece_97 rfl rfl rfl ?_
        refine v_dup C dX0_removePiece_98 rfl rfl ?_
        refine v_getI C hh.l0 hh.s0 rfl hinX0 7 (Nat.le_of_ble_eq_true rfl) lkX0_33 rfl dX0_removePiece_99 rfl ?_
        refine V.tp hnτ ?_
        refine v_iconst (v := 1) C dX0_removePiece_102 (by decide) rfl ?_
        refine v_isub C dX0_removePiece_103 rfl ?_
        refine V.tp (pk_sub (a := n) (b := 1) (by omega)) ?_
        refine v_put (ty := .int) C hh.l0 hh.s0 rfl hinX0 tyX0_ok nmX0 7 (Nat.le_of_ble_eq_true rfl) lkX0_33 rfl (by decide +kernel) rfl rfl rfl dX0_removePiece_104 rfl ?_
        refine V.nm (fun τ104_1 eτ104_1 => ?_)
        exact v_vret C dX0_removePiece_107 (by rw [hX]; exact fV_of (by rw [eτ104_1, eτ, show i = n - 1 from by omega]))
      · skip
        have c18 := (nI_ltI (a := (i + 1)) (b := n) (by omega) (by omega)).mp c18
        refine v_aload_n C dX0_removePiece_21 rfl rfl rfl ?_
        refine v_getR C hh.l0 hh.s0 rfl hinX0 0 (Nat.le_of_ble_eq_true rfl) lkX0_9 rfl dX0_removePiece_22 rfl ?_
        refine v_iload_n C dX0_removePiece_25 rfl rfl rfl ?_
        refine v_aload_n C dX0_removePiece_26 rfl rfl rfl ?_
        refine v_getR C hh.l0 hh.s0 rfl hinX0 0 (Nat.le_of_ble_eq_true rfl) lkX0_9 rfl dX0_removePiece_27 rfl ?_
        refine v_iload_n C dX0_removePiece_30 rfl rfl rfl ?_
        refine v_iconst (v := 1) C dX0_removePiece_31 (by decide) rfl ?_
        refine v_iadd C dX0_removePiece_32 rfl ?_
        refine V.tp (nI_add i 1) ?_
        refine v_iald (i := i + 1) C hh.l1 hh.s1 rfl (by omega) (by decide) dX0_removePiece_33 rfl ?_
        refine V.tp (hdτ 1 (by decide) (by decide)) ?_
        refine v_iast (i := i) C hh.l1 hh.s1 rfl (by omega) (by decide) dX0_removePiece_34 rfl ?_
        refine V.nm (fun τ34_2 eτ34_2 => ?_)
        have hdτ34_2 : ∀ j, 1 < j → j ≤ 5 → τ34_2 (h + j) (i + 1) = σ (h + j) (i + 1) := fun j a b => by rw [eτ34_2, s2_ne (by omega)]; exact hdτ j (by omega) b
        refine v_aload_n C dX0_removePiece_35 rfl rfl rfl ?_
        refine v_getR C hh.l0 hh.s0 rfl hinX0 1 (Nat.le_of_ble_eq_true rfl) lkX0_15 rfl dX0_removePiece_36 rfl ?_
        refine v_iload_n C dX0_removePiece_39 rfl rfl rfl ?_
        refine v_aload_n C dX0_removePiece_40 rfl rfl rfl ?_
        refine v_getR C hh.l0 hh.s0 rfl hinX0 1 (Nat.le_of_ble_eq_true rfl) lkX0_15 rfl dX0_removePiece_41 rfl ?_
        refine v_iload_n C dX0_removePiece_44 rfl rfl rfl ?_
        refine v_iconst (v := 1) C dX0_removePiece_45 (by decide) rfl ?_
        refine v_iadd C dX0_removePiece_46 rfl ?_
        refine V.tp (nI_add i 1) ?_
        refine v_iald (i := i + 1) C hh.l2 hh.s2 rfl (by omega) (by decide) dX0_removePiece_47 rfl ?_
        refine V.tp (hdτ34_2 2 (by decide) (by decide)) ?_
        refine v_iast (i := i) C hh.l2 hh.s2 rfl (by omega) (by decide) dX0_removePiece_48 rfl ?_
        refine V.nm (fun τ48_3 eτ48_3 => ?_)
        have hdτ48_3 : ∀ j, 2 < j → j ≤ 5 → τ48_3 (h + j) (i + 1) = σ (h + j) (i + 1) := fun j a b => by rw [eτ48_3, s2_ne (by omega)]; exact hdτ34_2 j (by omega) b
        refine v_aload_n C dX0_removePiece_49 rfl rfl rfl ?_
        refine v_getR C hh.l0 hh.s0 rfl hinX0 2 (Nat.le_of_ble_eq_true rfl) lkX0_18 rfl dX0_removePiece_50 rfl ?_
        refine v_iload_n C dX0_removePiece_53 rfl rfl rfl ?_
        refine v_aload_n C dX0_removePiece_54 rfl rfl rfl ?_
        refine v_getR C hh.l0 hh.s0 rfl hinX0 2 (Nat.le_of_ble_eq_true rfl) lkX0_18 rfl dX0_removePiece_55 rfl ?_
        refine v_iload_n C dX0_removePiece_58 rfl rfl rfl ?_
        refine v_iconst (v := 1) C dX0_removePiece_59 (by decide) rfl ?_
        refine v_iadd C dX0_removePiece_60 rfl ?_
        refine V.tp (nI_add i 1) ?_
        refine v_iald (i := i + 1) C hh.l3 hh.s3 rfl (by omega) (by decide) dX0_removePiece_61 rfl ?_
        refine V.tp (hdτ48_3 3 (by decide) (by decide)) ?_
        refine v_iast (i := i) C hh.l3 hh.s3 rfl (by omega) (by decide) dX0_removePiece_62 rfl ?_
        refine V.nm (fun τ62_4 eτ62_4 => ?_)
        have hdτ62_4 : ∀ j, 3 < j → j ≤ 5 → τ62_4 (h + j) (i + 1) = σ (h + j) (i + 1) := fun j a b => by rw [eτ62_4, s2_ne (by omega)]; exact hdτ48_3 j (by omega) b
        refine v_aload_n C dX0_removePiece_63 rfl rfl rfl ?_
        refine v_getR C hh.l0 hh.s0 rfl hinX0 3 (Nat.le_of_ble_eq_true rfl) lkX0_21 rfl dX0_removePiece_64 rfl ?_
        refine v_iload_n C dX0_removePiece_67 rfl rfl rfl ?_
        refine v_aload_n C dX0_removePiece_68 rfl rfl rfl ?_
        refine v_getR C hh.l0 hh.s0 rfl hinX0 3 (Nat.le_of_ble_eq_true rfl) lkX0_21 rfl dX0_removePiece_69 rfl ?_
        refine v_iload_n C dX0_removePiece_72 rfl rfl rfl ?_
        refine v_iconst (v := 1) C dX0_removePiece_73 (by decide) rfl ?_
        refine v_iadd C dX0_removePiece_74 rfl ?_
        refine V.tp (nI_add i 1) ?_
        refine v_iald (i := i + 1) C hh.l4 hh.s4 rfl (by omega) (by decide) dX0_removePiece_75 rfl ?_
        refine V.tp (hdτ62_4 4 (by decide) (by decide)) ?_
        refine v_iast (i := i) C hh.l4 hh.s4 rfl (by omega) (by decide) dX0_removePiece_76 rfl ?_
        refine V.nm (fun τ76_5 eτ76_5 => ?_)
        have hdτ76_5 : ∀ j, 4 < j → j ≤ 5 → τ76_5 (h + j) (i + 1) = σ (h + j) (i + 1) := fun j a b => by rw [eτ76_5, s2_ne (by omega)]; exact hdτ62_4 j (by omega) b
        refine v_aload_n C dX0_removePiece_77 rfl rfl rfl ?_
        refine v_getR C hh.l0 hh.s0 rfl hinX0 4 (Nat.le_of_ble_eq_true rfl) lkX0_24 rfl dX0_removePiece_78 rfl ?_
        refine v_iload_n C dX0_removePiece_81 rfl rfl rfl ?_
        refine v_aload_n C dX0_removePiece_82 rfl rfl rfl ?_
        refine v_getR C hh.l0 hh.s0 rfl hinX0 4 (Nat.le_of_ble_eq_true rfl) lkX0_24 rfl dX0_removePiece_83 rfl ?_
        refine v_iload_n C dX0_removePiece_86 rfl rfl rfl ?_
        refine v_iconst (v := 1) C dX0_removePiece_87 (by decide) rfl ?_
        refine v_iadd C dX0_removePiece_88 rfl ?_
        refine V.tp (nI_add i 1) ?_
        refine v_iald (i := i + 1) C hh.l5 hh.s5 rfl (by omega) (by decide) dX0_removePiece_89 rfl ?_
        refine V.tp (hdτ76_5 5 (by decide) (by decide)) ?_
        refine v_iast (i := i) C hh.l5 hh.s5 rfl (by omega) (by decide) dX0_removePiece_90 rfl ?_
        refine V.nm (fun τ90_6 eτ90_6 => ?_)
        refine v_iinc (lv' := [(2, .int (nI (i + 1))), (0, .ref h), (1, .int (nI p))]) C dX0_removePiece_91 rfl (nI_inc i) (Nat.le_of_ble_eq_true rfl) rfl rfl ?_
        refine v_goto (tgt := 11) C dX0_removePiece_94 (by decide) ?_
        exact V.sub [0, 1, 2] rfl (ih11 (i + 1)  _ (by omega) (by omega)  (by rw [eτ90_6, eτ76_5, eτ62_4, eτ48_3, eτ34_2, eτ]; exact hDel_step σ h hpi) (by omega))
  exact V.sub [0, 1, 2] rfl (lp11 ((n - 1) + 1) p  _ (by omega) (by omega)  ((hDel_0 σ h p).symm) (Nat.le_refl p))
theorem kX0_copyFrom (h g : Nat) (hh : isH h) (hg : isH g) (hd : h + 8 ≤ g ∨ g + 8 ≤ h) (σ : St) : Ct yX0_copyFrom cX0_copyFrom 2 none 2 [.ref h, .ref g] σ (rV (Cop σ h g)) := by
  refine ct_of plX0 rfl (Nat.le_of_ble_eq_true rfl) (fun X hX C => ?_)
  show V X 0 [(0, .ref h), (1, .ref g)] [] σ
  refine v_aload_n C dX0_copyFrom_0 rfl rfl rfl ?_
  refine v_getR C hg.l0 hg.s0 rfl hinX0 0 (Nat.le_of_ble_eq_true rfl) lkX0_9 rfl dX0_copyFrom_1 rfl ?_
  refine v_iconst (v := 0) C dX0_copyFrom_4 (by decide) rfl ?_
  refine v_aload_n C dX0_copyFrom_5 rfl rfl rfl ?_
  refine v_getR C hh.l0 hh.s0 rfl hinX0 0 (Nat.le_of_ble_eq_true rfl) lkX0_9 rfl dX0_copyFrom_6 rfl ?_
  refine v_iconst (v := 0) C dX0_copyFrom_9 (by decide) rfl ?_
  refine v_bipush (v := 7) C dX0_copyFrom_10 (by decide) rfl ?_
  refine v_copy (c := 7) C hg.l1 hg.s1 hh.l1 hh.s1 rfl (Nat.le_of_ble_eq_true rfl) (Nat.le_of_ble_eq_true rfl) (Nat.le_of_ble_eq_true rfl) (Nat.le_of_ble_eq_true rfl) acX0_49 dX0_copyFrom_12 rfl ?_
  refine V.nm (fun τ12_1 eτ12_1 => ?_)
  refine v_aload_n C dX0_copyFrom_15 rfl rfl rfl ?_
  refine v_getR C hg.l0 hg.s0 rfl hinX0 1 (Nat.le_of_ble_eq_true rfl) lkX0_15 rfl dX0_copyFrom_16 rfl ?_
  refine v_iconst (v := 0) C dX0_copyFrom_19 (by decide) rfl ?_
  refine v_aload_n C dX0_copyFrom_20 rfl rfl rfl ?_
  refine v_getR C hh.l0 hh.s0 rfl hinX0 1 (Nat.le_of_ble_eq_true rfl) lkX0_15 rfl dX0_copyFrom_21 rfl ?_
  refine v_iconst (v := 0) C dX0_copyFrom_24 (by decide) rfl ?_
  refine v_bipush (v := 7) C dX0_copyFrom_25 (by decide) rfl ?_
  refine v_copy (c := 7) C hg.l2 hg.s2 hh.l2 hh.s2 rfl (Nat.le_of_ble_eq_true rfl) (Nat.le_of_ble_eq_true rfl) (Nat.le_of_ble_eq_true rfl) (Nat.le_of_ble_eq_true rfl) acX0_49 dX0_copyFrom_27 rfl ?_
  refine V.nm (fun τ27_2 eτ27_2 => ?_)
  refine v_aload_n C dX0_copyFrom_30 rfl rfl rfl ?_
  refine v_getR C hg.l0 hg.s0 rfl hinX0 2 (Nat.le_of_ble_eq_true rfl) lkX0_18 rfl dX0_copyFrom_31 rfl ?_
  refine v_iconst (v := 0) C dX0_copyFrom_34 (by decide) rfl ?_
  refine v_aload_n C dX0_copyFrom_35 rfl rfl rfl ?_
  refine v_getR C hh.l0 hh.s0 rfl hinX0 2 (Nat.le_of_ble_eq_true rfl) lkX0_18 rfl dX0_copyFrom_36 rfl ?_
  refine v_iconst (v := 0) C dX0_copyFrom_39 (by decide) rfl ?_
  refine v_bipush (v := 7) C dX0_copyFrom_40 (by decide) rfl ?_
  refine v_copy (c := 7) C hg.l3 hg.s3 hh.l3 hh.s3 rfl (Nat.le_of_ble_eq_true rfl) (Nat.le_of_ble_eq_true rfl) (Nat.le_of_ble_eq_true rfl) (Nat.le_of_ble_eq_true rfl) acX0_49 dX0_copyFrom_42 rfl ?_
  refine V.nm (fun τ42_3 eτ42_3 => ?_)
  refine v_aload_n C dX0_copyFrom_45 rfl rfl rfl ?_
  refine v_getR C hg.l0 hg.s0 rfl hinX0 3 (Nat.le_of_ble_eq_true rfl) lkX0_21 rfl dX0_copyFrom_46 rfl ?_
  refine v_iconst (v := 0) C dX0_copyFrom_49 (by decide) rfl ?_
  refine v_aload_n C dX0_copyFrom_50 rfl rfl rfl ?_
  refine v_getR C hh.l0 hh.s0 rfl hinX0 3 (Nat.le_of_ble_eq_true rfl) lkX0_21 rfl dX0_copyFrom_51 rfl ?_
  refine v_iconst (v := 0) C dX0_copyFrom_54 (by decide) rfl ?_
  refine v_bipush (v := 7) C dX0_copyFrom_55 (by decide) rfl ?_
  refine v_copy (c := 7) C hg.l4 hg.s4 hh.l4 hh.s4 rfl (Nat.le_of_ble_eq_true rfl) (Nat.le_of_ble_eq_true rfl) (Nat.le_of_ble_eq_true rfl) (Nat.le_of_ble_eq_true rfl) acX0_49 dX0_copyFrom_57 rfl ?_
  refine V.nm (fun τ57_4 eτ57_4 => ?_)
  refine v_aload_n C dX0_copyFrom_60 rfl rfl rfl ?_
  refine v_getR C hg.l0 hg.s0 rfl hinX0 4 (Nat.le_of_ble_eq_true rfl) lkX0_24 rfl dX0_copyFrom_61 rfl ?_
  refine v_iconst (v := 0) C dX0_copyFrom_64 (by decide) rfl ?_
  refine v_aload_n C dX0_copyFrom_65 rfl rfl rfl ?_
  refine v_getR C hh.l0 hh.s0 rfl hinX0 4 (Nat.le_of_ble_eq_true rfl) lkX0_24 rfl dX0_copyFrom_66 rfl ?_
  refine v_iconst (v := 0) C dX0_copyFrom_69 (by decide) rfl ?_
  refine v_bipush (v := 7) C dX0_copyFrom_70 (by decide) rfl ?_
  refine v_copy (c := 7) C hg.l5 hg.s5 hh.l5 hh.s5 rfl (Nat.le_of_ble_eq_true rfl) (Nat.le_of_ble_eq_true rfl) (Nat.le_of_ble_eq_true rfl) (Nat.le_of_ble_eq_true rfl) acX0_49 dX0_copyFrom_72 rfl ?_
  refine V.nm (fun τ72_5 eτ72_5 => ?_)
  refine v_aload_n C dX0_copyFrom_75 rfl rfl rfl ?_
  refine v_getR C hg.l0 hg.s0 rfl hinX0 5 (Nat.le_of_ble_eq_true rfl) lkX0_27 rfl dX0_copyFrom_76 rfl ?_
  refine v_iconst (v := 0) C dX0_copyFrom_79 (by decide) rfl ?_
  refine v_aload_n C dX0_copyFrom_80 rfl rfl rfl ?_
  refine v_getR C hh.l0 hh.s0 rfl hinX0 5 (Nat.le_of_ble_eq_true rfl) lkX0_27 rfl dX0_copyFrom_81 rfl ?_
  refine v_iconst (v := 0) C dX0_copyFrom_84 (by decide) rfl ?_
  refine v_bipush (v := 6) C dX0_copyFrom_85 (by decide) rfl ?_
  refine v_copy (c := 6) C hg.l6 hg.s6 hh.l6 hh.s6 rfl (Nat.le_of_ble_eq_true rfl) (Nat.le_of_ble_eq_true rfl) (Nat.le_of_ble_eq_true rfl) (Nat.le_of_ble_eq_true rfl) acX0_49 dX0_copyFrom_87 rfl ?_
  refine V.nm (fun τ87_6 eτ87_6 => ?_)
  refine v_aload_n C dX0_copyFrom_90 rfl rfl rfl ?_
  refine v_getR C hg.l0 hg.s0 rfl hinX0 6 (Nat.le_of_ble_eq_true rfl) lkX0_30 rfl dX0_copyFrom_91 rfl ?_
  refine v_iconst (v := 0) C dX0_copyFrom_94 (by decide) rfl ?_
  refine v_aload_n C dX0_copyFrom_95 rfl rfl rfl ?_
  refine v_getR C hh.l0 hh.s0 rfl hinX0 6 (Nat.le_of_ble_eq_true rfl) lkX0_30 rfl dX0_copyFrom_96 rfl ?_
  refine v_iconst (v := 0) C dX0_copyFrom_99 (by decide) rfl ?_
  refine v_iconst (v := 3) C dX0_copyFrom_100 (by decide) rfl ?_
  refine v_copy (c := 3) C hg.l7 hg.s7 hh.l7 hh.s7 rfl (Nat.le_of_ble_eq_true rfl) (Nat.le_of_ble_eq_true rfl) (Nat.le_of_ble_eq_true rfl) (Nat.le_of_ble_eq_true rfl) acX0_49 dX0_copyFrom_101 rfl ?_
  refine V.nm (fun τ101_7 eτ101_7 => ?_)
  refine v_aload_n C dX0_copyFrom_104 rfl rfl rfl ?_
  refine v_aload_n C dX0_copyFrom_105 rfl rfl rfl ?_
  refine v_getI C hg.l0 hg.s0 rfl hinX0 7 (Nat.le_of_ble_eq_true rfl) lkX0_33 rfl dX0_copyFrom_106 rfl ?_
  refine v_put (ty := .int) C hh.l0 hh.s0 rfl hinX0 tyX0_ok nmX0 7 (Nat.le_of_ble_eq_true rfl) lkX0_33 rfl (by decide +kernel) rfl rfl rfl dX0_copyFrom_109 rfl ?_
  refine V.nm (fun τ109_8 eτ109_8 => ?_)
  refine v_aload_n C dX0_copyFrom_112 rfl rfl rfl ?_
  refine v_aload_n C dX0_copyFrom_113 rfl rfl rfl ?_
  refine v_getI C hg.l0 hg.s0 rfl hinX0 8 (Nat.le_of_ble_eq_true rfl) lkX0_37 rfl dX0_copyFrom_114 rfl ?_
  refine v_put (ty := .int) C hh.l0 hh.s0 rfl hinX0 tyX0_ok nmX0 8 (Nat.le_of_ble_eq_true rfl) lkX0_37 rfl (by decide +kernel) rfl rfl rfl dX0_copyFrom_117 rfl ?_
  refine V.nm (fun τ117_9 eτ117_9 => ?_)
  refine v_aload_n C dX0_copyFrom_120 rfl rfl rfl ?_
  refine v_aload_n C dX0_copyFrom_121 rfl rfl rfl ?_
  refine v_getI C hg.l0 hg.s0 rfl hinX0 9 (Nat.le_of_ble_eq_true rfl) lkX0_40 rfl dX0_copyFrom_122 rfl ?_
  refine v_put (ty := .int) C hh.l0 hh.s0 rfl hinX0 tyX0_ok nmX0 9 (Nat.le_of_ble_eq_true rfl) lkX0_40 rfl (by decide +kernel) rfl rfl rfl dX0_copyFrom_125 rfl ?_
  refine V.nm (fun τ125_10 eτ125_10 => ?_)
  exact v_vret C dX0_copyFrom_128 (by rw [hX]; exact ⟨rfl, by rw [show τ125_10 = cpS σ h g from by simp only [eτ125_10, eτ117_9, eτ109_8, eτ101_7, eτ87_6, eτ72_5, eτ57_4, eτ42_3, eτ27_2, eτ12_1, cp_e1 (j := 7) hd, cp_e1 (j := 8) hd]; rfl]; exact cpS_ok σ hd⟩)
theorem kX0_addPiece (k b f a : Int32) (h n : Nat) (hh : isH h) (σ : St) (hn : σ h 7 = nI n) (h7 : n ≤ 7) : Ct yX0_addPiece cX0_addPiece 5 (some .int) 0 [.ref h, .int k, .int b, .int f, .int a] σ (fI (hAddA n b) (hAddS σ h n k b f a)) := by
  refine ct_of plX0 rfl (Nat.le_of_ble_eq_true rfl) (fun X hX C => ?_)
  show V X 0 [(0, .ref h), (1, .int k), (2, .int b), (3, .int f), (4, .int a)] [] σ
  refine v_iload_n C dX0_addPiece_0 rfl rfl rfl ?_
  refine v_iconst (v := 1) C dX0_addPiece_1 (by decide) rfl ?_
  refine v_icmp_ge (tgt := 8) C dX0_addPiece_2 (by decide) rfl (fun c2 => ?_) (fun c2 => ?_)
  · skip
    refine v_aload_n C dX0_addPiece_8 rfl rfl rfl ?_
    refine v_getI C hh.l0 hh.s0 rfl hinX0 7 (Nat.le_of_ble_eq_true rfl) lkX0_33 rfl dX0_addPiece_9 rfl ?_
    refine V.tp hn ?_
    refine v_bipush (v := 7) C dX0_addPiece_12 (by decide) rfl ?_
    refine v_icmp_lt (tgt := 20) C dX0_addPiece_14 (by decide) rfl (fun c14 => ?_) (fun c14 => ?_)
    · skip
      have c14 := (nI_ltI (a := n) (b := 7) (by omega) (by omega)).mp c14
      refine v_aload_n C dX0_addPiece_20 rfl rfl rfl ?_
      refine v_getR C hh.l0 hh.s0 rfl hinX0 0 (Nat.le_of_ble_eq_true rfl) lkX0_9 rfl dX0_addPiece_21 rfl ?_
      refine v_aload_n C dX0_addPiece_24 rfl rfl rfl ?_
      refine v_getI C hh.l0 hh.s0 rfl hinX0 7 (Nat.le_of_ble_eq_true rfl) lkX0_33 rfl dX0_addPiece_25 rfl ?_
      refine V.tp hn ?_
      refine v_iload_n C dX0_addPiece_28 rfl rfl rfl ?_
      refine v_iast (i := n) C hh.l1 hh.s1 rfl (by omega) (by decide) dX0_addPiece_29 rfl ?_
      refine V.nm (fun τ29_1 eτ29_1 => ?_)
      have hnτ29_1 : τ29_1 h 7 = nI n := by rw [eτ29_1, s2_ne (by omega)]; exact hn
      refine v_aload_n C dX0_addPiece_30 rfl rfl rfl ?_
      refine v_getR C hh.l0 hh.s0 rfl hinX0 1 (Nat.le_of_ble_eq_true rfl) lkX0_15 rfl dX0_addPiece_31 rfl ?_
      refine v_aload_n C dX0_addPiece_34 rfl rfl rfl ?_
      refine v_getI C hh.l0 hh.s0 rfl hinX0 7 (Nat.le_of_ble_eq_true rfl) lkX0_33 rfl dX0_addPiece_35 rfl ?_
      refine V.tp hnτ29_1 ?_
      refine v_iload_n C dX0_addPiece_38 rfl rfl rfl ?_
      refine v_iast (i := n) C hh.l2 hh.s2 rfl (by omega) (by decide) dX0_addPiece_39 rfl ?_
      refine V.nm (fun τ39_2 eτ39_2 => ?_)
      have hnτ39_2 : τ39_2 h 7 = nI n := by rw [eτ39_2, s2_ne (by omega)]; exact hnτ29_1
      refine v_aload_n C dX0_addPiece_40 rfl rfl rfl ?_
      refine v_getR C hh.l0 hh.s0 rfl hinX0 2 (Nat.le_of_ble_eq_true rfl) lkX0_18 rfl dX0_addPiece_41 rfl ?_
      refine v_aload_n C dX0_addPiece_44 rfl rfl rfl ?_
      refine v_getI C hh.l0 hh.s0 rfl hinX0 7 (Nat.le_of_ble_eq_true rfl) lkX0_33 rfl dX0_addPiece_45 rfl ?_
      refine V.tp hnτ39_2 ?_
      refine v_iload_n C dX0_addPiece_48 rfl rfl rfl ?_
      refine v_iast (i := n) C hh.l3 hh.s3 rfl (by omega) (by decide) dX0_addPiece_49 rfl ?_
      refine V.nm (fun τ49_3 eτ49_3 => ?_)
      have hnτ49_3 : τ49_3 h 7 = nI n := by rw [eτ49_3, s2_ne (by omega)]; exact hnτ39_2
      refine v_aload_n C dX0_addPiece_50 rfl rfl rfl ?_
      refine v_getR C hh.l0 hh.s0 rfl hinX0 3 (Nat.le_of_ble_eq_true rfl) lkX0_21 rfl dX0_addPiece_51 rfl ?_
      refine v_aload_n C dX0_addPiece_54 rfl rfl rfl ?_
      refine v_getI C hh.l0 hh.s0 rfl hinX0 7 (Nat.le_of_ble_eq_true rfl) lkX0_33 rfl dX0_addPiece_55 rfl ?_
      refine V.tp hnτ49_3 ?_
      refine v_iload C dX0_addPiece_58 rfl rfl ?_
      refine v_iast (i := n) C hh.l4 hh.s4 rfl (by omega) (by decide) dX0_addPiece_60 rfl ?_
      refine V.nm (fun τ60_4 eτ60_4 => ?_)
      have hnτ60_4 : τ60_4 h 7 = nI n := by rw [eτ60_4, s2_ne (by omega)]; exact hnτ49_3
      refine v_aload_n C dX0_addPiece_61 rfl rfl rfl ?_
      refine v_getR C hh.l0 hh.s0 rfl hinX0 4 (Nat.le_of_ble_eq_true rfl) lkX0_24 rfl dX0_addPiece_62 rfl ?_
      refine v_aload_n C dX0_addPiece_65 rfl rfl rfl ?_
      refine v_getI C hh.l0 hh.s0 rfl hinX0 7 (Nat.le_of_ble_eq_true rfl) lkX0_33 rfl dX0_addPiece_66 rfl ?_
      refine V.tp hnτ60_4 ?_
      refine v_bipush (v := 9) C dX0_addPiece_69 (by decide) rfl ?_
      refine v_iast (i := n) C hh.l5 hh.s5 rfl (by omega) (by decide) dX0_addPiece_71 rfl ?_
      refine V.nm (fun τ71_5 eτ71_5 => ?_)
      have hnτ71_5 : τ71_5 h 7 = nI n := by rw [eτ71_5, s2_ne (by omega)]; exact hnτ60_4
      refine v_aload_n C dX0_addPiece_72 rfl rfl rfl ?_
      refine v_dup C dX0_addPiece_73 rfl rfl ?_
      refine v_getI C hh.l0 hh.s0 rfl hinX0 7 (Nat.le_of_ble_eq_true rfl) lkX0_33 rfl dX0_addPiece_74 rfl ?_
      refine V.tp hnτ71_5 ?_
      refine v_iconst (v := 1) C dX0_addPiece_77 (by decide) rfl ?_
      refine v_iadd C dX0_addPiece_78 rfl ?_
      refine V.tp (nI_add n 1) ?_
      refine v_put (ty := .int) C hh.l0 hh.s0 rfl hinX0 tyX0_ok nmX0 7 (Nat.le_of_ble_eq_true rfl) lkX0_33 rfl (by decide +kernel) rfl rfl rfl dX0_addPiece_79 rfl ?_
      refine V.nm (fun τ79_6 eτ79_6 => ?_)
      refine v_aload_n C dX0_addPiece_82 rfl rfl rfl ?_
      refine v_getI C hh.l0 hh.s0 rfl hinX0 7 (Nat.le_of_ble_eq_true rfl) lkX0_33 rfl dX0_addPiece_83 rfl ?_
      exact v_iret C dX0_addPiece_86 (by rw [hX]; exact fI_of (by rw [eτ79_6, s2_get, if_pos ⟨rfl, rfl⟩]; simp [hAddA, c2, c14]) (by simp only [hAddS, if_neg c2, if_pos c14, eτ79_6, eτ71_5, eτ60_4, eτ49_3, eτ39_2, eτ29_1]))
    · skip
      have c14 := mt (nI_ltI (a := n) (b := 7) (by omega) (by omega)).mpr c14
      refine v_bipush (v := -6) C dX0_addPiece_17 (by decide) rfl ?_
      exact v_iret C dX0_addPiece_19 (by rw [hX]; exact fI_of (by simp [hAddA, c2, c14]) (by simp [hAddS, c2, c14]))
  · skip
    refine v_bipush (v := -4) C dX0_addPiece_5 (by decide) rfl ?_
    exact v_iret C dX0_addPiece_7 (by rw [hX]; exact fI_of (by simp [hAddA, c2]) (by simp [hAddS, c2]))
