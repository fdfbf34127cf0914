/-! the check's class: a statement is read -/
def frmB (b : Int32) : List Nat := if b = 105 then [1, 0, 0, 0, 0] else if b = 109 ∨ b = 115 then [0, 0] else if b = 114 then [0, 0, 0] else if b = 121 then [0, 0] else [0]
def valP (g : Nat → Int32) (b : Int32) (a : Nat) (τ : St) (p : Nat) : Prop :=
  if b = 105 then τ 12 p = kinF (g a) ∧ τ 12 (p + 1) = vaN g (a + 1) 1 ∧ τ 12 (p + 2) = vaN g (a + 2) 1 ∧ τ 12 (p + 3) = vaN g (a + 3) 2
  else if b = 109 ∨ b = 115 then τ 12 p = vaN g a 1 ∧ τ 12 (p + 1) = vaN g (a + 1) 1
  else if b = 114 then τ 12 p = vaN g a 1 ∧ τ 12 (p + 1) = vaN g (a + 1) 2
  else if b = 121 then τ 12 p = vaN g a 2 else τ 12 p = vaN g a 1
theorem kX6_readsPiece (p : Nat) (a t : Nat) (σ : St) (hAσ : σ 0 16 = nI a) (hTσ : σ 0 15 = nI t) (h96 : t ≤ 96) (h2a : a < 200) (hp : p < 180) : Ct yX6_readsPiece cX6_readsPiece 2 (some .boolean) 2 [.ref 0, .int (nI p)] σ (rI (fun r τ => (r = 1 ∧ Rok σ τ t p a [1, 0, 0, 0, 0] ∧ τ 12 p = kinF ((nx (σ 9) t) a) ∧ τ 12 (p + 1) = vaN (nx (σ 9) t) (a + 1) 1 ∧ τ 12 (p + 2) = vaN (nx (σ 9) t) (a + 2) 1 ∧ τ 12 (p + 3) = vaN (nx (σ 9) t) (a + 3) 2) ∨ (r = 0 ∧ Rno σ τ t p a [1, 0, 0, 0, 0]))) := by
  have h9σ : σ 9 = σ 9 := rfl
  refine ct_of plX6 rfl (Nat.le_of_ble_eq_true rfl) (fun X hX C => ?_)
  show V X 0 [(0, .ref 0), (1, .int (nI p))] [] σ
  refine v_aload_n C dX6_readsPiece_0 rfl rfl rfl ?_
  refine v_getR C (Nat.le_of_ble_eq_true rfl) rfl rfl hinX6 14 (Nat.le_of_ble_eq_true rfl) lkX6_43 rfl dX6_readsPiece_1 rfl ?_
  refine v_iload_n C dX6_readsPiece_4 rfl rfl rfl ?_
  refine v_aload_n C dX6_readsPiece_5 rfl rfl rfl ?_
  refine v_callV C (Nat.le_of_ble_eq_true rfl) rfl rfl (As := []) (rest := [.int (nI p), .ref 12]) (kX6_next a t σ hAσ hTσ h96 (by omega)) rfl (Nat.le_of_ble_eq_true rfl) (Nat.le_of_ble_eq_true rfl) ⟨mlX6_86, mfX6_next⟩ dkX6_next (Nat.le_of_ble_eq_true rfl) dX6_readsPiece_6 rfl (kI ?_)
  refine V.tp (show nx (σ 9) t a = (nx (σ 9) t) a from by rw [h9σ]) ?_
  refine v_callS C (As := [.int ((nx (σ 9) t) a)]) (rest := [.int (nI p), .ref 12]) (kX6_kindOf ((nx (σ 9) t) a) σ) rfl (Nat.le_of_ble_eq_true rfl) (Nat.le_of_ble_eq_true rfl) ⟨mlX6_94, mfX6_kindOf⟩ dkX6_kindOf (Nat.le_of_ble_eq_true rfl) dX6_readsPiece_9 rfl (kI ?_)
  refine v_iast (i := p) C (Nat.le_of_ble_eq_true rfl) rfl rfl (by omega) (by decide) dX6_readsPiece_12 rfl ?_
  refine V.nm (fun τ12_1 eτ12_1 => ?_)
  have hAτ12_1 : τ12_1 0 16 = nI a := by rw [eτ12_1, s2_ne (by decide)]; exact hAσ
  have hv12 : τ12_1 12 p = kinF ((nx (σ 9) t) a) := by rw [eτ12_1, s2_get, if_pos ⟨rfl, rfl⟩]
  refine v_aload_n C dX6_readsPiece_13 rfl rfl rfl ?_
  refine v_getR C (Nat.le_of_ble_eq_true rfl) rfl rfl hinX6 14 (Nat.le_of_ble_eq_true rfl) lkX6_43 rfl dX6_readsPiece_14 rfl ?_
  refine v_iload_n C dX6_readsPiece_17 rfl rfl rfl ?_
  refine v_iald (i := p) C (Nat.le_of_ble_eq_true rfl) rfl rfl (by omega) (by decide) dX6_readsPiece_18 rfl ?_
  refine V.tp hv12 ?_
  refine v_if_ge (tgt := 24) C dX6_readsPiece_19 (by decide) rfl (fun c19 => ?_) (fun c19 => ?_)
  · skip
    refine v_aload_n C dX6_readsPiece_24 rfl rfl rfl ?_
    refine v_dup C dX6_readsPiece_25 rfl rfl ?_
    refine v_getI C (Nat.le_of_ble_eq_true rfl) rfl rfl hinX6 16 (Nat.le_of_ble_eq_true rfl) lkX6_83 rfl dX6_readsPiece_26 rfl ?_
    refine V.tp hAτ12_1 ?_
    refine v_iconst (v := 1) C dX6_readsPiece_29 (by decide) rfl ?_
    refine v_iadd C dX6_readsPiece_30 rfl ?_
    refine V.tp (nI_add a 1) ?_
    refine v_put (ty := .int) C (Nat.le_of_ble_eq_true rfl) rfl rfl hinX6 tyX6_ok nmX6 16 (Nat.le_of_ble_eq_true rfl) lkX6_83 rfl (by decide +kernel) rfl rfl rfl dX6_readsPiece_31 rfl ?_
    refine V.nm (fun τ31_2 eτ31_2 => ?_)
    have hAτ31_2 : τ31_2 0 16 = nI (a + 1) := by rw [eτ31_2, s2_get, if_pos ⟨rfl, rfl⟩]
    have hTτ31_2 : τ31_2 0 15 = nI t := by rw [eτ31_2, s2_get, if_neg (by decide), eτ12_1, s2_ne (by decide)]; exact hTσ
    have h9τ31_2 : τ31_2 9 = σ 9 := by rw [eτ31_2, s2_ne (by decide), eτ12_1, s2_ne (by decide)]
    have hk : Rok σ τ31_2 t p a [1] := ⟨by rw [scn, cI_t (show chk 1 ((nx (σ 9) t) a) from c19)]; rfl, hAτ31_2, by rw [eτ31_2, eτ12_1]; exact (Rd_put σ p p _ (Nat.le_refl p)).tr (Rd_at _ p _) (Nat.le_refl p)⟩
    have hkv : τ31_2 12 p = kinF ((nx (σ 9) t) a) := by rw [eτ31_2, s2_ne (by decide)]; exact hv12
    refine v_aload_n C dX6_readsPiece_34 rfl rfl rfl ?_
    refine v_iload_n C dX6_readsPiece_35 rfl rfl rfl ?_
    refine v_iconst (v := 1) C dX6_readsPiece_36 (by decide) rfl ?_
    refine v_iadd C dX6_readsPiece_37 rfl ?_
    refine V.tp (nI_add p 1) ?_
    refine v_iconst (v := 1) C dX6_readsPiece_38 (by decide) rfl ?_
    refine v_callV C (Nat.le_of_ble_eq_true rfl) rfl rfl (As := [.int (nI (p + 1)), .int 1]) (rest := []) (kX6_readsDigits (p + 1) 1 (a + 1) t τ31_2 hAτ31_2 hTτ31_2 h96 (by omega) (by omega) (by decide)) rfl (Nat.le_of_ble_eq_true rfl) (Nat.le_of_ble_eq_true rfl) ⟨mlX6_97, mfX6_readsDigits⟩ dkX6_readsDigits (Nat.le_of_ble_eq_true rfl) dX6_readsPiece_39 rfl (krI (fun r42_3 τ42_3 h42_3 => ?_))
    rcases h42_3 with ⟨hr, h1⟩ | ⟨hr, h1⟩
    · refine V.tp hr ?_
      have hdτ42_3 := dig1 h1
      have hAτ42_3 : τ42_3 0 16 = nI (a + 2) := hdτ42_3.1.2.1
      have hTτ42_3 : τ42_3 0 15 = nI t := (hdτ42_3.1.2.2.2.1 15 (by decide)).trans hTτ31_2
      have h9τ42_3 : τ42_3 9 = σ 9 := (hdτ42_3.1.2.2.1 9 (by decide) (by decide)).trans h9τ31_2
      refine v_if_eq (tgt := 71) C dX6_readsPiece_42 (by decide) rfl (fun q => absurd q (by decide)) (fun _ => ?_)
      refine v_aload_n C dX6_readsPiece_45 rfl rfl rfl ?_
      refine v_iload_n C dX6_readsPiece_46 rfl rfl rfl ?_
      refine v_iconst (v := 2) C dX6_readsPiece_47 (by decide) rfl ?_
      refine v_iadd C dX6_readsPiece_48 rfl ?_
      refine V.tp (nI_add p 2) ?_
      refine v_iconst (v := 1) C dX6_readsPiece_49 (by decide) rfl ?_
      refine v_callV C (Nat.le_of_ble_eq_true rfl) rfl rfl (As := [.int (nI (p + 2)), .int 1]) (rest := []) (kX6_readsDigits (p + 2) 1 (a + 2) t τ42_3 hAτ42_3 hTτ42_3 h96 (by omega) (by omega) (by decide)) rfl (Nat.le_of_ble_eq_true rfl) (Nat.le_of_ble_eq_true rfl) ⟨mlX6_97, mfX6_readsDigits⟩ dkX6_readsDigits (Nat.le_of_ble_eq_true rfl) dX6_readsPiece_50 rfl (krI (fun r53_4 τ53_4 h53_4 => ?_))
      rcases h53_4 with ⟨hr, h1⟩ | ⟨hr, h1⟩
      · refine V.tp hr ?_
        have hdτ53_4 := dig1 h1
        have hAτ53_4 : τ53_4 0 16 = nI (a + 3) := hdτ53_4.1.2.1
        have hTτ53_4 : τ53_4 0 15 = nI t := (hdτ53_4.1.2.2.2.1 15 (by decide)).trans hTτ42_3
        have h9τ53_4 : τ53_4 9 = σ 9 := (hdτ53_4.1.2.2.1 9 (by decide) (by decide)).trans h9τ42_3
        refine v_if_eq (tgt := 71) C dX6_readsPiece_53 (by decide) rfl (fun q => absurd q (by decide)) (fun _ => ?_)
        refine v_aload_n C dX6_readsPiece_56 rfl rfl rfl ?_
        refine v_iload_n C dX6_readsPiece_57 rfl rfl rfl ?_
        refine v_iconst (v := 3) C dX6_readsPiece_58 (by decide) rfl ?_
        refine v_iadd C dX6_readsPiece_59 rfl ?_
        refine V.tp (nI_add p 3) ?_
        refine v_iconst (v := 2) C dX6_readsPiece_60 (by decide) rfl ?_
        refine v_callV C (Nat.le_of_ble_eq_true rfl) rfl rfl (As := [.int (nI (p + 3)), .int 2]) (rest := []) (kX6_readsDigits (p + 3) 2 (a + 3) t τ53_4 hAτ53_4 hTτ53_4 h96 (by omega) (by omega) (by decide)) rfl (Nat.le_of_ble_eq_true rfl) (Nat.le_of_ble_eq_true rfl) ⟨mlX6_97, mfX6_readsDigits⟩ dkX6_readsDigits (Nat.le_of_ble_eq_true rfl) dX6_readsPiece_61 rfl (krI (fun r64_5 τ64_5 h64_5 => ?_))
        rcases h64_5 with ⟨hr, h1⟩ | ⟨hr, h1⟩
        · refine V.tp hr ?_
          have hdτ64_5 := dig2 h1
          have hAτ64_5 : τ64_5 0 16 = nI (a + 5) := hdτ64_5.1.2.1
          have hTτ64_5 : τ64_5 0 15 = nI t := (hdτ64_5.1.2.2.2.1 15 (by decide)).trans hTτ53_4
          have h9τ64_5 : τ64_5 9 = σ 9 := (hdτ64_5.1.2.2.1 9 (by decide) (by decide)).trans h9τ53_4
          refine v_if_eq (tgt := 71) C dX6_readsPiece_64 (by decide) rfl (fun q => absurd q (by decide)) (fun _ => ?_)
          refine v_iconst (v := 1) C dX6_readsPiece_67 (by decide) rfl ?_
          refine v_goto (tgt := 72) C dX6_readsPiece_68 (by decide) ?_
          exact v_zret C rfl dX6_readsPiece_72 (by rw [hX]; exact ⟨_, rfl, Or.inl ⟨rfl, (Rok_app (Rok_app (Rok_app hk hdτ42_3.1 (by omega)) hdτ53_4.1 (by omega)) hdτ64_5.1 (by omega)), by rw [hdτ64_5.1.2.2.2.2 _ (by omega), hdτ53_4.1.2.2.2.2 _ (by omega), hdτ42_3.1.2.2.2.2 _ (by omega)]; exact hkv, by rw [hdτ64_5.1.2.2.2.2 _ (by omega), hdτ53_4.1.2.2.2.2 _ (by omega), hdτ42_3.2, h9τ31_2], by rw [hdτ64_5.1.2.2.2.2 _ (by omega), hdτ53_4.2, h9τ42_3], by rw [hdτ64_5.2, h9τ53_4]⟩⟩)
        · refine V.tp hr ?_
          have hnτ64_5 := dig2n (p := (p + 3)) h1
          refine v_if_eq (tgt := 71) C dX6_readsPiece_64 (by decide) rfl (fun _ => ?_) (fun q => absurd q (by decide))
          refine v_iconst (v := 0) C dX6_readsPiece_71 (by decide) rfl ?_
          exact v_zret C rfl dX6_readsPiece_72 (by rw [hX]; exact ⟨_, rfl, Or.inr ⟨rfl, (Rno_app (Rok_app (Rok_app hk hdτ42_3.1 (by omega)) hdτ53_4.1 (by omega)) hnτ64_5 (by omega))⟩⟩)
      · refine V.tp hr ?_
        have hnτ53_4 := dig1n (p := (p + 2)) h1
        refine v_if_eq (tgt := 71) C dX6_readsPiece_53 (by decide) rfl (fun _ => ?_) (fun q => absurd q (by decide))
        refine v_iconst (v := 0) C dX6_readsPiece_71 (by decide) rfl ?_
        exact v_zret C rfl dX6_readsPiece_72 (by rw [hX]; exact ⟨_, rfl, Or.inr ⟨rfl, (Rno_ap (m := [0, 0]) (Rno_app (Rok_app hk hdτ42_3.1 (by omega)) hnτ53_4 (by omega)))⟩⟩)
    · refine V.tp hr ?_
      have hnτ42_3 := dig1n (p := (p + 1)) h1
      refine v_if_eq (tgt := 71) C dX6_readsPiece_42 (by decide) rfl (fun _ => ?_) (fun q => absurd q (by decide))
      refine v_iconst (v := 0) C dX6_readsPiece_71 (by decide) rfl ?_
      exact v_zret C rfl dX6_readsPiece_72 (by rw [hX]; exact ⟨_, rfl, Or.inr ⟨rfl, (Rno_ap (m := [0, 0, 0]) (Rno_app hk hnτ42_3 (by omega)))⟩⟩)
  · skip
    refine v_iconst (v := 0) C dX6_readsPiece_22 (by decide) rfl ?_
    exact v_zret C rfl dX6_readsPiece_23 (by rw [hX]; exact ⟨_, rfl, Or.inr ⟨rfl, a, by rw [scn, cI_f (show ¬ chk 1 ((nx (σ 9) t) a) from fun q => q c19)], hAτ12_1, by rw [eτ12_1]; exact Rd_put σ p p _ (Nat.le_refl p)⟩⟩)
theorem kX6_readsAll (b : Int32) (p : Nat) (a t : Nat) (σ : St) (hAσ : σ 0 16 = nI a) (hTσ : σ 0 15 = nI t) (h96 : t ≤ 96) (h2a : a < 200) (hp : p < 180) : Ct yX6_readsAll cX6_readsAll 3 (some .boolean) 3 [.ref 0, .int b, .int (nI p)] σ (rI (fun r τ => (r = 1 ∧ Rok σ τ t p a (frmB b) ∧ valP (nx (σ 9) t) b a τ p) ∨ (r = 0 ∧ Rno σ τ t p a (frmB b)))) := by
  have h9σ : σ 9 = σ 9 := rfl
  refine ct_of plX6 rfl (Nat.le_of_ble_eq_true rfl) (fun X hX C => ?_)
  show V X 0 [(0, .ref 0), (1, .int b), (2, .int (nI p))] [] σ
  refine v_iload_n C dX6_readsAll_0 rfl rfl rfl ?_
  by_cases s1_105 : b = 105
  · refine V.tp s1_105 ?_
    refine v_lookup (off := 51) (tgt := 52) C dX6_readsAll_1 (by decide) (by decide) (by decide) ?_
    refine v_aload_n C dX6_readsAll_52 rfl rfl rfl ?_
    refine v_iload_n C dX6_readsAll_53 rfl rfl rfl ?_
    refine v_callV C (Nat.le_of_ble_eq_true rfl) rfl rfl (As := [.int (nI p)]) (rest := []) (kX6_readsPiece p a t σ hAσ hTσ h96 h2a (by omega)) rfl (Nat.le_of_ble_eq_true rfl) (Nat.le_of_ble_eq_true rfl) ⟨mlX6_101, mfX6_readsPiece⟩ dkX6_readsPiece (Nat.le_of_ble_eq_true rfl) dX6_readsAll_54 rfl (krI (fun r57_1 τ57_1 h57_1 => ?_))
    have hnar : narrow .boolean (.int r57_1) = .int r57_1 := h57_1.elim (fun q => by rw [q.1]; rfl) (fun q => by rw [q.1]; rfl)
    exact v_zret C hnar dX6_readsAll_57 (by rw [hX]; exact ⟨_, rfl, h57_1.elim (fun q => Or.inl ⟨q.1, by rw [show frmB b = [1, 0, 0, 0, 0] from by simp [frmB, s1_105]]; exact q.2.1, by simp only [valP, s1_105, if_pos]; exact q.2.2⟩) (fun q => Or.inr ⟨q.1, by rw [show frmB b = [1, 0, 0, 0, 0] from by simp [frmB, s1_105]]; exact q.2⟩)⟩)
  by_cases s1_109 : b = 109
  · refine V.tp s1_109 ?_
    refine v_lookup (off := 57) (tgt := 58) C dX6_readsAll_1 (by decide) (by decide) (by decide) ?_
    refine v_aload_n C dX6_readsAll_58 rfl rfl rfl ?_
    refine v_iload_n C dX6_readsAll_59 rfl rfl rfl ?_
    refine v_iconst (v := 1) C dX6_readsAll_60 (by decide) rfl ?_
    refine v_callV C (Nat.le_of_ble_eq_true rfl) rfl rfl (As := [.int (nI p), .int 1]) (rest := []) (kX6_readsDigits p 1 a t σ hAσ hTσ h96 (by omega) (by omega) (by decide)) rfl (Nat.le_of_ble_eq_true rfl) (Nat.le_of_ble_eq_true rfl) ⟨mlX6_97, mfX6_readsDigits⟩ dkX6_readsDigits (Nat.le_of_ble_eq_true rfl) dX6_readsAll_61 rfl (krI (fun r64_2 τ64_2 h64_2 => ?_))
    rcases h64_2 with ⟨hr, h1⟩ | ⟨hr, h1⟩
    · refine V.tp hr ?_
      have hdτ64_2 := dig1 h1
      have hAτ64_2 : τ64_2 0 16 = nI (a + 1) := hdτ64_2.1.2.1
      have hTτ64_2 : τ64_2 0 15 = nI t := (hdτ64_2.1.2.2.2.1 15 (by decide)).trans hTσ
      have h9τ64_2 : τ64_2 9 = σ 9 := (hdτ64_2.1.2.2.1 9 (by decide) (by decide)).trans h9σ
      refine v_if_eq (tgt := 82) C dX6_readsAll_64 (by decide) rfl (fun q => absurd q (by decide)) (fun _ => ?_)
      refine v_aload_n C dX6_readsAll_67 rfl rfl rfl ?_
      refine v_iload_n C dX6_readsAll_68 rfl rfl rfl ?_
      refine v_iconst (v := 1) C dX6_readsAll_69 (by decide) rfl ?_
      refine v_iadd C dX6_readsAll_70 rfl ?_
      refine V.tp (nI_add p 1) ?_
      refine v_iconst (v := 1) C dX6_readsAll_71 (by decide) rfl ?_
      refine v_callV C (Nat.le_of_ble_eq_true rfl) rfl rfl (As := [.int (nI (p + 1)), .int 1]) (rest := []) (kX6_readsDigits (p + 1) 1 (a + 1) t τ64_2 hAτ64_2 hTτ64_2 h96 (by omega) (by omega) (by decide)) rfl (Nat.le_of_ble_eq_true rfl) (Nat.le_of_ble_eq_true rfl) ⟨mlX6_97, mfX6_readsDigits⟩ dkX6_readsDigits (Nat.le_of_ble_eq_true rfl) dX6_readsAll_72 rfl (krI (fun r75_3 τ75_3 h75_3 => ?_))
      rcases h75_3 with ⟨hr, h1⟩ | ⟨hr, h1⟩
      · refine V.tp hr ?_
        have hdτ75_3 := dig1 h1
        have hAτ75_3 : τ75_3 0 16 = nI (a + 2) := hdτ75_3.1.2.1
        have hTτ75_3 : τ75_3 0 15 = nI t := (hdτ75_3.1.2.2.2.1 15 (by decide)).trans hTτ64_2
        have h9τ75_3 : τ75_3 9 = σ 9 := (hdτ75_3.1.2.2.1 9 (by decide) (by decide)).trans h9τ64_2
        refine v_if_eq (tgt := 82) C dX6_readsAll_75 (by decide) rfl (fun q => absurd q (by decide)) (fun _ => ?_)
        refine v_iconst (v := 1) C dX6_readsAll_78 (by decide) rfl ?_
        refine v_goto (tgt := 83) C dX6_readsAll_79 (by decide) ?_
        exact v_zret C rfl dX6_readsAll_83 (by rw [hX]; exact ⟨_, rfl, Or.inl ⟨rfl, by rw [show frmB b = [0, 0] from by simp [frmB, s1_105, s1_109]]; exact (Rok_app hdτ64_2.1 hdτ75_3.1 (by omega)), by simp [valP, s1_105, s1_109]; exact ⟨(hdτ75_3.1.2.2.2.2 _ (by omega)).trans hdτ64_2.2, by rw [hdτ75_3.2, h9τ64_2]⟩⟩⟩)
      · refine V.tp hr ?_
        have hnτ75_3 := dig1n (p := (p + 1)) h1
        refine v_if_eq (tgt := 82) C dX6_readsAll_75 (by decide) rfl (fun _ => ?_) (fun q => absurd q (by decide))
        refine v_iconst (v := 0) C dX6_readsAll_82 (by decide) rfl ?_
        exact v_zret C rfl dX6_readsAll_83 (by rw [hX]; exact ⟨_, rfl, Or.inr ⟨rfl, by rw [show frmB b = [0, 0] from by simp [frmB, s1_105, s1_109]]; exact (Rno_app hdτ64_2.1 hnτ75_3 (by omega))⟩⟩)
    · refine V.tp hr ?_
      have hnτ64_2 := dig1n (p := p) h1
      refine v_if_eq (tgt := 82) C dX6_readsAll_64 (by decide) rfl (fun _ => ?_) (fun q => absurd q (by decide))
      refine v_iconst (v := 0) C dX6_readsAll_82 (by decide) rfl ?_
      exact v_zret C rfl dX6_readsAll_83 (by rw [hX]; exact ⟨_, rfl, Or.inr ⟨rfl, by rw [show frmB b = [0, 0] from by simp [frmB, s1_105, s1_109]]; exact (Rno_ap (m := [0]) hnτ64_2)⟩⟩)
  by_cases s1_114 : b = 114
  · refine V.tp s1_114 ?_
    refine v_lookup (off := 83) (tgt := 84) C dX6_readsAll_1 (by decide) (by decide) (by decide) ?_
    refine v_aload_n C dX6_readsAll_84 rfl rfl rfl ?_
    refine v_iload_n C dX6_readsAll_85 rfl rfl rfl ?_
    refine v_iconst (v := 1) C dX6_readsAll_86 (by decide) rfl ?_
    refine v_callV C (Nat.le_of_ble_eq_true rfl) rfl rfl (As := [.int (nI p), .int 1]) (rest := []) (kX6_readsDigits p 1 a t σ hAσ hTσ h96 (by omega) (by omega) (by decide)) rfl (Nat.le_of_ble_eq_true rfl) (Nat.le_of_ble_eq_true rfl) ⟨mlX6_97, mfX6_readsDigits⟩ dkX6_readsDigits (Nat.le_of_ble_eq_true rfl) dX6_readsAll_87 rfl (krI (fun r90_4 τ90_4 h90_4 => ?_))
    rcases h90_4 with ⟨hr, h1⟩ | ⟨hr, h1⟩
    · refine V.tp hr ?_
      have hdτ90_4 := dig1 h1
      have hAτ90_4 : τ90_4 0 16 = nI (a + 1) := hdτ90_4.1.2.1
      have hTτ90_4 : τ90_4 0 15 = nI t := (hdτ90_4.1.2.2.2.1 15 (by decide)).trans hTσ
      have h9τ90_4 : τ90_4 9 = σ 9 := (hdτ90_4.1.2.2.1 9 (by decide) (by decide)).trans h9σ
      refine v_if_eq (tgt := 108) C dX6_readsAll_90 (by decide) rfl (fun q => absurd q (by decide)) (fun _ => ?_)
      refine v_aload_n C dX6_readsAll_93 rfl rfl rfl ?_
      refine v_iload_n C dX6_readsAll_94 rfl rfl rfl ?_
      refine v_iconst (v := 1) C dX6_readsAll_95 (by decide) rfl ?_
      refine v_iadd C dX6_readsAll_96 rfl ?_
      refine V.tp (nI_add p 1) ?_
      refine v_iconst (v := 2) C dX6_readsAll_97 (by decide) rfl ?_
      refine v_callV C (Nat.le_of_ble_eq_true rfl) rfl rfl (As := [.int (nI (p + 1)), .int 2]) (rest := []) (kX6_readsDigits (p + 1) 2 (a + 1) t τ90_4 hAτ90_4 hTτ90_4 h96 (by omega) (by omega) (by decide)) rfl (Nat.le_of_ble_eq_true rfl) (Nat.le_of_ble_eq_true rfl) ⟨mlX6_97, mfX6_readsDigits⟩ dkX6_readsDigits (Nat.le_of_ble_eq_true rfl) dX6_readsAll_98 rfl (krI (fun r101_5 τ101_5 h101_5 => ?_))
      rcases h101_5 with ⟨hr, h1⟩ | ⟨hr, h1⟩
      · refine V.tp hr ?_
        have hdτ101_5 := dig2 h1
        have hAτ101_5 : τ101_5 0 16 = nI (a + 3) := hdτ101_5.1.2.1
        have hTτ101_5 : τ101_5 0 15 = nI t := (hdτ101_5.1.2.2.2.1 15 (by decide)).trans hTτ90_4
        have h9τ101_5 : τ101_5 9 = σ 9 := (hdτ101_5.1.2.2.1 9 (by decide) (by decide)).trans h9τ90_4
        refine v_if_eq (tgt := 108) C dX6_readsAll_101 (by decide) rfl (fun q => absurd q (by decide)) (fun _ => ?_)
        refine v_iconst (v := 1) C dX6_readsAll_104 (by decide) rfl ?_
        refine v_goto (tgt := 109) C dX6_readsAll_105 (by decide) ?_
        exact v_zret C rfl dX6_readsAll_109 (by rw [hX]; exact ⟨_, rfl, Or.inl ⟨rfl, by rw [show frmB b = [0, 0, 0] from by simp [frmB, s1_105, s1_109, s1_114]]; exact (Rok_app hdτ90_4.1 hdτ101_5.1 (by omega)), by simp [valP, s1_105, s1_109, s1_114]; exact ⟨(hdτ101_5.1.2.2.2.2 _ (by omega)).trans hdτ90_4.2, by rw [hdτ101_5.2, h9τ90_4]⟩⟩⟩)
      · refine V.tp hr ?_
        have hnτ101_5 := dig2n (p := (p + 1)) h1
        refine v_if_eq (tgt := 108) C dX6_readsAll_101 (by decide) rfl (fun _ => ?_) (fun q => absurd q (by decide))
        refine v_iconst (v := 0) C dX6_readsAll_108 (by decide) rfl ?_
        exact v_zret C rfl dX6_readsAll_109 (by rw [hX]; exact ⟨_, rfl, Or.inr ⟨rfl, by rw [show frmB b = [0, 0, 0] from by simp [frmB, s1_105, s1_109, s1_114]]; exact (Rno_app hdτ90_4.1 hnτ101_5 (by omega))⟩⟩)
    · refine V.tp hr ?_
      have hnτ90_4 := dig1n (p := p) h1
      refine v_if_eq (tgt := 108) C dX6_readsAll_90 (by decide) rfl (fun _ => ?_) (fun q => absurd q (by decide))
      refine v_iconst (v := 0) C dX6_readsAll_108 (by decide) rfl ?_
      exact v_zret C rfl dX6_readsAll_109 (by rw [hX]; exact ⟨_, rfl, Or.inr ⟨rfl, by rw [show frmB b = [0, 0, 0] from by simp [frmB, s1_105, s1_109, s1_114]]; exact (Rno_ap (m := [0, 0]) hnτ90_4)⟩⟩)
  by_cases s1_115 : b = 115
  · refine V.tp s1_115 ?_
    refine v_lookup (off := 57) (tgt := 58) C dX6_readsAll_1 (by decide) (by decide) (by decide) ?_
    refine v_aload_n C dX6_readsAll_58 rfl rfl rfl ?_
    refine v_iload_n C dX6_readsAll_59 rfl rfl rfl ?_
    refine v_iconst (v := 1) C dX6_readsAll_60 (by decide) rfl ?_
    refine v_callV C (Nat.le_of_ble_eq_true rfl) rfl rfl (As := [.int (nI p), .int 1]) (rest := []) (kX6_readsDigits p 1 a t σ hAσ hTσ h96 (by omega) (by omega) (by decide)) rfl (Nat.le_of_ble_eq_true rfl) (Nat.le_of_ble_eq_true rfl) ⟨mlX6_97, mfX6_readsDigits⟩ dkX6_readsDigits (Nat.le_of_ble_eq_true rfl) dX6_readsAll_61 rfl (krI (fun r64_6 τ64_6 h64_6 => ?_))
    rcases h64_6 with ⟨hr, h1⟩ | ⟨hr, h1⟩
    · refine V.tp hr ?_
      have hdτ64_6 := dig1 h1
      have hAτ64_6 : τ64_6 0 16 = nI (a + 1) := hdτ64_6.1.2.1
      have hTτ64_6 : τ64_6 0 15 = nI t := (hdτ64_6.1.2.2.2.1 15 (by decide)).trans hTσ
      have h9τ64_6 : τ64_6 9 = σ 9 := (hdτ64_6.1.2.2.1 9 (by decide) (by decide)).trans h9σ
      refine v_if_eq (tgt := 82) C dX6_readsAll_64 (by decide) rfl (fun q => absurd q (by decide)) (fun _ => ?_)
      refine v_aload_n C dX6_readsAll_67 rfl rfl rfl ?_
      refine v_iload_n C dX6_readsAll_68 rfl rfl rfl ?_
      refine v_iconst (v := 1) C dX6_readsAll_69 (by decide) rfl ?_
      refine v_iadd C dX6_readsAll_70 rfl ?_
      refine V.tp (nI_add p 1) ?_
      refine v_iconst (v := 1) C dX6_readsAll_71 (by decide) rfl ?_
      refine v_callV C (Nat.le_of_ble_eq_true rfl) rfl rfl (As := [.int (nI (p + 1)), .int 1]) (rest := []) (kX6_readsDigits (p + 1) 1 (a + 1) t τ64_6 hAτ64_6 hTτ64_6 h96 (by omega) (by omega) (by decide)) rfl (Nat.le_of_ble_eq_true rfl) (Nat.le_of_ble_eq_true rfl) ⟨mlX6_97, mfX6_readsDigits⟩ dkX6_readsDigits (Nat.le_of_ble_eq_true rfl) dX6_readsAll_72 rfl (krI (fun r75_7 τ75_7 h75_7 => ?_))
      rcases h75_7 with ⟨hr, h1⟩ | ⟨hr, h1⟩
      · refine V.tp hr ?_
        have hdτ75_7 := dig1 h1
        have hAτ75_7 : τ75_7 0 16 = nI (a + 2) := hdτ75_7.1.2.1
        have hTτ75_7 : τ75_7 0 15 = nI t := (hdτ75_7.1.2.2.2.1 15 (by decide)).trans hTτ64_6
        have h9τ75_7 : τ75_7 9 = σ 9 := (hdτ75_7.1.2.2.1 9 (by decide) (by decide)).trans h9τ64_6
        refine v_if_eq (tgt := 82) C dX6_readsAll_75 (by decide) rfl (fun q => absurd q (by decide)) (fun _ => ?_)
        refine v_iconst (v := 1) C dX6_readsAll_78 (by decide) rfl ?_
        refine v_goto (tgt := 83) C dX6_readsAll_79 (by decide) ?_
        exact v_zret C rfl dX6_readsAll_83 (by rw [hX]; exact ⟨_, rfl, Or.inl ⟨rfl, by rw [show frmB b = [0, 0] from by simp [frmB, s1_105, s1_109, s1_114, s1_115]]; exact (Rok_app hdτ64_6.1 hdτ75_7.1 (by omega)), by simp [valP, s1_105, s1_109, s1_114, s1_115]; exact ⟨(hdτ75_7.1.2.2.2.2 _ (by omega)).trans hdτ64_6.2, by rw [hdτ75_7.2, h9τ64_6]⟩⟩⟩)
      · refine V.tp hr ?_
        have hnτ75_7 := dig1n (p := (p + 1)) h1
        refine v_if_eq (tgt := 82) C dX6_readsAll_75 (by decide) rfl (fun _ => ?_) (fun q => absurd q (by decide))
        refine v_iconst (v := 0) C dX6_readsAll_82 (by decide) rfl ?_
        exact v_zret C rfl dX6_readsAll_83 (by rw [hX]; exact ⟨_, rfl, Or.inr ⟨rfl, by rw [show frmB b = [0, 0] from by simp [frmB, s1_105, s1_109, s1_114, s1_115]]; exact (Rno_app hdτ64_6.1 hnτ75_7 (by omega))⟩⟩)
    · refine V.tp hr ?_
      have hnτ64_6 := dig1n (p := p) h1
      refine v_if_eq (tgt := 82) C dX6_readsAll_64 (by decide) rfl (fun _ => ?_) (fun q => absurd q (by decide))
      refine v_iconst (v := 0) C dX6_readsAll_82 (by decide) rfl ?_
      exact v_zret C rfl dX6_readsAll_83 (by rw [hX]; exact ⟨_, rfl, Or.inr ⟨rfl, by rw [show frmB b = [0, 0] from by simp [frmB, s1_105, s1_109, s1_114, s1_115]]; exact (Rno_ap (m := [0]) hnτ64_6)⟩⟩)
  by_cases s1_121 : b = 121
  · refine V.tp s1_121 ?_
    refine v_lookup (off := 109) (tgt := 110) C dX6_readsAll_1 (by decide) (by decide) (by decide) ?_
    refine v_aload_n C dX6_readsAll_110 rfl rfl rfl ?_
    refine v_iload_n C dX6_readsAll_111 rfl rfl rfl ?_
    refine v_iconst (v := 2) C dX6_readsAll_112 (by decide) rfl ?_
    refine v_callV C (Nat.le_of_ble_eq_true rfl) rfl rfl (As := [.int (nI p), .int 2]) (rest := []) (kX6_readsDigits p 2 a t σ hAσ hTσ h96 (by omega) (by omega) (by decide)) rfl (Nat.le_of_ble_eq_true rfl) (Nat.le_of_ble_eq_true rfl) ⟨mlX6_97, mfX6_readsDigits⟩ dkX6_readsDigits (Nat.le_of_ble_eq_true rfl) dX6_readsAll_113 rfl (krI (fun r116_8 τ116_8 h116_8 => ?_))
    rcases h116_8 with ⟨hr, h1⟩ | ⟨hr, h1⟩
    · refine V.tp hr ?_
      have hdτ116_8 := dig2 h1
      have hAτ116_8 : τ116_8 0 16 = nI (a + 2) := hdτ116_8.1.2.1
      have hTτ116_8 : τ116_8 0 15 = nI t := (hdτ116_8.1.2.2.2.1 15 (by decide)).trans hTσ
      have h9τ116_8 : τ116_8 9 = σ 9 := (hdτ116_8.1.2.2.1 9 (by decide) (by decide)).trans h9σ
      exact v_zret C rfl dX6_readsAll_116 (by rw [hX]; exact ⟨_, rfl, Or.inl ⟨rfl, by rw [show frmB b = [0, 0] from by simp [frmB, s1_105, s1_109, s1_114, s1_115, s1_121]]; exact hdτ116_8.1, by simp [valP, s1_105, s1_109, s1_114, s1_115, s1_121]; exact hdτ116_8.2⟩⟩)
    · refine V.tp hr ?_
      have hnτ116_8 := dig2n (p := p) h1
      exact v_zret C rfl dX6_readsAll_116 (by rw [hX]; exact ⟨_, rfl, Or.inr ⟨rfl, by rw [show frmB b = [0, 0] from by simp [frmB, s1_105, s1_109, s1_114, s1_115, s1_121]]; exact hnτ116_8⟩⟩)
  refine v_lookup (off := 116) (tgt := 117) C dX6_readsAll_1 (by decide) (by show Op.lookupswitch.offset [(105, 51), (109, 57), (114, 83), (115, 57), (121, 109)] 116 _ = _; rw [lv_osw s1_105 (a := 105) (by decide), lv_osw s1_109 (a := 109) (by decide), lv_osw s1_114 (a := 114) (by decide), lv_osw s1_115 (a := 115) (by decide), lv_osw s1_121 (a := 121) (by decide)]; rfl) (by decide) ?_
  refine v_aload_n C dX6_readsAll_117 rfl rfl rfl ?_
  refine v_iload_n C dX6_readsAll_118 rfl rfl rfl ?_
  refine v_iconst (v := 1) C dX6_readsAll_119 (by decide) rfl ?_
  refine v_callV C (Nat.le_of_ble_eq_true rfl) rfl rfl (As := [.int (nI p), .int 1]) (rest := []) (kX6_readsDigits p 1 a t σ hAσ hTσ h96 (by omega) (by omega) (by decide)) rfl (Nat.le_of_ble_eq_true rfl) (Nat.le_of_ble_eq_true rfl) ⟨mlX6_97, mfX6_readsDigits⟩ dkX6_readsDigits (Nat.le_of_ble_eq_true rfl) dX6_readsAll_120 rfl (krI (fun r123_9 τ123_9 h123_9 => ?_))
  rcases h123_9 with ⟨hr, h1⟩ | ⟨hr, h1⟩
  · refine V.tp hr ?_
    have hdτ123_9 := dig1 h1
    have hAτ123_9 : τ123_9 0 16 = nI (a + 1) := hdτ123_9.1.2.1
    have hTτ123_9 : τ123_9 0 15 = nI t := (hdτ123_9.1.2.2.2.1 15 (by decide)).trans hTσ
    have h9τ123_9 : τ123_9 9 = σ 9 := (hdτ123_9.1.2.2.1 9 (by decide) (by decide)).trans h9σ
    exact v_zret C rfl dX6_readsAll_123 (by rw [hX]; exact ⟨_, rfl, Or.inl ⟨rfl, by rw [show frmB b = [0] from by simp [frmB, s1_105, s1_109, s1_114, s1_115, s1_121]]; exact hdτ123_9.1, by simp [valP, s1_105, s1_109, s1_114, s1_115, s1_121]; exact hdτ123_9.2⟩⟩)
  · refine V.tp hr ?_
    have hnτ123_9 := dig1n (p := p) h1
    exact v_zret C rfl dX6_readsAll_123 (by rw [hX]; exact ⟨_, rfl, Or.inr ⟨rfl, by rw [show frmB b = [0] from by simp [frmB, s1_105, s1_109, s1_114, s1_115, s1_121]]; exact hnτ123_9⟩⟩)
noncomputable def stB (g : Nat → Int32) (a : Nat) : Option Nat := scn g (frmB (g a) ++ [2]) (a + 1)
def stE (g : Nat → Int32) (a : Nat) : Nat := a + 1 + (frmB (g a)).length + 1
noncomputable def bad1 (g : Nat → Int32) (a : Nat) : Option Nat := cI (letP (g a)) (stB g a) (some a)
/-- what reading a statement leaves alone -/
def Sd (σ τ : St) (s : Nat) : Prop := (∀ k, k ≠ 0 → k ≠ 10 → k ≠ 11 → k ≠ 12 → τ k = σ k) ∧ (∀ j, j ≠ 16 → τ 0 j = σ 0 j) ∧ (∀ j, j < s → τ 10 j = σ 10 j ∧ τ 11 j = σ 11 j) ∧ (∀ j, j < 4 * s → τ 12 j = σ 12 j)
theorem frm_len (b : Int32) : (frmB b).length ≤ 5 := by
  unfold frmB
  split
  · decide
  · split
    · decide
    · split
      · decide
      · split <;> decide
theorem Sd.rf (σ : St) (s : Nat) : Sd σ σ s := ⟨fun _ _ _ _ _ => rfl, fun _ _ => rfl, fun _ _ => ⟨rfl, rfl⟩, fun _ _ => rfl⟩
theorem Sd.rd {σ τ υ : St} {s : Nat} (h : Sd σ τ s) (g : Rd τ υ (4 * s)) : Sd σ υ s :=
  ⟨fun k a b c d => (g.1 k a d).trans (h.1 k a b c d), fun j a => (g.2.1 j a).trans (h.2.1 j a), fun j a => ⟨by rw [g.1 10 (by decide) (by decide)]; exact (h.2.2.1 j a).1, by rw [g.1 11 (by decide) (by decide)]; exact (h.2.2.1 j a).2⟩, fun j a => (g.2.2 j a).trans (h.2.2.2 j a)⟩
theorem Sd.at {σ τ : St} {s : Nat} (h : Sd σ τ s) (v : Int32) : Sd σ (s2 τ 0 16 v) s :=
  ⟨fun k a b c d => by rw [s2_ne a]; exact h.1 k a b c d, fun j a => by rw [s2_get, if_neg (fun q => a q.2)]; exact h.2.1 j a, fun j a => by rw [s2_ne (by decide), s2_ne (by decide)]; exact h.2.2.1 j a, fun j a => by rw [s2_ne (by decide)]; exact h.2.2.2 j a⟩
theorem valP_cg {g : Nat → Int32} {b : Int32} {a p : Nat} {τ υ : St} (e : υ 12 = τ 12) (h : valP g b a τ p) : valP g b a υ p := by
  unfold valP at h ⊢
  rw [e]; exact h
theorem valP_s2 {g : Nat → Int32} {b : Int32} {a p : Nat} {τ : St} {v : Int32} (h : valP g b a τ p) : valP g b a (s2 τ 0 16 v) p := valP_cg (s2_ne (by decide)) h
theorem kX6_statement (a t : Nat) (σ : St) (hAσ : σ 0 16 = nI a) (hTσ : σ 0 15 = nI t) (h96 : t ≤ 96) (h2a : a < 150) (s : Nat) (hs : σ 0 17 = nI s) (hs4 : s < 40) : Ct yX6_statement cX6_statement 2 (some .boolean) 4 [.ref 0] σ (rI (fun r τ => (r = 1 ∧ bad1 (nx (σ 9) t) a = none ∧ τ 0 16 = nI (stE (nx (σ 9) t) a) ∧ τ 10 s = (nx (σ 9) t) a ∧ τ 11 s = nI a ∧ valP (nx (σ 9) t) ((nx (σ 9) t) a) (a + 1) τ (4 * s) ∧ Sd σ τ s) ∨ (r = 0 ∧ ∃ x, bad1 (nx (σ 9) t) a = some x ∧ τ 0 16 = nI x ∧ Sd σ τ s))) := by
  have h9σ : σ 9 = σ 9 := rfl
  refine ct_of plX6 rfl (Nat.le_of_ble_eq_true rfl) (fun X hX C => ?_)
  show V X 0 [(0, .ref 0)] [] σ
  refine v_aload_n C dX6_statement_0 rfl rfl rfl ?_
  refine v_callV C (Nat.le_of_ble_eq_true rfl) rfl rfl (As := []) (rest := []) (kX6_next a t σ hAσ hTσ h96 (by omega)) rfl (Nat.le_of_ble_eq_true rfl) (Nat.le_of_ble_eq_true rfl) ⟨mlX6_86, mfX6_next⟩ dkX6_next (Nat.le_of_ble_eq_true rfl) dX6_statement_1 rfl (kI ?_)
  refine V.tp (show nx (σ 9) t a = (nx (σ 9) t) a from by rw [h9σ]) ?_
  refine V.top (fun v4_1 ev4_1 => ?_)
  refine v_istore_n (lv' := [(1, .int v4_1), (0, .ref 0)]) C dX6_statement_4 rfl (Nat.le_of_ble_eq_true rfl) rfl rfl ?_
  refine v_iload_n C dX6_statement_5 rfl rfl rfl ?_
  refine v_callS C (As := [.int v4_1]) (rest := []) (kX6_isLetter v4_1 σ) rfl (Nat.le_of_ble_eq_true rfl) (Nat.le_of_ble_eq_true rfl) ⟨mlX6_104, mfX6_isLetter⟩ dkX6_isLetter (Nat.le_of_ble_eq_true rfl) dX6_statement_6 rfl (kI ?_)
  refine v_if_ne (tgt := 14) C dX6_statement_9 (by decide) rfl (fun c9 => ?_) (fun c9 => ?_)
  · skip
    have c9 := bI_n c9
    refine v_aload_n C dX6_statement_14 rfl rfl rfl ?_
    refine v_getR C (Nat.le_of_ble_eq_true rfl) rfl rfl hinX6 12 (Nat.le_of_ble_eq_true rfl) lkX6_37 rfl dX6_statement_15 rfl ?_
    refine v_aload_n C dX6_statement_18 rfl rfl rfl ?_
    refine v_getI C (Nat.le_of_ble_eq_true rfl) rfl rfl hinX6 17 (Nat.le_of_ble_eq_true rfl) lkX6_107 rfl dX6_statement_19 rfl ?_
    refine V.tp hs ?_
    refine v_iload_n C dX6_statement_22 rfl rfl rfl ?_
    refine v_iast (i := s) C (Nat.le_of_ble_eq_true rfl) rfl rfl (by omega) (by decide) dX6_statement_23 rfl ?_
    refine V.nm (fun τ23_2 eτ23_2 => ?_)
    have hAτ23_2 : τ23_2 0 16 = nI a := by rw [eτ23_2, s2_ne (by decide)]; exact hAσ
    have hsτ23_2 : τ23_2 0 17 = nI s := by rw [eτ23_2, s2_ne (by decide)]; exact hs
    refine v_aload_n C dX6_statement_24 rfl rfl rfl ?_
    refine v_getR C (Nat.le_of_ble_eq_true rfl) rfl rfl hinX6 13 (Nat.le_of_ble_eq_true rfl) lkX6_40 rfl dX6_statement_25 rfl ?_
    refine v_aload_n C dX6_statement_28 rfl rfl rfl ?_
    refine v_getI C (Nat.le_of_ble_eq_true rfl) rfl rfl hinX6 17 (Nat.le_of_ble_eq_true rfl) lkX6_107 rfl dX6_statement_29 rfl ?_
    refine V.tp hsτ23_2 ?_
    refine v_aload_n C dX6_statement_32 rfl rfl rfl ?_
    refine v_getI C (Nat.le_of_ble_eq_true rfl) rfl rfl hinX6 16 (Nat.le_of_ble_eq_true rfl) lkX6_83 rfl dX6_statement_33 rfl ?_
    refine V.tp hAτ23_2 ?_
    refine v_iast (i := s) C (Nat.le_of_ble_eq_true rfl) rfl rfl (by omega) (by decide) dX6_statement_36 rfl ?_
    refine V.nm (fun τ36_3 eτ36_3 => ?_)
    have hAτ36_3 : τ36_3 0 16 = nI a := by rw [eτ36_3, s2_ne (by decide)]; exact hAτ23_2
    have hsτ36_3 : τ36_3 0 17 = nI s := by rw [eτ36_3, s2_ne (by decide)]; exact hsτ23_2
    refine v_aload_n C dX6_statement_37 rfl rfl rfl ?_
    refine v_dup C dX6_statement_38 rfl rfl ?_
    refine v_getI C (Nat.le_of_ble_eq_true rfl) rfl rfl hinX6 16 (Nat.le_of_ble_eq_true rfl) lkX6_83 rfl dX6_statement_39 rfl ?_
    refine V.tp hAτ36_3 ?_
    refine v_iconst (v := 1) C dX6_statement_42 (by decide) rfl ?_
    refine v_iadd C dX6_statement_43 rfl ?_
    refine V.tp (nI_add a 1) ?_
    refine v_put (ty := .int) C (Nat.le_of_ble_eq_true rfl) rfl rfl hinX6 tyX6_ok nmX6 16 (Nat.le_of_ble_eq_true rfl) lkX6_83 rfl (by decide +kernel) rfl rfl rfl dX6_statement_44 rfl ?_
    refine V.nm (fun τ44_4 eτ44_4 => ?_)
    have hAτ44_4 : τ44_4 0 16 = nI (a + 1) := by rw [eτ44_4, s2_get, if_pos ⟨rfl, rfl⟩]
    have hsτ44_4 : τ44_4 0 17 = nI s := by rw [eτ44_4, s2_get, if_neg (by decide)]; exact hsτ36_3
    have hTτ44_4 : τ44_4 0 15 = nI t := by rw [eτ44_4, s2_get, if_neg (by decide), eτ36_3, s2_ne (by decide), eτ23_2, s2_ne (by decide)]; exact hTσ
    have h9τ44_4 : τ44_4 9 = σ 9 := by rw [eτ44_4, s2_ne (by decide), eτ36_3, s2_ne (by decide), eτ23_2, s2_ne (by decide)]
    have hbg : v4_1 = (nx (σ 9) t) a := ev4_1
    have hSd : Sd σ τ44_4 s := ⟨fun k a b c d => by rw [eτ44_4, s2_ne a, eτ36_3, s2_ne c, eτ23_2, s2_ne b], fun j hj => by rw [eτ44_4, s2_get, if_neg (fun q => hj q.2), eτ36_3, s2_ne (by decide), eτ23_2, s2_ne (by decide)], fun j hj => ⟨by rw [eτ44_4, s2_ne (by decide), eτ36_3, s2_ne (by decide), eτ23_2, s2_get, if_neg (by omega)], by rw [eτ44_4, s2_ne (by decide), eτ36_3, s2_get, if_neg (by omega), eτ23_2, s2_ne (by decide)]⟩, fun j hj => by rw [eτ44_4, s2_ne (by decide), eτ36_3, s2_ne (by decide), eτ23_2, s2_ne (by decide)]⟩
    have hl10 : τ44_4 10 s = (nx (σ 9) t) a := by rw [eτ44_4, s2_ne (by decide), eτ36_3, s2_ne (by decide), eτ23_2, s2_get, if_pos ⟨rfl, rfl⟩, hbg]
    have hl11 : τ44_4 11 s = nI a := by rw [eτ44_4, s2_ne (by decide), eτ36_3, s2_get, if_pos ⟨rfl, rfl⟩]
    refine v_aload_n C dX6_statement_47 rfl rfl rfl ?_
    refine v_iload_n C dX6_statement_48 rfl rfl rfl ?_
    refine v_iconst (v := 4) C dX6_statement_49 (by decide) rfl ?_
    refine v_aload_n C dX6_statement_50 rfl rfl rfl ?_
    refine v_getI C (Nat.le_of_ble_eq_true rfl) rfl rfl hinX6 17 (Nat.le_of_ble_eq_true rfl) lkX6_107 rfl dX6_statement_51 rfl ?_
    refine V.tp hsτ44_4 ?_
    refine v_imul C dX6_statement_54 rfl ?_
    refine V.tp (pk_mul 4 s) ?_
    refine v_callV C (Nat.le_of_ble_eq_true rfl) rfl rfl (As := [.int v4_1, .int (nI (4 * s))]) (rest := []) (kX6_readsAll v4_1 (4 * s) (a + 1) t τ44_4 hAτ44_4 hTτ44_4 h96 (by omega) (by omega)) rfl (Nat.le_of_ble_eq_true rfl) (Nat.le_of_ble_eq_true rfl) ⟨mlX6_110, mfX6_readsAll⟩ dkX6_readsAll (Nat.le_of_ble_eq_true rfl) dX6_statement_55 rfl (krI (fun r58_5 τ58_5 h58_5 => ?_))
    rcases h58_5 with ⟨hr, h1, h2⟩ | ⟨hr, h1⟩
    · refine V.tp hr ?_
      have hfl := frm_len v4_1
      have hAτ58_5 : τ58_5 0 16 = nI (a + 1 + (frmB v4_1).length) := h1.2.1
      have hTτ58_5 : τ58_5 0 15 = nI t := (h1.2.2.2.1 15 (by decide)).trans hTτ44_4
      have h9τ58_5 : τ58_5 9 = σ 9 := (h1.2.2.1 9 (by decide) (by decide)).trans h9τ44_4
      refine v_if_eq (tgt := 70) C dX6_statement_58 (by decide) rfl (fun q => absurd q (by decide)) (fun _ => ?_)
      refine v_aload_n C dX6_statement_61 rfl rfl rfl ?_
      refine v_callV C (Nat.le_of_ble_eq_true rfl) rfl rfl (As := []) (rest := []) (kX6_next (a + 1 + (frmB v4_1).length) t τ58_5 hAτ58_5 hTτ58_5 h96 (by omega)) rfl (Nat.le_of_ble_eq_true rfl) (Nat.le_of_ble_eq_true rfl) ⟨mlX6_86, mfX6_next⟩ dkX6_next (Nat.le_of_ble_eq_true rfl) dX6_statement_62 rfl (kI ?_)
      refine V.tp (show nx (τ58_5 9) t (a + 1 + (frmB v4_1).length) = (nx (σ 9) t) (a + 1 + (frmB v4_1).length) from by rw [h9τ58_5]) ?_
      refine v_bipush (v := 59) C dX6_statement_65 (by decide) rfl ?_
      refine v_icmp_eq (tgt := 72) C dX6_statement_67 (by decide) rfl (fun c67 => ?_) (fun c67 => ?_)
      · skip
        refine v_aload_n C dX6_statement_72 rfl rfl rfl ?_
        refine v_dup C dX6_statement_73 rfl rfl ?_
        refine v_getI C (Nat.le_of_ble_eq_true rfl) rfl rfl hinX6 16 (Nat.le_of_ble_eq_true rfl) lkX6_83 rfl dX6_statement_74 rfl ?_
        refine V.tp hAτ58_5 ?_
        refine v_iconst (v := 1) C dX6_statement_77 (by decide) rfl ?_
        refine v_iadd C dX6_statement_78 rfl ?_
        refine V.tp (nI_add (a + 1 + (frmB v4_1).length) 1) ?_
        refine v_put (ty := .int) C (Nat.le_of_ble_eq_true rfl) rfl rfl hinX6 tyX6_ok nmX6 16 (Nat.le_of_ble_eq_true rfl) lkX6_83 rfl (by decide +kernel) rfl rfl rfl dX6_statement_79 rfl ?_
        refine V.nm (fun τ79_6 eτ79_6 => ?_)
        refine v_iconst (v := 1) C dX6_statement_82 (by decide) rfl ?_
        exact v_zret C rfl dX6_statement_83 (by rw [hX]; exact ⟨_, rfl, Or.inl ⟨rfl, by rw [bad1, cI_t (show letP ((nx (σ 9) t) a) by rw [← ev4_1]; exact c9), stB, scn_app, ← hbg, ← h9τ44_4, h1.1]; exact (by rw [scn, h9τ44_4, cI_t (show chk 2 ((nx (σ 9) t) (a + 1 + (frmB v4_1).length)) from c67)]; rfl), by rw [eτ79_6, s2_get, if_pos ⟨rfl, rfl⟩, stE, ← hbg], by rw [eτ79_6, s2_ne (by decide), h1.2.2.1 10 (by decide) (by decide), hl10], by rw [eτ79_6, s2_ne (by decide), h1.2.2.1 11 (by decide) (by decide), hl11], by rw [← hbg, ← h9τ44_4, eτ79_6]; exact valP_s2 h2, by rw [eτ79_6]; exact (hSd.rd h1.2.2).at _⟩⟩)
      · skip
        refine v_iconst (v := 0) C dX6_statement_70 (by decide) rfl ?_
        exact v_zret C rfl dX6_statement_71 (by rw [hX]; exact ⟨_, rfl, Or.inr ⟨rfl, _, by rw [bad1, cI_t (show letP ((nx (σ 9) t) a) by rw [← ev4_1]; exact c9), stB, scn_app, ← hbg, ← h9τ44_4, h1.1]; exact (by rw [scn, h9τ44_4, cI_f (show ¬ chk 2 ((nx (σ 9) t) (a + 1 + (frmB v4_1).length)) from c67)]), hAτ58_5, hSd.rd h1.2.2⟩⟩)
    · refine V.tp hr ?_
      refine v_if_eq (tgt := 70) C dX6_statement_58 (by decide) rfl (fun _ => ?_) (fun q => absurd q (by decide))
      refine v_iconst (v := 0) C dX6_statement_70 (by decide) rfl ?_
      exact v_zret C rfl dX6_statement_71 (by rw [hX]; exact ⟨_, rfl, Or.inr ⟨rfl, by obtain ⟨x, q1, q2, q3⟩ := h1; exact ⟨x, by rw [bad1, cI_t (show letP ((nx (σ 9) t) a) by rw [← ev4_1]; exact c9), stB, scn_app, ← hbg, ← h9τ44_4, q1], q2, hSd.rd q3⟩⟩⟩)
  · skip
    have c9 := bI_0 c9
    refine v_iconst (v := 0) C dX6_statement_12 (by decide) rfl ?_
    exact v_zret C rfl dX6_statement_13 (by rw [hX]; exact ⟨_, rfl, Or.inr ⟨rfl, a, by rw [bad1, cI_f (show ¬ letP ((nx (σ 9) t) a) by rw [← ev4_1]; exact c9)], hAσ, Sd.rf σ s⟩⟩)
