/-! the check's class: fits, judge, lots, count, the image taken and put back -/
noncomputable def fitG (σ : St) (n u p : Nat) (k : Nat) : Int32 := if othA (s2 σ 4 p (nI k)) n u < 0 then (1 : Int32) <<< (nI k &&& 31) else 0
noncomputable def fitA (σ : St) (n u : Nat) (p : Int32) : Int32 := cI (pieceP p (nI n)) (orN (fitG σ n u (tn p)) 6) (-1)
theorem Sm_put {σ τ : St} {k j : Nat} {x y : Int32} (h : Sm (s2 σ k j x) τ) (hk : 1 ≤ k ∧ k ≤ 9) : Sm (s2 σ k j y) (s2 τ k j y) := by
  refine ⟨fun a ha => ?_, fun b hb => ?_, fun b hb => ?_⟩
  · by_cases e : a = k
    · subst e; rw [s2_eq, s2_eq, h.1 a ha, s2_eq]
      funext b; simp only [upd]; split <;> rfl
    · rw [s2_ne e, s2_ne e, h.1 a ha, s2_ne e]
  · have h0 : (0 : Nat) ≠ k := by omega
    rw [s2_ne h0, s2_ne h0, h.2.1 b hb, s2_ne h0]
  · have h0 : (13 : Nat) ≠ k := by omega
    rw [s2_ne h0, s2_ne h0, h.2.2 b hb, s2_ne h0]
theorem rowP_sm {σ τ : St} (h : Sm σ τ) (n k : Nat) : rowP τ n k ↔ rowP σ n k := by
  rw [rowP, rowP, laF_sm h, Sm_r h 17 (by decide)]
theorem minN_cg {P Q : Nat → Prop} (h : ∀ k, P k ↔ Q k) (f : Nat → Int32) : ∀ m, minN P f m = minN Q f m
  | 0 => rfl
  | m + 1 => by
    have hp : P = Q := funext (fun k => propext (h k))
    rw [hp]
theorem oth_sm {σ τ : St} (h : Sm σ τ) (n u : Nat) : othA τ n u = othA σ n u := by
  rw [othA, othA, fstN, fstN, minN_cg (rowP_sm h n)]
theorem kX6_fits (p : Int32) (n u : Nat) (σ : St) (hn : σ 0 8 = nI n) (h7 : n ≤ 7) (hu : σ 0 27 = nI u) (h12 : u ≤ 12) : Ct yX6_fits cX6_fits 5 (some .int) 5 [.ref 0, .int p] σ (rI (fun r τ => r = fitA σ n u p ∧ ((¬ pieceP p (nI n) ∧ τ = noS σ 1) ∨ (pieceP p (nI n) ∧ Sm σ τ)))) := by
  refine ct_of plX6 rfl (Nat.le_of_ble_eq_true rfl) (fun X hX C => ?_)
  show V X 0 [(0, .ref 0), (1, .int p)] [] σ
  refine v_aload_n C dX6_fits_0 rfl rfl rfl ?_
  refine v_iload_n C dX6_fits_1 rfl rfl rfl ?_
  refine v_callV C (Nat.le_of_ble_eq_true rfl) rfl rfl (As := [.int p]) (rest := []) (kX6_isPiece p σ) rfl (Nat.le_of_ble_eq_true rfl) (Nat.le_of_ble_eq_true rfl) ⟨mlX6_116, mfX6_isPiece⟩ dkX6_isPiece (Nat.le_of_ble_eq_true rfl) dX6_fits_2 rfl (kI ?_)
  refine v_if_ne (tgt := 14) C dX6_fits_5 (by decide) rfl (fun c5 => ?_) (fun c5 => ?_)
  · skip
    have c5 := bI_n c5
    have hp1 : p = nI (tn p) := (piece_nat h7 (hn ▸ c5)).1
    have hp2 : tn p < n := (piece_nat h7 (hn ▸ c5)).2
    refine v_aload_n C dX6_fits_14 rfl rfl rfl ?_
    refine v_getR C (Nat.le_of_ble_eq_true rfl) rfl rfl hinX6 3 (Nat.le_of_ble_eq_true rfl) lkX6_19 rfl dX6_fits_15 rfl ?_
    refine v_iload_n C dX6_fits_18 rfl rfl rfl ?_
    refine V.tp hp1 ?_
    refine v_iald (i := tn p) C (Nat.le_of_ble_eq_true rfl) rfl rfl (by omega) (by decide) dX6_fits_19 rfl ?_
    refine V.top (fun v20_1 ev20_1 => ?_)
    refine v_istore_n (lv' := [(2, .int v20_1), (0, .ref 0), (1, .int p)]) C dX6_fits_20 rfl (Nat.le_of_ble_eq_true rfl) rfl rfl ?_
    refine v_iconst (v := 0) C dX6_fits_21 (by decide) rfl ?_
    refine v_istore_n (lv' := [(3, .int 0), (2, .int v20_1), (0, .ref 0), (1, .int p)]) C dX6_fits_22 rfl (Nat.le_of_ble_eq_true rfl) rfl rfl ?_
    refine v_iconst (v := 0) C dX6_fits_23 (by decide) rfl ?_
    refine v_istore (lv' := [(4, .int 0), (3, .int 0), (2, .int v20_1), (0, .ref 0), (1, .int p)]) C dX6_fits_24 (Nat.le_of_ble_eq_true rfl) rfl rfl ?_
    have lp26 : ∀ (k i : Nat) (x3 : Int32) (τ : St), 6 < i + k → i ≤ 6 → x3 = orN (fitG σ n u (tn p)) i → (∃ x, Sm (s2 σ 4 (tn p) x) τ) → V X 26 [(4, .int (nI i)), (3, .int x3), (2, .int v20_1), (0, .ref 0), (1, .int p)] [] τ := by
      intro k
      induction k with
      | zero => intro i x3 τ h1 h2; omega
      | succ k ih26 =>
        intro i x3 τ h1 h2 ex3 eτ
        refine v_iload C dX6_fits_26 rfl rfl ?_
        refine v_bipush (v := 6) C dX6_fits_28 (by decide) rfl ?_
        refine v_icmp_ge (tgt := 65) C dX6_fits_30 (by decide) rfl (fun c30 => ?_) (fun c30 => ?_)
        · skip
          have c30 := mt (nI_ltI (a := i) (b := 6) (by omega) (by omega)).mpr c30
          refine v_aload_n C dX6_fits_65 rfl rfl rfl ?_
          refine v_getR C (Nat.le_of_ble_eq_true rfl) rfl rfl hinX6 3 (Nat.le_of_ble_eq_true rfl) lkX6_19 rfl dX6_fits_66 rfl ?_
          refine v_iload_n C dX6_fits_69 rfl rfl rfl ?_
          refine V.tp hp1 ?_
          refine v_iload_n C dX6_fits_70 rfl rfl rfl ?_
          refine v_iast (i := tn p) C (Nat.le_of_ble_eq_true rfl) rfl rfl (by omega) (by decide) dX6_fits_71 rfl ?_
          refine V.nm (fun τ71_2 eτ71_2 => ?_)
          refine v_iload_n C dX6_fits_72 rfl rfl rfl ?_
          exact v_iret C dX6_fits_73 (by rw [hX]; exact ⟨_, rfl, by rw [fitA, cI_t (hn ▸ c5), ex3, show i = 6 by omega], Or.inr ⟨hn ▸ c5, by obtain ⟨x, hx⟩ := eτ; rw [eτ71_2, ev20_1]; have h := Sm_put (y := σ 4 (tn p)) hx (by decide); rw [s2_self] at h; exact h⟩⟩)
        · skip
          have c30 := (nI_ltI (a := i) (b := 6) (by omega) (by omega)).mp c30
          refine v_aload_n C dX6_fits_33 rfl rfl rfl ?_
          refine v_getR C (Nat.le_of_ble_eq_true rfl) rfl rfl hinX6 3 (Nat.le_of_ble_eq_true rfl) lkX6_19 rfl dX6_fits_34 rfl ?_
          refine v_iload_n C dX6_fits_37 rfl rfl rfl ?_
          refine V.tp hp1 ?_
          refine v_iload C dX6_fits_38 rfl rfl ?_
          refine v_iast (i := tn p) C (Nat.le_of_ble_eq_true rfl) rfl rfl (by omega) (by decide) dX6_fits_40 rfl ?_
          refine V.nm (fun τ40_3 eτ40_3 => ?_)
          have hsm : Sm (s2 σ 4 (tn p) (nI i)) τ40_3 := by obtain ⟨x, hx⟩ := eτ; rw [eτ40_3]; exact Sm_put hx (by decide)
          have hnt : τ40_3 0 8 = nI n := (hsm.2.1 8 (by decide)).trans hn
          have hut : τ40_3 0 27 = nI u := (hsm.2.1 27 (by decide)).trans hu
          refine v_iload_n C dX6_fits_41 rfl rfl rfl ?_
          refine v_aload_n C dX6_fits_42 rfl rfl rfl ?_
          refine v_callV C (Nat.le_of_ble_eq_true rfl) rfl rfl (As := []) (rest := [.int x3]) (kX6_firstOther n u τ40_3 hnt h7 hut h12) rfl (Nat.le_of_ble_eq_true rfl) (Nat.le_of_ble_eq_true rfl) ⟨mlX6_252, mfX6_firstOther⟩ dkX6_firstOther (Nat.le_of_ble_eq_true rfl) dX6_fits_43 rfl (krI (fun r46_4 τ46_4 h46_4 => ?_))
          have hvr46_4 : r46_4 = othA (s2 σ 4 (tn p) (nI i)) n u := h46_4.1.trans (oth_sm hsm _ _)
          have hsτ46_4 : Sm (s2 σ 4 (tn p) (nI i)) τ46_4 := hsm.tr h46_4.2
          refine v_if_ge (tgt := 56) C dX6_fits_46 (by decide) rfl (fun c46 => ?_) (fun c46 => ?_)
          · skip
            refine v_iconst (v := 0) C dX6_fits_56 (by decide) rfl ?_
            refine v_ior C dX6_fits_57 rfl ?_
            refine V.top (fun v58_5 ev58_5 => ?_)
            refine v_istore_n (lv' := [(3, .int v58_5), (4, .int (nI i)), (2, .int v20_1), (0, .ref 0), (1, .int p)]) C dX6_fits_58 rfl (Nat.le_of_ble_eq_true rfl) rfl rfl ?_
            refine v_iinc (lv' := [(4, .int (nI (i + 1))), (3, .int v58_5), (2, .int v20_1), (0, .ref 0), (1, .int p)]) C dX6_fits_59 rfl (nI_inc i) (Nat.le_of_ble_eq_true rfl) rfl rfl ?_
            refine v_goto (tgt := 26) C dX6_fits_62 (by decide) ?_
            exact V.sub [0, 1, 2, 3, 4] rfl (ih26 (i + 1) _ _ (by omega) (by omega) (by rw [ev58_5, ex3]; simp [orN, fitG, ← hvr46_4, c46]) (⟨_, hsτ46_4⟩))
          · skip
            refine v_iconst (v := 1) C dX6_fits_49 (by decide) rfl ?_
            refine v_iload C dX6_fits_50 rfl rfl ?_
            refine v_ishl C dX6_fits_52 rfl ?_
            refine v_goto (tgt := 57) C dX6_fits_53 (by decide) ?_
            refine v_ior C dX6_fits_57 rfl ?_
            refine V.top (fun v58_6 ev58_6 => ?_)
            refine v_istore_n (lv' := [(3, .int v58_6), (4, .int (nI i)), (2, .int v20_1), (0, .ref 0), (1, .int p)]) C dX6_fits_58 rfl (Nat.le_of_ble_eq_true rfl) rfl rfl ?_
            refine v_iinc (lv' := [(4, .int (nI (i + 1))), (3, .int v58_6), (2, .int v20_1), (0, .ref 0), (1, .int p)]) C dX6_fits_59 rfl (nI_inc i) (Nat.le_of_ble_eq_true rfl) rfl rfl ?_
            refine v_goto (tgt := 26) C dX6_fits_62 (by decide) ?_
            exact V.sub [0, 1, 2, 3, 4] rfl (ih26 (i + 1) _ _ (by omega) (by omega) (by rw [ev58_6, ex3]; simp [orN, fitG, ← hvr46_4, c46]) (⟨_, hsτ46_4⟩))
    exact V.sub [0, 1, 2, 3, 4] rfl (lp26 (6 + 1) 0 0 _ (by omega) (by omega) (rfl) (⟨σ 4 (tn p), by rw [s2_self]; exact Sm.rf σ⟩))
  · skip
    have c5 := bI_0 c5
    refine v_aload_n C dX6_fits_8 rfl rfl rfl ?_
    refine v_iconst (v := -1) C dX6_fits_9 (by decide) rfl ?_
    refine v_callV C (Nat.le_of_ble_eq_true rfl) rfl rfl (As := [.int (-1)]) (rest := []) (kX6_no (-1) 1 σ (by decide) (by decide)) rfl (Nat.le_of_ble_eq_true rfl) (Nat.le_of_ble_eq_true rfl) ⟨mlX6_79, mfX6_no⟩ dkX6_no (Nat.le_of_ble_eq_true rfl) dX6_fits_10 rfl (kI ?_)
    exact v_iret C dX6_fits_13 (by rw [hX]; exact ⟨_, rfl, by simp [fitA, cI, ← hn, c5], Or.inl ⟨hn ▸ c5, rfl⟩⟩)
theorem kX6_judge (n u : Nat) (σ : St) (hn : σ 0 8 = nI n) (h7 : n ≤ 7) (hu : σ 0 27 = nI u) (h12 : u ≤ 12) : Ct yX6_judge cX6_judge 2 (some .int) 5 [.ref 0] σ (rI (fun r τ => r = othA σ n u ∧ ∃ υ, Sm σ υ ∧ τ = s2 υ 0 27 0)) := by
  refine ct_of plX6 rfl (Nat.le_of_ble_eq_true rfl) (fun X hX C => ?_)
  show V X 0 [(0, .ref 0)] [] σ
  refine v_aload_n C dX6_judge_0 rfl rfl rfl ?_
  refine v_callV C (Nat.le_of_ble_eq_true rfl) rfl rfl (As := []) (rest := []) (kX6_firstOther n u σ hn h7 hu h12) rfl (Nat.le_of_ble_eq_true rfl) (Nat.le_of_ble_eq_true rfl) ⟨mlX6_252, mfX6_firstOther⟩ dkX6_firstOther (Nat.le_of_ble_eq_true rfl) dX6_judge_1 rfl (krI (fun r4_1 τ4_1 h4_1 => ?_))
  refine v_istore_n (lv' := [(1, .int r4_1), (0, .ref 0)]) C dX6_judge_4 rfl (Nat.le_of_ble_eq_true rfl) rfl rfl ?_
  refine v_aload_n C dX6_judge_5 rfl rfl rfl ?_
  refine v_iconst (v := 0) C dX6_judge_6 (by decide) rfl ?_
  refine v_put (ty := .int) C (Nat.le_of_ble_eq_true rfl) rfl rfl hinX6 tyX6_ok nmX6 27 (Nat.le_of_ble_eq_true rfl) lkX6_249 rfl (by decide +kernel) rfl rfl rfl dX6_judge_7 rfl ?_
  refine V.nm (fun τ7_2 eτ7_2 => ?_)
  refine v_iload_n C dX6_judge_10 rfl rfl rfl ?_
  exact v_iret C dX6_judge_11 (by rw [hX]; exact ⟨_, rfl, h4_1.1, _, h4_1.2, eτ7_2⟩)
def staG (pl : Nat → Int32) (p : Nat) : Int32 := if pl p = 9 then 0 else 1
def cntA (σ : St) (n : Nat) (w : Int32) : Int32 := if ¬ w < 11 ∧ ¬ 16 < w then σ 1 (tn w - 10) else if w = 0 then σ 0 8 else if w = 1 then σ 0 10 else if w = 2 then σ 0 9 else if w = 3 then sumN (σ 5) n else if w = 4 then sumN (σ 6) n else if w = 5 then sumN (staG (σ 8)) n else if w = 6 then sumN (σ 2) 6 else if w = 7 then σ 0 27 else if w = 8 then σ 0 15 else -9
theorem kX6_count (v : Int32) (n : Nat) (σ : St) (hn : σ 0 8 = nI n) (h7 : n ≤ 7) : Ct yX6_count cX6_count 4 (some .int) 1 [.ref 0, .int v] σ (fI (cntA σ n v) σ) := by
  refine ct_of plX6 rfl (Nat.le_of_ble_eq_true rfl) (fun X hX C => ?_)
  show V X 0 [(0, .ref 0), (1, .int v)] [] σ
  refine v_iload_n C dX6_count_0 rfl rfl rfl ?_
  refine v_bipush (v := 11) C dX6_count_1 (by decide) rfl ?_
  refine v_bipush (v := 16) C dX6_count_3 (by decide) rfl ?_
  refine v_callS C (As := [.int v, .int 11, .int 16]) (rest := []) (kX6_isIn v 11 16 σ) rfl (Nat.le_of_ble_eq_true rfl) (Nat.le_of_ble_eq_true rfl) ⟨mlX6_90, mfX6_isIn⟩ dkX6_isIn (Nat.le_of_ble_eq_true rfl) dX6_count_5 rfl (kI ?_)
  refine v_if_eq (tgt := 21) C dX6_count_8 (by decide) rfl (fun c8 => ?_) (fun c8 => ?_)
  · skip
    have c8 := bI_0 c8
    refine v_iconst (v := 0) C dX6_count_21 (by decide) rfl ?_
    refine v_istore_n (lv' := [(2, .int 0), (0, .ref 0), (1, .int v)]) C dX6_count_22 rfl (Nat.le_of_ble_eq_true rfl) rfl rfl ?_
    refine v_iload_n C dX6_count_23 rfl rfl rfl ?_
    by_cases s24_0 : v = 0
    · refine V.tp s24_0 ?_
      refine v_tableIn (off := 52) (tgt := 76) C dX6_count_24 (by decide) (by decide) rfl (by decide) ?_
      refine v_aload_n C dX6_count_76 rfl rfl rfl ?_
      refine v_getI C (Nat.le_of_ble_eq_true rfl) rfl rfl hinX6 8 (Nat.le_of_ble_eq_true rfl) lkX6_65 rfl dX6_count_77 rfl ?_
      refine V.tp hn ?_
      exact v_iret C dX6_count_80 (by rw [hX]; exact fI_of (by rw [cntA, if_neg (show ¬ (¬ v < 11 ∧ ¬ 16 < v) from c8)]; simp [s24_0, hn]) rfl)
    by_cases s24_1 : v = 1
    · refine V.tp s24_1 ?_
      refine v_tableIn (off := 57) (tgt := 81) C dX6_count_24 (by decide) (by decide) rfl (by decide) ?_
      refine v_aload_n C dX6_count_81 rfl rfl rfl ?_
      refine v_getI C (Nat.le_of_ble_eq_true rfl) rfl rfl hinX6 10 (Nat.le_of_ble_eq_true rfl) lkX6_128 rfl dX6_count_82 rfl ?_
      exact v_iret C dX6_count_85 (by rw [hX]; exact fI_of (by rw [cntA, if_neg (show ¬ (¬ v < 11 ∧ ¬ 16 < v) from c8)]; simp [s24_0, s24_1, hn]) rfl)
    by_cases s24_2 : v = 2
    · refine V.tp s24_2 ?_
      refine v_tableIn (off := 62) (tgt := 86) C dX6_count_24 (by decide) (by decide) rfl (by decide) ?_
      refine v_aload_n C dX6_count_86 rfl rfl rfl ?_
      refine v_getI C (Nat.le_of_ble_eq_true rfl) rfl rfl hinX6 9 (Nat.le_of_ble_eq_true rfl) lkX6_61 rfl dX6_count_87 rfl ?_
      exact v_iret C dX6_count_90 (by rw [hX]; exact fI_of (by rw [cntA, if_neg (show ¬ (¬ v < 11 ∧ ¬ 16 < v) from c8)]; simp [s24_0, s24_1, s24_2, hn]) rfl)
    by_cases s24_3 : v = 3
    · refine V.tp s24_3 ?_
      refine v_tableIn (off := 67) (tgt := 91) C dX6_count_24 (by decide) (by decide) rfl (by decide) ?_
      refine v_iconst (v := 0) C dX6_count_91 (by decide) rfl ?_
      refine v_istore_n (lv' := [(3, .int 0), (2, .int 0), (0, .ref 0), (1, .int v)]) C dX6_count_92 rfl (Nat.le_of_ble_eq_true rfl) rfl rfl ?_
      have lp93 : ∀ (k i : Nat) (x2 : Int32) , n < i + k → i ≤ n → x2 = sumN (σ 5) i → V X 93 [(3, .int (nI i)), (2, .int x2), (0, .ref 0), (1, .int v)] [] σ := by
        intro k
        induction k with
        | zero => intro i x2 h1 h2; omega
        | succ k ih93 =>
          intro i x2 h1 h2 ex2
          refine v_iload_n C dX6_count_93 rfl rfl rfl ?_
          refine v_aload_n C dX6_count_94 rfl rfl rfl ?_
          refine v_getI C (Nat.le_of_ble_eq_true rfl) rfl rfl hinX6 8 (Nat.le_of_ble_eq_true rfl) lkX6_65 rfl dX6_count_95 rfl ?_
          refine V.tp hn ?_
          refine v_icmp_ge (tgt := 116) C dX6_count_98 (by decide) rfl (fun c98 => ?_) (fun c98 => ?_)
          · skip
            have c98 := mt (nI_ltI (a := i) (b := n) (by omega) (by omega)).mpr c98
            refine v_iload_n C dX6_count_116 rfl rfl rfl ?_
            exact v_iret C dX6_count_117 (by rw [hX]; exact fI_of (by rw [cntA, if_neg (show ¬ (¬ v < 11 ∧ ¬ 16 < v) from c8)]; simp [s24_0, s24_1, s24_2, s24_3]; rw [ex2, show i = n by omega]) rfl)
          · skip
            have c98 := (nI_ltI (a := i) (b := n) (by omega) (by omega)).mp c98
            refine v_iload_n C dX6_count_101 rfl rfl rfl ?_
            refine v_aload_n C dX6_count_102 rfl rfl rfl ?_
            refine v_getR C (Nat.le_of_ble_eq_true rfl) rfl rfl hinX6 4 (Nat.le_of_ble_eq_true rfl) lkX6_22 rfl dX6_count_103 rfl ?_
            refine v_iload_n C dX6_count_106 rfl rfl rfl ?_
            refine v_iald (i := i) C (Nat.le_of_ble_eq_true rfl) rfl rfl (by omega) (by decide) dX6_count_107 rfl ?_
            refine v_iadd C dX6_count_108 rfl ?_
            refine V.top (fun v109_1 ev109_1 => ?_)
            refine v_istore_n (lv' := [(2, .int v109_1), (3, .int (nI i)), (0, .ref 0), (1, .int v)]) C dX6_count_109 rfl (Nat.le_of_ble_eq_true rfl) rfl rfl ?_
            refine v_iinc (lv' := [(3, .int (nI (i + 1))), (2, .int v109_1), (0, .ref 0), (1, .int v)]) C dX6_count_110 rfl (nI_inc i) (Nat.le_of_ble_eq_true rfl) rfl rfl ?_
            refine v_goto (tgt := 93) C dX6_count_113 (by decide) ?_
            exact V.sub [0, 1, 2, 3] rfl (ih93 (i + 1) _ (by omega) (by omega) (by rw [ev109_1, ex2]; rfl))
      exact V.sub [0, 1, 2, 3] rfl (lp93 (n + 1) 0 0 (by omega) (by omega) (rfl))
    by_cases s24_4 : v = 4
    · refine V.tp s24_4 ?_
      refine v_tableIn (off := 94) (tgt := 118) C dX6_count_24 (by decide) (by decide) rfl (by decide) ?_
      refine v_iconst (v := 0) C dX6_count_118 (by decide) rfl ?_
      refine v_istore_n (lv' := [(3, .int 0), (2, .int 0), (0, .ref 0), (1, .int v)]) C dX6_count_119 rfl (Nat.le_of_ble_eq_true rfl) rfl rfl ?_
      have lp120 : ∀ (k i : Nat) (x2 : Int32) , n < i + k → i ≤ n → x2 = sumN (σ 6) i → V X 120 [(3, .int (nI i)), (2, .int x2), (0, .ref 0), (1, .int v)] [] σ := by
        intro k
        induction k with
        | zero => intro i x2 h1 h2; omega
        | succ k ih120 =>
          intro i x2 h1 h2 ex2
          refine v_iload_n C dX6_count_120 rfl rfl rfl ?_
          refine v_aload_n C dX6_count_121 rfl rfl rfl ?_
          refine v_getI C (Nat.le_of_ble_eq_true rfl) rfl rfl hinX6 8 (Nat.le_of_ble_eq_true rfl) lkX6_65 rfl dX6_count_122 rfl ?_
          refine V.tp hn ?_
          refine v_icmp_ge (tgt := 143) C dX6_count_125 (by decide) rfl (fun c125 => ?_) (fun c125 => ?_)
          · skip
            have c125 := mt (nI_ltI (a := i) (b := n) (by omega) (by omega)).mpr c125
            refine v_iload_n C dX6_count_143 rfl rfl rfl ?_
            exact v_iret C dX6_count_144 (by rw [hX]; exact fI_of (by rw [cntA, if_neg (show ¬ (¬ v < 11 ∧ ¬ 16 < v) from c8)]; simp [s24_0, s24_1, s24_2, s24_3, s24_4]; rw [ex2, show i = n by omega]) rfl)
          · skip
            have c125 := (nI_ltI (a := i) (b := n) (by omega) (by omega)).mp c125
            refine v_iload_n C dX6_count_128 rfl rfl rfl ?_
            refine v_aload_n C dX6_count_129 rfl rfl rfl ?_
            refine v_getR C (Nat.le_of_ble_eq_true rfl) rfl rfl hinX6 5 (Nat.le_of_ble_eq_true rfl) lkX6_25 rfl dX6_count_130 rfl ?_
            refine v_iload_n C dX6_count_133 rfl rfl rfl ?_
            refine v_iald (i := i) C (Nat.le_of_ble_eq_true rfl) rfl rfl (by omega) (by decide) dX6_count_134 rfl ?_
            refine v_iadd C dX6_count_135 rfl ?_
            refine V.top (fun v136_2 ev136_2 => ?_)
            refine v_istore_n (lv' := [(2, .int v136_2), (3, .int (nI i)), (0, .ref 0), (1, .int v)]) C dX6_count_136 rfl (Nat.le_of_ble_eq_true rfl) rfl rfl ?_
            refine v_iinc (lv' := [(3, .int (nI (i + 1))), (2, .int v136_2), (0, .ref 0), (1, .int v)]) C dX6_count_137 rfl (nI_inc i) (Nat.le_of_ble_eq_true rfl) rfl rfl ?_
            refine v_goto (tgt := 120) C dX6_count_140 (by decide) ?_
            exact V.sub [0, 1, 2, 3] rfl (ih120 (i + 1) _ (by omega) (by omega) (by rw [ev136_2, ex2]; rfl))
      exact V.sub [0, 1, 2, 3] rfl (lp120 (n + 1) 0 0 (by omega) (by omega) (rfl))
    by_cases s24_5 : v = 5
    · refine V.tp s24_5 ?_
      refine v_tableIn (off := 121) (tgt := 145) C dX6_count_24 (by decide) (by decide) rfl (by decide) ?_
      refine v_iconst (v := 0) C dX6_count_145 (by decide) rfl ?_
      refine v_istore_n (lv' := [(3, .int 0), (2, .int 0), (0, .ref 0), (1, .int v)]) C dX6_count_146 rfl (Nat.le_of_ble_eq_true rfl) rfl rfl ?_
      have lp147 : ∀ (k i : Nat) (x2 : Int32) , n < i + k → i ≤ n → x2 = sumN (staG (σ 8)) i → V X 147 [(3, .int (nI i)), (2, .int x2), (0, .ref 0), (1, .int v)] [] σ := by
        intro k
        induction k with
        | zero => intro i x2 h1 h2; omega
        | succ k ih147 =>
          intro i x2 h1 h2 ex2
          refine v_iload_n C dX6_count_147 rfl rfl rfl ?_
          refine v_aload_n C dX6_count_148 rfl rfl rfl ?_
          refine v_getI C (Nat.le_of_ble_eq_true rfl) rfl rfl hinX6 8 (Nat.le_of_ble_eq_true rfl) lkX6_65 rfl dX6_count_149 rfl ?_
          refine V.tp hn ?_
          refine v_icmp_ge (tgt := 180) C dX6_count_152 (by decide) rfl (fun c152 => ?_) (fun c152 => ?_)
          · skip
            have c152 := mt (nI_ltI (a := i) (b := n) (by omega) (by omega)).mpr c152
            refine v_iload_n C dX6_count_180 rfl rfl rfl ?_
            exact v_iret C dX6_count_181 (by rw [hX]; exact fI_of (by rw [cntA, if_neg (show ¬ (¬ v < 11 ∧ ¬ 16 < v) from c8)]; simp [s24_0, s24_1, s24_2, s24_3, s24_4, s24_5]; rw [ex2, show i = n by omega]) rfl)
          · skip
            have c152 := (nI_ltI (a := i) (b := n) (by omega) (by omega)).mp c152
            refine v_iload_n C dX6_count_155 rfl rfl rfl ?_
            refine v_aload_n C dX6_count_156 rfl rfl rfl ?_
            refine v_getR C (Nat.le_of_ble_eq_true rfl) rfl rfl hinX6 7 (Nat.le_of_ble_eq_true rfl) lkX6_31 rfl dX6_count_157 rfl ?_
            refine v_iload_n C dX6_count_160 rfl rfl rfl ?_
            refine v_iald (i := i) C (Nat.le_of_ble_eq_true rfl) rfl rfl (by omega) (by decide) dX6_count_161 rfl ?_
            refine v_bipush (v := 9) C dX6_count_162 (by decide) rfl ?_
            refine v_icmp_ne (tgt := 171) C dX6_count_164 (by decide) rfl (fun c164 => ?_) (fun c164 => ?_)
            · skip
              refine v_iconst (v := 1) C dX6_count_171 (by decide) rfl ?_
              refine v_iadd C dX6_count_172 rfl ?_
              refine V.top (fun v173_3 ev173_3 => ?_)
              refine v_istore_n (lv' := [(2, .int v173_3), (3, .int (nI i)), (0, .ref 0), (1, .int v)]) C dX6_count_173 rfl (Nat.le_of_ble_eq_true rfl) rfl rfl ?_
              refine v_iinc (lv' := [(3, .int (nI (i + 1))), (2, .int v173_3), (0, .ref 0), (1, .int v)]) C dX6_count_174 rfl (nI_inc i) (Nat.le_of_ble_eq_true rfl) rfl rfl ?_
              refine v_goto (tgt := 147) C dX6_count_177 (by decide) ?_
              exact V.sub [0, 1, 2, 3] rfl (ih147 (i + 1) _ (by omega) (by omega) (by rw [ev173_3, ex2]; simp [sumN, staG, c164]))
            · skip
              refine v_iconst (v := 0) C dX6_count_167 (by decide) rfl ?_
              refine v_goto (tgt := 172) C dX6_count_168 (by decide) ?_
              refine v_iadd C dX6_count_172 rfl ?_
              refine V.top (fun v173_4 ev173_4 => ?_)
              refine v_istore_n (lv' := [(2, .int v173_4), (3, .int (nI i)), (0, .ref 0), (1, .int v)]) C dX6_count_173 rfl (Nat.le_of_ble_eq_true rfl) rfl rfl ?_
              refine v_iinc (lv' := [(3, .int (nI (i + 1))), (2, .int v173_4), (0, .ref 0), (1, .int v)]) C dX6_count_174 rfl (nI_inc i) (Nat.le_of_ble_eq_true rfl) rfl rfl ?_
              refine v_goto (tgt := 147) C dX6_count_177 (by decide) ?_
              exact V.sub [0, 1, 2, 3] rfl (ih147 (i + 1) _ (by omega) (by omega) (by rw [ev173_4, ex2]; simp [sumN, staG, c164]))
      exact V.sub [0, 1, 2, 3] rfl (lp147 (n + 1) 0 0 (by omega) (by omega) (rfl))
    by_cases s24_6 : v = 6
    · refine V.tp s24_6 ?_
      refine v_tableIn (off := 158) (tgt := 182) C dX6_count_24 (by decide) (by decide) rfl (by decide) ?_
      refine v_iconst (v := 0) C dX6_count_182 (by decide) rfl ?_
      refine v_istore_n (lv' := [(3, .int 0), (2, .int 0), (0, .ref 0), (1, .int v)]) C dX6_count_183 rfl (Nat.le_of_ble_eq_true rfl) rfl rfl ?_
      have lp184 : ∀ (k i : Nat) (x2 : Int32) , 6 < i + k → i ≤ 6 → x2 = sumN (σ 2) i → V X 184 [(3, .int (nI i)), (2, .int x2), (0, .ref 0), (1, .int v)] [] σ := by
        intro k
        induction k with
        | zero => intro i x2 h1 h2; omega
        | succ k ih184 =>
          intro i x2 h1 h2 ex2
          refine v_iload_n C dX6_count_184 rfl rfl rfl ?_
          refine v_bipush (v := 6) C dX6_count_185 (by decide) rfl ?_
          refine v_icmp_ge (tgt := 205) C dX6_count_187 (by decide) rfl (fun c187 => ?_) (fun c187 => ?_)
          · skip
            have c187 := mt (nI_ltI (a := i) (b := 6) (by omega) (by omega)).mpr c187
            refine v_iload_n C dX6_count_205 rfl rfl rfl ?_
            exact v_iret C dX6_count_206 (by rw [hX]; exact fI_of (by rw [cntA, if_neg (show ¬ (¬ v < 11 ∧ ¬ 16 < v) from c8)]; simp [s24_0, s24_1, s24_2, s24_3, s24_4, s24_5, s24_6]; rw [ex2, show i = 6 by omega]) rfl)
          · skip
            have c187 := (nI_ltI (a := i) (b := 6) (by omega) (by omega)).mp c187
            refine v_iload_n C dX6_count_190 rfl rfl rfl ?_
            refine v_aload_n C dX6_count_191 rfl rfl rfl ?_
            refine v_getR C (Nat.le_of_ble_eq_true rfl) rfl rfl hinX6 1 (Nat.le_of_ble_eq_true rfl) lkX6_13 rfl dX6_count_192 rfl ?_
            refine v_iload_n C dX6_count_195 rfl rfl rfl ?_
            refine v_iald (i := i) C (Nat.le_of_ble_eq_true rfl) rfl rfl (by omega) (by decide) dX6_count_196 rfl ?_
            refine v_iadd C dX6_count_197 rfl ?_
            refine V.top (fun v198_5 ev198_5 => ?_)
            refine v_istore_n (lv' := [(2, .int v198_5), (3, .int (nI i)), (0, .ref 0), (1, .int v)]) C dX6_count_198 rfl (Nat.le_of_ble_eq_true rfl) rfl rfl ?_
            refine v_iinc (lv' := [(3, .int (nI (i + 1))), (2, .int v198_5), (0, .ref 0), (1, .int v)]) C dX6_count_199 rfl (nI_inc i) (Nat.le_of_ble_eq_true rfl) rfl rfl ?_
            refine v_goto (tgt := 184) C dX6_count_202 (by decide) ?_
            exact V.sub [0, 1, 2, 3] rfl (ih184 (i + 1) _ (by omega) (by omega) (by rw [ev198_5, ex2]; rfl))
      exact V.sub [0, 1, 2, 3] rfl (lp184 (6 + 1) 0 0 (by omega) (by omega) (rfl))
    by_cases s24_7 : v = 7
    · refine V.tp s24_7 ?_
      refine v_tableIn (off := 183) (tgt := 207) C dX6_count_24 (by decide) (by decide) rfl (by decide) ?_
      refine v_aload_n C dX6_count_207 rfl rfl rfl ?_
      refine v_getI C (Nat.le_of_ble_eq_true rfl) rfl rfl hinX6 27 (Nat.le_of_ble_eq_true rfl) lkX6_249 rfl dX6_count_208 rfl ?_
      exact v_iret C dX6_count_211 (by rw [hX]; exact fI_of (by rw [cntA, if_neg (show ¬ (¬ v < 11 ∧ ¬ 16 < v) from c8)]; simp [s24_0, s24_1, s24_2, s24_3, s24_4, s24_5, s24_6, s24_7, hn]) rfl)
    by_cases s24_8 : v = 8
    · refine V.tp s24_8 ?_
      refine v_tableIn (off := 188) (tgt := 212) C dX6_count_24 (by decide) (by decide) rfl (by decide) ?_
      refine v_aload_n C dX6_count_212 rfl rfl rfl ?_
      refine v_getI C (Nat.le_of_ble_eq_true rfl) rfl rfl hinX6 15 (Nat.le_of_ble_eq_true rfl) lkX6_76 rfl dX6_count_213 rfl ?_
      exact v_iret C dX6_count_216 (by rw [hX]; exact fI_of (by rw [cntA, if_neg (show ¬ (¬ v < 11 ∧ ¬ 16 < v) from c8)]; simp [s24_0, s24_1, s24_2, s24_3, s24_4, s24_5, s24_6, s24_7, s24_8, hn]) rfl)
    refine v_tableOut (tgt := 217) C dX6_count_24 (by have e0 := lv_neT s24_0 (a := 0) (by decide); have e1 := lv_neT s24_1 (a := 1) (by decide); have e2 := lv_neT s24_2 (a := 2) (by decide); have e3 := lv_neT s24_3 (a := 3) (by decide); have e4 := lv_neT s24_4 (a := 4) (by decide); have e5 := lv_neT s24_5 (a := 5) (by decide); have e6 := lv_neT s24_6 (a := 6) (by decide); have e7 := lv_neT s24_7 (a := 7) (by decide); have e8 := lv_neT s24_8 (a := 8) (by decide); omega) (by decide) ?_
    refine v_bipush (v := -9) C dX6_count_217 (by decide) rfl ?_
    exact v_iret C dX6_count_219 (by rw [hX]; exact fI_of (by rw [cntA, if_neg (show ¬ (¬ v < 11 ∧ ¬ 16 < v) from c8)]; simp [s24_0, s24_1, s24_2, s24_3, s24_4, s24_5, s24_6, s24_7, s24_8, hn]) rfl)
  · skip
    have c8 := bI_n c8
    have hv1 := (nat_of (v := v) (a := 11) (b := 16) (by decide) (by decide) c8.1 c8.2)
    have hv2 := hv1.2
    refine v_aload_n C dX6_count_11 rfl rfl rfl ?_
    refine v_getR C (Nat.le_of_ble_eq_true rfl) rfl rfl hinX6 0 (Nat.le_of_ble_eq_true rfl) lkX6_7 rfl dX6_count_12 rfl ?_
    refine v_iload_n C dX6_count_15 rfl rfl rfl ?_
    refine V.tp hv1.1 ?_
    refine v_bipush (v := 10) C dX6_count_16 (by decide) rfl ?_
    refine v_isub C dX6_count_18 rfl ?_
    refine V.tp (pk_sub (a := (tn v)) (b := 10) (by omega)) ?_
    refine v_iald (i := (tn v) - 10) C (Nat.le_of_ble_eq_true rfl) rfl rfl (by omega) (by decide) dX6_count_19 rfl ?_
    exact v_iret C dX6_count_20 (by rw [hX]; exact fI_of (by rw [cntA, if_pos (show ¬ v < 11 ∧ ¬ 16 < v from c8)]) rfl)
theorem kX6_image (σ : St) : Ct yX6_image cX6_image 1 (some .int) 2 [.ref 0] σ (rI (fun r τ => r = σ 0 10 ∧ Svp (s2 σ 0 19 1) 0 47 τ)) := by
  refine ct_of plX6 rfl (Nat.le_of_ble_eq_true rfl) (fun X hX C => ?_)
  show V X 0 [(0, .ref 0)] [] σ
  refine v_aload_n C dX6_image_0 rfl rfl rfl ?_
  refine v_iconst (v := 1) C dX6_image_1 (by decide) rfl ?_
  refine v_put (ty := .boolean) C (Nat.le_of_ble_eq_true rfl) rfl rfl hinX6 tyX6_ok nmX6 19 (Nat.le_of_ble_eq_true rfl) lkX6_160 rfl (by decide +kernel) rfl rfl rfl dX6_image_2 rfl ?_
  refine V.nm (fun τ2_1 eτ2_1 => ?_)
  refine v_aload_n C dX6_image_5 rfl rfl rfl ?_
  refine v_iconst (v := 0) C dX6_image_6 (by decide) rfl ?_
  refine v_iconst (v := 1) C dX6_image_7 (by decide) rfl ?_
  refine v_callV C (Nat.le_of_ble_eq_true rfl) rfl rfl (As := [.int 0, .int 1]) (rest := []) (kX6_passesAllK0 τ2_1) rfl (Nat.le_of_ble_eq_true rfl) (Nat.le_of_ble_eq_true rfl) ⟨mlX6_139, mfX6_passesAll⟩ dkX6_passesAll (Nat.le_of_ble_eq_true rfl) dX6_image_8 rfl (krV (fun τ11_2 h11_2 => ?_))
  refine v_aload_n C dX6_image_11 rfl rfl rfl ?_
  refine v_getI C (Nat.le_of_ble_eq_true rfl) rfl rfl hinX6 10 (Nat.le_of_ble_eq_true rfl) lkX6_128 rfl dX6_image_12 rfl ?_
  exact v_iret C dX6_image_15 (by rw [hX]; exact ⟨_, rfl, by rw [h11_2.2.1 10 (by decide) (by decide), eτ2_1, s2_get, if_neg (by decide)], by rw [← eτ2_1]; exact h11_2⟩)
theorem kX6_on0 (σ : St) (hi : σ 0 19 = 0) : Ct yX6_on cX6_on 1 (some .int) 2 [.ref 0] σ (fI (-3) (noS σ 3)) := by
  refine ct_of plX6 rfl (Nat.le_of_ble_eq_true rfl) (fun X hX C => ?_)
  show V X 0 [(0, .ref 0)] [] σ
  refine v_aload_n C dX6_on_0 rfl rfl rfl ?_
  refine v_getI C (Nat.le_of_ble_eq_true rfl) rfl rfl hinX6 19 (Nat.le_of_ble_eq_true rfl) lkX6_160 rfl dX6_on_1 rfl ?_
  refine V.tp hi ?_
  refine v_if_ne (tgt := 14) C dX6_on_4 (by decide) rfl (fun q => absurd q (by decide)) (fun _ => ?_)
  refine v_aload_n C dX6_on_7 rfl rfl rfl ?_
  refine v_bipush (v := -3) C dX6_on_8 (by decide) rfl ?_
  refine v_callV C (Nat.le_of_ble_eq_true rfl) rfl rfl (As := [.int (-3)]) (rest := []) (kX6_no (-3) 3 σ (by decide) (by decide)) rfl (Nat.le_of_ble_eq_true rfl) (Nat.le_of_ble_eq_true rfl) ⟨mlX6_79, mfX6_no⟩ dkX6_no (Nat.le_of_ble_eq_true rfl) dX6_on_10 rfl (kI ?_)
  exact v_iret C dX6_on_13 (by rw [hX]; exact fI_of rfl rfl)
theorem kX6_on1 (σ : St) (hi : σ 0 19 = 1) : Ct yX6_on cX6_on 1 (some .int) 2 [.ref 0] σ (rI (fun r τ => r = τ 0 10 ∧ Rsp σ 0 47 τ)) := by
  refine ct_of plX6 rfl (Nat.le_of_ble_eq_true rfl) (fun X hX C => ?_)
  show V X 0 [(0, .ref 0)] [] σ
  refine v_aload_n C dX6_on_0 rfl rfl rfl ?_
  refine v_getI C (Nat.le_of_ble_eq_true rfl) rfl rfl hinX6 19 (Nat.le_of_ble_eq_true rfl) lkX6_160 rfl dX6_on_1 rfl ?_
  refine V.tp hi ?_
  refine v_if_ne (tgt := 14) C dX6_on_4 (by decide) rfl (fun _ => ?_) (fun q => absurd q (by decide))
  refine v_aload_n C dX6_on_14 rfl rfl rfl ?_
  refine v_iconst (v := 0) C dX6_on_15 (by decide) rfl ?_
  refine v_iconst (v := 0) C dX6_on_16 (by decide) rfl ?_
  refine v_callV C (Nat.le_of_ble_eq_true rfl) rfl rfl (As := [.int 0, .int 0]) (rest := []) (kX6_passesAllB0 σ) rfl (Nat.le_of_ble_eq_true rfl) (Nat.le_of_ble_eq_true rfl) ⟨mlX6_139, mfX6_passesAll⟩ dkX6_passesAll (Nat.le_of_ble_eq_true rfl) dX6_on_17 rfl (krV (fun τ20_1 h20_1 => ?_))
  refine v_aload_n C dX6_on_20 rfl rfl rfl ?_
  refine v_getI C (Nat.le_of_ble_eq_true rfl) rfl rfl hinX6 10 (Nat.le_of_ble_eq_true rfl) lkX6_128 rfl dX6_on_21 rfl ?_
  exact v_iret C dX6_on_24 (by rw [hX]; exact ⟨_, rfl, rfl, h20_1⟩)
