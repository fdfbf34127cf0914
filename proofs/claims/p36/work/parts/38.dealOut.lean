/-! the class: Sharing deals, and tells -/
theorem nI_n9 {b : Nat} (h : b < 2 ^ 31) : ¬ nI b = -9 := fun e => absurd (show (-9 : Int32) < 0 by decide) (e ▸ nI_pos h)
noncomputable def shoA (s : Nat → Int32) (q : Nat) (v : Int32) : Int32 := cI (pieceP v (nI q)) (s (tn v)) (-9)
noncomputable def sohA (σ : St) (n q : Nat) (v : Int32) : Int32 := cI (pieceP v (nI n)) (σ 51 (tn v)) (aptF (σ 53) q)
theorem dealI_0 {σ τ : St} {n q : Nat} (h : Beg σ τ n q) : dealI σ τ n q 0 :=
  ⟨h.1, h.2.1, h.2.2.2.2.1, h.2.2.2.2.2.1, fun p hp => absurd hp (Nat.not_lt_zero p), fun a h1 h2 _ _ h5 => h.2.2.2.2.2.2 a h1 h2 h5⟩
theorem dealI_step {σ τ : St} {n q i : Nat} (h : dealI σ τ n q i) (hi : i < n) (q2 : 2 ≤ q) (q4 : q ≤ 4) : dealI σ (givS τ i (firN (deaN (fun _ => 0) (blH σ 19 n) q i) q)) n q (i + 1) := by
  have hG := firN_lt (deaN (fun _ => 0) (blH σ 19 n) q i) q (by omega)
  refine ⟨?_, ?_, fun p hp => ?_, fun j hj => ?_, fun p hp => ?_, fun a h1 h2 h3 h4 h5 => ?_⟩
  · rw [givS, s2_ne (by decide), s2_ne (by decide)]; exact h.1
  · rw [givS, s2_ne (by decide), s2_ne (by decide)]; exact h.2.1
  · rw [givS, s2_ne (by decide), s2_ne (by decide)]; exact h.2.2.1 p hp
  · rw [givS, s2_get, deaN, s2_ne (by decide), h.2.2.1 i hi, h.2.2.2.1 _ (by omega)]
    unfold upd
    by_cases e : j = firN (deaN (fun _ => 0) (blH σ 19 n) q i) q
    · rw [if_pos ⟨rfl, e⟩, if_pos e]
    · rw [if_neg (fun z => e z.2), if_neg e, h.2.2.2.1 j hj]
  · rw [givS, s2_ne (by decide), s2_get]
    by_cases e : p = i
    · rw [if_pos ⟨rfl, e⟩, e, deaG]
    · rw [if_neg (fun z => e z.2)]; exact h.2.2.2.2.1 p (by omega)
  · rw [givS, s2_ne h5, s2_ne h3]; exact h.2.2.2.2.2 a h1 h2 h3 h4 h5
theorem kX3_shareOf (v : Int32) (q : Nat) (σ : St) (hq : σ 49 5 = nI q) (q2 : 2 ≤ q) (q4 : q ≤ 4) : Ct yX3_shareOf cX3_shareOf 2 (some .int) 0 [.ref 49, .int v] σ (fI (shoA (σ 53) q v) σ) := by
  refine ct_of plX3 rfl (Nat.le_of_ble_eq_true rfl) (fun X hX C => ?_)
  show V X 0 [(0, .ref 49), (1, .int v)] [] σ
  refine v_iload_n C dX3_shareOf_0 rfl rfl rfl ?_
  refine v_if_lt (tgt := 21) C dX3_shareOf_1 (by decide) rfl (fun c1 => ?_) (fun c1 => ?_)
  · skip
    refine v_bipush (v := -9) C dX3_shareOf_21 (by decide) rfl ?_
    exact v_iret C dX3_shareOf_23 (by rw [hX]; exact fI_of (cI_f (fun z => z.1 c1)).symm rfl)
  · skip
    refine v_iload_n C dX3_shareOf_4 rfl rfl rfl ?_
    refine v_aload_n C dX3_shareOf_5 rfl rfl rfl ?_
    refine v_getI C (Nat.le_of_ble_eq_true rfl) rfl rfl hinX3 5 (Nat.le_of_ble_eq_true rfl) lkX3_28 rfl dX3_shareOf_6 rfl ?_
    refine V.tp hq ?_
    refine v_icmp_ge (tgt := 21) C dX3_shareOf_9 (by decide) rfl (fun c9 => ?_) (fun c9 => ?_)
    · skip
      refine v_bipush (v := -9) C dX3_shareOf_21 (by decide) rfl ?_
      exact v_iret C dX3_shareOf_23 (by rw [hX]; exact fI_of (cI_f (fun z => c9 z.2)).symm rfl)
    · skip
      refine v_aload_n C dX3_shareOf_12 rfl rfl rfl ?_
      refine v_getR C (Nat.le_of_ble_eq_true rfl) rfl rfl hinX3 3 (Nat.le_of_ble_eq_true rfl) lkX3_21 rfl dX3_shareOf_13 rfl ?_
      refine v_iload_n C dX3_shareOf_16 rfl rfl rfl ?_
      refine v_iald (i := (tn v)) C (Nat.le_of_ble_eq_true rfl) rfl (piece_nat (by omega) ⟨c1, c9⟩).1 (by have := (piece_nat (n := q) (by omega) ⟨c1, c9⟩).2; omega) (by decide) dX3_shareOf_17 rfl ?_
      refine v_goto (tgt := 23) C dX3_shareOf_18 (by decide) ?_
      exact v_iret C dX3_shareOf_23 (by rw [hX]; exact fI_of (cI_t ⟨c1, c9⟩).symm rfl)
theorem kX3_spreadOrHeirOf (v : Int32) (n : Nat) (q : Nat) (σ : St) (hq : σ 49 5 = nI q) (q2 : 2 ≤ q) (q4 : q ≤ 4) (hn : σ 49 4 = nI n) (h7 : n ≤ 7) : Ct yX3_spreadOrHeirOf cX3_spreadOrHeirOf 2 (some .int) 2 [.ref 49, .int v] σ (fI (sohA σ n q v) σ) := by
  refine ct_of plX3 rfl (Nat.le_of_ble_eq_true rfl) (fun X hX C => ?_)
  show V X 0 [(0, .ref 49), (1, .int v)] [] σ
  refine v_iload_n C dX3_spreadOrHeirOf_0 rfl rfl rfl ?_
  refine v_if_lt (tgt := 21) C dX3_spreadOrHeirOf_1 (by decide) rfl (fun c1 => ?_) (fun c1 => ?_)
  · skip
    refine v_aload_n C dX3_spreadOrHeirOf_21 rfl rfl rfl ?_
    refine v_callV C (Nat.le_of_ble_eq_true rfl) rfl rfl (As := []) (rest := []) (kX3_spread q σ hq q2 q4) rfl (Nat.le_of_ble_eq_true rfl) (Nat.le_of_ble_eq_true rfl) ⟨mlX3_87, mfX3_spread⟩ dkX3_spread (Nat.le_of_ble_eq_true rfl) dX3_spreadOrHeirOf_22 rfl (kI ?_)
    exact v_iret C dX3_spreadOrHeirOf_25 (by rw [hX]; exact fI_of (cI_f (fun z => z.1 c1)).symm rfl)
  · skip
    refine v_iload_n C dX3_spreadOrHeirOf_4 rfl rfl rfl ?_
    refine v_aload_n C dX3_spreadOrHeirOf_5 rfl rfl rfl ?_
    refine v_getI C (Nat.le_of_ble_eq_true rfl) rfl rfl hinX3 4 (Nat.le_of_ble_eq_true rfl) lkX3_24 rfl dX3_spreadOrHeirOf_6 rfl ?_
    refine V.tp hn ?_
    refine v_icmp_ge (tgt := 21) C dX3_spreadOrHeirOf_9 (by decide) rfl (fun c9 => ?_) (fun c9 => ?_)
    · skip
      refine v_aload_n C dX3_spreadOrHeirOf_21 rfl rfl rfl ?_
      refine v_callV C (Nat.le_of_ble_eq_true rfl) rfl rfl (As := []) (rest := []) (kX3_spread q σ hq q2 q4) rfl (Nat.le_of_ble_eq_true rfl) (Nat.le_of_ble_eq_true rfl) ⟨mlX3_87, mfX3_spread⟩ dkX3_spread (Nat.le_of_ble_eq_true rfl) dX3_spreadOrHeirOf_22 rfl (kI ?_)
      exact v_iret C dX3_spreadOrHeirOf_25 (by rw [hX]; exact fI_of (cI_f (fun z => c9 z.2)).symm rfl)
    · skip
      refine v_aload_n C dX3_spreadOrHeirOf_12 rfl rfl rfl ?_
      refine v_getR C (Nat.le_of_ble_eq_true rfl) rfl rfl hinX3 1 (Nat.le_of_ble_eq_true rfl) lkX3_15 rfl dX3_spreadOrHeirOf_13 rfl ?_
      refine v_iload_n C dX3_spreadOrHeirOf_16 rfl rfl rfl ?_
      refine v_iald (i := (tn v)) C (Nat.le_of_ble_eq_true rfl) rfl (piece_nat h7 ⟨c1, c9⟩).1 (by have := (piece_nat h7 ⟨c1, c9⟩).2; omega) (by decide) dX3_spreadOrHeirOf_17 rfl ?_
      refine v_goto (tgt := 25) C dX3_spreadOrHeirOf_18 (by decide) ?_
      exact v_iret C dX3_spreadOrHeirOf_25 (by rw [hX]; exact fI_of (cI_t ⟨c1, c9⟩).symm rfl)
theorem kX3_envied (q : Nat) (σ : St) (hq : σ 49 5 = nI q) (q2 : 2 ≤ q) (q4 : q ≤ 4) : Ct yX3_envied cX3_envied 3 (some .int) 1 [.ref 49] σ (fI (sumN (envG (σ 53) (σ 53 (firN (σ 53) q))) q) σ) := by
  refine ct_of plX3 rfl (Nat.le_of_ble_eq_true rfl) (fun X hX C => ?_)
  show V X 0 [(0, .ref 49)] [] σ
  refine v_iconst (v := 0) C dX3_envied_0 (by decide) rfl ?_
  refine v_istore_n (lv' := [(1, .int 0), (0, .ref 49)]) C dX3_envied_1 rfl (Nat.le_of_ble_eq_true rfl) rfl rfl ?_
  refine v_iconst (v := 0) C dX3_envied_2 (by decide) rfl ?_
  refine v_istore_n (lv' := [(2, .int 0), (1, .int 0), (0, .ref 49)]) C dX3_envied_3 rfl (Nat.le_of_ble_eq_true rfl) rfl rfl ?_
  have lp4 : ∀ (kf i : Nat) (x1 : Int32) , q < i + kf → i ≤ q → x1 = sumN (envG (σ 53) (σ 53 (firN (σ 53) q))) i → V X 4 [(2, .int (nI i)), (1, .int x1), (0, .ref 49)] [] σ := by
    intro kf
    induction kf with
    | zero => intro i x1 h1 h2; omega
    | succ kf ih4 =>
      intro i x1 h1 h2 ex1
      refine v_iload_n C dX3_envied_4 rfl rfl rfl ?_
      refine v_aload_n C dX3_envied_5 rfl rfl rfl ?_
      refine v_getI C (Nat.le_of_ble_eq_true rfl) rfl rfl hinX3 5 (Nat.le_of_ble_eq_true rfl) lkX3_28 rfl dX3_envied_6 rfl ?_
      refine V.tp hq ?_
      refine v_icmp_ge (tgt := 39) C dX3_envied_9 (by decide) rfl (fun c9 => ?_) (fun c9 => ?_)
      · skip
        have c9 := mt (nI_ltI (a := i) (b := q) (by omega) (by omega)).mpr c9
        refine v_iload_n C dX3_envied_39 rfl rfl rfl ?_
        exact v_iret C dX3_envied_40 (by rw [hX]; exact fI_of (by rw [ex1, show i = q from by omega]) rfl)
      · skip
        have c9 := (nI_ltI (a := i) (b := q) (by omega) (by omega)).mp c9
        refine v_aload_n C dX3_envied_12 rfl rfl rfl ?_
        refine v_getR C (Nat.le_of_ble_eq_true rfl) rfl rfl hinX3 3 (Nat.le_of_ble_eq_true rfl) lkX3_21 rfl dX3_envied_13 rfl ?_
        refine v_iload_n C dX3_envied_16 rfl rfl rfl ?_
        refine v_iald (i := i) C (Nat.le_of_ble_eq_true rfl) rfl rfl (by omega) (by decide) dX3_envied_17 rfl ?_
        refine v_aload_n C dX3_envied_18 rfl rfl rfl ?_
        refine v_getR C (Nat.le_of_ble_eq_true rfl) rfl rfl hinX3 3 (Nat.le_of_ble_eq_true rfl) lkX3_21 rfl dX3_envied_19 rfl ?_
        refine v_aload_n C dX3_envied_22 rfl rfl rfl ?_
        refine v_callV C (Nat.le_of_ble_eq_true rfl) rfl rfl (As := []) (rest := [.ref 53, .int (σ 53 i)]) (kX3_poorest q σ hq q2 q4) rfl (Nat.le_of_ble_eq_true rfl) (Nat.le_of_ble_eq_true rfl) ⟨mlX3_97, mfX3_poorest⟩ dkX3_poorest (Nat.le_of_ble_eq_true rfl) dX3_envied_23 rfl (kI ?_)
        refine v_iald (i := (firN (σ 53) q)) C (Nat.le_of_ble_eq_true rfl) rfl rfl (by have := firN_lt (σ 53) q (by omega); omega) (by decide) dX3_envied_26 rfl ?_
        refine v_icmp_le (tgt := 33) C dX3_envied_27 (by decide) rfl (fun c27 => ?_) (fun c27 => ?_)
        · skip
          refine v_iinc (lv' := [(2, .int (nI (i + 1))), (1, .int x1), (0, .ref 49)]) C dX3_envied_33 rfl (nI_inc i) (Nat.le_of_ble_eq_true rfl) rfl rfl ?_
          refine v_goto (tgt := 4) C dX3_envied_36 (by decide) ?_
          exact V.sub [0, 1, 2] rfl (ih4 (i + 1) _ (by omega) (by omega) (by rw [ex1]; simp [sumN, envG, c27]))
        · skip
          obtain ⟨v30_1, ev30_1⟩ : ∃ y : Int32, y = x1 + 1 := ⟨_, rfl⟩
          refine v_iinc (lv' := [(1, .int v30_1), (2, .int (nI i)), (0, .ref 49)]) C dX3_envied_30 rfl (by rw [ev30_1]; rfl) (Nat.le_of_ble_eq_true rfl) rfl rfl ?_
          refine v_iinc (lv' := [(2, .int (nI (i + 1))), (1, .int v30_1), (0, .ref 49)]) C dX3_envied_33 rfl (nI_inc i) (Nat.le_of_ble_eq_true rfl) rfl rfl ?_
          refine v_goto (tgt := 4) C dX3_envied_36 (by decide) ?_
          exact V.sub [0, 1, 2] rfl (ih4 (i + 1) _ (by omega) (by omega) (by rw [ev30_1, ex1]; simp [sumN, envG, c27]))
  exact V.sub [0, 1, 2] rfl (lp4 (q + 1) 0 0 (by omega) (by omega) (rfl))
theorem kX3_leastOfLeft (n : Nat) (σ : St) (hn : σ 49 4 = nI n) (h7 : n ≤ 7) : Ct yX3_leastOfLeft cX3_leastOfLeft 3 (some .int) 0 [.ref 49] σ (fI (oI (minN (fun p => σ 51 p = -9) (σ 50) n)) σ) := by
  refine ct_of plX3 rfl (Nat.le_of_ble_eq_true rfl) (fun X hX C => ?_)
  show V X 0 [(0, .ref 49)] [] σ
  refine v_bipush (v := -9) C dX3_leastOfLeft_0 (by decide) rfl ?_
  refine v_istore_n (lv' := [(1, .int (-9)), (0, .ref 49)]) C dX3_leastOfLeft_2 rfl (Nat.le_of_ble_eq_true rfl) rfl rfl ?_
  refine v_iconst (v := 0) C dX3_leastOfLeft_3 (by decide) rfl ?_
  refine v_istore_n (lv' := [(2, .int 0), (1, .int (-9)), (0, .ref 49)]) C dX3_leastOfLeft_4 rfl (Nat.le_of_ble_eq_true rfl) rfl rfl ?_
  have lp5 : ∀ (kf i : Nat) (x1 : Int32) , n < i + kf → i ≤ n → x1 = oI (minN (fun p => σ 51 p = -9) (σ 50) i) → V X 5 [(2, .int (nI i)), (1, .int x1), (0, .ref 49)] [] σ := by
    intro kf
    induction kf with
    | zero => intro i x1 h1 h2; omega
    | succ kf ih5 =>
      intro i x1 h1 h2 ex1
      rcases hq : minN (fun p => σ 51 p = -9) (σ 50) i with _ | b
      · have hx : x1 = -9 := by rw [ex1, hq]; rfl
        refine v_iload_n C dX3_leastOfLeft_5 rfl rfl rfl ?_
        refine v_aload_n C dX3_leastOfLeft_6 rfl rfl rfl ?_
        refine v_getI C (Nat.le_of_ble_eq_true rfl) rfl rfl hinX3 4 (Nat.le_of_ble_eq_true rfl) lkX3_24 rfl dX3_leastOfLeft_7 rfl ?_
        refine V.tp hn ?_
        refine v_icmp_ge (tgt := 53) C dX3_leastOfLeft_10 (by decide) rfl (fun c10 => ?_) (fun c10 => ?_)
        · skip
          have c10 := mt (nI_ltI (a := i) (b := n) (by omega) (by omega)).mpr c10
          refine v_iload_n C dX3_leastOfLeft_53 rfl rfl rfl ?_
          refine V.tp hx ?_
          exact v_iret C dX3_leastOfLeft_54 (by rw [hX]; exact fI_of (hx.symm.trans (by rw [ex1, show i = n from by omega])) rfl)
        · skip
          have c10 := (nI_ltI (a := i) (b := n) (by omega) (by omega)).mp c10
          refine v_aload_n C dX3_leastOfLeft_13 rfl rfl rfl ?_
          refine v_getR C (Nat.le_of_ble_eq_true rfl) rfl rfl hinX3 1 (Nat.le_of_ble_eq_true rfl) lkX3_15 rfl dX3_leastOfLeft_14 rfl ?_
          refine v_iload_n C dX3_leastOfLeft_17 rfl rfl rfl ?_
          refine v_iald (i := i) C (Nat.le_of_ble_eq_true rfl) rfl rfl (by omega) (by decide) dX3_leastOfLeft_18 rfl ?_
          refine v_bipush (v := -9) C dX3_leastOfLeft_19 (by decide) rfl ?_
          refine v_icmp_ne (tgt := 47) C dX3_leastOfLeft_21 (by decide) rfl (fun c21 => ?_) (fun c21 => ?_)
          · skip
            refine v_iinc (lv' := [(2, .int (nI (i + 1))), (1, .int x1), (0, .ref 49)]) C dX3_leastOfLeft_47 rfl (nI_inc i) (Nat.le_of_ble_eq_true rfl) rfl rfl ?_
            refine v_goto (tgt := 5) C dX3_leastOfLeft_50 (by decide) ?_
            exact V.sub [0, 1, 2] rfl (ih5 (i + 1) _ (by omega) (by omega) (by first | exact absurd c27 (nI_n9 (by omega)) | (rw [hx]; simp [minN, hq, oI, cI, c21])))
          · skip
            refine v_iload_n C dX3_leastOfLeft_24 rfl rfl rfl ?_
            refine V.tp hx ?_
            refine v_bipush (v := -9) C dX3_leastOfLeft_25 (by decide) rfl ?_
            refine v_icmp_eq (tgt := 45) C dX3_leastOfLeft_27 (by decide) rfl (fun _ => ?_) (fun q => absurd q (by decide))
            refine v_iload_n C dX3_leastOfLeft_45 rfl rfl rfl ?_
            refine v_istore_n (lv' := [(1, .int (nI i)), (2, .int (nI i)), (0, .ref 49)]) C dX3_leastOfLeft_46 rfl (Nat.le_of_ble_eq_true rfl) rfl rfl ?_
            refine v_iinc (lv' := [(2, .int (nI (i + 1))), (1, .int (nI i)), (0, .ref 49)]) C dX3_leastOfLeft_47 rfl (nI_inc i) (Nat.le_of_ble_eq_true rfl) rfl rfl ?_
            refine v_goto (tgt := 5) C dX3_leastOfLeft_50 (by decide) ?_
            exact V.sub [0, 1, 2] rfl (ih5 (i + 1) _ (by omega) (by omega) (by first | exact absurd c27 (nI_n9 (by omega)) | (simp [minN, hq, oI, cI, c21])))
      · have hx : x1 = nI b := by rw [ex1, hq]; rfl
        have hbl := minN_lt hq
        refine v_iload_n C dX3_leastOfLeft_5 rfl rfl rfl ?_
        refine v_aload_n C dX3_leastOfLeft_6 rfl rfl rfl ?_
        refine v_getI C (Nat.le_of_ble_eq_true rfl) rfl rfl hinX3 4 (Nat.le_of_ble_eq_true rfl) lkX3_24 rfl dX3_leastOfLeft_7 rfl ?_
        refine V.tp hn ?_
        refine v_icmp_ge (tgt := 53) C dX3_leastOfLeft_10 (by decide) rfl (fun c10 => ?_) (fun c10 => ?_)
        · skip
          have c10 := mt (nI_ltI (a := i) (b := n) (by omega) (by omega)).mpr c10
          refine v_iload_n C dX3_leastOfLeft_53 rfl rfl rfl ?_
          refine V.tp hx ?_
          exact v_iret C dX3_leastOfLeft_54 (by rw [hX]; exact fI_of (hx.symm.trans (by rw [ex1, show i = n from by omega])) rfl)
        · skip
          have c10 := (nI_ltI (a := i) (b := n) (by omega) (by omega)).mp c10
          refine v_aload_n C dX3_leastOfLeft_13 rfl rfl rfl ?_
          refine v_getR C (Nat.le_of_ble_eq_true rfl) rfl rfl hinX3 1 (Nat.le_of_ble_eq_true rfl) lkX3_15 rfl dX3_leastOfLeft_14 rfl ?_
          refine v_iload_n C dX3_leastOfLeft_17 rfl rfl rfl ?_
          refine v_iald (i := i) C (Nat.le_of_ble_eq_true rfl) rfl rfl (by omega) (by decide) dX3_leastOfLeft_18 rfl ?_
          refine v_bipush (v := -9) C dX3_leastOfLeft_19 (by decide) rfl ?_
          refine v_icmp_ne (tgt := 47) C dX3_leastOfLeft_21 (by decide) rfl (fun c21 => ?_) (fun c21 => ?_)
          · skip
            refine v_iinc (lv' := [(2, .int (nI (i + 1))), (1, .int x1), (0, .ref 49)]) C dX3_leastOfLeft_47 rfl (nI_inc i) (Nat.le_of_ble_eq_true rfl) rfl rfl ?_
            refine v_goto (tgt := 5) C dX3_leastOfLeft_50 (by decide) ?_
            exact V.sub [0, 1, 2] rfl (ih5 (i + 1) _ (by omega) (by omega) (by first | exact absurd c27 (nI_n9 (by omega)) | (rw [hx]; simp [minN, hq, oI, cI, c21])))
          · skip
            refine v_iload_n C dX3_leastOfLeft_24 rfl rfl rfl ?_
            refine V.tp hx ?_
            refine v_bipush (v := -9) C dX3_leastOfLeft_25 (by decide) rfl ?_
            refine v_icmp_eq (tgt := 45) C dX3_leastOfLeft_27 (by decide) rfl (fun c27 => ?_) (fun c27 => ?_)
            · skip
              refine v_iload_n C dX3_leastOfLeft_45 rfl rfl rfl ?_
              refine v_istore_n (lv' := [(1, .int (nI i)), (2, .int (nI i)), (0, .ref 49)]) C dX3_leastOfLeft_46 rfl (Nat.le_of_ble_eq_true rfl) rfl rfl ?_
              refine v_iinc (lv' := [(2, .int (nI (i + 1))), (1, .int (nI i)), (0, .ref 49)]) C dX3_leastOfLeft_47 rfl (nI_inc i) (Nat.le_of_ble_eq_true rfl) rfl rfl ?_
              refine v_goto (tgt := 5) C dX3_leastOfLeft_50 (by decide) ?_
              exact V.sub [0, 1, 2] rfl (ih5 (i + 1) _ (by omega) (by omega) (by first | exact absurd c27 (nI_n9 (by omega)) | (simp [minN, hq, oI, cI, c21, c27])))
            · skip
              refine v_aload_n C dX3_leastOfLeft_30 rfl rfl rfl ?_
              refine v_getR C (Nat.le_of_ble_eq_true rfl) rfl rfl hinX3 0 (Nat.le_of_ble_eq_true rfl) lkX3_9 rfl dX3_leastOfLeft_31 rfl ?_
              refine v_iload_n C dX3_leastOfLeft_34 rfl rfl rfl ?_
              refine v_iald (i := i) C (Nat.le_of_ble_eq_true rfl) rfl rfl (by omega) (by decide) dX3_leastOfLeft_35 rfl ?_
              refine v_aload_n C dX3_leastOfLeft_36 rfl rfl rfl ?_
              refine v_getR C (Nat.le_of_ble_eq_true rfl) rfl rfl hinX3 0 (Nat.le_of_ble_eq_true rfl) lkX3_9 rfl dX3_leastOfLeft_37 rfl ?_
              refine v_iload_n C dX3_leastOfLeft_40 rfl rfl rfl ?_
              refine V.tp hx ?_
              refine v_iald (i := b) C (Nat.le_of_ble_eq_true rfl) rfl rfl (by omega) (by decide) dX3_leastOfLeft_41 rfl ?_
              refine v_icmp_ge (tgt := 47) C dX3_leastOfLeft_42 (by decide) rfl (fun c42 => ?_) (fun c42 => ?_)
              · skip
                refine v_iinc (lv' := [(2, .int (nI (i + 1))), (1, .int x1), (0, .ref 49)]) C dX3_leastOfLeft_47 rfl (nI_inc i) (Nat.le_of_ble_eq_true rfl) rfl rfl ?_
                refine v_goto (tgt := 5) C dX3_leastOfLeft_50 (by decide) ?_
                exact V.sub [0, 1, 2] rfl (ih5 (i + 1) _ (by omega) (by omega) (by first | exact absurd c27 (nI_n9 (by omega)) | (rw [hx]; simp [minN, hq, oI, cI, c21, c27, c42])))
              · skip
                refine v_iload_n C dX3_leastOfLeft_45 rfl rfl rfl ?_
                refine v_istore_n (lv' := [(1, .int (nI i)), (2, .int (nI i)), (0, .ref 49)]) C dX3_leastOfLeft_46 rfl (Nat.le_of_ble_eq_true rfl) rfl rfl ?_
                refine v_iinc (lv' := [(2, .int (nI (i + 1))), (1, .int (nI i)), (0, .ref 49)]) C dX3_leastOfLeft_47 rfl (nI_inc i) (Nat.le_of_ble_eq_true rfl) rfl rfl ?_
                refine v_goto (tgt := 5) C dX3_leastOfLeft_50 (by decide) ?_
                exact V.sub [0, 1, 2] rfl (ih5 (i + 1) _ (by omega) (by omega) (by first | exact absurd c27 (nI_n9 (by omega)) | (simp [minN, hq, oI, cI, c21, c27, c42])))
  exact V.sub [0, 1, 2] rfl (lp5 (n + 1) 0 _ (by omega) (by omega) (rfl))
theorem kX3_dealOut (n q : Nat) (σ : St) (hn : σ 19 7 = nI n) (h7 : n ≤ 7) (hq : σ 19 8 = nI q) (q2 : 2 ≤ q) (q4 : q ≤ 4) : Ct yX3_dealOut cX3_dealOut 3 none 4 [.ref 49, .ref 19] σ (rV (fun τ => dealI σ τ n q n)) := by
  refine ct_of plX3 rfl (Nat.le_of_ble_eq_true rfl) (fun X hX C => ?_)
  show V X 0 [(0, .ref 49), (1, .ref 19)] [] σ
  refine v_aload_n C dX3_dealOut_0 rfl rfl rfl ?_
  refine v_aload_n C dX3_dealOut_1 rfl rfl rfl ?_
  refine v_callV C (Nat.le_of_ble_eq_true rfl) rfl rfl (As := [.ref 19]) (rest := []) (kX3_begin n q σ hn h7 hq q2 q4) rfl (Nat.le_of_ble_eq_true rfl) (Nat.le_of_ble_eq_true rfl) ⟨mlX3_65, mfX3_begin⟩ dkX3_begin (Nat.le_of_ble_eq_true rfl) dX3_dealOut_2 rfl (krV (fun υ hB => ?_))
  have h4υ := hB.1
  refine v_iconst (v := 0) C dX3_dealOut_5 (by decide) rfl ?_
  refine v_istore_n (lv' := [(2, .int 0), (0, .ref 49), (1, .ref 19)]) C dX3_dealOut_6 rfl (Nat.le_of_ble_eq_true rfl) rfl rfl ?_
  have lp7 : ∀ (kf i : Nat)  (τ : St), n < i + kf → i ≤ n → dealI σ τ n q i → V X 7 [(2, .int (nI i)), (0, .ref 49), (1, .ref 19)] [] τ := by
    intro kf
    induction kf with
    | zero => intro i  τ h1 h2; omega
    | succ kf ih7 =>
      intro i  τ h1 h2  eτ
      have hτ := eτ
      have h4τ := eτ.1
      have h5τ := eτ.2.1
      refine v_iload_n C dX3_dealOut_7 rfl rfl rfl ?_
      refine v_aload_n C dX3_dealOut_8 rfl rfl rfl ?_
      refine v_getI C (Nat.le_of_ble_eq_true rfl) rfl rfl hinX3 4 (Nat.le_of_ble_eq_true rfl) lkX3_24 rfl dX3_dealOut_9 rfl ?_
      refine V.tp h4τ ?_
      refine v_icmp_ge (tgt := 30) C dX3_dealOut_12 (by decide) rfl (fun c12 => ?_) (fun c12 => ?_)
      · skip
        have c12 := mt (nI_ltI (a := i) (b := n) (by omega) (by omega)).mpr c12
        exact v_vret C dX3_dealOut_30 (by rw [hX]; exact ⟨rfl, by rw [show n = i from by omega]; exact (show n = i from by omega) ▸ eτ⟩)
      · skip
        have c12 := (nI_ltI (a := i) (b := n) (by omega) (by omega)).mp c12
        refine v_aload_n C dX3_dealOut_15 rfl rfl rfl ?_
        refine v_iload_n C dX3_dealOut_16 rfl rfl rfl ?_
        refine v_aload_n C dX3_dealOut_17 rfl rfl rfl ?_
        refine v_callV C (Nat.le_of_ble_eq_true rfl) rfl rfl (As := []) (rest := [.int (nI i), .ref 49]) (kX3_poorest q τ h5τ q2 q4) rfl (Nat.le_of_ble_eq_true rfl) (Nat.le_of_ble_eq_true rfl) ⟨mlX3_97, mfX3_poorest⟩ dkX3_poorest (Nat.le_of_ble_eq_true rfl) dX3_dealOut_18 rfl (kI ?_)
        refine V.tp (show nI (firN (τ 53) q) = nI (firN (deaN (fun _ => 0) (blH σ 19 n) q i) q) from by rw [firN_cg q (fun j hj => hτ.2.2.2.1 j (by omega))]) ?_
        have hG := firN_lt (deaN (fun _ => 0) (blH σ 19 n) q i) q (by omega)
        refine v_callV C (Nat.le_of_ble_eq_true rfl) rfl rfl (As := [.int (nI i), .int (nI (firN (deaN (fun _ => 0) (blH σ 19 n) q i) q))]) (rest := []) (kX3_give i (firN (deaN (fun _ => 0) (blH σ 19 n) q i) q) n q τ h4τ h7 h5τ q4 (by omega) hG) rfl (Nat.le_of_ble_eq_true rfl) (Nat.le_of_ble_eq_true rfl) ⟨mlX3_73, mfX3_give⟩ dkX3_give (Nat.le_of_ble_eq_true rfl) dX3_dealOut_21 rfl (kV ?_)
        refine v_iinc (lv' := [(2, .int (nI (i + 1))), (0, .ref 49), (1, .ref 19)]) C dX3_dealOut_24 rfl (nI_inc i) (Nat.le_of_ble_eq_true rfl) rfl rfl ?_
        refine v_goto (tgt := 7) C dX3_dealOut_27 (by decide) ?_
        exact V.sub [0, 1, 2] rfl (ih7 (i + 1)  _ (by omega) (by omega)  (dealI_step eτ c12 q2 q4))
  exact V.sub [0, 1, 2] rfl (lp7 (n + 1) 0  _ (by omega) (by omega)  (dealI_0 hB))
