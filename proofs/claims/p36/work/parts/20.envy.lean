/-! the check's class: shares, envy -/
def shrB (σ : St) (n h : Nat) : Nat := (fshN (shF σ n h) (h ^ n)).1
def shrS (σ : St) (n h : Nat) : Nat → Int32 := shaN (fun _ => 0) (blR σ n) (dig h n (shrB σ n h)) n
def shrA (σ : St) (n h : Nat) (v : Int32) : Int32 := if v < -1 then -4 else if v < nI n then (if v < 0 then (fshN (shF σ n h) (h ^ n)).2 else nI (dig h n (shrB σ n h) (tn v))) else -1
def envG (s : Nat → Int32) (m : Int32) (j : Nat) : Int32 := if m < s j then 1 else 0
def envA (σ : St) (n h : Nat) : Int32 := sumN (envG (shrS σ n h) (shrS σ n h (firN (shrS σ n h) h))) h
theorem firN_cg {f g : Nat → Int32} : ∀ h, (∀ j, j < h → f j = g j) → firN f h = firN g h
  | 0, _ => rfl
  | h + 1, hs => by
    rw [firN, firN, firN_cg h (fun j hj => hs j (by omega))]
    by_cases e : h = 0
    · rw [if_pos e, if_pos e]
    · rw [if_neg e, if_neg e, hs h (by omega), hs (firN g h) (by have := firN_lt g h (by omega); omega)]
theorem kX6_shares (v : Int32) (n : Nat) (σ : St) (hn : σ 0 8 = nI n) (h7 : n ≤ 7) (h : Nat) (hh : σ 0 9 = nI h) (hl2 : 2 ≤ h) (hl4 : h ≤ 4) : Ct yX6_shares cX6_shares 4 (some .int) 5 [.ref 0, .int v] σ (rI (fun r τ => r = shrA σ n h v ∧ ((v < -1 ∧ τ = noS σ 4) ∨ (¬ v < -1 ∧ ¬ v < nI n ∧ τ = noS σ 1) ∨ (¬ v < -1 ∧ v < nI n ∧ Sm σ τ)))) := by
  refine ct_of plX6 rfl (Nat.le_of_ble_eq_true rfl) (fun X hX C => ?_)
  show V X 0 [(0, .ref 0), (1, .int v)] [] σ
  refine v_aload_n C dX6_shares_0 rfl rfl rfl ?_
  refine v_iload_n C dX6_shares_1 rfl rfl rfl ?_
  refine v_callV C (Nat.le_of_ble_eq_true rfl) rfl rfl (As := [.int v]) (rest := []) (kX6_notShare v σ) rfl (Nat.le_of_ble_eq_true rfl) (Nat.le_of_ble_eq_true rfl) ⟨mlX6_216, mfX6_notShare⟩ dkX6_notShare (Nat.le_of_ble_eq_true rfl) dX6_shares_2 rfl (kI ?_)
  rcases nsh_cases v (σ 0 8) with ⟨hb, q1⟩ | ⟨hb, q1, q2⟩ | ⟨hb, q1, q2⟩
  · refine V.tp hb ?_
    refine v_istore_n (lv' := [(2, .int (-4)), (0, .ref 0), (1, .int v)]) C dX6_shares_5 rfl (Nat.le_of_ble_eq_true rfl) rfl rfl ?_
    refine v_iload_n C dX6_shares_6 rfl rfl rfl ?_
    refine v_if_eq (tgt := 16) C dX6_shares_7 (by decide) rfl (fun q => absurd q (by decide)) (fun _ => ?_)
    refine v_aload_n C dX6_shares_10 rfl rfl rfl ?_
    refine v_iload_n C dX6_shares_11 rfl rfl rfl ?_
    refine v_callV C (Nat.le_of_ble_eq_true rfl) rfl rfl (As := [.int (-4)]) (rest := []) (kX6_no (-4) 4 σ (by decide) (by decide)) rfl (Nat.le_of_ble_eq_true rfl) (Nat.le_of_ble_eq_true rfl) ⟨mlX6_79, mfX6_no⟩ dkX6_no (Nat.le_of_ble_eq_true rfl) dX6_shares_12 rfl (kI ?_)
    exact v_iret C dX6_shares_15 (by rw [hX]; exact ⟨_, rfl, by simp [shrA, q1], Or.inl ⟨q1, rfl⟩⟩)
  · refine V.tp hb ?_
    refine v_istore_n (lv' := [(2, .int (-1)), (0, .ref 0), (1, .int v)]) C dX6_shares_5 rfl (Nat.le_of_ble_eq_true rfl) rfl rfl ?_
    refine v_iload_n C dX6_shares_6 rfl rfl rfl ?_
    refine v_if_eq (tgt := 16) C dX6_shares_7 (by decide) rfl (fun q => absurd q (by decide)) (fun _ => ?_)
    refine v_aload_n C dX6_shares_10 rfl rfl rfl ?_
    refine v_iload_n C dX6_shares_11 rfl rfl rfl ?_
    refine v_callV C (Nat.le_of_ble_eq_true rfl) rfl rfl (As := [.int (-1)]) (rest := []) (kX6_no (-1) 1 σ (by decide) (by decide)) rfl (Nat.le_of_ble_eq_true rfl) (Nat.le_of_ble_eq_true rfl) ⟨mlX6_79, mfX6_no⟩ dkX6_no (Nat.le_of_ble_eq_true rfl) dX6_shares_12 rfl (kI ?_)
    exact v_iret C dX6_shares_15 (by rw [hX]; exact ⟨_, rfl, by simp [shrA, q1, ← hn, q2], Or.inr (Or.inl ⟨q1, hn ▸ q2, rfl⟩)⟩)
  · refine V.tp hb ?_
    refine v_istore_n (lv' := [(2, .int 0), (0, .ref 0), (1, .int v)]) C dX6_shares_5 rfl (Nat.le_of_ble_eq_true rfl) rfl rfl ?_
    refine v_iload_n C dX6_shares_6 rfl rfl rfl ?_
    refine v_if_eq (tgt := 16) C dX6_shares_7 (by decide) rfl (fun _ => ?_) (fun q => absurd q (by decide))
    refine v_aload_n C dX6_shares_16 rfl rfl rfl ?_
    refine v_callV C (Nat.le_of_ble_eq_true rfl) rfl rfl (As := []) (rest := []) (kX6_findShares n σ hn h7 h hh hl2 hl4) rfl (Nat.le_of_ble_eq_true rfl) (Nat.le_of_ble_eq_true rfl) ⟨mlX6_219, mfX6_findShares⟩ dkX6_findShares (Nat.le_of_ble_eq_true rfl) dX6_shares_17 rfl (krI (fun r20_1 τ20_1 h20_1 => ?_))
    refine v_istore_n (lv' := [(3, .int r20_1), (2, .int 0), (0, .ref 0), (1, .int v)]) C dX6_shares_20 rfl (Nat.le_of_ble_eq_true rfl) rfl rfl ?_
    refine v_iload_n C dX6_shares_21 rfl rfl rfl ?_
    refine v_if_ge (tgt := 29) C dX6_shares_22 (by decide) rfl (fun c22 => ?_) (fun c22 => ?_)
    · skip
      have hv1 : v = nI (tn v) ∧ tn v < n := piece_nat h7 ⟨c22, hn ▸ q2⟩
      have hv2 := hv1.2
      refine v_aload_n C dX6_shares_29 rfl rfl rfl ?_
      refine v_getR C (Nat.le_of_ble_eq_true rfl) rfl rfl hinX6 24 (Nat.le_of_ble_eq_true rfl) lkX6_52 rfl dX6_shares_30 rfl ?_
      refine v_iload_n C dX6_shares_33 rfl rfl rfl ?_
      refine V.tp hv1.1 ?_
      refine v_iald (i := tn v) C (Nat.le_of_ble_eq_true rfl) rfl rfl (by omega) (by decide) dX6_shares_34 rfl ?_
      exact v_iret C dX6_shares_35 (by rw [hX]; exact ⟨_, rfl, by rw [shrA, if_neg q1, if_pos (hn ▸ q2), if_neg c22]; exact h20_1.2.2.1 _ hv2, Or.inr (Or.inr ⟨q1, hn ▸ q2, h20_1.2.1⟩)⟩)
    · skip
      refine v_iload_n C dX6_shares_25 rfl rfl rfl ?_
      refine v_goto (tgt := 35) C dX6_shares_26 (by decide) ?_
      exact v_iret C dX6_shares_35 (by rw [hX]; exact ⟨_, rfl, by rw [shrA, if_neg q1, if_pos (hn ▸ q2), if_pos c22]; exact h20_1.1, Or.inr (Or.inr ⟨q1, hn ▸ q2, h20_1.2.1⟩)⟩)
theorem kX6_envy (n : Nat) (σ : St) (hn : σ 0 8 = nI n) (h7 : n ≤ 7) (h : Nat) (hh : σ 0 9 = nI h) (hl2 : 2 ≤ h) (hl4 : h ≤ 4) : Ct yX6_envy cX6_envy 4 (some .int) 5 [.ref 0] σ (rI (fun r τ => r = envA σ n h ∧ Sm σ τ)) := by
  refine ct_of plX6 rfl (Nat.le_of_ble_eq_true rfl) (fun X hX C => ?_)
  show V X 0 [(0, .ref 0)] [] σ
  refine v_aload_n C dX6_envy_0 rfl rfl rfl ?_
  refine v_callV C (Nat.le_of_ble_eq_true rfl) rfl rfl (As := []) (rest := []) (kX6_findShares n σ hn h7 h hh hl2 hl4) rfl (Nat.le_of_ble_eq_true rfl) (Nat.le_of_ble_eq_true rfl) ⟨mlX6_219, mfX6_findShares⟩ dkX6_findShares (Nat.le_of_ble_eq_true rfl) dX6_envy_1 rfl (krI (fun r4_1 τ4_1 h4_1 => ?_))
  have hht : τ4_1 0 9 = nI h := (h4_1.2.1.2.1 9 (by decide)).trans hh
  have hfl := firN_lt (τ4_1 16) h (by omega)
  refine v_pop C dX6_envy_4 rfl rfl ?_
  refine v_aload_n C dX6_envy_5 rfl rfl rfl ?_
  refine v_getR C (Nat.le_of_ble_eq_true rfl) rfl rfl hinX6 25 (Nat.le_of_ble_eq_true rfl) lkX6_55 rfl dX6_envy_6 rfl ?_
  refine v_aload_n C dX6_envy_9 rfl rfl rfl ?_
  refine v_callV C (Nat.le_of_ble_eq_true rfl) rfl rfl (As := []) (rest := [.ref 16]) (kX6_poorest h τ4_1 hht hl2 hl4) rfl (Nat.le_of_ble_eq_true rfl) (Nat.le_of_ble_eq_true rfl) ⟨mlX6_222, mfX6_poorest⟩ dkX6_poorest (Nat.le_of_ble_eq_true rfl) dX6_envy_10 rfl (kI ?_)
  refine v_iald (i := firN (τ4_1 16) h) C (Nat.le_of_ble_eq_true rfl) rfl rfl (by omega) (by decide) dX6_envy_13 rfl ?_
  refine V.top (fun v14_2 ev14_2 => ?_)
  refine v_istore_n (lv' := [(1, .int v14_2), (0, .ref 0)]) C dX6_envy_14 rfl (Nat.le_of_ble_eq_true rfl) rfl rfl ?_
  refine v_iconst (v := 0) C dX6_envy_15 (by decide) rfl ?_
  refine v_istore_n (lv' := [(2, .int 0), (1, .int v14_2), (0, .ref 0)]) C dX6_envy_16 rfl (Nat.le_of_ble_eq_true rfl) rfl rfl ?_
  refine v_iconst (v := 0) C dX6_envy_17 (by decide) rfl ?_
  refine v_istore_n (lv' := [(3, .int 0), (2, .int 0), (1, .int v14_2), (0, .ref 0)]) C dX6_envy_18 rfl (Nat.le_of_ble_eq_true rfl) rfl rfl ?_
  have lp19 : ∀ (k i : Nat) (x2 : Int32) , h < i + k → i ≤ h → x2 = sumN (envG (τ4_1 16) (τ4_1 16 (firN (τ4_1 16) h))) i → V X 19 [(3, .int (nI i)), (2, .int x2), (1, .int v14_2), (0, .ref 0)] [] τ4_1 := by
    intro k
    induction k with
    | zero => intro i x2 h1 h2; omega
    | succ k ih19 =>
      intro i x2 h1 h2 ex2
      refine v_iload_n C dX6_envy_19 rfl rfl rfl ?_
      refine v_aload_n C dX6_envy_20 rfl rfl rfl ?_
      refine v_getI C (Nat.le_of_ble_eq_true rfl) rfl rfl hinX6 9 (Nat.le_of_ble_eq_true rfl) lkX6_61 rfl dX6_envy_21 rfl ?_
      refine V.tp hht ?_
      refine v_icmp_ge (tgt := 51) C dX6_envy_24 (by decide) rfl (fun c24 => ?_) (fun c24 => ?_)
      · skip
        have c24 := mt (nI_ltI (a := i) (b := h) (by omega) (by omega)).mpr c24
        refine v_iload_n C dX6_envy_51 rfl rfl rfl ?_
        exact v_iret C dX6_envy_52 (by rw [hX]; exact ⟨_, rfl, by rw [ex2, show i = h by omega, envA, firN_cg h (fun j hj => h4_1.2.2.2 j (by omega))]; exact sumN_congr (fun j hj => by rw [envG, envG, h4_1.2.2.2 j (by omega), h4_1.2.2.2 (firN (shaN (fun _ => 0) (blR σ n) (dig h n (fshN (shF σ n h) (h ^ n)).1) n) h) (by have := firN_lt (shaN (fun _ => 0) (blR σ n) (dig h n (fshN (shF σ n h) (h ^ n)).1) n) h (by omega); omega)]; rfl), h4_1.2.1⟩)
      · skip
        have c24 := (nI_ltI (a := i) (b := h) (by omega) (by omega)).mp c24
        refine v_iload_n C dX6_envy_27 rfl rfl rfl ?_
        refine v_aload_n C dX6_envy_28 rfl rfl rfl ?_
        refine v_getR C (Nat.le_of_ble_eq_true rfl) rfl rfl hinX6 25 (Nat.le_of_ble_eq_true rfl) lkX6_55 rfl dX6_envy_29 rfl ?_
        refine v_iload_n C dX6_envy_32 rfl rfl rfl ?_
        refine v_iald (i := i) C (Nat.le_of_ble_eq_true rfl) rfl rfl (by omega) (by decide) dX6_envy_33 rfl ?_
        refine v_iload_n C dX6_envy_34 rfl rfl rfl ?_
        refine v_icmp_le (tgt := 42) C dX6_envy_35 (by decide) rfl (fun c35 => ?_) (fun c35 => ?_)
        · skip
          refine v_iconst (v := 0) C dX6_envy_42 (by decide) rfl ?_
          refine v_iadd C dX6_envy_43 rfl ?_
          refine V.top (fun v44_3 ev44_3 => ?_)
          refine v_istore_n (lv' := [(2, .int v44_3), (3, .int (nI i)), (1, .int v14_2), (0, .ref 0)]) C dX6_envy_44 rfl (Nat.le_of_ble_eq_true rfl) rfl rfl ?_
          refine v_iinc (lv' := [(3, .int (nI (i + 1))), (2, .int v44_3), (1, .int v14_2), (0, .ref 0)]) C dX6_envy_45 rfl (nI_inc i) (Nat.le_of_ble_eq_true rfl) rfl rfl ?_
          refine v_goto (tgt := 19) C dX6_envy_48 (by decide) ?_
          exact V.sub [0, 1, 2, 3] rfl (ih19 (i + 1) _ (by omega) (by omega) (by rw [ev44_3, ex2]; simp [sumN, envG, ← ev14_2, c35]))
        · skip
          refine v_iconst (v := 1) C dX6_envy_38 (by decide) rfl ?_
          refine v_goto (tgt := 43) C dX6_envy_39 (by decide) ?_
          refine v_iadd C dX6_envy_43 rfl ?_
          refine V.top (fun v44_4 ev44_4 => ?_)
          refine v_istore_n (lv' := [(2, .int v44_4), (3, .int (nI i)), (1, .int v14_2), (0, .ref 0)]) C dX6_envy_44 rfl (Nat.le_of_ble_eq_true rfl) rfl rfl ?_
          refine v_iinc (lv' := [(3, .int (nI (i + 1))), (2, .int v44_4), (1, .int v14_2), (0, .ref 0)]) C dX6_envy_45 rfl (nI_inc i) (Nat.le_of_ble_eq_true rfl) rfl rfl ?_
          refine v_goto (tgt := 19) C dX6_envy_48 (by decide) ?_
          exact V.sub [0, 1, 2, 3] rfl (ih19 (i + 1) _ (by omega) (by omega) (by rw [ev44_4, ex2]; simp [sumN, envG, ← ev14_2, c35]))
  exact V.sub [0, 1, 2, 3] rfl (lp19 (h + 1) 0 0 (by omega) (by omega) (rfl))
