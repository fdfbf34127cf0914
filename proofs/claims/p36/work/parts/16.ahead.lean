/-! the check's class: years ahead, the row, lots, counts, the image -/
def laF (σ : St) (n m : Nat) : Int32 := binF (σ 4) (yrs n σ m 6) (yrs n σ m 7) (σ 8) n 10
theorem yrs_cg {σ τ : St} (n : Nat) (h4 : τ 4 = σ 4) (h6 : τ 6 = σ 6) (h7 : τ 7 = σ 7) (hy : τ 0 10 = σ 0 10) : ∀ m, yrs n τ m 6 = yrs n σ m 6 ∧ yrs n τ m 7 = yrs n σ m 7 ∧ yrs n τ m 0 10 = yrs n σ m 0 10
  | 0 => ⟨h6, h7, hy⟩
  | m + 1 => by
    obtain ⟨i6, i7, iy⟩ := yrs_cg n h4 h6 h7 hy m
    have j4 : yrs n τ m 4 = yrs n σ m 4 := by rw [yrs_o _ _ _ (by decide) (by decide) (by decide), yrs_o _ _ _ (by decide) (by decide) (by decide), h4]
    exact ⟨by rw [yrs, yrs, yrP_6, yrP_6, i6, iy, j4], by rw [yrs, yrs, yrP_7, yrP_7, i7], by rw [yrs, yrs, yrP_y, yrP_y, iy]⟩
theorem laF_cg {σ τ : St} (n : Nat) (h4 : τ 4 = σ 4) (h6 : τ 6 = σ 6) (h7 : τ 7 = σ 7) (h8 : τ 8 = σ 8) (hy : τ 0 10 = σ 0 10) (m : Nat) : laF τ n m = laF σ n m := by
  obtain ⟨i6, i7, -⟩ := yrs_cg n h4 h6 h7 hy m
  rw [laF, laF, i6, i7, h4, h8]
theorem laF_sm {σ τ : St} (h : Sm σ τ) (n m : Nat) : laF τ n m = laF σ n m := laF_cg n (Sm_r h 4 (by decide)) (Sm_r h 6 (by decide)) (Sm_r h 7 (by decide)) (Sm_r h 8 (by decide)) (h.2.1 10 (by decide)) m
theorem kX6_blameBehind (n m : Nat) (σ : St) (hn : σ 0 8 = nI n) (h7 : n ≤ 7) (hm : m < 1000) : Ct yX6_blameBehind cX6_blameBehind 3 (some .int) 3 [.ref 0, .int (nI m)] σ (rI (fun v τ => v = laF σ n m ∧ Sm σ τ)) := by
  refine ct_of plX6 rfl (Nat.le_of_ble_eq_true rfl) (fun X hX C => ?_)
  show V X 0 [(0, .ref 0), (1, .int (nI m))] [] σ
  refine v_aload_n C dX6_blameBehind_0 rfl rfl rfl ?_
  refine v_iconst (v := 1) C dX6_blameBehind_1 (by decide) rfl ?_
  refine v_iconst (v := 1) C dX6_blameBehind_2 (by decide) rfl ?_
  refine v_callV C (Nat.le_of_ble_eq_true rfl) rfl rfl (As := [.int 1, .int 1]) (rest := []) (kX6_passesAllK1 σ) rfl (Nat.le_of_ble_eq_true rfl) (Nat.le_of_ble_eq_true rfl) ⟨mlX6_139, mfX6_passesAll⟩ dkX6_passesAll (Nat.le_of_ble_eq_true rfl) dX6_blameBehind_3 rfl (krV (fun τ6_1 h6_1 => ?_))
  have hnτ6_1 : τ6_1 0 8 = nI n := by rw [h6_1.2.1 8 (by decide) (by decide)]; exact hn
  refine v_aload_n C dX6_blameBehind_6 rfl rfl rfl ?_
  refine v_iload_n C dX6_blameBehind_7 rfl rfl rfl ?_
  refine v_callV C (Nat.le_of_ble_eq_true rfl) rfl rfl (As := [.int (nI m)]) (rest := []) (kX6_goes n m τ6_1 hnτ6_1 h7 (by omega)) rfl (Nat.le_of_ble_eq_true rfl) (Nat.le_of_ble_eq_true rfl) ⟨mlX6_131, mfX6_goes⟩ dkX6_goes (Nat.le_of_ble_eq_true rfl) dX6_blameBehind_8 rfl (kV ?_)
  refine v_aload_n C dX6_blameBehind_11 rfl rfl rfl ?_
  refine v_bipush (v := 10) C dX6_blameBehind_12 (by decide) rfl ?_
  refine v_callV C (Nat.le_of_ble_eq_true rfl) rfl rfl (As := [.int 10]) (rest := []) (kX6_blameIn n 10 (yrs n τ6_1 m) (by rw [yrs_z _ _ _ (by decide)]; exact hnτ6_1) h7) rfl (Nat.le_of_ble_eq_true rfl) (Nat.le_of_ble_eq_true rfl) ⟨mlX6_178, mfX6_blameIn⟩ dkX6_blameIn (Nat.le_of_ble_eq_true rfl) dX6_blameBehind_14 rfl (kI ?_)
  refine V.top (fun v17_2 ev17_2 => ?_)
  refine v_istore_n (lv' := [(2, .int v17_2), (0, .ref 0), (1, .int (nI m))]) C dX6_blameBehind_17 rfl (Nat.le_of_ble_eq_true rfl) rfl rfl ?_
  refine v_aload_n C dX6_blameBehind_18 rfl rfl rfl ?_
  refine v_iconst (v := 1) C dX6_blameBehind_19 (by decide) rfl ?_
  refine v_iconst (v := 0) C dX6_blameBehind_20 (by decide) rfl ?_
  refine v_callV C (Nat.le_of_ble_eq_true rfl) rfl rfl (As := [.int 1, .int 0]) (rest := []) (kX6_passesAllB1 (yrs n τ6_1 m)) rfl (Nat.le_of_ble_eq_true rfl) (Nat.le_of_ble_eq_true rfl) ⟨mlX6_139, mfX6_passesAll⟩ dkX6_passesAll (Nat.le_of_ble_eq_true rfl) dX6_blameBehind_21 rfl (krV (fun τ24_3 h24_3 => ?_))
  refine v_iload_n C dX6_blameBehind_24 rfl rfl rfl ?_
  exact v_iret C dX6_blameBehind_25 (by rw [hX]; exact ⟨_, rfl, by rw [ev17_2, yrs_o _ _ 4 (by decide) (by decide) (by decide), yrs_o _ _ 8 (by decide) (by decide) (by decide)]; exact laF_cg n (h6_1.1 4 (by decide) (by decide)) (h6_1.1 6 (by decide) (by decide)) (h6_1.1 7 (by decide) (by decide)) (h6_1.1 8 (by decide) (by decide)) (h6_1.2.1 10 (by decide) (by decide)) m, KB h6_1 h24_3 (yrs_o _ _ _ (by decide) (by decide) (by decide) _) (Bd_yrs (Svp_Bd h6_1) h7 m) (fun a ha => by rw [yrs_o _ _ _ (by omega) (by omega) (by omega)]; exact h6_1.1 a (by omega) (by omega)) (fun j hj => by rw [yrs_z _ _ _ (by omega)]; exact h6_1.2.1 j (by omega) (by omega))⟩)
theorem first_some {P : Nat → Prop} {i : Nat} (h : ∀ j, j < i → ¬ P j) (hi : P i) : ∀ m, i < m → minN P (fun _ => 0) m = some i := by
  have h0 : ∀ k, k ≤ i → minN P (fun _ => 0) k = none := by
    intro k
    induction k with
    | zero => intro _; rfl
    | succ k ih => intro hk; rw [minN, ih (by omega)]; exact cI_f (h k (by omega))
  intro m
  induction m with
  | zero => intro h; omega
  | succ m ih =>
    intro hm
    by_cases e : m = i
    · subst e; rw [minN, h0 m (by omega)]; exact cI_t hi
    · rw [minN, ih (by omega)]; exact cI_f (fun q => absurd q.2 (by decide))
theorem first_none {P : Nat → Prop} : ∀ m, (∀ j, j < m → ¬ P j) → minN P (fun _ => 0) m = none
  | 0, _ => rfl
  | m + 1, h => by rw [minN, first_none m (fun j hj => h j (by omega))]; exact cI_f (h m (by omega))
noncomputable def fstN (P : Nat → Prop) (m : Nat) : Int32 := oI (minN P (fun _ => 0) m)
theorem fst_some {P : Nat → Prop} {i m : Nat} (h : ∀ j, j < i → ¬ P j) (hi : P i) (hm : i < m) : nI i = fstN P m := by rw [fstN, first_some h hi m hm]; rfl
theorem fst_none {P : Nat → Prop} {m : Nat} (h : ∀ j, j < m → ¬ P j) : -9 = fstN P m := by rw [fstN, first_none m h]; rfl
def latA (σ : St) (n : Nat) (v : Int32) : Int32 := if v < 0 then -4 else if 200 < v then -6 else laF σ n (tn v)
noncomputable def gonA (σ : St) (n : Nat) (v : Int32) : Int32 := if v < 0 then -4 else if 999 < v then -6 else fstN (fun k => ¬ v < laF σ n k) 201
theorem kX6_later (v : Int32) (n : Nat) (σ : St) (hn : σ 0 8 = nI n) (h7 : n ≤ 7) : Ct yX6_later cX6_later 3 (some .int) 4 [.ref 0, .int v] σ (rI (fun r τ => r = latA σ n v ∧ ((v < 0 ∧ τ = noS σ 4) ∨ (¬ v < 0 ∧ 200 < v ∧ τ = noS σ 6) ∨ (¬ v < 0 ∧ ¬ 200 < v ∧ Sm σ τ)))) := by
  refine ct_of plX6 rfl (Nat.le_of_ble_eq_true rfl) (fun X hX C => ?_)
  show V X 0 [(0, .ref 0), (1, .int v)] [] σ
  refine v_iload_n C dX6_later_0 rfl rfl rfl ?_
  refine v_iconst (v := 0) C dX6_later_1 (by decide) rfl ?_
  refine v_sipush (v := 200) C dX6_later_2 (by decide) rfl ?_
  refine v_callS C (As := [.int v, .int 0, .int 200]) (rest := []) (kX6_bound v 0 200 σ) rfl (Nat.le_of_ble_eq_true rfl) (Nat.le_of_ble_eq_true rfl) ⟨mlX6_72, mfX6_bound⟩ dkX6_bound (Nat.le_of_ble_eq_true rfl) dX6_later_5 rfl (kI ?_)
  rcases bnd_cases v 0 200 with ⟨hb, q1⟩ | ⟨hb, q1, q2⟩ | ⟨hb, q1, q2⟩
  · refine V.tp hb ?_
    refine v_istore_n (lv' := [(2, .int (-4)), (0, .ref 0), (1, .int v)]) C dX6_later_8 rfl (Nat.le_of_ble_eq_true rfl) rfl rfl ?_
    refine v_iload_n C dX6_later_9 rfl rfl rfl ?_
    refine v_if_eq (tgt := 21) C dX6_later_10 (by decide) rfl (fun q => absurd q (by decide)) (fun _ => ?_)
    refine v_aload_n C dX6_later_13 rfl rfl rfl ?_
    refine v_iload_n C dX6_later_14 rfl rfl rfl ?_
    refine v_callV C (Nat.le_of_ble_eq_true rfl) rfl rfl (As := [.int (-4)]) (rest := []) (kX6_no (-4) 4 σ (by decide) (by decide)) rfl (Nat.le_of_ble_eq_true rfl) (Nat.le_of_ble_eq_true rfl) ⟨mlX6_79, mfX6_no⟩ dkX6_no (Nat.le_of_ble_eq_true rfl) dX6_later_15 rfl (kI ?_)
    refine v_goto (tgt := 26) C dX6_later_18 (by decide) ?_
    exact v_iret C dX6_later_26 (by rw [hX]; exact ⟨_, rfl, by simp [latA, q1], Or.inl ⟨q1, rfl⟩⟩)
  · refine V.tp hb ?_
    refine v_istore_n (lv' := [(2, .int (-6)), (0, .ref 0), (1, .int v)]) C dX6_later_8 rfl (Nat.le_of_ble_eq_true rfl) rfl rfl ?_
    refine v_iload_n C dX6_later_9 rfl rfl rfl ?_
    refine v_if_eq (tgt := 21) C dX6_later_10 (by decide) rfl (fun q => absurd q (by decide)) (fun _ => ?_)
    refine v_aload_n C dX6_later_13 rfl rfl rfl ?_
    refine v_iload_n C dX6_later_14 rfl rfl rfl ?_
    refine v_callV C (Nat.le_of_ble_eq_true rfl) rfl rfl (As := [.int (-6)]) (rest := []) (kX6_no (-6) 6 σ (by decide) (by decide)) rfl (Nat.le_of_ble_eq_true rfl) (Nat.le_of_ble_eq_true rfl) ⟨mlX6_79, mfX6_no⟩ dkX6_no (Nat.le_of_ble_eq_true rfl) dX6_later_15 rfl (kI ?_)
    refine v_goto (tgt := 26) C dX6_later_18 (by decide) ?_
    exact v_iret C dX6_later_26 (by rw [hX]; exact ⟨_, rfl, by simp [latA, q1, q2], Or.inr (Or.inl ⟨q1, q2, rfl⟩)⟩)
  · refine V.tp hb ?_
    refine v_istore_n (lv' := [(2, .int 0), (0, .ref 0), (1, .int v)]) C dX6_later_8 rfl (Nat.le_of_ble_eq_true rfl) rfl rfl ?_
    refine v_iload_n C dX6_later_9 rfl rfl rfl ?_
    refine v_if_eq (tgt := 21) C dX6_later_10 (by decide) rfl (fun _ => ?_) (fun q => absurd q (by decide))
    have hv1 := (nat_of (v := v) (a := 0) (b := 200) (by decide) (by decide) q1 q2)
    have hv2 := hv1.2
    refine v_aload_n C dX6_later_21 rfl rfl rfl ?_
    refine v_iload_n C dX6_later_22 rfl rfl rfl ?_
    refine V.tp hv1.1 ?_
    refine v_callV C (Nat.le_of_ble_eq_true rfl) rfl rfl (As := [.int (nI (tn v))]) (rest := []) (kX6_blameBehind n (tn v) σ hn h7 (by omega)) rfl (Nat.le_of_ble_eq_true rfl) (Nat.le_of_ble_eq_true rfl) ⟨mlX6_240, mfX6_blameBehind⟩ dkX6_blameBehind (Nat.le_of_ble_eq_true rfl) dX6_later_23 rfl (krI (fun r26_1 τ26_1 h26_1 => ?_))
    exact v_iret C dX6_later_26 (by rw [hX]; exact ⟨_, rfl, by rw [latA, if_neg q1, if_neg q2]; exact h26_1.1, Or.inr (Or.inr ⟨q1, q2, h26_1.2⟩)⟩)
theorem kX6_gone (v : Int32) (n : Nat) (σ : St) (hn : σ 0 8 = nI n) (h7 : n ≤ 7) : Ct yX6_gone cX6_gone 4 (some .int) 4 [.ref 0, .int v] σ (rI (fun r τ => r = gonA σ n v ∧ ((v < 0 ∧ τ = noS σ 4) ∨ (¬ v < 0 ∧ 999 < v ∧ τ = noS σ 6) ∨ (¬ v < 0 ∧ ¬ 999 < v ∧ Sm σ τ)))) := by
  refine ct_of plX6 rfl (Nat.le_of_ble_eq_true rfl) (fun X hX C => ?_)
  show V X 0 [(0, .ref 0), (1, .int v)] [] σ
  refine v_iload_n C dX6_gone_0 rfl rfl rfl ?_
  refine v_iconst (v := 0) C dX6_gone_1 (by decide) rfl ?_
  refine v_sipush (v := 999) C dX6_gone_2 (by decide) rfl ?_
  refine v_callS C (As := [.int v, .int 0, .int 999]) (rest := []) (kX6_bound v 0 999 σ) rfl (Nat.le_of_ble_eq_true rfl) (Nat.le_of_ble_eq_true rfl) ⟨mlX6_72, mfX6_bound⟩ dkX6_bound (Nat.le_of_ble_eq_true rfl) dX6_gone_5 rfl (kI ?_)
  rcases bnd_cases v 0 999 with ⟨hb, q1⟩ | ⟨hb, q1, q2⟩ | ⟨hb, q1, q2⟩
  · refine V.tp hb ?_
    refine v_istore_n (lv' := [(2, .int (-4)), (0, .ref 0), (1, .int v)]) C dX6_gone_8 rfl (Nat.le_of_ble_eq_true rfl) rfl rfl ?_
    refine v_iload_n C dX6_gone_9 rfl rfl rfl ?_
    refine v_if_eq (tgt := 19) C dX6_gone_10 (by decide) rfl (fun q => absurd q (by decide)) (fun _ => ?_)
    refine v_aload_n C dX6_gone_13 rfl rfl rfl ?_
    refine v_iload_n C dX6_gone_14 rfl rfl rfl ?_
    refine v_callV C (Nat.le_of_ble_eq_true rfl) rfl rfl (As := [.int (-4)]) (rest := []) (kX6_no (-4) 4 σ (by decide) (by decide)) rfl (Nat.le_of_ble_eq_true rfl) (Nat.le_of_ble_eq_true rfl) ⟨mlX6_79, mfX6_no⟩ dkX6_no (Nat.le_of_ble_eq_true rfl) dX6_gone_15 rfl (kI ?_)
    exact v_iret C dX6_gone_18 (by rw [hX]; exact ⟨_, rfl, by simp [gonA, q1], Or.inl ⟨q1, rfl⟩⟩)
  · refine V.tp hb ?_
    refine v_istore_n (lv' := [(2, .int (-6)), (0, .ref 0), (1, .int v)]) C dX6_gone_8 rfl (Nat.le_of_ble_eq_true rfl) rfl rfl ?_
    refine v_iload_n C dX6_gone_9 rfl rfl rfl ?_
    refine v_if_eq (tgt := 19) C dX6_gone_10 (by decide) rfl (fun q => absurd q (by decide)) (fun _ => ?_)
    refine v_aload_n C dX6_gone_13 rfl rfl rfl ?_
    refine v_iload_n C dX6_gone_14 rfl rfl rfl ?_
    refine v_callV C (Nat.le_of_ble_eq_true rfl) rfl rfl (As := [.int (-6)]) (rest := []) (kX6_no (-6) 6 σ (by decide) (by decide)) rfl (Nat.le_of_ble_eq_true rfl) (Nat.le_of_ble_eq_true rfl) ⟨mlX6_79, mfX6_no⟩ dkX6_no (Nat.le_of_ble_eq_true rfl) dX6_gone_15 rfl (kI ?_)
    exact v_iret C dX6_gone_18 (by rw [hX]; exact ⟨_, rfl, by simp [gonA, q1, q2], Or.inr (Or.inl ⟨q1, q2, rfl⟩)⟩)
  · refine V.tp hb ?_
    refine v_istore_n (lv' := [(2, .int 0), (0, .ref 0), (1, .int v)]) C dX6_gone_8 rfl (Nat.le_of_ble_eq_true rfl) rfl rfl ?_
    refine v_iload_n C dX6_gone_9 rfl rfl rfl ?_
    refine v_if_eq (tgt := 19) C dX6_gone_10 (by decide) rfl (fun _ => ?_) (fun q => absurd q (by decide))
    refine v_iconst (v := 0) C dX6_gone_19 (by decide) rfl ?_
    refine v_istore_n (lv' := [(3, .int 0), (2, .int 0), (0, .ref 0), (1, .int v)]) C dX6_gone_20 rfl (Nat.le_of_ble_eq_true rfl) rfl rfl ?_
    have lp21 : ∀ (k i : Nat)  (τ : St), 201 < i + k → i ≤ 201 → Sm σ τ → (∀ j, j < i → ¬ (fun k => ¬ v < laF σ n k) j) → V X 21 [(3, .int (nI i)), (2, .int 0), (0, .ref 0), (1, .int v)] [] τ := by
      intro k
      induction k with
      | zero => intro i  τ h1 h2; omega
      | succ k ih21 =>
        intro i  τ h1 h2  eτ hb
        have hnt : τ 0 8 = nI n := Sm_n eτ hn
        refine v_iload_n C dX6_gone_21 rfl rfl rfl ?_
        refine v_sipush (v := 200) C dX6_gone_22 (by decide) rfl ?_
        refine v_icmp_gt (tgt := 45) C dX6_gone_25 (by decide) rfl (fun c25 => ?_) (fun c25 => ?_)
        · skip
          have c25 := (nI_ltI (a := 200) (b := i) (by omega) (by omega)).mp c25
          refine v_bipush (v := -9) C dX6_gone_45 (by decide) rfl ?_
          exact v_iret C dX6_gone_47 (by rw [hX]; exact ⟨_, rfl, by rw [gonA, if_neg q1, if_neg q2]; exact fst_none (fun j hj => hb j (by omega)), Or.inr (Or.inr ⟨q1, q2, eτ⟩)⟩)
        · skip
          have c25 := mt (nI_ltI (a := 200) (b := i) (by omega) (by omega)).mpr c25
          refine v_aload_n C dX6_gone_28 rfl rfl rfl ?_
          refine v_iload_n C dX6_gone_29 rfl rfl rfl ?_
          refine v_callV C (Nat.le_of_ble_eq_true rfl) rfl rfl (As := [.int (nI i)]) (rest := []) (kX6_blameBehind n i τ hnt h7 (by omega)) rfl (Nat.le_of_ble_eq_true rfl) (Nat.le_of_ble_eq_true rfl) ⟨mlX6_240, mfX6_blameBehind⟩ dkX6_blameBehind (Nat.le_of_ble_eq_true rfl) dX6_gone_30 rfl (krI (fun r33_1 τ33_1 h33_1 => ?_))
          have hvr33_1 : r33_1 = laF σ n i := h33_1.1.trans (laF_sm eτ _ _)
          have hsτ33_1 : Sm σ τ33_1 := eτ.tr h33_1.2
          refine v_iload_n C dX6_gone_33 rfl rfl rfl ?_
          refine v_icmp_gt (tgt := 39) C dX6_gone_34 (by decide) rfl (fun c34 => ?_) (fun c34 => ?_)
          · skip
            refine v_iinc (lv' := [(3, .int (nI (i + 1))), (2, .int 0), (0, .ref 0), (1, .int v)]) C dX6_gone_39 rfl (nI_inc i) (Nat.le_of_ble_eq_true rfl) rfl rfl ?_
            refine v_goto (tgt := 21) C dX6_gone_42 (by decide) ?_
            exact V.sub [0, 1, 2, 3] rfl (ih21 (i + 1)  _ (by omega) (by omega)  (hsτ33_1) (by intro j hj; exact (Classical.em (j = i)).elim (fun e => by rw [e]; exact fun z => z (by rw [← hvr33_1]; exact c34)) (fun e => hb j (by omega))))
          · skip
            refine v_iload_n C dX6_gone_37 rfl rfl rfl ?_
            exact v_iret C dX6_gone_38 (by rw [hX]; exact ⟨_, rfl, by rw [gonA, if_neg q1, if_neg q2]; exact fst_some hb (by rw [← hvr33_1]; exact c34) (by omega), Or.inr (Or.inr ⟨q1, q2, hsτ33_1⟩)⟩)
    exact V.sub [0, 1, 2, 3] rfl (lp21 (201 + 1) 0  _ (by omega) (by omega)  (Sm.rf σ) (by intro j hj; omega))
def rowP (σ : St) (n k : Nat) : Prop := ¬ (if 99 < laF σ n k then 99 else laF σ n k) = σ 17 k
noncomputable def othA (σ : St) (n u : Nat) : Int32 := fstN (rowP σ n) u
theorem kX6_firstOther (n u : Nat) (σ : St) (hn : σ 0 8 = nI n) (h7 : n ≤ 7) (hu : σ 0 27 = nI u) (h12 : u ≤ 12) : Ct yX6_firstOther cX6_firstOther 3 (some .int) 4 [.ref 0] σ (rI (fun v τ => v = othA σ n u ∧ Sm σ τ)) := by
  refine ct_of plX6 rfl (Nat.le_of_ble_eq_true rfl) (fun X hX C => ?_)
  show V X 0 [(0, .ref 0)] [] σ
  refine v_iconst (v := 0) C dX6_firstOther_0 (by decide) rfl ?_
  refine v_istore_n (lv' := [(1, .int 0), (0, .ref 0)]) C dX6_firstOther_1 rfl (Nat.le_of_ble_eq_true rfl) rfl rfl ?_
  have lp2 : ∀ (k i : Nat)  (τ : St), u < i + k → i ≤ u → Sm σ τ → (∀ j, j < i → ¬ rowP σ n j) → V X 2 [(1, .int (nI i)), (0, .ref 0)] [] τ := by
    intro k
    induction k with
    | zero => intro i  τ h1 h2; omega
    | succ k ih2 =>
      intro i  τ h1 h2  eτ hb
      have hnt : τ 0 8 = nI n := Sm_n eτ hn
      have hut : τ 0 27 = nI u := (eτ.2.1 27 (by decide)).trans hu
      refine v_iload_n C dX6_firstOther_2 rfl rfl rfl ?_
      refine v_aload_n C dX6_firstOther_3 rfl rfl rfl ?_
      refine v_getI C (Nat.le_of_ble_eq_true rfl) rfl rfl hinX6 27 (Nat.le_of_ble_eq_true rfl) lkX6_249 rfl dX6_firstOther_4 rfl ?_
      refine V.tp hut ?_
      refine v_icmp_ge (tgt := 45) C dX6_firstOther_7 (by decide) rfl (fun c7 => ?_) (fun c7 => ?_)
      · skip
        have c7 := mt (nI_ltI (a := i) (b := u) (by omega) (by omega)).mpr c7
        refine v_bipush (v := -9) C dX6_firstOther_45 (by decide) rfl ?_
        exact v_iret C dX6_firstOther_47 (by rw [hX]; exact ⟨_, rfl, fst_none (fun j hj => hb j (by omega)), eτ⟩)
      · skip
        have c7 := (nI_ltI (a := i) (b := u) (by omega) (by omega)).mp c7
        refine v_aload_n C dX6_firstOther_10 rfl rfl rfl ?_
        refine v_iload_n C dX6_firstOther_11 rfl rfl rfl ?_
        refine v_callV C (Nat.le_of_ble_eq_true rfl) rfl rfl (As := [.int (nI i)]) (rest := []) (kX6_blameBehind n i τ hnt h7 (by omega)) rfl (Nat.le_of_ble_eq_true rfl) (Nat.le_of_ble_eq_true rfl) ⟨mlX6_240, mfX6_blameBehind⟩ dkX6_blameBehind (Nat.le_of_ble_eq_true rfl) dX6_firstOther_12 rfl (krI (fun r15_1 τ15_1 h15_1 => ?_))
        have hvr15_1 : r15_1 = laF σ n i := h15_1.1.trans (laF_sm eτ _ _)
        have hsτ15_1 : Sm σ τ15_1 := eτ.tr h15_1.2
        have h17i : τ15_1 17 i = σ 17 i := by rw [Sm_r hsτ15_1 17 (by decide)]
        refine v_istore_n (lv' := [(2, .int r15_1), (1, .int (nI i)), (0, .ref 0)]) C dX6_firstOther_15 rfl (Nat.le_of_ble_eq_true rfl) rfl rfl ?_
        refine v_iload_n C dX6_firstOther_16 rfl rfl rfl ?_
        refine v_bipush (v := 99) C dX6_firstOther_17 (by decide) rfl ?_
        refine v_icmp_le (tgt := 27) C dX6_firstOther_19 (by decide) rfl (fun c19 => ?_) (fun c19 => ?_)
        · skip
          refine v_iload_n C dX6_firstOther_27 rfl rfl rfl ?_
          refine v_aload_n C dX6_firstOther_28 rfl rfl rfl ?_
          refine v_getR C (Nat.le_of_ble_eq_true rfl) rfl rfl hinX6 26 (Nat.le_of_ble_eq_true rfl) lkX6_58 rfl dX6_firstOther_29 rfl ?_
          refine v_iload_n C dX6_firstOther_32 rfl rfl rfl ?_
          refine v_iald (i := i) C (Nat.le_of_ble_eq_true rfl) rfl rfl (by omega) (by decide) dX6_firstOther_33 rfl ?_
          refine v_icmp_eq (tgt := 39) C dX6_firstOther_34 (by decide) rfl (fun c34 => ?_) (fun c34 => ?_)
          · skip
            refine v_iinc (lv' := [(1, .int (nI (i + 1))), (2, .int r15_1), (0, .ref 0)]) C dX6_firstOther_39 rfl (nI_inc i) (Nat.le_of_ble_eq_true rfl) rfl rfl ?_
            refine v_goto (tgt := 2) C dX6_firstOther_42 (by decide) ?_
            exact V.sub [0, 2] rfl (ih2 (i + 1)  _ (by omega) (by omega)  (hsτ15_1) (by intro j hj; exact (Classical.em (j = i)).elim (fun e => by rw [e, rowP, ← hvr15_1]; simp [c19]; rw [← h17i]; exact c34) (fun e => hb j (by omega))))
          · skip
            refine v_iload_n C dX6_firstOther_37 rfl rfl rfl ?_
            exact v_iret C dX6_firstOther_38 (by rw [hX]; exact ⟨_, rfl, fst_some hb (by rw [rowP, ← hvr15_1]; simp [c19]; rw [← h17i]; exact c34) (by omega), hsτ15_1⟩)
        · skip
          refine v_bipush (v := 99) C dX6_firstOther_22 (by decide) rfl ?_
          refine v_goto (tgt := 28) C dX6_firstOther_24 (by decide) ?_
          refine v_aload_n C dX6_firstOther_28 rfl rfl rfl ?_
          refine v_getR C (Nat.le_of_ble_eq_true rfl) rfl rfl hinX6 26 (Nat.le_of_ble_eq_true rfl) lkX6_58 rfl dX6_firstOther_29 rfl ?_
          refine v_iload_n C dX6_firstOther_32 rfl rfl rfl ?_
          refine v_iald (i := i) C (Nat.le_of_ble_eq_true rfl) rfl rfl (by omega) (by decide) dX6_firstOther_33 rfl ?_
          refine v_icmp_eq (tgt := 39) C dX6_firstOther_34 (by decide) rfl (fun c34 => ?_) (fun c34 => ?_)
          · skip
            refine v_iinc (lv' := [(1, .int (nI (i + 1))), (2, .int r15_1), (0, .ref 0)]) C dX6_firstOther_39 rfl (nI_inc i) (Nat.le_of_ble_eq_true rfl) rfl rfl ?_
            refine v_goto (tgt := 2) C dX6_firstOther_42 (by decide) ?_
            exact V.sub [0, 2] rfl (ih2 (i + 1)  _ (by omega) (by omega)  (hsτ15_1) (by intro j hj; exact (Classical.em (j = i)).elim (fun e => by rw [e, rowP, ← hvr15_1]; simp [c19]; rw [← h17i]; exact c34) (fun e => hb j (by omega))))
          · skip
            refine v_iload_n C dX6_firstOther_37 rfl rfl rfl ?_
            exact v_iret C dX6_firstOther_38 (by rw [hX]; exact ⟨_, rfl, fst_some hb (by rw [rowP, ← hvr15_1]; simp [c19]; rw [← h17i]; exact c34) (by omega), hsτ15_1⟩)
  exact V.sub [0, 1] rfl (lp2 (u + 1) 0  _ (by omega) (by omega)  (Sm.rf σ) (by intro j hj; omega))
