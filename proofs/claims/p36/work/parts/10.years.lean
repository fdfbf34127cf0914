/-! the check's class: years -/
def ageS (ag : Nat → Int32) : Nat → Int32 := fun p => ag p + (if ag p < 99 then 1 else 0)
def fauS (kd : Nat → Int32) (y : Int32) (ft : Nat → Int32) : Nat → Int32 := fun p => ft p - (if y - y / 10 * 10 = 0 ∧ ¬ kd p = 3 ∧ 0 < ft p then 1 else 0)
def yrP (σ : St) (q : Nat) : St := setR (setR (s2 σ 0 10 (σ 0 10 + 1)) 7 (pre q (ageS (σ 7)) (σ 7))) 6 (pre q (fauS (σ 4) (σ 0 10 + 1) (σ 6)) (σ 6))
def yrs (n : Nat) (σ : St) : Nat → St
  | 0 => σ
  | k + 1 => yrP (yrs n σ k) n
theorem yrP_0 (σ : St) : yrP σ 0 = s2 σ 0 10 (σ 0 10 + 1) := by
  funext a
  simp only [yrP, pre_0, setR]
  by_cases h6 : a = 6
  · subst h6; simp [s2]
  · by_cases h7 : a = 7
    · subst h7; simp [s2]
    · simp [h6, h7]
theorem yrP_6 (σ : St) (q : Nat) : yrP σ q 6 = pre q (fauS (σ 4) (σ 0 10 + 1) (σ 6)) (σ 6) := by simp [yrP, setR]
theorem yrP_7 (σ : St) (q : Nat) : yrP σ q 7 = pre q (ageS (σ 7)) (σ 7) := by simp [yrP, setR]
theorem yrP_o (σ : St) (q a : Nat) (h6 : a ≠ 6) (h7 : a ≠ 7) (h0 : a ≠ 0) : yrP σ q a = σ a := by simp [yrP, setR, h6, h7, s2, h0]
theorem yrP_y (σ : St) (q : Nat) : yrP σ q 0 10 = σ 0 10 + 1 := by simp [yrP, setR, s2, upd]
theorem yrP_z (σ : St) (q j : Nat) (h : j ≠ 10) : yrP σ q 0 j = σ 0 j := by simp [yrP, setR, s2, upd, h]
theorem yrP_step {σ : St} {q : Nat} {v1 v2 : Int32} (h1 : v1 = ageS (σ 7) q) (h2 : v2 = fauS (σ 4) (σ 0 10 + 1) (σ 6) q) : s2 (s2 (yrP σ q) 7 q v1) 6 q v2 = yrP σ (q + 1) := by
  funext a
  by_cases h6 : a = 6
  · subst h6
    rw [s2_eq, s2_ne (by decide), yrP_6, yrP_6, pre_upd _ _ _ h2]
  · rw [s2_ne h6]
    by_cases h7 : a = 7
    · subst h7
      rw [s2_eq, yrP_7, yrP_7, pre_upd _ _ _ h1]
    · rw [s2_ne h7]
      by_cases h0 : a = 0
      · subst h0; simp [yrP, setR]
      · rw [yrP_o _ _ _ h6 h7 h0, yrP_o _ _ _ h6 h7 h0]
theorem yrs_o (n : Nat) (σ : St) (a : Nat) (h6 : a ≠ 6) (h7 : a ≠ 7) (h0 : a ≠ 0) : ∀ k, yrs n σ k a = σ a
  | 0 => rfl
  | k + 1 => by rw [yrs, yrP_o _ _ _ h6 h7 h0, yrs_o n σ a h6 h7 h0 k]
theorem yrs_z (n : Nat) (σ : St) (j : Nat) (h : j ≠ 10) : ∀ k, yrs n σ k 0 j = σ 0 j
  | 0 => rfl
  | k + 1 => by rw [yrs, yrP_z _ _ _ h, yrs_z n σ j h k]
theorem kX6_goes (n m : Nat) (σ : St) (hn : σ 0 8 = nI n) (h7 : n ≤ 7) (hm : m < 1000) : Ct yX6_goes cX6_goes 4 none 0 [.ref 0, .int (nI m)] σ (fV (yrs n σ m)) := by
  refine ct_of plX6 rfl (Nat.le_of_ble_eq_true rfl) (fun X hX C => ?_)
  show V X 0 [(0, .ref 0), (1, .int (nI m))] [] σ
  refine v_iconst (v := 0) C dX6_goes_0 (by decide) rfl ?_
  refine v_istore_n (lv' := [(2, .int 0), (0, .ref 0), (1, .int (nI m))]) C dX6_goes_1 rfl (Nat.le_of_ble_eq_true rfl) rfl rfl ?_
  have lp2 : ∀ (k i : Nat)  (τ : St), m < i + k → i ≤ m → τ = yrs n σ i → V X 2 [(2, .int (nI i)), (0, .ref 0), (1, .int (nI m))] [] τ := by
    intro k
    induction k with
    | zero => intro i  τ h1 h2; omega
    | succ k ih2 =>
      intro i  τ h1 h2  eτ
      refine v_iload_n C dX6_goes_2 rfl rfl rfl ?_
      refine v_iload_n C dX6_goes_3 rfl rfl rfl ?_
      refine v_icmp_ge (tgt := 107) C dX6_goes_4 (by decide) rfl (fun c4 => ?_) (fun c4 => ?_)
      · skip
        have c4 := mt (nI_ltI (a := i) (b := m) (by omega) (by omega)).mpr c4
        exact v_vret C dX6_goes_107 (by rw [hX]; exact fV_of (by rw [eτ, show i = m by omega]))
      · skip
        have c4 := (nI_ltI (a := i) (b := m) (by omega) (by omega)).mp c4
        refine v_aload_n C dX6_goes_7 rfl rfl rfl ?_
        refine v_dup C dX6_goes_8 rfl rfl ?_
        refine v_getI C (Nat.le_of_ble_eq_true rfl) rfl rfl hinX6 10 (Nat.le_of_ble_eq_true rfl) lkX6_128 rfl dX6_goes_9 rfl ?_
        refine v_iconst (v := 1) C dX6_goes_12 (by decide) rfl ?_
        refine v_iadd C dX6_goes_13 rfl ?_
        refine v_put (ty := .int) C (Nat.le_of_ble_eq_true rfl) rfl rfl hinX6 tyX6_ok nmX6 10 (Nat.le_of_ble_eq_true rfl) lkX6_128 rfl (by decide +kernel) rfl rfl rfl dX6_goes_14 rfl ?_
        refine V.nm (fun τ14_1 eτ14_1 => ?_)
        refine v_iconst (v := 0) C dX6_goes_17 (by decide) rfl ?_
        refine v_istore_n (lv' := [(3, .int 0), (2, .int (nI i)), (0, .ref 0), (1, .int (nI m))]) C dX6_goes_18 rfl (Nat.le_of_ble_eq_true rfl) rfl rfl ?_
        have lp19 : ∀ (k q : Nat)  (υ : St), n < q + k → q ≤ n → υ = yrP (yrs n σ i) q → V X 19 [(3, .int (nI q)), (2, .int (nI i)), (0, .ref 0), (1, .int (nI m))] [] υ := by
          intro k
          induction k with
          | zero => intro q  υ h1 h2; omega
          | succ k ih19 =>
            intro q  υ h1 h2  eυ
            have hnu : υ 0 8 = nI n := by rw [eυ, yrP_z _ _ _ (by decide), yrs_z _ _ _ (by decide), hn]
            have f7 : υ 7 q = yrs n σ i 7 q := by rw [eυ, yrP_7, pre_at]
            have f6 : υ 6 q = yrs n σ i 6 q := by rw [eυ, yrP_6, pre_at]
            have f4 : υ 4 = yrs n σ i 4 := by rw [eυ, yrP_o _ _ _ (by decide) (by decide) (by decide)]
            have f10 : υ 0 10 = yrs n σ i 0 10 + 1 := by rw [eυ, yrP_y]
            refine v_iload_n C dX6_goes_19 rfl rfl rfl ?_
            refine v_aload_n C dX6_goes_20 rfl rfl rfl ?_
            refine v_getI C (Nat.le_of_ble_eq_true rfl) rfl rfl hinX6 8 (Nat.le_of_ble_eq_true rfl) lkX6_65 rfl dX6_goes_21 rfl ?_
            refine V.tp hnu ?_
            refine v_icmp_ge (tgt := 101) C dX6_goes_24 (by decide) rfl (fun c24 => ?_) (fun c24 => ?_)
            · skip
              have c24 := mt (nI_ltI (a := q) (b := n) (by omega) (by omega)).mpr c24
              refine v_iinc (lv' := [(2, .int (nI (i + 1))), (3, .int (nI q)), (0, .ref 0), (1, .int (nI m))]) C dX6_goes_101 rfl (nI_inc i) (Nat.le_of_ble_eq_true rfl) rfl rfl ?_
              refine v_goto (tgt := 2) C dX6_goes_104 (by decide) ?_
              exact V.sub [0, 2, 3] rfl (ih2 (i + 1)  _ (by omega) (by omega)  (by rw [eυ, show q = n by omega]; rfl))
            · skip
              have c24 := (nI_ltI (a := q) (b := n) (by omega) (by omega)).mp c24
              refine v_aload_n C dX6_goes_27 rfl rfl rfl ?_
              refine v_getR C (Nat.le_of_ble_eq_true rfl) rfl rfl hinX6 6 (Nat.le_of_ble_eq_true rfl) lkX6_28 rfl dX6_goes_28 rfl ?_
              refine v_iload_n C dX6_goes_31 rfl rfl rfl ?_
              refine v_dup2 C dX6_goes_32 rfl rfl rfl ?_
              refine v_iald (i := q) C (Nat.le_of_ble_eq_true rfl) rfl rfl (by omega) (by decide) dX6_goes_33 rfl ?_
              refine v_aload_n C dX6_goes_34 rfl rfl rfl ?_
              refine v_getR C (Nat.le_of_ble_eq_true rfl) rfl rfl hinX6 6 (Nat.le_of_ble_eq_true rfl) lkX6_28 rfl dX6_goes_35 rfl ?_
              refine v_iload_n C dX6_goes_38 rfl rfl rfl ?_
              refine v_iald (i := q) C (Nat.le_of_ble_eq_true rfl) rfl rfl (by omega) (by decide) dX6_goes_39 rfl ?_
              refine v_bipush (v := 99) C dX6_goes_40 (by decide) rfl ?_
              refine v_icmp_ge (tgt := 49) C dX6_goes_42 (by decide) rfl (fun c42 => ?_) (fun c42 => ?_)
              · skip
                refine v_iconst (v := 0) C dX6_goes_49 (by decide) rfl ?_
                refine v_iadd C dX6_goes_50 rfl ?_
                refine v_iast (i := q) C (Nat.le_of_ble_eq_true rfl) rfl rfl (by omega) (by decide) dX6_goes_51 rfl ?_
                refine V.nm (fun τ51_2 eτ51_2 => ?_)
                have g6 : τ51_2 6 q = yrs n σ i 6 q := by rw [eτ51_2, s2_ne (by decide), f6]
                have g10 : τ51_2 0 10 = yrs n σ i 0 10 + 1 := by rw [eτ51_2, s2_ne (by decide), f10]
                have g4 : τ51_2 4 = yrs n σ i 4 := by rw [eτ51_2, s2_ne (by decide), f4]
                refine v_aload_n C dX6_goes_52 rfl rfl rfl ?_
                refine v_getR C (Nat.le_of_ble_eq_true rfl) rfl rfl hinX6 5 (Nat.le_of_ble_eq_true rfl) lkX6_25 rfl dX6_goes_53 rfl ?_
                refine v_iload_n C dX6_goes_56 rfl rfl rfl ?_
                refine v_dup2 C dX6_goes_57 rfl rfl rfl ?_
                refine v_iald (i := q) C (Nat.le_of_ble_eq_true rfl) rfl rfl (by omega) (by decide) dX6_goes_58 rfl ?_
                refine v_aload_n C dX6_goes_59 rfl rfl rfl ?_
                refine v_getI C (Nat.le_of_ble_eq_true rfl) rfl rfl hinX6 10 (Nat.le_of_ble_eq_true rfl) lkX6_128 rfl dX6_goes_60 rfl ?_
                refine v_bipush (v := 10) C dX6_goes_63 (by decide) rfl ?_
                refine v_irem C dX6_goes_65 (by decide) rfl ?_
                refine v_if_ne (tgt := 92) C dX6_goes_66 (by decide) rfl (fun c66 => ?_) (fun c66 => ?_)
                · skip
                  refine v_iconst (v := 0) C dX6_goes_92 (by decide) rfl ?_
                  refine v_isub C dX6_goes_93 rfl ?_
                  refine v_iast (i := q) C (Nat.le_of_ble_eq_true rfl) rfl rfl (by omega) (by decide) dX6_goes_94 rfl ?_
                  refine V.nm (fun τ94_3 eτ94_3 => ?_)
                  refine v_iinc (lv' := [(3, .int (nI (q + 1))), (2, .int (nI i)), (0, .ref 0), (1, .int (nI m))]) C dX6_goes_95 rfl (nI_inc q) (Nat.le_of_ble_eq_true rfl) rfl rfl ?_
                  refine v_goto (tgt := 19) C dX6_goes_98 (by decide) ?_
                  exact V.sub [0, 1, 2, 3] rfl (ih19 (q + 1)  _ (by omega) (by omega)  (eτ94_3.trans ((congrArg (fun z => s2 z 6 q _) (eτ51_2.trans (congrArg (fun z => s2 z 7 q _) eυ))).trans (yrP_step (by simp only [ageS]; rw [← f7]; simp [c42]) (by simp only [fauS]; rw [← g6, ← g10, ← g4]; simp [c66])))))
                · skip
                  refine v_aload_n C dX6_goes_69 rfl rfl rfl ?_
                  refine v_getR C (Nat.le_of_ble_eq_true rfl) rfl rfl hinX6 3 (Nat.le_of_ble_eq_true rfl) lkX6_19 rfl dX6_goes_70 rfl ?_
                  refine v_iload_n C dX6_goes_73 rfl rfl rfl ?_
                  refine v_iald (i := q) C (Nat.le_of_ble_eq_true rfl) rfl rfl (by omega) (by decide) dX6_goes_74 rfl ?_
                  refine v_iconst (v := 3) C dX6_goes_75 (by decide) rfl ?_
                  refine v_icmp_eq (tgt := 92) C dX6_goes_76 (by decide) rfl (fun c76 => ?_) (fun c76 => ?_)
                  · skip
                    refine v_iconst (v := 0) C dX6_goes_92 (by decide) rfl ?_
                    refine v_isub C dX6_goes_93 rfl ?_
                    refine v_iast (i := q) C (Nat.le_of_ble_eq_true rfl) rfl rfl (by omega) (by decide) dX6_goes_94 rfl ?_
                    refine V.nm (fun τ94_4 eτ94_4 => ?_)
                    refine v_iinc (lv' := [(3, .int (nI (q + 1))), (2, .int (nI i)), (0, .ref 0), (1, .int (nI m))]) C dX6_goes_95 rfl (nI_inc q) (Nat.le_of_ble_eq_true rfl) rfl rfl ?_
                    refine v_goto (tgt := 19) C dX6_goes_98 (by decide) ?_
                    exact V.sub [0, 1, 2, 3] rfl (ih19 (q + 1)  _ (by omega) (by omega)  (eτ94_4.trans ((congrArg (fun z => s2 z 6 q _) (eτ51_2.trans (congrArg (fun z => s2 z 7 q _) eυ))).trans (yrP_step (by simp only [ageS]; rw [← f7]; simp [c42]) (by simp only [fauS]; rw [← g6, ← g10, ← g4]; simp [c66, c76])))))
                  · skip
                    refine v_aload_n C dX6_goes_79 rfl rfl rfl ?_
                    refine v_getR C (Nat.le_of_ble_eq_true rfl) rfl rfl hinX6 5 (Nat.le_of_ble_eq_true rfl) lkX6_25 rfl dX6_goes_80 rfl ?_
                    refine v_iload_n C dX6_goes_83 rfl rfl rfl ?_
                    refine v_iald (i := q) C (Nat.le_of_ble_eq_true rfl) rfl rfl (by omega) (by decide) dX6_goes_84 rfl ?_
                    refine v_if_le (tgt := 92) C dX6_goes_85 (by decide) rfl (fun c85 => ?_) (fun c85 => ?_)
                    · skip
                      refine v_iconst (v := 0) C dX6_goes_92 (by decide) rfl ?_
                      refine v_isub C dX6_goes_93 rfl ?_
                      refine v_iast (i := q) C (Nat.le_of_ble_eq_true rfl) rfl rfl (by omega) (by decide) dX6_goes_94 rfl ?_
                      refine V.nm (fun τ94_5 eτ94_5 => ?_)
                      refine v_iinc (lv' := [(3, .int (nI (q + 1))), (2, .int (nI i)), (0, .ref 0), (1, .int (nI m))]) C dX6_goes_95 rfl (nI_inc q) (Nat.le_of_ble_eq_true rfl) rfl rfl ?_
                      refine v_goto (tgt := 19) C dX6_goes_98 (by decide) ?_
                      exact V.sub [0, 1, 2, 3] rfl (ih19 (q + 1)  _ (by omega) (by omega)  (eτ94_5.trans ((congrArg (fun z => s2 z 6 q _) (eτ51_2.trans (congrArg (fun z => s2 z 7 q _) eυ))).trans (yrP_step (by simp only [ageS]; rw [← f7]; simp [c42]) (by simp only [fauS]; rw [← g6, ← g10, ← g4]; simp [c66, c76, c85])))))
                    · skip
                      refine v_iconst (v := 1) C dX6_goes_88 (by decide) rfl ?_
                      refine v_goto (tgt := 93) C dX6_goes_89 (by decide) ?_
                      refine v_isub C dX6_goes_93 rfl ?_
                      refine v_iast (i := q) C (Nat.le_of_ble_eq_true rfl) rfl rfl (by omega) (by decide) dX6_goes_94 rfl ?_
                      refine V.nm (fun τ94_6 eτ94_6 => ?_)
                      refine v_iinc (lv' := [(3, .int (nI (q + 1))), (2, .int (nI i)), (0, .ref 0), (1, .int (nI m))]) C dX6_goes_95 rfl (nI_inc q) (Nat.le_of_ble_eq_true rfl) rfl rfl ?_
                      refine v_goto (tgt := 19) C dX6_goes_98 (by decide) ?_
                      exact V.sub [0, 1, 2, 3] rfl (ih19 (q + 1)  _ (by omega) (by omega)  (eτ94_6.trans ((congrArg (fun z => s2 z 6 q _) (eτ51_2.trans (congrArg (fun z => s2 z 7 q _) eυ))).trans (yrP_step (by simp only [ageS]; rw [← f7]; simp [c42]) (by simp only [fauS]; rw [← g6, ← g10, ← g4]; simp [c66, c76, c85])))))
              · skip
                refine v_iconst (v := 1) C dX6_goes_45 (by decide) rfl ?_
                refine v_goto (tgt := 50) C dX6_goes_46 (by decide) ?_
                refine v_iadd C dX6_goes_50 rfl ?_
                refine v_iast (i := q) C (Nat.le_of_ble_eq_true rfl) rfl rfl (by omega) (by decide) dX6_goes_51 rfl ?_
                refine V.nm (fun τ51_7 eτ51_7 => ?_)
                have g6 : τ51_7 6 q = yrs n σ i 6 q := by rw [eτ51_7, s2_ne (by decide), f6]
                have g10 : τ51_7 0 10 = yrs n σ i 0 10 + 1 := by rw [eτ51_7, s2_ne (by decide), f10]
                have g4 : τ51_7 4 = yrs n σ i 4 := by rw [eτ51_7, s2_ne (by decide), f4]
                refine v_aload_n C dX6_goes_52 rfl rfl rfl ?_
                refine v_getR C (Nat.le_of_ble_eq_true rfl) rfl rfl hinX6 5 (Nat.le_of_ble_eq_true rfl) lkX6_25 rfl dX6_goes_53 rfl ?_
                refine v_iload_n C dX6_goes_56 rfl rfl rfl ?_
                refine v_dup2 C dX6_goes_57 rfl rfl rfl ?_
                refine v_iald (i := q) C (Nat.le_of_ble_eq_true rfl) rfl rfl (by omega) (by decide) dX6_goes_58 rfl ?_
                refine v_aload_n C dX6_goes_59 rfl rfl rfl ?_
                refine v_getI C (Nat.le_of_ble_eq_true rfl) rfl rfl hinX6 10 (Nat.le_of_ble_eq_true rfl) lkX6_128 rfl dX6_goes_60 rfl ?_
                refine v_bipush (v := 10) C dX6_goes_63 (by decide) rfl ?_
                refine v_irem C dX6_goes_65 (by decide) rfl ?_
                refine v_if_ne (tgt := 92) C dX6_goes_66 (by decide) rfl (fun c66 => ?_) (fun c66 => ?_)
                · skip
                  refine v_iconst (v := 0) C dX6_goes_92 (by decide) rfl ?_
                  refine v_isub C dX6_goes_93 rfl ?_
                  refine v_iast (i := q) C (Nat.le_of_ble_eq_true rfl) rfl rfl (by omega) (by decide) dX6_goes_94 rfl ?_
                  refine V.nm (fun τ94_8 eτ94_8 => ?_)
                  refine v_iinc (lv' := [(3, .int (nI (q + 1))), (2, .int (nI i)), (0, .ref 0), (1, .int (nI m))]) C dX6_goes_95 rfl (nI_inc q) (Nat.le_of_ble_eq_true rfl) rfl rfl ?_
                  refine v_goto (tgt := 19) C dX6_goes_98 (by decide) ?_
                  exact V.sub [0, 1, 2, 3] rfl (ih19 (q + 1)  _ (by omega) (by omega)  (eτ94_8.trans ((congrArg (fun z => s2 z 6 q _) (eτ51_7.trans (congrArg (fun z => s2 z 7 q _) eυ))).trans (yrP_step (by simp only [ageS]; rw [← f7]; simp [c42]) (by simp only [fauS]; rw [← g6, ← g10, ← g4]; simp [c66])))))
                · skip
                  refine v_aload_n C dX6_goes_69 rfl rfl rfl ?_
                  refine v_getR C (Nat.le_of_ble_eq_true rfl) rfl rfl hinX6 3 (Nat.le_of_ble_eq_true rfl) lkX6_19 rfl dX6_goes_70 rfl ?_
                  refine v_iload_n C dX6_goes_73 rfl rfl rfl ?_
                  refine v_iald (i := q) C (Nat.le_of_ble_eq_true rfl) rfl rfl (by omega) (by decide) dX6_goes_74 rfl ?_
                  refine v_iconst (v := 3) C dX6_goes_75 (by decide) rfl ?_
                  refine v_icmp_eq (tgt := 92) C dX6_goes_76 (by decide) rfl (fun c76 => ?_) (fun c76 => ?_)
                  · skip
                    refine v_iconst (v := 0) C dX6_goes_92 (by decide) rfl ?_
                    refine v_isub C dX6_goes_93 rfl ?_
                    refine v_iast (i := q) C (Nat.le_of_ble_eq_true rfl) rfl rfl (by omega) (by decide) dX6_goes_94 rfl ?_
                    refine V.nm (fun τ94_9 eτ94_9 => ?_)
                    refine v_iinc (lv' := [(3, .int (nI (q + 1))), (2, .int (nI i)), (0, .ref 0), (1, .int (nI m))]) C dX6_goes_95 rfl (nI_inc q) (Nat.le_of_ble_eq_true rfl) rfl rfl ?_
                    refine v_goto (tgt := 19) C dX6_goes_98 (by decide) ?_
                    exact V.sub [0, 1, 2, 3] rfl (ih19 (q + 1)  _ (by omega) (by omega)  (eτ94_9.trans ((congrArg (fun z => s2 z 6 q _) (eτ51_7.trans (congrArg (fun z => s2 z 7 q _) eυ))).trans (yrP_step (by simp only [ageS]; rw [← f7]; simp [c42]) (by simp only [fauS]; rw [← g6, ← g10, ← g4]; simp [c66, c76])))))
                  · skip
                    refine v_aload_n C dX6_goes_79 rfl rfl rfl ?_
                    refine v_getR C (Nat.le_of_ble_eq_true rfl) rfl rfl hinX6 5 (Nat.le_of_ble_eq_true rfl) lkX6_25 rfl dX6_goes_80 rfl ?_
                    refine v_iload_n C dX6_goes_83 rfl rfl rfl ?_
                    refine v_iald (i := q) C (Nat.le_of_ble_eq_true rfl) rfl rfl (by omega) (by decide) dX6_goes_84 rfl ?_
                    refine v_if_le (tgt := 92) C dX6_goes_85 (by decide) rfl (fun c85 => ?_) (fun c85 => ?_)
                    · skip
                      refine v_iconst (v := 0) C dX6_goes_92 (by decide) rfl ?_
                      refine v_isub C dX6_goes_93 rfl ?_
                      refine v_iast (i := q) C (Nat.le_of_ble_eq_true rfl) rfl rfl (by omega) (by decide) dX6_goes_94 rfl ?_
                      refine V.nm (fun τ94_10 eτ94_10 => ?_)
                      refine v_iinc (lv' := [(3, .int (nI (q + 1))), (2, .int (nI i)), (0, .ref 0), (1, .int (nI m))]) C dX6_goes_95 rfl (nI_inc q) (Nat.le_of_ble_eq_true rfl) rfl rfl ?_
                      refine v_goto (tgt := 19) C dX6_goes_98 (by decide) ?_
                      exact V.sub [0, 1, 2, 3] rfl (ih19 (q + 1)  _ (by omega) (by omega)  (eτ94_10.trans ((congrArg (fun z => s2 z 6 q _) (eτ51_7.trans (congrArg (fun z => s2 z 7 q _) eυ))).trans (yrP_step (by simp only [ageS]; rw [← f7]; simp [c42]) (by simp only [fauS]; rw [← g6, ← g10, ← g4]; simp [c66, c76, c85])))))
                    · skip
                      refine v_iconst (v := 1) C dX6_goes_88 (by decide) rfl ?_
                      refine v_goto (tgt := 93) C dX6_goes_89 (by decide) ?_
                      refine v_isub C dX6_goes_93 rfl ?_
                      refine v_iast (i := q) C (Nat.le_of_ble_eq_true rfl) rfl rfl (by omega) (by decide) dX6_goes_94 rfl ?_
                      refine V.nm (fun τ94_11 eτ94_11 => ?_)
                      refine v_iinc (lv' := [(3, .int (nI (q + 1))), (2, .int (nI i)), (0, .ref 0), (1, .int (nI m))]) C dX6_goes_95 rfl (nI_inc q) (Nat.le_of_ble_eq_true rfl) rfl rfl ?_
                      refine v_goto (tgt := 19) C dX6_goes_98 (by decide) ?_
                      exact V.sub [0, 1, 2, 3] rfl (ih19 (q + 1)  _ (by omega) (by omega)  (eτ94_11.trans ((congrArg (fun z => s2 z 6 q _) (eτ51_7.trans (congrArg (fun z => s2 z 7 q _) eυ))).trans (yrP_step (by simp only [ageS]; rw [← f7]; simp [c42]) (by simp only [fauS]; rw [← g6, ← g10, ← g4]; simp [c66, c76, c85])))))
        exact V.sub [0, 1, 2, 3] rfl (lp19 (n + 1) 0  _ (by omega) (by omega)  (by rw [eτ14_1, eτ, yrP_0]))
  exact V.sub [0, 1, 2] rfl (lp2 (m + 1) 0  _ (by omega) (by omega)  (rfl))
/-! the check's class: what is kept, and put back -/
def cpK (σ : St) (c k i : Nat) : St := s2 (setR σ 13 (fun j => if c ≤ j ∧ j < c + i then σ k (j - c) else σ 13 j)) 0 21 (nI (c + i))
def cpB (σ : St) (c k i : Nat) : St := s2 (setR σ k (pre i (fun j => σ 13 (c + j)) (σ k))) 0 21 (nI (c + i))
theorem cpK_0 (σ : St) (c k : Nat) (h : σ 0 21 = nI c) : cpK σ c k 0 = σ := by
  funext a
  simp only [cpK]
  by_cases h0 : a = 0
  · subst h0
    rw [s2_eq]
    funext b
    by_cases h1 : b = 21
    · subst h1; simp [upd, h]
    · simp [upd, h1, setR]
  · rw [s2_ne h0]
    by_cases h13 : a = 13
    · subst h13
      funext j
      simp only [setR, if_pos]
      by_cases g : c ≤ j ∧ j < c + 0
      · omega
      · rw [if_neg g]
    · simp [setR, h13]
theorem cpB_0 (σ : St) (c k : Nat) (hk : k ≠ 0) (h : σ 0 21 = nI c) : cpB σ c k 0 = σ := by
  funext a
  simp only [cpB, pre_0]
  by_cases h0 : a = 0
  · subst h0
    rw [s2_eq]
    funext b
    by_cases h1 : b = 21
    · subst h1; simp [upd, h]
    · simp [upd, h1, setR, Ne.symm hk]
  · rw [s2_ne h0]
    by_cases h1 : a = k
    · subst h1; simp [setR]
    · simp [setR, h1]
theorem cpK_step (σ : St) (c k i : Nat) (hk : k ≠ 0) : s2 (s2 (cpK σ c k i) 13 (c + i) (σ k i)) 0 21 (nI (c + (i + 1))) = cpK σ c k (i + 1) := by
  funext a
  simp only [cpK]
  by_cases h0 : a = 0
  · subst h0
    funext b
    simp only [s2_get, setR]
    by_cases h1 : b = 21 <;> simp [h1]
  · rw [s2_ne h0, s2_ne h0]
    by_cases h13 : a = 13
    · subst h13
      funext j
      simp only [s2_get, setR, if_pos]
      by_cases g : j = c + i
      · subst g
        simp [show c ≤ c + i by omega, show c + i < c + (i + 1) by omega]
      · by_cases g2 : c ≤ j ∧ j < c + i
        · simp [g, g2, show c ≤ j ∧ j < c + (i + 1) by omega]
        · rw [if_neg (fun q => g q.2), if_neg (fun q => absurd q.1 (by decide)), if_neg g2, if_neg (by omega)]
    · rw [s2_ne h13, s2_ne h0]; simp [setR, h13]
theorem cpB_step (σ : St) (c k i : Nat) (hk : k ≠ 0) (hk2 : k ≠ 13) : s2 (s2 (cpB σ c k i) k i (σ 13 (c + i))) 0 21 (nI (c + (i + 1))) = cpB σ c k (i + 1) := by
  funext a
  simp only [cpB]
  by_cases h0 : a = 0
  · subst h0
    funext b
    simp only [s2_get, setR]
    by_cases h1 : b = 21 <;> simp [h1, Ne.symm hk]
  · rw [s2_ne h0, s2_ne h0]
    by_cases h1 : a = k
    · subst h1
      rw [s2_eq, s2_ne h0]
      simp only [setR, if_pos]
      exact pre_upd i _ _ rfl
    · rw [s2_ne h1, s2_ne h0]; simp [setR, h1]
theorem cpK_21 (σ : St) (c k i : Nat) : cpK σ c k i 0 21 = nI (c + i) := by simp [cpK, s2, upd]
theorem cpB_21 (σ : St) (c k i : Nat) : cpB σ c k i 0 21 = nI (c + i) := by simp [cpB, s2, upd]
theorem cpK_z (σ : St) (c k i j : Nat) (h : j ≠ 21) : cpK σ c k i 0 j = σ 0 j := by simp [cpK, s2, upd, h, setR]
theorem cpB_z (σ : St) (c k i j : Nat) (hk : k ≠ 0) (h : j ≠ 21) : cpB σ c k i 0 j = σ 0 j := by simp [cpB, s2, upd, h, setR, Ne.symm hk]
theorem cpK_o (σ : St) (c k i a : Nat) (h : a ≠ 0) (h2 : a ≠ 13) : cpK σ c k i a = σ a := by simp [cpK, s2, h, setR, h2]
theorem cpB_o (σ : St) (c k i a : Nat) (h : a ≠ 0) (h2 : a ≠ k) : cpB σ c k i a = σ a := by simp [cpB, s2, h, setR, h2]
theorem cpB_k (σ : St) (c k i : Nat) (h : k ≠ 0) : cpB σ c k i k = pre i (fun j => σ 13 (c + j)) (σ k) := by simp [cpB, s2, h, setR]
theorem kX6_passesK (r N c : Nat) (σ : St) (hr : r < NC) (hs : shp r = .inr N) (hr0 : r ≠ 0) (hr13 : r ≠ 13) (hk : σ 0 20 = 1) (hc : σ 0 21 = nI c) (hN : c + N ≤ 100) : Ct yX6_passes cX6_passes 3 none 0 [.ref 0, .ref r] σ (fV (cpK σ c r N)) := by
  refine ct_of plX6 rfl (Nat.le_of_ble_eq_true rfl) (fun X hX C => ?_)
  show V X 0 [(0, .ref 0), (1, .ref r)] [] σ
  refine v_iconst (v := 0) C dX6_passes_0 (by decide) rfl ?_
  refine v_istore_n (lv' := [(2, .int 0), (0, .ref 0), (1, .ref r)]) C dX6_passes_1 rfl (Nat.le_of_ble_eq_true rfl) rfl rfl ?_
  have lp2 : ∀ (k i : Nat)  (τ : St), N < i + k → i ≤ N → τ = cpK σ c r i → V X 2 [(2, .int (nI i)), (0, .ref 0), (1, .ref r)] [] τ := by
    intro k
    induction k with
    | zero => intro i  τ h1 h2; omega
    | succ k ih2 =>
      intro i  τ h1 h2  eτ
      have hc21 : τ 0 21 = nI (c + i) := by rw [eτ]; exact cpK_21 _ _ _ _
      have hk20 : τ 0 20 = 1 := by rw [eτ, cpK_z _ _ _ _ _ (by decide), hk]
      have hrr : τ r = σ r := by rw [eτ, cpK_o _ _ _ _ _ hr0 hr13]
      refine v_iload_n C dX6_passes_2 rfl rfl rfl ?_
      refine v_aload_n C dX6_passes_3 rfl rfl rfl ?_
      refine v_alen (v := nI N) C hr hs rfl dX6_passes_4 rfl ?_
      refine v_icmp_ge (tgt := 58) C dX6_passes_5 (by decide) rfl (fun c5 => ?_) (fun c5 => ?_)
      · skip
        have c5 := mt (nI_ltI (a := i) (b := N) (by omega) (by omega)).mpr c5
        exact v_vret C dX6_passes_58 (by rw [hX]; exact fV_of (by rw [eτ, show i = N by omega]))
      · skip
        have c5 := (nI_ltI (a := i) (b := N) (by omega) (by omega)).mp c5
        refine v_aload_n C dX6_passes_8 rfl rfl rfl ?_
        refine v_getI C (Nat.le_of_ble_eq_true rfl) rfl rfl hinX6 20 (Nat.le_of_ble_eq_true rfl) lkX6_146 rfl dX6_passes_9 rfl ?_
        refine V.tp hk20 ?_
        refine v_if_eq (tgt := 30) C dX6_passes_12 (by decide) rfl (fun q => absurd q (by decide)) (fun _ => ?_)
        refine v_aload_n C dX6_passes_15 rfl rfl rfl ?_
        refine v_getR C (Nat.le_of_ble_eq_true rfl) rfl rfl hinX6 18 (Nat.le_of_ble_eq_true rfl) lkX6_46 rfl dX6_passes_16 rfl ?_
        refine v_aload_n C dX6_passes_19 rfl rfl rfl ?_
        refine v_getI C (Nat.le_of_ble_eq_true rfl) rfl rfl hinX6 21 (Nat.le_of_ble_eq_true rfl) lkX6_150 rfl dX6_passes_20 rfl ?_
        refine V.tp hc21 ?_
        refine v_aload_n C dX6_passes_23 rfl rfl rfl ?_
        refine v_iload_n C dX6_passes_24 rfl rfl rfl ?_
        refine v_iald (i := i) C hr hs rfl (by omega) (by omega) dX6_passes_25 rfl ?_
        refine v_iast (i := c + i) C (Nat.le_of_ble_eq_true rfl) rfl rfl (by omega) (by decide) dX6_passes_26 rfl ?_
        refine V.nm (fun τ26_1 eτ26_1 => ?_)
        have ht21 : τ26_1 0 21 = nI (c + i) := by rw [eτ26_1, s2_ne (by decide)]; exact hc21
        refine v_goto (tgt := 42) C dX6_passes_27 (by decide) ?_
        refine v_aload_n C dX6_passes_42 rfl rfl rfl ?_
        refine v_dup C dX6_passes_43 rfl rfl ?_
        refine v_getI C (Nat.le_of_ble_eq_true rfl) rfl rfl hinX6 21 (Nat.le_of_ble_eq_true rfl) lkX6_150 rfl dX6_passes_44 rfl ?_
        refine V.tp ht21 ?_
        refine v_iconst (v := 1) C dX6_passes_47 (by decide) rfl ?_
        refine v_iadd C dX6_passes_48 rfl ?_
        refine V.tp (nI_add (c + i) 1) ?_
        refine v_put (ty := .int) C (Nat.le_of_ble_eq_true rfl) rfl rfl hinX6 tyX6_ok nmX6 21 (Nat.le_of_ble_eq_true rfl) lkX6_150 rfl (by decide +kernel) rfl rfl rfl dX6_passes_49 rfl ?_
        refine V.nm (fun τ49_2 eτ49_2 => ?_)
        refine v_iinc (lv' := [(2, .int (nI (i + 1))), (0, .ref 0), (1, .ref r)]) C dX6_passes_52 rfl (nI_inc i) (Nat.le_of_ble_eq_true rfl) rfl rfl ?_
        refine v_goto (tgt := 2) C dX6_passes_55 (by decide) ?_
        exact V.sub [0, 1, 2] rfl (ih2 (i + 1)  _ (by omega) (by omega)  (by rw [eτ49_2, eτ26_1, hrr, eτ]; exact cpK_step σ c r i hr0))
  exact V.sub [0, 1, 2] rfl (lp2 (N + 1) 0  _ (by omega) (by omega)  ((cpK_0 σ c r hc).symm))
theorem kX6_passesB (r N c : Nat) (σ : St) (hr : r < NC) (hs : shp r = .inr N) (hr0 : r ≠ 0) (hr13 : r ≠ 13) (hk : σ 0 20 = 0) (hc : σ 0 21 = nI c) (hN : c + N ≤ 100) : Ct yX6_passes cX6_passes 3 none 0 [.ref 0, .ref r] σ (fV (cpB σ c r N)) := by
  refine ct_of plX6 rfl (Nat.le_of_ble_eq_true rfl) (fun X hX C => ?_)
  show V X 0 [(0, .ref 0), (1, .ref r)] [] σ
  refine v_iconst (v := 0) C dX6_passes_0 (by decide) rfl ?_
  refine v_istore_n (lv' := [(2, .int 0), (0, .ref 0), (1, .ref r)]) C dX6_passes_1 rfl (Nat.le_of_ble_eq_true rfl) rfl rfl ?_
  have lp2 : ∀ (k i : Nat)  (τ : St), N < i + k → i ≤ N → τ = cpB σ c r i → V X 2 [(2, .int (nI i)), (0, .ref 0), (1, .ref r)] [] τ := by
    intro k
    induction k with
    | zero => intro i  τ h1 h2; omega
    | succ k ih2 =>
      intro i  τ h1 h2  eτ
      have hc21 : τ 0 21 = nI (c + i) := by rw [eτ]; exact cpB_21 _ _ _ _
      have hk20 : τ 0 20 = 0 := by rw [eτ, cpB_z _ _ _ _ _ hr0 (by decide), hk]
      have hrr : τ 13 = σ 13 := by rw [eτ, cpB_o _ _ _ _ _ (by decide) (Ne.symm hr13)]
      refine v_iload_n C dX6_passes_2 rfl rfl rfl ?_
      refine v_aload_n C dX6_passes_3 rfl rfl rfl ?_
      refine v_alen (v := nI N) C hr hs rfl dX6_passes_4 rfl ?_
      refine v_icmp_ge (tgt := 58) C dX6_passes_5 (by decide) rfl (fun c5 => ?_) (fun c5 => ?_)
      · skip
        have c5 := mt (nI_ltI (a := i) (b := N) (by omega) (by omega)).mpr c5
        exact v_vret C dX6_passes_58 (by rw [hX]; exact fV_of (by rw [eτ, show i = N by omega]))
      · skip
        have c5 := (nI_ltI (a := i) (b := N) (by omega) (by omega)).mp c5
        refine v_aload_n C dX6_passes_8 rfl rfl rfl ?_
        refine v_getI C (Nat.le_of_ble_eq_true rfl) rfl rfl hinX6 20 (Nat.le_of_ble_eq_true rfl) lkX6_146 rfl dX6_passes_9 rfl ?_
        refine V.tp hk20 ?_
        refine v_if_eq (tgt := 30) C dX6_passes_12 (by decide) rfl (fun _ => ?_) (fun q => absurd (by decide) q)
        refine v_aload_n C dX6_passes_30 rfl rfl rfl ?_
        refine v_iload_n C dX6_passes_31 rfl rfl rfl ?_
        refine v_aload_n C dX6_passes_32 rfl rfl rfl ?_
        refine v_getR C (Nat.le_of_ble_eq_true rfl) rfl rfl hinX6 18 (Nat.le_of_ble_eq_true rfl) lkX6_46 rfl dX6_passes_33 rfl ?_
        refine v_aload_n C dX6_passes_36 rfl rfl rfl ?_
        refine v_getI C (Nat.le_of_ble_eq_true rfl) rfl rfl hinX6 21 (Nat.le_of_ble_eq_true rfl) lkX6_150 rfl dX6_passes_37 rfl ?_
        refine V.tp hc21 ?_
        refine v_iald (i := c + i) C (Nat.le_of_ble_eq_true rfl) rfl rfl (by omega) (by decide) dX6_passes_40 rfl ?_
        refine v_iast (i := i) C hr hs rfl (by omega) (by omega) dX6_passes_41 rfl ?_
        refine V.nm (fun τ41_1 eτ41_1 => ?_)
        have ht21 : τ41_1 0 21 = nI (c + i) := by rw [eτ41_1, s2_ne (Ne.symm hr0)]; exact hc21
        refine v_aload_n C dX6_passes_42 rfl rfl rfl ?_
        refine v_dup C dX6_passes_43 rfl rfl ?_
        refine v_getI C (Nat.le_of_ble_eq_true rfl) rfl rfl hinX6 21 (Nat.le_of_ble_eq_true rfl) lkX6_150 rfl dX6_passes_44 rfl ?_
        refine V.tp ht21 ?_
        refine v_iconst (v := 1) C dX6_passes_47 (by decide) rfl ?_
        refine v_iadd C dX6_passes_48 rfl ?_
        refine V.tp (nI_add (c + i) 1) ?_
        refine v_put (ty := .int) C (Nat.le_of_ble_eq_true rfl) rfl rfl hinX6 tyX6_ok nmX6 21 (Nat.le_of_ble_eq_true rfl) lkX6_150 rfl (by decide +kernel) rfl rfl rfl dX6_passes_49 rfl ?_
        refine V.nm (fun τ49_2 eτ49_2 => ?_)
        refine v_iinc (lv' := [(2, .int (nI (i + 1))), (0, .ref 0), (1, .ref r)]) C dX6_passes_52 rfl (nI_inc i) (Nat.le_of_ble_eq_true rfl) rfl rfl ?_
        refine v_goto (tgt := 2) C dX6_passes_55 (by decide) ?_
        exact V.sub [0, 1, 2] rfl (ih2 (i + 1)  _ (by omega) (by omega)  (by rw [eτ49_2, eτ41_1, hrr, eτ]; exact cpB_step σ c r i hr0 hr13))
  exact V.sub [0, 1, 2] rfl (lp2 (N + 1) 0  _ (by omega) (by omega)  ((cpB_0 σ c r hr0 hc).symm))
def onK (σ : St) (c : Nat) (v : Int32) : St := s2 (s2 σ 13 c v) 0 21 (nI (c + 1))
theorem kX6_passOneK (c : Nat) (v : Int32) (σ : St) (hk : σ 0 20 = 1) (hc : σ 0 21 = nI c) (hN : c < 100) : Ct yX6_passOne cX6_passOne 3 (some .int) 0 [.ref 0, .int v] σ (fI v (onK σ c v)) := by
  refine ct_of plX6 rfl (Nat.le_of_ble_eq_true rfl) (fun X hX C => ?_)
  show V X 0 [(0, .ref 0), (1, .int v)] [] σ
  refine v_aload_n C dX6_passOne_0 rfl rfl rfl ?_
  refine v_getI C (Nat.le_of_ble_eq_true rfl) rfl rfl hinX6 20 (Nat.le_of_ble_eq_true rfl) lkX6_146 rfl dX6_passOne_1 rfl ?_
  refine V.tp hk ?_
  refine v_if_eq (tgt := 11) C dX6_passOne_4 (by decide) rfl (fun q => absurd q (by decide)) (fun _ => ?_)
  refine v_iload_n C dX6_passOne_7 rfl rfl rfl ?_
  refine v_goto (tgt := 20) C dX6_passOne_8 (by decide) ?_
  refine v_istore_n (lv' := [(2, .int v), (0, .ref 0), (1, .int v)]) C dX6_passOne_20 rfl (Nat.le_of_ble_eq_true rfl) rfl rfl ?_
  refine v_aload_n C dX6_passOne_21 rfl rfl rfl ?_
  refine v_getI C (Nat.le_of_ble_eq_true rfl) rfl rfl hinX6 20 (Nat.le_of_ble_eq_true rfl) lkX6_146 rfl dX6_passOne_22 rfl ?_
  refine V.tp hk ?_
  refine v_if_eq (tgt := 38) C dX6_passOne_25 (by decide) rfl (fun q => absurd q (by decide)) (fun _ => ?_)
  refine v_aload_n C dX6_passOne_28 rfl rfl rfl ?_
  refine v_getR C (Nat.le_of_ble_eq_true rfl) rfl rfl hinX6 18 (Nat.le_of_ble_eq_true rfl) lkX6_46 rfl dX6_passOne_29 rfl ?_
  refine v_aload_n C dX6_passOne_32 rfl rfl rfl ?_
  refine v_getI C (Nat.le_of_ble_eq_true rfl) rfl rfl hinX6 21 (Nat.le_of_ble_eq_true rfl) lkX6_150 rfl dX6_passOne_33 rfl ?_
  refine V.tp hc ?_
  refine v_iload_n C dX6_passOne_36 rfl rfl rfl ?_
  refine v_iast (i := c) C (Nat.le_of_ble_eq_true rfl) rfl rfl (by omega) (by decide) dX6_passOne_37 rfl ?_
  refine V.nm (fun τ37_1 eτ37_1 => ?_)
  have ht21 : τ37_1 0 21 = nI c := by rw [eτ37_1, s2_ne (by decide)]; exact hc
  refine v_aload_n C dX6_passOne_38 rfl rfl rfl ?_
  refine v_dup C dX6_passOne_39 rfl rfl ?_
  refine v_getI C (Nat.le_of_ble_eq_true rfl) rfl rfl hinX6 21 (Nat.le_of_ble_eq_true rfl) lkX6_150 rfl dX6_passOne_40 rfl ?_
  refine V.tp ht21 ?_
  refine v_iconst (v := 1) C dX6_passOne_43 (by decide) rfl ?_
  refine v_iadd C dX6_passOne_44 rfl ?_
  refine V.tp (nI_add c 1) ?_
  refine v_put (ty := .int) C (Nat.le_of_ble_eq_true rfl) rfl rfl hinX6 tyX6_ok nmX6 21 (Nat.le_of_ble_eq_true rfl) lkX6_150 rfl (by decide +kernel) rfl rfl rfl dX6_passOne_45 rfl ?_
  refine V.nm (fun τ45_2 eτ45_2 => ?_)
  refine v_iload_n C dX6_passOne_48 rfl rfl rfl ?_
  exact v_iret C dX6_passOne_49 (by rw [hX]; exact fI_of rfl (by rw [eτ45_2, eτ37_1]; rfl))
theorem kX6_passOneB (c : Nat) (v : Int32) (σ : St) (hk : σ 0 20 = 0) (hc : σ 0 21 = nI c) (hN : c < 100) : Ct yX6_passOne cX6_passOne 3 (some .int) 0 [.ref 0, .int v] σ (fI (σ 13 c) (s2 σ 0 21 (nI (c + 1)))) := by
  refine ct_of plX6 rfl (Nat.le_of_ble_eq_true rfl) (fun X hX C => ?_)
  show V X 0 [(0, .ref 0), (1, .int v)] [] σ
  refine v_aload_n C dX6_passOne_0 rfl rfl rfl ?_
  refine v_getI C (Nat.le_of_ble_eq_true rfl) rfl rfl hinX6 20 (Nat.le_of_ble_eq_true rfl) lkX6_146 rfl dX6_passOne_1 rfl ?_
  refine V.tp hk ?_
  refine v_if_eq (tgt := 11) C dX6_passOne_4 (by decide) rfl (fun _ => ?_) (fun q => absurd (by decide) q)
  refine v_aload_n C dX6_passOne_11 rfl rfl rfl ?_
  refine v_getR C (Nat.le_of_ble_eq_true rfl) rfl rfl hinX6 18 (Nat.le_of_ble_eq_true rfl) lkX6_46 rfl dX6_passOne_12 rfl ?_
  refine v_aload_n C dX6_passOne_15 rfl rfl rfl ?_
  refine v_getI C (Nat.le_of_ble_eq_true rfl) rfl rfl hinX6 21 (Nat.le_of_ble_eq_true rfl) lkX6_150 rfl dX6_passOne_16 rfl ?_
  refine V.tp hc ?_
  refine v_iald (i := c) C (Nat.le_of_ble_eq_true rfl) rfl rfl (by omega) (by decide) dX6_passOne_19 rfl ?_
  refine V.top (fun v20_1 ev20_1 => ?_)
  refine v_istore_n (lv' := [(2, .int v20_1), (0, .ref 0), (1, .int v)]) C dX6_passOne_20 rfl (Nat.le_of_ble_eq_true rfl) rfl rfl ?_
  refine v_aload_n C dX6_passOne_21 rfl rfl rfl ?_
  refine v_getI C (Nat.le_of_ble_eq_true rfl) rfl rfl hinX6 20 (Nat.le_of_ble_eq_true rfl) lkX6_146 rfl dX6_passOne_22 rfl ?_
  refine V.tp hk ?_
  refine v_if_eq (tgt := 38) C dX6_passOne_25 (by decide) rfl (fun _ => ?_) (fun q => absurd (by decide) q)
  refine v_aload_n C dX6_passOne_38 rfl rfl rfl ?_
  refine v_dup C dX6_passOne_39 rfl rfl ?_
  refine v_getI C (Nat.le_of_ble_eq_true rfl) rfl rfl hinX6 21 (Nat.le_of_ble_eq_true rfl) lkX6_150 rfl dX6_passOne_40 rfl ?_
  refine V.tp hc ?_
  refine v_iconst (v := 1) C dX6_passOne_43 (by decide) rfl ?_
  refine v_iadd C dX6_passOne_44 rfl ?_
  refine V.tp (nI_add c 1) ?_
  refine v_put (ty := .int) C (Nat.le_of_ble_eq_true rfl) rfl rfl hinX6 tyX6_ok nmX6 21 (Nat.le_of_ble_eq_true rfl) lkX6_150 rfl (by decide +kernel) rfl rfl rfl dX6_passOne_45 rfl ?_
  refine V.nm (fun τ45_2 eτ45_2 => ?_)
  refine v_iload_n C dX6_passOne_48 rfl rfl rfl ?_
  exact v_iret C dX6_passOne_49 (by rw [hX]; exact fI_of ev20_1 (by rw [eτ45_2]))
