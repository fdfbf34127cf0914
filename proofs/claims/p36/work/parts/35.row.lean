/-! the class: Row, and what of Text needs no strings -/
theorem hh19 : isH 19 := Or.inl rfl
theorem hh27 : isH 27 := Or.inr (Or.inl rfl)
theorem hh35 : isH 35 := Or.inr (Or.inr rfl)
def rAddA (v : Int32) (u : Nat) : Int32 := if v < 0 then -4 else if 99 < v then -6 else if u < 12 then nI (u + 1) else -6
def rAddS (σ : St) (v : Int32) (u : Nat) : St := if v < 0 then σ else if 99 < v then σ else if u < 12 then s2 (s2 σ 46 u v) 45 1 (nI (u + 1)) else σ
def tAddA (v : Int32) (u : Nat) : Int32 := if v < 0 then -4 else if 255 < v then -6 else if u < 96 then nI (u + 1) else -6
def tAddS (σ : St) (v : Int32) (u : Nat) : St := if v < 0 then σ else if 255 < v then σ else if u < 96 then s2 (s2 σ 44 u v) 43 1 (nI (u + 1)) else σ
def laH (σ : St) (h n k : Nat) : Int32 := binF (hYrs σ h n k (h + 1)) (hYrs σ h n k (h + 3)) (hYrs σ h n k (h + 4)) (hYrs σ h n k (h + 5)) n 10
def rwP (σ : St) (n k : Nat) : Prop := ¬ minI (laH σ 27 n k) 99 = σ 46 k
theorem kX2_add (v : Int32) (u : Nat) (σ : St) (hu : σ 45 1 = nI u) (h12 : u ≤ 12) : Ct yX2_add cX2_add 2 (some .int) 0 [.ref 45, .int v] σ (fI (rAddA v u) (rAddS σ v u)) := by
  refine ct_of plX2 rfl (Nat.le_of_ble_eq_true rfl) (fun X hX C => ?_)
  show V X 0 [(0, .ref 45), (1, .int v)] [] σ
  refine v_iload_n C dX2_add_0 rfl rfl rfl ?_
  refine v_if_ge (tgt := 7) C dX2_add_1 (by decide) rfl (fun c1 => ?_) (fun c1 => ?_)
  · skip
    refine v_iload_n C dX2_add_7 rfl rfl rfl ?_
    refine v_bipush (v := 99) C dX2_add_8 (by decide) rfl ?_
    refine v_icmp_gt (tgt := 22) C dX2_add_10 (by decide) rfl (fun c10 => ?_) (fun c10 => ?_)
    · skip
      refine v_bipush (v := -6) C dX2_add_22 (by decide) rfl ?_
      exact v_iret C dX2_add_24 (by rw [hX]; exact fI_of (by simp [rAddA, c1, c10]) (by simp [rAddS, c1, c10]))
    · skip
      refine v_aload_n C dX2_add_13 rfl rfl rfl ?_
      refine v_getI C (Nat.le_of_ble_eq_true rfl) rfl rfl hinX2 1 (Nat.le_of_ble_eq_true rfl) lkX2_15 rfl dX2_add_14 rfl ?_
      refine V.tp hu ?_
      refine v_bipush (v := 12) C dX2_add_17 (by decide) rfl ?_
      refine v_icmp_lt (tgt := 25) C dX2_add_19 (by decide) rfl (fun c19 => ?_) (fun c19 => ?_)
      · skip
        have c19 := (nI_ltI (a := u) (b := 12) (by omega) (by omega)).mp c19
        refine v_aload_n C dX2_add_25 rfl rfl rfl ?_
        refine v_getR C (Nat.le_of_ble_eq_true rfl) rfl rfl hinX2 0 (Nat.le_of_ble_eq_true rfl) lkX2_9 rfl dX2_add_26 rfl ?_
        refine v_aload_n C dX2_add_29 rfl rfl rfl ?_
        refine v_getI C (Nat.le_of_ble_eq_true rfl) rfl rfl hinX2 1 (Nat.le_of_ble_eq_true rfl) lkX2_15 rfl dX2_add_30 rfl ?_
        refine V.tp hu ?_
        refine v_iload_n C dX2_add_33 rfl rfl rfl ?_
        refine v_iast (i := u) C (Nat.le_of_ble_eq_true rfl) rfl rfl (by omega) (by decide) dX2_add_34 rfl ?_
        refine V.nm (fun τ34_1 eτ34_1 => ?_)
        have huτ34_1 : τ34_1 45 1 = nI u := by rw [eτ34_1, s2_ne (by decide)]; exact hu
        refine v_aload_n C dX2_add_35 rfl rfl rfl ?_
        refine v_dup C dX2_add_36 rfl rfl ?_
        refine v_getI C (Nat.le_of_ble_eq_true rfl) rfl rfl hinX2 1 (Nat.le_of_ble_eq_true rfl) lkX2_15 rfl dX2_add_37 rfl ?_
        refine V.tp huτ34_1 ?_
        refine v_iconst (v := 1) C dX2_add_40 (by decide) rfl ?_
        refine v_iadd C dX2_add_41 rfl ?_
        refine V.tp (nI_add u 1) ?_
        refine v_put (ty := .int) C (Nat.le_of_ble_eq_true rfl) rfl rfl hinX2 tyX2_ok nmX2 1 (Nat.le_of_ble_eq_true rfl) lkX2_15 rfl (by decide +kernel) rfl rfl rfl dX2_add_42 rfl ?_
        refine V.nm (fun τ42_2 eτ42_2 => ?_)
        refine v_aload_n C dX2_add_45 rfl rfl rfl ?_
        refine v_getI C (Nat.le_of_ble_eq_true rfl) rfl rfl hinX2 1 (Nat.le_of_ble_eq_true rfl) lkX2_15 rfl dX2_add_46 rfl ?_
        exact v_iret C dX2_add_49 (by rw [hX]; exact fI_of (by rw [eτ42_2, s2_get, if_pos ⟨rfl, rfl⟩]; simp [rAddA, c1, c10, c19]) (by rw [eτ42_2, eτ34_1]; simp [rAddS, c1, c10, c19]))
      · skip
        have c19 := mt (nI_ltI (a := u) (b := 12) (by omega) (by omega)).mpr c19
        refine v_bipush (v := -6) C dX2_add_22 (by decide) rfl ?_
        exact v_iret C dX2_add_24 (by rw [hX]; exact fI_of (by simp [rAddA, c1, c10, c19]) (by simp [rAddS, c1, c10, c19]))
  · skip
    refine v_bipush (v := -4) C dX2_add_4 (by decide) rfl ?_
    exact v_iret C dX2_add_6 (by rw [hX]; exact fI_of (by simp [rAddA, c1]) (by simp [rAddS, c1]))
theorem kX2_clear (σ : St) : Ct yX2_clear cX2_clear 1 none 0 [.ref 45] σ (fV (s2 σ 45 1 0)) := by
  refine ct_of plX2 rfl (Nat.le_of_ble_eq_true rfl) (fun X hX C => ?_)
  show V X 0 [(0, .ref 45)] [] σ
  refine v_aload_n C dX2_clear_0 rfl rfl rfl ?_
  refine v_iconst (v := 0) C dX2_clear_1 (by decide) rfl ?_
  refine v_put (ty := .int) C (Nat.le_of_ble_eq_true rfl) rfl rfl hinX2 tyX2_ok nmX2 1 (Nat.le_of_ble_eq_true rfl) lkX2_15 rfl (by decide +kernel) rfl rfl rfl dX2_clear_2 rfl ?_
  refine V.nm (fun τ2_1 eτ2_1 => ?_)
  exact v_vret C dX2_clear_5 (by rw [hX]; exact fV_of eτ2_1)
theorem kX4_add (v : Int32) (u : Nat) (σ : St) (hu : σ 43 1 = nI u) (h96 : u ≤ 96) : Ct yX4_add cX4_add 2 (some .int) 0 [.ref 43, .int v] σ (fI (tAddA v u) (tAddS σ v u)) := by
  refine ct_of plX4 rfl (Nat.le_of_ble_eq_true rfl) (fun X hX C => ?_)
  show V X 0 [(0, .ref 43), (1, .int v)] [] σ
  refine v_iload_n C dX4_add_0 rfl rfl rfl ?_
  refine v_if_ge (tgt := 7) C dX4_add_1 (by decide) rfl (fun c1 => ?_) (fun c1 => ?_)
  · skip
    refine v_iload_n C dX4_add_7 rfl rfl rfl ?_
    refine v_sipush (v := 255) C dX4_add_8 (by decide) rfl ?_
    refine v_icmp_gt (tgt := 23) C dX4_add_11 (by decide) rfl (fun c11 => ?_) (fun c11 => ?_)
    · skip
      refine v_bipush (v := -6) C dX4_add_23 (by decide) rfl ?_
      exact v_iret C dX4_add_25 (by rw [hX]; exact fI_of (by simp [tAddA, c1, c11]) (by simp [tAddS, c1, c11]))
    · skip
      refine v_aload_n C dX4_add_14 rfl rfl rfl ?_
      refine v_getI C (Nat.le_of_ble_eq_true rfl) rfl rfl hinX4 1 (Nat.le_of_ble_eq_true rfl) lkX4_15 rfl dX4_add_15 rfl ?_
      refine V.tp hu ?_
      refine v_bipush (v := 96) C dX4_add_18 (by decide) rfl ?_
      refine v_icmp_lt (tgt := 26) C dX4_add_20 (by decide) rfl (fun c20 => ?_) (fun c20 => ?_)
      · skip
        have c20 := (nI_ltI (a := u) (b := 96) (by omega) (by omega)).mp c20
        refine v_aload_n C dX4_add_26 rfl rfl rfl ?_
        refine v_getR C (Nat.le_of_ble_eq_true rfl) rfl rfl hinX4 0 (Nat.le_of_ble_eq_true rfl) lkX4_9 rfl dX4_add_27 rfl ?_
        refine v_aload_n C dX4_add_30 rfl rfl rfl ?_
        refine v_getI C (Nat.le_of_ble_eq_true rfl) rfl rfl hinX4 1 (Nat.le_of_ble_eq_true rfl) lkX4_15 rfl dX4_add_31 rfl ?_
        refine V.tp hu ?_
        refine v_iload_n C dX4_add_34 rfl rfl rfl ?_
        refine v_iast (i := u) C (Nat.le_of_ble_eq_true rfl) rfl rfl (by omega) (by decide) dX4_add_35 rfl ?_
        refine V.nm (fun τ35_1 eτ35_1 => ?_)
        have huτ35_1 : τ35_1 43 1 = nI u := by rw [eτ35_1, s2_ne (by decide)]; exact hu
        refine v_aload_n C dX4_add_36 rfl rfl rfl ?_
        refine v_dup C dX4_add_37 rfl rfl ?_
        refine v_getI C (Nat.le_of_ble_eq_true rfl) rfl rfl hinX4 1 (Nat.le_of_ble_eq_true rfl) lkX4_15 rfl dX4_add_38 rfl ?_
        refine V.tp huτ35_1 ?_
        refine v_iconst (v := 1) C dX4_add_41 (by decide) rfl ?_
        refine v_iadd C dX4_add_42 rfl ?_
        refine V.tp (nI_add u 1) ?_
        refine v_put (ty := .int) C (Nat.le_of_ble_eq_true rfl) rfl rfl hinX4 tyX4_ok nmX4 1 (Nat.le_of_ble_eq_true rfl) lkX4_15 rfl (by decide +kernel) rfl rfl rfl dX4_add_43 rfl ?_
        refine V.nm (fun τ43_2 eτ43_2 => ?_)
        refine v_aload_n C dX4_add_46 rfl rfl rfl ?_
        refine v_getI C (Nat.le_of_ble_eq_true rfl) rfl rfl hinX4 1 (Nat.le_of_ble_eq_true rfl) lkX4_15 rfl dX4_add_47 rfl ?_
        exact v_iret C dX4_add_50 (by rw [hX]; exact fI_of (by rw [eτ43_2, s2_get, if_pos ⟨rfl, rfl⟩]; simp [tAddA, c1, c11, c20]) (by rw [eτ43_2, eτ35_1]; simp [tAddS, c1, c11, c20]))
      · skip
        have c20 := mt (nI_ltI (a := u) (b := 96) (by omega) (by omega)).mpr c20
        refine v_bipush (v := -6) C dX4_add_23 (by decide) rfl ?_
        exact v_iret C dX4_add_25 (by rw [hX]; exact fI_of (by simp [tAddA, c1, c11, c20]) (by simp [tAddS, c1, c11, c20]))
  · skip
    refine v_bipush (v := -4) C dX4_add_4 (by decide) rfl ?_
    exact v_iret C dX4_add_6 (by rw [hX]; exact fI_of (by simp [tAddA, c1]) (by simp [tAddS, c1]))
theorem kX4_clear (σ : St) : Ct yX4_clear cX4_clear 1 none 0 [.ref 43] σ (fV (s2 σ 43 1 0)) := by
  refine ct_of plX4 rfl (Nat.le_of_ble_eq_true rfl) (fun X hX C => ?_)
  show V X 0 [(0, .ref 43)] [] σ
  refine v_aload_n C dX4_clear_0 rfl rfl rfl ?_
  refine v_iconst (v := 0) C dX4_clear_1 (by decide) rfl ?_
  refine v_put (ty := .int) C (Nat.le_of_ble_eq_true rfl) rfl rfl hinX4 tyX4_ok nmX4 1 (Nat.le_of_ble_eq_true rfl) lkX4_15 rfl (by decide +kernel) rfl rfl rfl dX4_clear_2 rfl ?_
  refine V.nm (fun τ2_1 eτ2_1 => ?_)
  exact v_vret C dX4_clear_5 (by rw [hX]; exact fV_of eτ2_1)
theorem kX2_firstWrong (n u : Nat) (σ : St) (hn : σ 27 7 = nI n) (h7 : n ≤ 7) (hu : σ 45 1 = nI u) (h12 : u ≤ 12) : Ct yX2_firstWrong cX2_firstWrong 3 (some .int) 4 [.ref 45, .ref 27] σ (rI (fun r τ => r = fstN (rwP σ n) u ∧ ∃ k, τ = hYrs σ 27 n k)) := by
  refine ct_of plX2 rfl (Nat.le_of_ble_eq_true rfl) (fun X hX C => ?_)
  show V X 0 [(0, .ref 45), (1, .ref 27)] [] σ
  refine v_iconst (v := 0) C dX2_firstWrong_0 (by decide) rfl ?_
  refine v_istore_n (lv' := [(2, .int 0), (0, .ref 45), (1, .ref 27)]) C dX2_firstWrong_1 rfl (Nat.le_of_ble_eq_true rfl) rfl rfl ?_
  have lp2 : ∀ (kf i : Nat)  (τ : St), u < i + kf → i ≤ u → τ = hYrs σ 27 n i → (∀ j, j < i → ¬ rwP σ n j) → V X 2 [(2, .int (nI i)), (0, .ref 45), (1, .ref 27)] [] τ := by
    intro kf
    induction kf with
    | zero => intro i  τ h1 h2; omega
    | succ kf ih2 =>
      intro i  τ h1 h2  eτ hal
      have hnτ : τ 27 7 = nI n := by rw [eτ, hYrs_z _ _ _ _ (by decide)]; exact hn
      have huτ : τ 45 1 = nI u := by rw [eτ, hYrs_o _ _ _ _ (by decide) (by decide) (by decide)]; exact hu
      have hrτ : τ 46 i = σ 46 i := by rw [eτ, hYrs_o _ _ _ _ (by decide) (by decide) (by decide)]
      refine v_iload_n C dX2_firstWrong_2 rfl rfl rfl ?_
      refine v_aload_n C dX2_firstWrong_3 rfl rfl rfl ?_
      refine v_getI C (Nat.le_of_ble_eq_true rfl) rfl rfl hinX2 1 (Nat.le_of_ble_eq_true rfl) lkX2_15 rfl dX2_firstWrong_4 rfl ?_
      refine V.tp huτ ?_
      refine v_icmp_ge (tgt := 40) C dX2_firstWrong_7 (by decide) rfl (fun c7 => ?_) (fun c7 => ?_)
      · skip
        have c7 := mt (nI_ltI (a := i) (b := u) (by omega) (by omega)).mpr c7
        refine v_bipush (v := -9) C dX2_firstWrong_40 (by decide) rfl ?_
        exact v_iret C dX2_firstWrong_42 (by rw [hX]; exact ⟨_, rfl, fst_none (fun j hj => hal j (by omega)), _, eτ⟩)
      · skip
        have c7 := (nI_ltI (a := i) (b := u) (by omega) (by omega)).mp c7
        refine v_aload_n C dX2_firstWrong_10 rfl rfl rfl ?_
        refine v_callVN C hh27.l0 hh27.s0 rfl (As := []) (rest := []) (kX0_blameOfAll 27 n hh27 τ hnτ h7) rfl (Nat.le_of_ble_eq_true rfl) (Nat.le_of_ble_eq_true rfl) ⟨mlX2_19, mfX0_blameOfAll⟩ dkX0_blameOfAll (Nat.le_of_ble_eq_true rfl) dX2_firstWrong_11 rfl (kI ?_)
        refine v_bipush (v := 99) C dX2_firstWrong_14 (by decide) rfl ?_
        refine v_mmin C (Nat.le_of_ble_eq_true rfl) maX2_25 (Nat.le_of_ble_eq_true rfl) dX2_firstWrong_16 rfl ?_
        refine v_aload_n C dX2_firstWrong_19 rfl rfl rfl ?_
        refine v_getR C (Nat.le_of_ble_eq_true rfl) rfl rfl hinX2 0 (Nat.le_of_ble_eq_true rfl) lkX2_9 rfl dX2_firstWrong_20 rfl ?_
        refine v_iload_n C dX2_firstWrong_23 rfl rfl rfl ?_
        refine v_iald (i := i) C (Nat.le_of_ble_eq_true rfl) rfl rfl (by omega) (by decide) dX2_firstWrong_24 rfl ?_
        refine v_icmp_eq (tgt := 30) C dX2_firstWrong_25 (by decide) rfl (fun c25 => ?_) (fun c25 => ?_)
        · skip
          refine v_aload_n C dX2_firstWrong_30 rfl rfl rfl ?_
          refine v_callVN C hh27.l0 hh27.s0 rfl (As := []) (rest := []) (kX0_passYear 27 n hh27 τ hnτ h7) rfl (Nat.le_of_ble_eq_true rfl) (Nat.le_of_ble_eq_true rfl) ⟨mlX2_31, mfX0_passYear⟩ dkX0_passYear (Nat.le_of_ble_eq_true rfl) dX2_firstWrong_31 rfl (kV ?_)
          refine v_iinc (lv' := [(2, .int (nI (i + 1))), (0, .ref 45), (1, .ref 27)]) C dX2_firstWrong_34 rfl (nI_inc i) (Nat.le_of_ble_eq_true rfl) rfl rfl ?_
          refine v_goto (tgt := 2) C dX2_firstWrong_37 (by decide) ?_
          exact V.sub [0, 1, 2] rfl (ih2 (i + 1)  _ (by omega) (by omega)  (by rw [eτ]; rfl) (fun j hj => (Nat.lt_succ_iff_lt_or_eq.mp hj).elim (hal j) (fun q => by subst q; exact fun z => z (by rw [laH, ← eτ, ← hrτ]; exact c25))))
        · skip
          refine v_iload_n C dX2_firstWrong_28 rfl rfl rfl ?_
          exact v_iret C dX2_firstWrong_29 (by rw [hX]; exact ⟨_, rfl, fst_some hal (show ¬ minI (laH σ 27 n i) 99 = σ 46 i from fun z => c25 (by rw [laH, ← eτ, ← hrτ] at z; exact z)) (by omega), _, eτ⟩)
  exact V.sub [0, 1, 2] rfl (lp2 (u + 1) 0  _ (by omega) (by omega)  (rfl) (fun j hj => absurd hj (Nat.not_lt_zero j)))
