/-! the class: a house's years, pieces come and go, a copy -/
def ageC (ag : Nat → Int32) : Nat → Int32 := fun p => minI (ag p + 1) 99
def fauC (kd : Nat → Int32) (y : Int32) (ft : Nat → Int32) : Nat → Int32 := fun p => if y - y / 10 * 10 = 0 ∧ ¬ kd p = 3 then maxI (ft p - 1) 0 else ft p
def hYrP (σ : St) (h q : Nat) : St := setR (setR (s2 σ h 9 (σ h 9 + 1)) (h + 4) (pre q (ageC (σ (h + 4))) (σ (h + 4)))) (h + 3) (pre q (fauC (σ (h + 1)) (σ h 9 + 1) (σ (h + 3))) (σ (h + 3)))
def hYrs (σ : St) (h n : Nat) : Nat → St
  | 0 => σ
  | k + 1 => hYrP (hYrs σ h n k) h n
theorem hYrP_0 (σ : St) (h : Nat) : hYrP σ h 0 = s2 σ h 9 (σ h 9 + 1) := by
  funext a
  simp only [hYrP, pre_0, setR]
  by_cases h3 : a = h + 3
  · subst h3; simp [s2]
  · by_cases h4 : a = h + 4
    · subst h4; simp [s2]
    · simp [h3, h4]
theorem hYrP_3 (σ : St) (h q : Nat) : hYrP σ h q (h + 3) = pre q (fauC (σ (h + 1)) (σ h 9 + 1) (σ (h + 3))) (σ (h + 3)) := by simp [hYrP, setR]
theorem hYrP_4 (σ : St) (h q : Nat) : hYrP σ h q (h + 4) = pre q (ageC (σ (h + 4))) (σ (h + 4)) := by simp [hYrP, setR]
theorem hYrP_o (σ : St) (h q a : Nat) (h3 : a ≠ h + 3) (h4 : a ≠ h + 4) (h0 : a ≠ h) : hYrP σ h q a = σ a := by simp [hYrP, setR, h3, h4, s2, h0]
theorem hYrP_y (σ : St) (h q : Nat) : hYrP σ h q h 9 = σ h 9 + 1 := by simp [hYrP, setR, s2, upd]
theorem hYrP_z (σ : St) (h q j : Nat) (hj : j ≠ 9) : hYrP σ h q h j = σ h j := by simp [hYrP, setR, s2, upd, hj]
theorem hYrP_step2 {σ : St} {h q : Nat} {v1 v2 : Int32} (h1 : v1 = ageC (σ (h + 4)) q) (h2 : v2 = fauC (σ (h + 1)) (σ h 9 + 1) (σ (h + 3)) q) : s2 (s2 (hYrP σ h q) (h + 4) q v1) (h + 3) q v2 = hYrP σ h (q + 1) := by
  funext a
  by_cases h3 : a = h + 3
  · subst h3
    rw [s2_eq, s2_ne (by omega), hYrP_3, hYrP_3, pre_upd _ _ _ h2]
  · rw [s2_ne h3]
    by_cases h4 : a = h + 4
    · subst h4
      rw [s2_eq, hYrP_4, hYrP_4, pre_upd _ _ _ h1]
    · rw [s2_ne h4]
      by_cases h0 : a = h
      · subst h0; simp [hYrP, setR]
      · rw [hYrP_o _ _ _ _ h3 h4 h0, hYrP_o _ _ _ _ h3 h4 h0]
theorem hYrP_step1 {σ : St} {h q : Nat} {v1 : Int32} (h1 : v1 = ageC (σ (h + 4)) q) (h2 : σ (h + 3) q = fauC (σ (h + 1)) (σ h 9 + 1) (σ (h + 3)) q) : s2 (hYrP σ h q) (h + 4) q v1 = hYrP σ h (q + 1) := by
  have e := hYrP_step2 (σ := σ) (h := h) (q := q) h1 h2
  have e3 : σ (h + 3) q = s2 (hYrP σ h q) (h + 4) q v1 (h + 3) q := by rw [s2_ne (by omega), hYrP_3, pre_at]
  rw [← e]
  conv => rhs; rw [e3]
  rw [s2_self]
theorem hYrs_o (σ : St) (h n a : Nat) (h3 : a ≠ h + 3) (h4 : a ≠ h + 4) (h0 : a ≠ h) : ∀ k, hYrs σ h n k a = σ a
  | 0 => rfl
  | k + 1 => by rw [hYrs, hYrP_o _ _ _ _ h3 h4 h0, hYrs_o σ h n a h3 h4 h0 k]
theorem hYrs_z (σ : St) (h n j : Nat) (hj : j ≠ 9) : ∀ k, hYrs σ h n k h j = σ h j
  | 0 => rfl
  | k + 1 => by rw [hYrs, hYrP_z _ _ _ _ hj, hYrs_z σ h n j hj k]
theorem hYrs_9 {σ : St} {h n y : Nat} (hy : σ h 9 = nI y) : ∀ k, hYrs σ h n k h 9 = nI (y + k)
  | 0 => hy
  | k + 1 => by rw [hYrs, hYrP_y, hYrs_9 hy k]; exact nI_inc (y + k)
def hYeaA (σ : St) (h n y : Nat) (v : Int32) : Int32 := if v < 1 then -4 else if minI 60 (nI (999 - y)) < v then -6 else hYrs σ h n (tn v) h 9
def hYeaS (σ : St) (h n y : Nat) (v : Int32) : St := if v < 1 then σ else if minI 60 (nI (999 - y)) < v then σ else hYrs σ h n (tn v)
theorem min_60 {z v : Int32} (q1 : ¬ v < 1) (q2 : ¬ minI 60 z < v) : v = nI (tn v) ∧ 1 ≤ tn v ∧ tn v ≤ 60 := by
  refine nat_of (a := 1) (b := 60) (by decide) (by decide) q1 ?_
  unfold minI at q2
  rw [i32_lt] at q2 ⊢
  have e : (nI 60).toInt = 60 := nI_toInt (by decide)
  have e2 : (60 : Int32).toInt = 60 := rfl
  split at q2
  · next hz => rw [i32_lt] at hz; omega
  · omega
def hDel (σ : St) (h p i : Nat) : St := fun a => if h + 1 ≤ a ∧ a ≤ h + 5 then delR i p (σ a) else σ a
theorem hDel_0 (σ : St) (h p : Nat) : hDel σ h p p = σ := by
  funext a
  unfold hDel
  by_cases q : h + 1 ≤ a ∧ a ≤ h + 5
  · rw [if_pos q, delR_0]
  · rw [if_neg q]
theorem hDel_r (σ : St) (h p i a : Nat) (h1 : h + 1 ≤ a) (h2 : a ≤ h + 5) : hDel σ h p i a = delR i p (σ a) := by unfold hDel; rw [if_pos ⟨h1, h2⟩]
theorem hDel_o (σ : St) (h p i a : Nat) (q : a < h + 1 ∨ h + 5 < a) : hDel σ h p i a = σ a := by unfold hDel; rw [if_neg (by omega)]
theorem hDel_step (σ : St) (h : Nat) {p i : Nat} (hle : p ≤ i) : s2 (s2 (s2 (s2 (s2 (hDel σ h p i) (h + 1) i (σ (h + 1) (i + 1))) (h + 2) i (σ (h + 2) (i + 1))) (h + 3) i (σ (h + 3) (i + 1))) (h + 4) i (σ (h + 4) (i + 1))) (h + 5) i (σ (h + 5) (i + 1)) = hDel σ h p (i + 1) := by
  funext a
  by_cases h5 : a = h + 5
  · subst h5
    rw [s2_eq, s2_ne (by omega), s2_ne (by omega), s2_ne (by omega), s2_ne (by omega), hDel_r _ _ _ _ _ (by omega) (by omega), hDel_r _ _ _ _ _ (by omega) (by omega), delR_step _ hle]
  · rw [s2_ne h5]
    by_cases h4 : a = h + 4
    · subst h4
      rw [s2_eq, s2_ne (by omega), s2_ne (by omega), s2_ne (by omega), hDel_r _ _ _ _ _ (by omega) (by omega), hDel_r _ _ _ _ _ (by omega) (by omega), delR_step _ hle]
    · rw [s2_ne h4]
      by_cases h3 : a = h + 3
      · subst h3
        rw [s2_eq, s2_ne (by omega), s2_ne (by omega), hDel_r _ _ _ _ _ (by omega) (by omega), hDel_r _ _ _ _ _ (by omega) (by omega), delR_step _ hle]
      · rw [s2_ne h3]
        by_cases h2 : a = h + 2
        · subst h2
          rw [s2_eq, s2_ne (by omega), hDel_r _ _ _ _ _ (by omega) (by omega), hDel_r _ _ _ _ _ (by omega) (by omega), delR_step _ hle]
        · rw [s2_ne h2]
          by_cases h1 : a = h + 1
          · subst h1
            rw [s2_eq, hDel_r _ _ _ _ _ (by omega) (by omega), hDel_r _ _ _ _ _ (by omega) (by omega), delR_step _ hle]
          · rw [s2_ne h1, hDel_o _ _ _ _ _ (by omega), hDel_o _ _ _ _ _ (by omega)]
def cp1 (σ : St) (h g j len : Nat) : St := setR σ (h + j) (pre len (σ (g + j)) (σ (h + j)))
def cpS (σ : St) (h g : Nat) : St :=
  let τ := cp1 (cp1 (cp1 (cp1 (cp1 (cp1 (cp1 σ h g 1 7) h g 2 7) h g 3 7) h g 4 7) h g 5 7) h g 6 6) h g 7 3
  s2 (s2 (s2 τ h 7 (τ g 7)) h 8 (τ g 8)) h 9 (τ g 9)
def lenH (j : Nat) : Nat := if j < 6 then 7 else if j = 6 then 6 else 3
/-- the house at h is now as the one at g; all else stays -/
def Cop (σ : St) (h g : Nat) (τ : St) : Prop := (∀ j, 1 ≤ j → j ≤ 7 → τ (h + j) = pre (lenH j) (σ (g + j)) (σ (h + j))) ∧ (τ h 7 = σ g 7 ∧ τ h 8 = σ g 8 ∧ τ h 9 = σ g 9) ∧ ∀ a, (a < h ∨ h + 7 < a) → τ a = σ a
theorem cp1_o {σ : St} {h g j len a : Nat} (q : a ≠ h + j) : cp1 σ h g j len a = σ a := by simp [cp1, setR, q]
theorem cp1_r {σ : St} {h g j len : Nat} : cp1 σ h g j len (h + j) = pre len (σ (g + j)) (σ (h + j)) := by simp [cp1, setR]
theorem cpS_ok (σ : St) {h g : Nat} (hd : h + 8 ≤ g ∨ g + 8 ≤ h) : Cop σ h g (cpS σ h g) := by
  refine ⟨fun j h1 h7 => ?_, ⟨?_, ?_, ?_⟩, fun a ha => ?_⟩
  · simp only [cpS]
    rw [s2_ne (by omega), s2_ne (by omega), s2_ne (by omega)]
    rcases (by omega : j = 1 ∨ j = 2 ∨ j = 3 ∨ j = 4 ∨ j = 5 ∨ j = 6 ∨ j = 7) with rfl | rfl | rfl | rfl | rfl | rfl | rfl
    · rw [cp1_o (by omega), cp1_o (by omega), cp1_o (by omega), cp1_o (by omega), cp1_o (by omega), cp1_o (by omega), cp1_r]; rfl
    · rw [cp1_o (by omega), cp1_o (by omega), cp1_o (by omega), cp1_o (by omega), cp1_o (by omega), cp1_r, cp1_o (by omega), cp1_o (by omega)]; rfl
    · rw [cp1_o (by omega), cp1_o (by omega), cp1_o (by omega), cp1_o (by omega), cp1_r, cp1_o (by omega), cp1_o (by omega), cp1_o (by omega), cp1_o (by omega)]; rfl
    · rw [cp1_o (by omega), cp1_o (by omega), cp1_o (by omega), cp1_r]; repeat rw [cp1_o (by omega)]
      rfl
    · rw [cp1_o (by omega), cp1_o (by omega), cp1_r]; repeat rw [cp1_o (by omega)]
      rfl
    · rw [cp1_o (by omega), cp1_r]; repeat rw [cp1_o (by omega)]
      rfl
    · rw [cp1_r]; repeat rw [cp1_o (by omega)]
      rfl
  · simp only [cpS]
    rw [s2_get, if_neg (by omega), s2_get, if_neg (by omega), s2_get, if_pos ⟨rfl, rfl⟩]
    repeat rw [cp1_o (by omega)]
  · simp only [cpS]
    rw [s2_get, if_neg (by omega), s2_get, if_pos ⟨rfl, rfl⟩]
    repeat rw [cp1_o (by omega)]
  · simp only [cpS]
    rw [s2_get, if_pos ⟨rfl, rfl⟩]
    repeat rw [cp1_o (by omega)]
  · simp only [cpS]
    rw [s2_ne (by omega), s2_ne (by omega), s2_ne (by omega)]
    repeat rw [cp1_o (by omega)]
theorem cp_e1 {σ : St} {h g j : Nat} {v : Int32} (hd : h + 8 ≤ g ∨ g + 8 ≤ h) : s2 σ h j v g = σ g := s2_ne (by omega)
theorem kX0_passYear (h n : Nat) (hh : isH h) (σ : St) (hn : σ h 7 = nI n) (h7 : n ≤ 7) : Ct yX0_passYear cX0_passYear 2 none 1 [.ref h] σ (fV (hYrP σ h n)) := by
  refine ct_of plX0 rfl (Nat.le_of_ble_eq_true rfl) (fun X hX C => ?_)
  show V X 0 [(0, .ref h)] [] σ
  refine v_aload_n C dX0_passYear_0 rfl rfl rfl ?_
  refine v_dup C dX0_passYear_1 rfl rfl ?_
  refine v_getI C hh.l0 hh.s0 rfl hinX0 9 (Nat.le_of_ble_eq_true rfl) lkX0_40 rfl dX0_passYear_2 rfl ?_
  refine v_iconst (v := 1) C dX0_passYear_5 (by decide) rfl ?_
  refine v_iadd C dX0_passYear_6 rfl ?_
  refine v_put (ty := .int) C hh.l0 hh.s0 rfl hinX0 tyX0_ok nmX0 9 (Nat.le_of_ble_eq_true rfl) lkX0_40 rfl (by decide +kernel) rfl rfl rfl dX0_passYear_7 rfl ?_
  refine V.nm (fun τ7_1 eτ7_1 => ?_)
  refine v_iconst (v := 0) C dX0_passYear_10 (by decide) rfl ?_
  refine v_istore_n (lv' := [(1, .int 0), (0, .ref h)]) C dX0_passYear_11 rfl (Nat.le_of_ble_eq_true rfl) rfl rfl ?_
  have lp12 : ∀ (kf i : Nat)  (τ : St), n < i + kf → i ≤ n → τ = hYrP σ h i → V X 12 [(1, .int (nI i)), (0, .ref h)] [] τ := by
    intro kf
    induction kf with
    | zero => intro i  τ h1 h2; omega
    | succ kf ih12 =>
      intro i  τ h1 h2  eτ
      have hnτ : τ h 7 = nI n := by rw [eτ, hYrP_z _ _ _ _ (by decide)]; exact hn
      have ha4 : τ (h + 4) i = σ (h + 4) i := by rw [eτ, hYrP_4, pre_at]
      refine v_iload_n C dX0_passYear_12 rfl rfl rfl ?_
      refine v_aload_n C dX0_passYear_13 rfl rfl rfl ?_
      refine v_getI C hh.l0 hh.s0 rfl hinX0 7 (Nat.le_of_ble_eq_true rfl) lkX0_33 rfl dX0_passYear_14 rfl ?_
      refine V.tp hnτ ?_
      refine v_icmp_ge (tgt := 83) C dX0_passYear_17 (by decide) rfl (fun c17 => ?_) (fun c17 => ?_)
      · skip
        have c17 := mt (nI_ltI (a := i) (b := n) (by omega) (by omega)).mpr c17
        exact v_vret C dX0_passYear_83 (by rw [hX]; exact fV_of (by rw [eτ, show i = n from by omega]))
      · skip
        have c17 := (nI_ltI (a := i) (b := n) (by omega) (by omega)).mp c17
        refine v_aload_n C dX0_passYear_20 rfl rfl rfl ?_
        refine v_getR C hh.l0 hh.s0 rfl hinX0 3 (Nat.le_of_ble_eq_true rfl) lkX0_21 rfl dX0_passYear_21 rfl ?_
        refine v_iload_n C dX0_passYear_24 rfl rfl rfl ?_
        refine v_aload_n C dX0_passYear_25 rfl rfl rfl ?_
        refine v_getR C hh.l0 hh.s0 rfl hinX0 3 (Nat.le_of_ble_eq_true rfl) lkX0_21 rfl dX0_passYear_26 rfl ?_
        refine v_iload_n C dX0_passYear_29 rfl rfl rfl ?_
        refine v_iald (i := i) C hh.l4 hh.s4 rfl (by omega) (by decide) dX0_passYear_30 rfl ?_
        refine V.tp ha4 ?_
        refine v_iconst (v := 1) C dX0_passYear_31 (by decide) rfl ?_
        refine v_iadd C dX0_passYear_32 rfl ?_
        refine v_bipush (v := 99) C dX0_passYear_33 (by decide) rfl ?_
        refine v_mmin C (Nat.le_of_ble_eq_true rfl) maX0_91 (Nat.le_of_ble_eq_true rfl) dX0_passYear_35 rfl ?_
        refine v_iast (i := i) C hh.l4 hh.s4 rfl (by omega) (by decide) dX0_passYear_38 rfl ?_
        refine V.nm (fun τ38_2 eτ38_2 => ?_)
        have hyτ38_2 : τ38_2 h 9 = σ h 9 + 1 := by rw [eτ38_2, s2_ne (by omega), eτ, hYrP_y]
        have hkτ38_2 : τ38_2 (h + 1) i = σ (h + 1) i := by rw [eτ38_2, s2_ne (by omega), eτ, hYrP_o _ _ _ _ (by omega) (by omega) (by omega)]
        have hfτ38_2 : τ38_2 (h + 3) i = σ (h + 3) i := by rw [eτ38_2, s2_ne (by omega), eτ, hYrP_3, pre_at]
        refine v_aload_n C dX0_passYear_39 rfl rfl rfl ?_
        refine v_getI C hh.l0 hh.s0 rfl hinX0 9 (Nat.le_of_ble_eq_true rfl) lkX0_40 rfl dX0_passYear_40 rfl ?_
        refine V.tp hyτ38_2 ?_
        refine v_bipush (v := 10) C dX0_passYear_43 (by decide) rfl ?_
        refine v_irem C dX0_passYear_45 (by decide) rfl ?_
        refine v_if_ne (tgt := 77) C dX0_passYear_46 (by decide) rfl (fun c46 => ?_) (fun c46 => ?_)
        · skip
          refine v_iinc (lv' := [(1, .int (nI (i + 1))), (0, .ref h)]) C dX0_passYear_77 rfl (nI_inc i) (Nat.le_of_ble_eq_true rfl) rfl rfl ?_
          refine v_goto (tgt := 12) C dX0_passYear_80 (by decide) ?_
          exact V.sub [0, 1] rfl (ih12 (i + 1)  _ (by omega) (by omega)  (by rw [eτ38_2, eτ]; exact hYrP_step1 rfl (by simp [fauC, c46])))
        · skip
          refine v_aload_n C dX0_passYear_49 rfl rfl rfl ?_
          refine v_getR C hh.l0 hh.s0 rfl hinX0 0 (Nat.le_of_ble_eq_true rfl) lkX0_9 rfl dX0_passYear_50 rfl ?_
          refine v_iload_n C dX0_passYear_53 rfl rfl rfl ?_
          refine v_iald (i := i) C hh.l1 hh.s1 rfl (by omega) (by decide) dX0_passYear_54 rfl ?_
          refine V.tp hkτ38_2 ?_
          refine v_iconst (v := 3) C dX0_passYear_55 (by decide) rfl ?_
          refine v_icmp_eq (tgt := 77) C dX0_passYear_56 (by decide) rfl (fun c56 => ?_) (fun c56 => ?_)
          · skip
            refine v_iinc (lv' := [(1, .int (nI (i + 1))), (0, .ref h)]) C dX0_passYear_77 rfl (nI_inc i) (Nat.le_of_ble_eq_true rfl) rfl rfl ?_
            refine v_goto (tgt := 12) C dX0_passYear_80 (by decide) ?_
            exact V.sub [0, 1] rfl (ih12 (i + 1)  _ (by omega) (by omega)  (by rw [eτ38_2, eτ]; exact hYrP_step1 rfl (by simp [fauC, c46, c56])))
          · skip
            refine v_aload_n C dX0_passYear_59 rfl rfl rfl ?_
            refine v_getR C hh.l0 hh.s0 rfl hinX0 2 (Nat.le_of_ble_eq_true rfl) lkX0_18 rfl dX0_passYear_60 rfl ?_
            refine v_iload_n C dX0_passYear_63 rfl rfl rfl ?_
            refine v_aload_n C dX0_passYear_64 rfl rfl rfl ?_
            refine v_getR C hh.l0 hh.s0 rfl hinX0 2 (Nat.le_of_ble_eq_true rfl) lkX0_18 rfl dX0_passYear_65 rfl ?_
            refine v_iload_n C dX0_passYear_68 rfl rfl rfl ?_
            refine v_iald (i := i) C hh.l3 hh.s3 rfl (by omega) (by decide) dX0_passYear_69 rfl ?_
            refine V.tp hfτ38_2 ?_
            refine v_iconst (v := 1) C dX0_passYear_70 (by decide) rfl ?_
            refine v_isub C dX0_passYear_71 rfl ?_
            refine v_iconst (v := 0) C dX0_passYear_72 (by decide) rfl ?_
            refine v_mmax C (Nat.le_of_ble_eq_true rfl) maX0_97 (Nat.le_of_ble_eq_true rfl) dX0_passYear_73 rfl ?_
            refine v_iast (i := i) C hh.l3 hh.s3 rfl (by omega) (by decide) dX0_passYear_76 rfl ?_
            refine V.nm (fun τ76_3 eτ76_3 => ?_)
            refine v_iinc (lv' := [(1, .int (nI (i + 1))), (0, .ref h)]) C dX0_passYear_77 rfl (nI_inc i) (Nat.le_of_ble_eq_true rfl) rfl rfl ?_
            refine v_goto (tgt := 12) C dX0_passYear_80 (by decide) ?_
            exact V.sub [0, 1] rfl (ih12 (i + 1)  _ (by omega) (by omega)  (by rw [eτ76_3, eτ38_2, eτ]; exact hYrP_step2 rfl (by simp [fauC, c46, c56])))
  exact V.sub [0, 1] rfl (lp12 (n + 1) 0  _ (by omega) (by omega)  (by rw [eτ7_1, hYrP_0]))
