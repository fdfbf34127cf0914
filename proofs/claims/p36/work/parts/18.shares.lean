/-! the check's class: shares -/
theorem setR_s2 (σ : St) (k j : Nat) (f : Nat → Int32) (v : Int32) : s2 (setR σ k f) k j v = setR σ k (upd f j v) := by
  funext a
  by_cases h : a = k
  · subst h; rw [s2_eq]; simp [setR]
  · rw [s2_ne h]; simp [setR, h]
theorem setR_o (σ : St) (k a : Nat) (f : Nat → Int32) (h : a ≠ k) : setR σ k f a = σ a := by simp [setR, h]
theorem setR_k (σ : St) (k : Nat) (f : Nat → Int32) : setR σ k f k = f := by simp [setR]
theorem setR_self (σ : St) (k : Nat) : setR σ k (σ k) = σ := by
  funext a
  by_cases h : a = k
  · subst h; simp [setR]
  · simp [setR, h]
theorem setR_setR (σ : St) (k : Nat) (f g : Nat → Int32) : setR (setR σ k f) k g = setR σ k g := by
  funext a
  by_cases h : a = k <;> simp [setR, h]
def shaN (s0 bl : Nat → Int32) (g : Nat → Nat) : Nat → (Nat → Int32)
  | 0 => s0
  | i + 1 => upd (shaN s0 bl g i) (g i) (shaN s0 bl g i (g i) + bl i)
def z4 (f : Nat → Int32) : Nat → Int32 := pre 4 (fun _ => 0) f
def blR (σ : St) (n : Nat) : Nat → Int32 := fun p => blaF (σ 4) (σ 6) (σ 7) (σ 8) n p
def minV (f : Nat → Int32) : Nat → Int32
  | 0 => f 0
  | i + 1 => if i = 0 then f 0 else if f i < minV f i then f i else minV f i
def maxV (f : Nat → Int32) : Nat → Int32
  | 0 => f 0
  | i + 1 => if i = 0 then f 0 else if maxV f i < f i then f i else maxV f i
def aptF (f : Nat → Int32) (h : Nat) : Int32 := maxV f h - minV f h
theorem blR_cg {σ τ : St} (h4 : τ 4 = σ 4) (h6 : τ 6 = σ 6) (h7 : τ 7 = σ 7) (h8 : τ 8 = σ 8) (n : Nat) : blR τ n = blR σ n := by
  funext p; rw [blR, blR, h4, h6, h7, h8]
theorem kX6_apart (σ : St) (h : Nat) (hh : σ 0 9 = nI h) (hl2 : 2 ≤ h) (hl4 : h ≤ 4) : Ct yX6_apart cX6_apart 4 (some .int) 0 [.ref 0] σ (fI (aptF (σ 16) h) σ) := by
  refine ct_of plX6 rfl (Nat.le_of_ble_eq_true rfl) (fun X hX C => ?_)
  show V X 0 [(0, .ref 0)] [] σ
  refine v_aload_n C dX6_apart_0 rfl rfl rfl ?_
  refine v_getR C (Nat.le_of_ble_eq_true rfl) rfl rfl hinX6 25 (Nat.le_of_ble_eq_true rfl) lkX6_55 rfl dX6_apart_1 rfl ?_
  refine v_iconst (v := 0) C dX6_apart_4 (by decide) rfl ?_
  refine v_iald (i := 0) C (Nat.le_of_ble_eq_true rfl) rfl rfl (Nat.le_of_ble_eq_true rfl) (by decide) dX6_apart_5 rfl ?_
  refine V.top (fun v6_1 ev6_1 => ?_)
  refine v_istore_n (lv' := [(1, .int v6_1), (0, .ref 0)]) C dX6_apart_6 rfl (Nat.le_of_ble_eq_true rfl) rfl rfl ?_
  refine v_aload_n C dX6_apart_7 rfl rfl rfl ?_
  refine v_getR C (Nat.le_of_ble_eq_true rfl) rfl rfl hinX6 25 (Nat.le_of_ble_eq_true rfl) lkX6_55 rfl dX6_apart_8 rfl ?_
  refine v_iconst (v := 0) C dX6_apart_11 (by decide) rfl ?_
  refine v_iald (i := 0) C (Nat.le_of_ble_eq_true rfl) rfl rfl (Nat.le_of_ble_eq_true rfl) (by decide) dX6_apart_12 rfl ?_
  refine V.top (fun v13_2 ev13_2 => ?_)
  refine v_istore_n (lv' := [(2, .int v13_2), (1, .int v6_1), (0, .ref 0)]) C dX6_apart_13 rfl (Nat.le_of_ble_eq_true rfl) rfl rfl ?_
  refine v_iconst (v := 1) C dX6_apart_14 (by decide) rfl ?_
  refine v_istore_n (lv' := [(3, .int 1), (2, .int v13_2), (1, .int v6_1), (0, .ref 0)]) C dX6_apart_15 rfl (Nat.le_of_ble_eq_true rfl) rfl rfl ?_
  have lp16 : ∀ (k i : Nat) (x1 : Int32) (x2 : Int32) , h < i + k → i ≤ h → x1 = minV (σ 16) i → x2 = maxV (σ 16) i → (1 ≤ i) → V X 16 [(3, .int (nI i)), (2, .int x2), (1, .int x1), (0, .ref 0)] [] σ := by
    intro k
    induction k with
    | zero => intro i x1 x2 h1 h2; omega
    | succ k ih16 =>
      intro i x1 x2 h1 h2 ex1 ex2 hi1
      refine v_iload_n C dX6_apart_16 rfl rfl rfl ?_
      refine v_aload_n C dX6_apart_17 rfl rfl rfl ?_
      refine v_getI C (Nat.le_of_ble_eq_true rfl) rfl rfl hinX6 9 (Nat.le_of_ble_eq_true rfl) lkX6_61 rfl dX6_apart_18 rfl ?_
      refine V.tp hh ?_
      refine v_icmp_ge (tgt := 72) C dX6_apart_21 (by decide) rfl (fun c21 => ?_) (fun c21 => ?_)
      · skip
        have c21 := mt (nI_ltI (a := i) (b := h) (by omega) (by omega)).mpr c21
        refine v_iload_n C dX6_apart_72 rfl rfl rfl ?_
        refine v_iload_n C dX6_apart_73 rfl rfl rfl ?_
        refine v_isub C dX6_apart_74 rfl ?_
        exact v_iret C dX6_apart_75 (by rw [hX]; exact fI_of (by rw [ex1, ex2, show i = h by omega, aptF]) rfl)
      · skip
        have c21 := (nI_ltI (a := i) (b := h) (by omega) (by omega)).mp c21
        refine v_aload_n C dX6_apart_24 rfl rfl rfl ?_
        refine v_getR C (Nat.le_of_ble_eq_true rfl) rfl rfl hinX6 25 (Nat.le_of_ble_eq_true rfl) lkX6_55 rfl dX6_apart_25 rfl ?_
        refine v_iload_n C dX6_apart_28 rfl rfl rfl ?_
        refine v_iald (i := i) C (Nat.le_of_ble_eq_true rfl) rfl rfl (by omega) (by decide) dX6_apart_29 rfl ?_
        refine v_iload_n C dX6_apart_30 rfl rfl rfl ?_
        refine v_icmp_ge (tgt := 43) C dX6_apart_31 (by decide) rfl (fun c31 => ?_) (fun c31 => ?_)
        · skip
          refine v_iload_n C dX6_apart_43 rfl rfl rfl ?_
          refine v_istore_n (lv' := [(1, .int x1), (3, .int (nI i)), (2, .int x2), (0, .ref 0)]) C dX6_apart_44 rfl (Nat.le_of_ble_eq_true rfl) rfl rfl ?_
          refine v_aload_n C dX6_apart_45 rfl rfl rfl ?_
          refine v_getR C (Nat.le_of_ble_eq_true rfl) rfl rfl hinX6 25 (Nat.le_of_ble_eq_true rfl) lkX6_55 rfl dX6_apart_46 rfl ?_
          refine v_iload_n C dX6_apart_49 rfl rfl rfl ?_
          refine v_iald (i := i) C (Nat.le_of_ble_eq_true rfl) rfl rfl (by omega) (by decide) dX6_apart_50 rfl ?_
          refine v_iload_n C dX6_apart_51 rfl rfl rfl ?_
          refine v_icmp_le (tgt := 64) C dX6_apart_52 (by decide) rfl (fun c52 => ?_) (fun c52 => ?_)
          · skip
            refine v_iload_n C dX6_apart_64 rfl rfl rfl ?_
            refine v_istore_n (lv' := [(2, .int x2), (1, .int x1), (3, .int (nI i)), (0, .ref 0)]) C dX6_apart_65 rfl (Nat.le_of_ble_eq_true rfl) rfl rfl ?_
            refine v_iinc (lv' := [(3, .int (nI (i + 1))), (2, .int x2), (1, .int x1), (0, .ref 0)]) C dX6_apart_66 rfl (nI_inc i) (Nat.le_of_ble_eq_true rfl) rfl rfl ?_
            refine v_goto (tgt := 16) C dX6_apart_69 (by decide) ?_
            exact V.sub [0, 1, 2, 3] rfl (ih16 (i + 1) _ _ (by omega) (by omega) (by simp [minV, show ¬ i = 0 by omega, ← ex1, c31]) (by simp [maxV, show ¬ i = 0 by omega, ← ex2, c52]) (by omega))
          · skip
            refine v_aload_n C dX6_apart_55 rfl rfl rfl ?_
            refine v_getR C (Nat.le_of_ble_eq_true rfl) rfl rfl hinX6 25 (Nat.le_of_ble_eq_true rfl) lkX6_55 rfl dX6_apart_56 rfl ?_
            refine v_iload_n C dX6_apart_59 rfl rfl rfl ?_
            refine v_iald (i := i) C (Nat.le_of_ble_eq_true rfl) rfl rfl (by omega) (by decide) dX6_apart_60 rfl ?_
            refine v_goto (tgt := 65) C dX6_apart_61 (by decide) ?_
            refine V.top (fun v65_3 ev65_3 => ?_)
            refine v_istore_n (lv' := [(2, .int v65_3), (1, .int x1), (3, .int (nI i)), (0, .ref 0)]) C dX6_apart_65 rfl (Nat.le_of_ble_eq_true rfl) rfl rfl ?_
            refine v_iinc (lv' := [(3, .int (nI (i + 1))), (2, .int v65_3), (1, .int x1), (0, .ref 0)]) C dX6_apart_66 rfl (nI_inc i) (Nat.le_of_ble_eq_true rfl) rfl rfl ?_
            refine v_goto (tgt := 16) C dX6_apart_69 (by decide) ?_
            exact V.sub [0, 1, 2, 3] rfl (ih16 (i + 1) _ _ (by omega) (by omega) (by simp [minV, show ¬ i = 0 by omega, ← ex1, c31]) (by rw [ev65_3]; simp [maxV, show ¬ i = 0 by omega, ← ex2, c52]) (by omega))
        · skip
          refine v_aload_n C dX6_apart_34 rfl rfl rfl ?_
          refine v_getR C (Nat.le_of_ble_eq_true rfl) rfl rfl hinX6 25 (Nat.le_of_ble_eq_true rfl) lkX6_55 rfl dX6_apart_35 rfl ?_
          refine v_iload_n C dX6_apart_38 rfl rfl rfl ?_
          refine v_iald (i := i) C (Nat.le_of_ble_eq_true rfl) rfl rfl (by omega) (by decide) dX6_apart_39 rfl ?_
          refine v_goto (tgt := 44) C dX6_apart_40 (by decide) ?_
          refine V.top (fun v44_4 ev44_4 => ?_)
          refine v_istore_n (lv' := [(1, .int v44_4), (3, .int (nI i)), (2, .int x2), (0, .ref 0)]) C dX6_apart_44 rfl (Nat.le_of_ble_eq_true rfl) rfl rfl ?_
          refine v_aload_n C dX6_apart_45 rfl rfl rfl ?_
          refine v_getR C (Nat.le_of_ble_eq_true rfl) rfl rfl hinX6 25 (Nat.le_of_ble_eq_true rfl) lkX6_55 rfl dX6_apart_46 rfl ?_
          refine v_iload_n C dX6_apart_49 rfl rfl rfl ?_
          refine v_iald (i := i) C (Nat.le_of_ble_eq_true rfl) rfl rfl (by omega) (by decide) dX6_apart_50 rfl ?_
          refine v_iload_n C dX6_apart_51 rfl rfl rfl ?_
          refine v_icmp_le (tgt := 64) C dX6_apart_52 (by decide) rfl (fun c52 => ?_) (fun c52 => ?_)
          · skip
            refine v_iload_n C dX6_apart_64 rfl rfl rfl ?_
            refine v_istore_n (lv' := [(2, .int x2), (1, .int v44_4), (3, .int (nI i)), (0, .ref 0)]) C dX6_apart_65 rfl (Nat.le_of_ble_eq_true rfl) rfl rfl ?_
            refine v_iinc (lv' := [(3, .int (nI (i + 1))), (2, .int x2), (1, .int v44_4), (0, .ref 0)]) C dX6_apart_66 rfl (nI_inc i) (Nat.le_of_ble_eq_true rfl) rfl rfl ?_
            refine v_goto (tgt := 16) C dX6_apart_69 (by decide) ?_
            exact V.sub [0, 1, 2, 3] rfl (ih16 (i + 1) _ _ (by omega) (by omega) (by rw [ev44_4]; simp [minV, show ¬ i = 0 by omega, ← ex1, c31]) (by simp [maxV, show ¬ i = 0 by omega, ← ex2, c52]) (by omega))
          · skip
            refine v_aload_n C dX6_apart_55 rfl rfl rfl ?_
            refine v_getR C (Nat.le_of_ble_eq_true rfl) rfl rfl hinX6 25 (Nat.le_of_ble_eq_true rfl) lkX6_55 rfl dX6_apart_56 rfl ?_
            refine v_iload_n C dX6_apart_59 rfl rfl rfl ?_
            refine v_iald (i := i) C (Nat.le_of_ble_eq_true rfl) rfl rfl (by omega) (by decide) dX6_apart_60 rfl ?_
            refine v_goto (tgt := 65) C dX6_apart_61 (by decide) ?_
            refine V.top (fun v65_5 ev65_5 => ?_)
            refine v_istore_n (lv' := [(2, .int v65_5), (1, .int v44_4), (3, .int (nI i)), (0, .ref 0)]) C dX6_apart_65 rfl (Nat.le_of_ble_eq_true rfl) rfl rfl ?_
            refine v_iinc (lv' := [(3, .int (nI (i + 1))), (2, .int v65_5), (1, .int v44_4), (0, .ref 0)]) C dX6_apart_66 rfl (nI_inc i) (Nat.le_of_ble_eq_true rfl) rfl rfl ?_
            refine v_goto (tgt := 16) C dX6_apart_69 (by decide) ?_
            exact V.sub [0, 1, 2, 3] rfl (ih16 (i + 1) _ _ (by omega) (by omega) (by rw [ev44_4]; simp [minV, show ¬ i = 0 by omega, ← ex1, c31]) (by rw [ev65_5]; simp [maxV, show ¬ i = 0 by omega, ← ex2, c52]) (by omega))
  exact V.sub [0, 1, 2, 3] rfl (lp16 (h + 1) 1 v6_1 v13_2 (by omega) (by omega) (by rw [ev6_1]; simp [minV]) (by rw [ev13_2]; simp [maxV]) (by omega))
theorem kX6_givesAll (n : Nat) (g : Nat → Nat) (σ : St) (hn : σ 0 8 = nI n) (h7 : n ≤ 7) (hg : ∀ p, p < n → σ 15 p = nI (g p) ∧ g p < 4) : Ct yX6_givesAll cX6_givesAll 2 none 2 [.ref 0] σ (fV (setR σ 16 (shaN (z4 (σ 16)) (blR σ n) g n))) := by
  refine ct_of plX6 rfl (Nat.le_of_ble_eq_true rfl) (fun X hX C => ?_)
  show V X 0 [(0, .ref 0)] [] σ
  refine v_iconst (v := 0) C dX6_givesAll_0 (by decide) rfl ?_
  refine v_istore_n (lv' := [(1, .int 0), (0, .ref 0)]) C dX6_givesAll_1 rfl (Nat.le_of_ble_eq_true rfl) rfl rfl ?_
  have lp2 : ∀ (k i : Nat)  (τ : St), 4 < i + k → i ≤ 4 → τ = setR σ 16 (pre i (fun _ => 0) (σ 16)) → V X 2 [(1, .int (nI i)), (0, .ref 0)] [] τ := by
    intro k
    induction k with
    | zero => intro i  τ h1 h2; omega
    | succ k ih2 =>
      intro i  τ h1 h2  eτ
      refine v_iload_n C dX6_givesAll_2 rfl rfl rfl ?_
      refine v_iconst (v := 4) C dX6_givesAll_3 (by decide) rfl ?_
      refine v_icmp_ge (tgt := 20) C dX6_givesAll_4 (by decide) rfl (fun c4 => ?_) (fun c4 => ?_)
      · skip
        have c4 := mt (nI_ltI (a := i) (b := 4) (by omega) (by omega)).mpr c4
        refine v_iconst (v := 0) C dX6_givesAll_20 (by decide) rfl ?_
        refine v_istore_n (lv' := [(1, .int 0), (0, .ref 0)]) C dX6_givesAll_21 rfl (Nat.le_of_ble_eq_true rfl) rfl rfl ?_
        have lp22 : ∀ (k q : Nat)  (υ : St), n < q + k → q ≤ n → υ = setR σ 16 (shaN (z4 (σ 16)) (blR σ n) g q) → V X 22 [(1, .int (nI q)), (0, .ref 0)] [] υ := by
          intro k
          induction k with
          | zero => intro q  υ h1 h2; omega
          | succ k ih22 =>
            intro q  υ h1 h2  eυ
            have hnt : υ 0 8 = nI n := by rw [eυ, setR_o _ _ _ _ (by decide)]; exact hn
            have hg1 : q < n → υ 15 q = nI (g q) := fun hq => by rw [eυ, setR_o _ _ _ _ (by decide)]; exact (hg q hq).1
            have hg2 : q < n → g q < 4 := fun hq => (hg q hq).2
            refine v_iload_n C dX6_givesAll_22 rfl rfl rfl ?_
            refine v_aload_n C dX6_givesAll_23 rfl rfl rfl ?_
            refine v_getI C (Nat.le_of_ble_eq_true rfl) rfl rfl hinX6 8 (Nat.le_of_ble_eq_true rfl) lkX6_65 rfl dX6_givesAll_24 rfl ?_
            refine V.tp hnt ?_
            refine v_icmp_ge (tgt := 55) C dX6_givesAll_27 (by decide) rfl (fun c27 => ?_) (fun c27 => ?_)
            · skip
              have c27 := mt (nI_ltI (a := q) (b := n) (by omega) (by omega)).mpr c27
              exact v_vret C dX6_givesAll_55 (by rw [hX]; exact fV_of (by rw [eυ, show q = n by omega]))
            · skip
              have c27 := (nI_ltI (a := q) (b := n) (by omega) (by omega)).mp c27
              refine v_aload_n C dX6_givesAll_30 rfl rfl rfl ?_
              refine v_getR C (Nat.le_of_ble_eq_true rfl) rfl rfl hinX6 25 (Nat.le_of_ble_eq_true rfl) lkX6_55 rfl dX6_givesAll_31 rfl ?_
              refine v_aload_n C dX6_givesAll_34 rfl rfl rfl ?_
              refine v_getR C (Nat.le_of_ble_eq_true rfl) rfl rfl hinX6 24 (Nat.le_of_ble_eq_true rfl) lkX6_52 rfl dX6_givesAll_35 rfl ?_
              refine v_iload_n C dX6_givesAll_38 rfl rfl rfl ?_
              refine v_iald (i := q) C (Nat.le_of_ble_eq_true rfl) rfl rfl (by omega) (by decide) dX6_givesAll_39 rfl ?_
              refine V.tp (hg1 (by assumption)) ?_
              refine v_dup2 C dX6_givesAll_40 rfl rfl rfl ?_
              refine v_iald (i := g q) C (Nat.le_of_ble_eq_true rfl) rfl rfl (by omega) (by decide) dX6_givesAll_41 rfl ?_
              refine v_aload_n C dX6_givesAll_42 rfl rfl rfl ?_
              refine v_iload_n C dX6_givesAll_43 rfl rfl rfl ?_
              refine v_callV C (Nat.le_of_ble_eq_true rfl) rfl rfl (As := [.int (nI q)]) (rest := [.int (υ 16 (g q)), .int (nI (g q)), .ref 16]) (kX6_blameOf n q υ hnt h7 (by assumption)) rfl (Nat.le_of_ble_eq_true rfl) (Nat.le_of_ble_eq_true rfl) ⟨mlX6_169, mfX6_blameOf⟩ dkX6_blameOf (Nat.le_of_ble_eq_true rfl) dX6_givesAll_44 rfl (kI ?_)
              refine V.tp (show blaF (υ 4) (υ 6) (υ 7) (υ 8) n q = blR σ n q from by rw [eυ]; rfl) ?_
              refine v_iadd C dX6_givesAll_47 rfl ?_
              refine v_iast (i := g q) C (Nat.le_of_ble_eq_true rfl) rfl rfl (by omega) (by decide) dX6_givesAll_48 rfl ?_
              refine V.nm (fun τ48_1 eτ48_1 => ?_)
              refine v_iinc (lv' := [(1, .int (nI (q + 1))), (0, .ref 0)]) C dX6_givesAll_49 rfl (nI_inc q) (Nat.le_of_ble_eq_true rfl) rfl rfl ?_
              refine v_goto (tgt := 22) C dX6_givesAll_52 (by decide) ?_
              exact V.sub [0, 1] rfl (ih22 (q + 1)  _ (by omega) (by omega)  (by rw [eτ48_1, eυ, setR_s2, setR_k]; rfl))
        exact V.sub [0, 1] rfl (lp22 (n + 1) 0  _ (by omega) (by omega)  (by rw [eτ, show i = 4 by omega]; rfl))
      · skip
        have c4 := (nI_ltI (a := i) (b := 4) (by omega) (by omega)).mp c4
        refine v_aload_n C dX6_givesAll_7 rfl rfl rfl ?_
        refine v_getR C (Nat.le_of_ble_eq_true rfl) rfl rfl hinX6 25 (Nat.le_of_ble_eq_true rfl) lkX6_55 rfl dX6_givesAll_8 rfl ?_
        refine v_iload_n C dX6_givesAll_11 rfl rfl rfl ?_
        refine v_iconst (v := 0) C dX6_givesAll_12 (by decide) rfl ?_
        refine v_iast (i := i) C (Nat.le_of_ble_eq_true rfl) rfl rfl (by omega) (by decide) dX6_givesAll_13 rfl ?_
        refine V.nm (fun τ13_2 eτ13_2 => ?_)
        refine v_iinc (lv' := [(1, .int (nI (i + 1))), (0, .ref 0)]) C dX6_givesAll_14 rfl (nI_inc i) (Nat.le_of_ble_eq_true rfl) rfl rfl ?_
        refine v_goto (tgt := 2) C dX6_givesAll_17 (by decide) ?_
        exact V.sub [0, 1] rfl (ih2 (i + 1)  _ (by omega) (by omega)  (by rw [eτ13_2, eτ, setR_s2, pre_upd _ _ _ rfl]))
  exact V.sub [0, 1] rfl (lp2 (4 + 1) 0  _ (by omega) (by omega)  (by rw [pre_0, setR_self]))
def deaN (s0 bl : Nat → Int32) (h : Nat) : Nat → (Nat → Int32)
  | 0 => s0
  | i + 1 => upd (deaN s0 bl h i) (firN (deaN s0 bl h i) h) (deaN s0 bl h i (firN (deaN s0 bl h i) h) + bl i)
def deaG (s0 bl : Nat → Int32) (h : Nat) : Nat → Int32 := fun p => nI (firN (deaN s0 bl h p) h)
def deaS (σ : St) (n h i : Nat) : St := setR (setR σ 15 (pre i (deaG (z4 (σ 16)) (blR σ n) h) (σ 15))) 16 (deaN (z4 (σ 16)) (blR σ n) h i)
theorem deaS_step (σ : St) (n h i : Nat) : s2 (s2 (deaS σ n h i) 15 i (nI (firN (deaN (z4 (σ 16)) (blR σ n) h i) h))) 16 (firN (deaN (z4 (σ 16)) (blR σ n) h i) h) (deaN (z4 (σ 16)) (blR σ n) h i (firN (deaN (z4 (σ 16)) (blR σ n) h i) h) + blR σ n i) = deaS σ n h (i + 1) := by
  funext a
  by_cases h16 : a = 16
  · subst h16
    rw [s2_eq, s2_ne (by decide), deaS, setR_k, deaS, setR_k]; rfl
  · rw [s2_ne h16]
    by_cases h15 : a = 15
    · subst h15
      rw [s2_eq, deaS, setR_o _ _ _ _ (by decide), setR_k, deaS, setR_o _ _ _ _ (by decide), setR_k]
      exact pre_upd i (deaG (z4 (σ 16)) (blR σ n) h) _ rfl
    · rw [s2_ne h15, deaS, deaS, setR_o _ _ _ _ h16, setR_o _ _ _ _ h15, setR_o _ _ _ _ h16, setR_o _ _ _ _ h15]
theorem kX6_deals (n : Nat) (σ : St) (hn : σ 0 8 = nI n) (h7 : n ≤ 7) (h : Nat) (hh : σ 0 9 = nI h) (hl2 : 2 ≤ h) (hl4 : h ≤ 4) : Ct yX6_deals cX6_deals 2 none 2 [.ref 0] σ (fV (deaS σ n h n)) := by
  refine ct_of plX6 rfl (Nat.le_of_ble_eq_true rfl) (fun X hX C => ?_)
  show V X 0 [(0, .ref 0)] [] σ
  refine v_iconst (v := 0) C dX6_deals_0 (by decide) rfl ?_
  refine v_istore_n (lv' := [(1, .int 0), (0, .ref 0)]) C dX6_deals_1 rfl (Nat.le_of_ble_eq_true rfl) rfl rfl ?_
  have lp2 : ∀ (k i : Nat)  (τ : St), 4 < i + k → i ≤ 4 → τ = setR σ 16 (pre i (fun _ => 0) (σ 16)) → V X 2 [(1, .int (nI i)), (0, .ref 0)] [] τ := by
    intro k
    induction k with
    | zero => intro i  τ h1 h2; omega
    | succ k ih2 =>
      intro i  τ h1 h2  eτ
      refine v_iload_n C dX6_deals_2 rfl rfl rfl ?_
      refine v_iconst (v := 4) C dX6_deals_3 (by decide) rfl ?_
      refine v_icmp_ge (tgt := 20) C dX6_deals_4 (by decide) rfl (fun c4 => ?_) (fun c4 => ?_)
      · skip
        have c4 := mt (nI_ltI (a := i) (b := 4) (by omega) (by omega)).mpr c4
        refine v_iconst (v := 0) C dX6_deals_20 (by decide) rfl ?_
        refine v_istore_n (lv' := [(1, .int 0), (0, .ref 0)]) C dX6_deals_21 rfl (Nat.le_of_ble_eq_true rfl) rfl rfl ?_
        have lp22 : ∀ (k q : Nat)  (υ : St), n < q + k → q ≤ n → υ = deaS σ n h q → V X 22 [(1, .int (nI q)), (0, .ref 0)] [] υ := by
          intro k
          induction k with
          | zero => intro q  υ h1 h2; omega
          | succ k ih22 =>
            intro q  υ h1 h2  eυ
            have hnt : υ 0 8 = nI n := by rw [eυ, deaS, setR_o _ _ _ _ (by decide), setR_o _ _ _ _ (by decide)]; exact hn
            have hht : υ 0 9 = nI h := by rw [eυ, deaS, setR_o _ _ _ _ (by decide), setR_o _ _ _ _ (by decide)]; exact hh
            have h16 : υ 16 = (deaN (z4 (σ 16)) (blR σ n) h q) := by rw [eυ, deaS, setR_k]
            have hfl := firN_lt (deaN (z4 (σ 16)) (blR σ n) h q) h (by omega)
            refine v_iload_n C dX6_deals_22 rfl rfl rfl ?_
            refine v_aload_n C dX6_deals_23 rfl rfl rfl ?_
            refine v_getI C (Nat.le_of_ble_eq_true rfl) rfl rfl hinX6 8 (Nat.le_of_ble_eq_true rfl) lkX6_65 rfl dX6_deals_24 rfl ?_
            refine V.tp hnt ?_
            refine v_icmp_ge (tgt := 65) C dX6_deals_27 (by decide) rfl (fun c27 => ?_) (fun c27 => ?_)
            · skip
              have c27 := mt (nI_ltI (a := q) (b := n) (by omega) (by omega)).mpr c27
              exact v_vret C dX6_deals_65 (by rw [hX]; exact fV_of (by rw [eυ, show q = n by omega]))
            · skip
              have c27 := (nI_ltI (a := q) (b := n) (by omega) (by omega)).mp c27
              refine v_aload_n C dX6_deals_30 rfl rfl rfl ?_
              refine v_getR C (Nat.le_of_ble_eq_true rfl) rfl rfl hinX6 24 (Nat.le_of_ble_eq_true rfl) lkX6_52 rfl dX6_deals_31 rfl ?_
              refine v_iload_n C dX6_deals_34 rfl rfl rfl ?_
              refine v_aload_n C dX6_deals_35 rfl rfl rfl ?_
              refine v_callV C (Nat.le_of_ble_eq_true rfl) rfl rfl (As := []) (rest := [.int (nI q), .ref 15]) (kX6_poorest h υ hht hl2 hl4) rfl (Nat.le_of_ble_eq_true rfl) (Nat.le_of_ble_eq_true rfl) ⟨mlX6_222, mfX6_poorest⟩ dkX6_poorest (Nat.le_of_ble_eq_true rfl) dX6_deals_36 rfl (kI ?_)
              refine V.tp (show nI (firN (υ 16) h) = nI (firN (deaN (z4 (σ 16)) (blR σ n) h q) h) from by rw [h16]) ?_
              refine v_iast (i := q) C (Nat.le_of_ble_eq_true rfl) rfl rfl (by omega) (by decide) dX6_deals_39 rfl ?_
              refine V.nm (fun τ39_1 eτ39_1 => ?_)
              have hn2 : τ39_1 0 8 = nI n := by rw [eτ39_1, s2_ne (by decide)]; exact hnt
              have hv15 : τ39_1 15 q = nI (firN (deaN (z4 (σ 16)) (blR σ n) h q) h) := by rw [eτ39_1, s2_get, if_pos ⟨rfl, rfl⟩]
              have hv16 : τ39_1 16 (firN (deaN (z4 (σ 16)) (blR σ n) h q) h) = (deaN (z4 (σ 16)) (blR σ n) h q) (firN (deaN (z4 (σ 16)) (blR σ n) h q) h) := by rw [eτ39_1, s2_ne (by decide), h16]
              refine v_aload_n C dX6_deals_40 rfl rfl rfl ?_
              refine v_getR C (Nat.le_of_ble_eq_true rfl) rfl rfl hinX6 25 (Nat.le_of_ble_eq_true rfl) lkX6_55 rfl dX6_deals_41 rfl ?_
              refine v_aload_n C dX6_deals_44 rfl rfl rfl ?_
              refine v_getR C (Nat.le_of_ble_eq_true rfl) rfl rfl hinX6 24 (Nat.le_of_ble_eq_true rfl) lkX6_52 rfl dX6_deals_45 rfl ?_
              refine v_iload_n C dX6_deals_48 rfl rfl rfl ?_
              refine v_iald (i := q) C (Nat.le_of_ble_eq_true rfl) rfl rfl (by omega) (by decide) dX6_deals_49 rfl ?_
              refine V.tp hv15 ?_
              refine v_dup2 C dX6_deals_50 rfl rfl rfl ?_
              refine v_iald (i := firN (deaN (z4 (σ 16)) (blR σ n) h q) h) C (Nat.le_of_ble_eq_true rfl) rfl rfl (by omega) (by decide) dX6_deals_51 rfl ?_
              refine V.tp hv16 ?_
              refine v_aload_n C dX6_deals_52 rfl rfl rfl ?_
              refine v_iload_n C dX6_deals_53 rfl rfl rfl ?_
              refine v_callV C (Nat.le_of_ble_eq_true rfl) rfl rfl (As := [.int (nI q)]) (rest := [.int ((deaN (z4 (σ 16)) (blR σ n) h q) (firN (deaN (z4 (σ 16)) (blR σ n) h q) h)), .int (nI (firN (deaN (z4 (σ 16)) (blR σ n) h q) h)), .ref 16]) (kX6_blameOf n q τ39_1 hn2 h7 (by assumption)) rfl (Nat.le_of_ble_eq_true rfl) (Nat.le_of_ble_eq_true rfl) ⟨mlX6_169, mfX6_blameOf⟩ dkX6_blameOf (Nat.le_of_ble_eq_true rfl) dX6_deals_54 rfl (kI ?_)
              refine V.tp (show blaF (τ39_1 4) (τ39_1 6) (τ39_1 7) (τ39_1 8) n q = blR σ n q from by rw [eτ39_1, eυ]; rfl) ?_
              refine v_iadd C dX6_deals_57 rfl ?_
              refine v_iast (i := firN (deaN (z4 (σ 16)) (blR σ n) h q) h) C (Nat.le_of_ble_eq_true rfl) rfl rfl (by omega) (by decide) dX6_deals_58 rfl ?_
              refine V.nm (fun τ58_2 eτ58_2 => ?_)
              refine v_iinc (lv' := [(1, .int (nI (q + 1))), (0, .ref 0)]) C dX6_deals_59 rfl (nI_inc q) (Nat.le_of_ble_eq_true rfl) rfl rfl ?_
              refine v_goto (tgt := 22) C dX6_deals_62 (by decide) ?_
              exact V.sub [0, 1] rfl (ih22 (q + 1)  _ (by omega) (by omega)  (by rw [eτ58_2, eτ39_1, eυ]; exact deaS_step σ n h q))
        exact V.sub [0, 1] rfl (lp22 (n + 1) 0  _ (by omega) (by omega)  (by rw [eτ, show i = 4 by omega, deaS, pre_0, setR_self]; rfl))
      · skip
        have c4 := (nI_ltI (a := i) (b := 4) (by omega) (by omega)).mp c4
        refine v_aload_n C dX6_deals_7 rfl rfl rfl ?_
        refine v_getR C (Nat.le_of_ble_eq_true rfl) rfl rfl hinX6 25 (Nat.le_of_ble_eq_true rfl) lkX6_55 rfl dX6_deals_8 rfl ?_
        refine v_iload_n C dX6_deals_11 rfl rfl rfl ?_
        refine v_iconst (v := 0) C dX6_deals_12 (by decide) rfl ?_
        refine v_iast (i := i) C (Nat.le_of_ble_eq_true rfl) rfl rfl (by omega) (by decide) dX6_deals_13 rfl ?_
        refine V.nm (fun τ13_3 eτ13_3 => ?_)
        refine v_iinc (lv' := [(1, .int (nI (i + 1))), (0, .ref 0)]) C dX6_deals_14 rfl (nI_inc i) (Nat.le_of_ble_eq_true rfl) rfl rfl ?_
        refine v_goto (tgt := 2) C dX6_deals_17 (by decide) ?_
        exact V.sub [0, 1] rfl (ih2 (i + 1)  _ (by omega) (by omega)  (by rw [eτ13_3, eτ, setR_s2, pre_upd _ _ _ rfl]))
  exact V.sub [0, 1] rfl (lp2 (4 + 1) 0  _ (by omega) (by omega)  (by rw [pre_0, setR_self]))
theorem nsh_cases (v n : Int32) : ((if v < -1 then -4 else if v < n then 0 else -1 : Int32) = -4 ∧ v < -1) ∨ ((if v < -1 then -4 else if v < n then 0 else -1 : Int32) = -1 ∧ ¬ v < -1 ∧ ¬ v < n) ∨ ((if v < -1 then -4 else if v < n then 0 else -1 : Int32) = 0 ∧ ¬ v < -1 ∧ v < n) := by
  by_cases h1 : v < -1
  · left; simp [h1]
  · by_cases h2 : v < n
    · right; right; simp [h1, h2]
    · right; left; simp [h1, h2]
def dltA (σ : St) (n h : Nat) (v : Int32) : Int32 := if v < -1 then -4 else if v < nI n then (if v < 0 then aptF (deaN (z4 (σ 16)) (blR σ n) h n) h else deaG (z4 (σ 16)) (blR σ n) h (tn v)) else -1
theorem deaS_Sm (σ : St) (n h i : Nat) : Sm σ (deaS σ n h i) := ⟨fun k hk => by rw [deaS, setR_o _ _ _ _ (by omega), setR_o _ _ _ _ (by omega)], fun j _ => by rw [deaS, setR_o _ _ _ _ (by decide), setR_o _ _ _ _ (by decide)], fun j _ => by rw [deaS, setR_o _ _ _ _ (by decide), setR_o _ _ _ _ (by decide)]⟩
theorem kX6_dealt (v : Int32) (n : Nat) (σ : St) (hn : σ 0 8 = nI n) (h7 : n ≤ 7) (h : Nat) (hh : σ 0 9 = nI h) (hl2 : 2 ≤ h) (hl4 : h ≤ 4) : Ct yX6_dealt cX6_dealt 3 (some .int) 3 [.ref 0, .int v] σ (rI (fun r τ => r = dltA σ n h v ∧ ((v < -1 ∧ τ = noS σ 4) ∨ (¬ v < -1 ∧ ¬ v < nI n ∧ τ = noS σ 1) ∨ (¬ v < -1 ∧ v < nI n ∧ Sm σ τ)))) := by
  refine ct_of plX6 rfl (Nat.le_of_ble_eq_true rfl) (fun X hX C => ?_)
  show V X 0 [(0, .ref 0), (1, .int v)] [] σ
  refine v_aload_n C dX6_dealt_0 rfl rfl rfl ?_
  refine v_iload_n C dX6_dealt_1 rfl rfl rfl ?_
  refine v_callV C (Nat.le_of_ble_eq_true rfl) rfl rfl (As := [.int v]) (rest := []) (kX6_notShare v σ) rfl (Nat.le_of_ble_eq_true rfl) (Nat.le_of_ble_eq_true rfl) ⟨mlX6_216, mfX6_notShare⟩ dkX6_notShare (Nat.le_of_ble_eq_true rfl) dX6_dealt_2 rfl (kI ?_)
  rcases nsh_cases v (σ 0 8) with ⟨hb, q1⟩ | ⟨hb, q1, q2⟩ | ⟨hb, q1, q2⟩
  · refine V.tp hb ?_
    refine v_istore_n (lv' := [(2, .int (-4)), (0, .ref 0), (1, .int v)]) C dX6_dealt_5 rfl (Nat.le_of_ble_eq_true rfl) rfl rfl ?_
    refine v_iload_n C dX6_dealt_6 rfl rfl rfl ?_
    refine v_if_eq (tgt := 16) C dX6_dealt_7 (by decide) rfl (fun q => absurd q (by decide)) (fun _ => ?_)
    refine v_aload_n C dX6_dealt_10 rfl rfl rfl ?_
    refine v_iload_n C dX6_dealt_11 rfl rfl rfl ?_
    refine v_callV C (Nat.le_of_ble_eq_true rfl) rfl rfl (As := [.int (-4)]) (rest := []) (kX6_no (-4) 4 σ (by decide) (by decide)) rfl (Nat.le_of_ble_eq_true rfl) (Nat.le_of_ble_eq_true rfl) ⟨mlX6_79, mfX6_no⟩ dkX6_no (Nat.le_of_ble_eq_true rfl) dX6_dealt_12 rfl (kI ?_)
    exact v_iret C dX6_dealt_15 (by rw [hX]; exact ⟨_, rfl, by simp [dltA, q1], Or.inl ⟨q1, rfl⟩⟩)
  · refine V.tp hb ?_
    refine v_istore_n (lv' := [(2, .int (-1)), (0, .ref 0), (1, .int v)]) C dX6_dealt_5 rfl (Nat.le_of_ble_eq_true rfl) rfl rfl ?_
    refine v_iload_n C dX6_dealt_6 rfl rfl rfl ?_
    refine v_if_eq (tgt := 16) C dX6_dealt_7 (by decide) rfl (fun q => absurd q (by decide)) (fun _ => ?_)
    refine v_aload_n C dX6_dealt_10 rfl rfl rfl ?_
    refine v_iload_n C dX6_dealt_11 rfl rfl rfl ?_
    refine v_callV C (Nat.le_of_ble_eq_true rfl) rfl rfl (As := [.int (-1)]) (rest := []) (kX6_no (-1) 1 σ (by decide) (by decide)) rfl (Nat.le_of_ble_eq_true rfl) (Nat.le_of_ble_eq_true rfl) ⟨mlX6_79, mfX6_no⟩ dkX6_no (Nat.le_of_ble_eq_true rfl) dX6_dealt_12 rfl (kI ?_)
    exact v_iret C dX6_dealt_15 (by rw [hX]; exact ⟨_, rfl, by simp [dltA, q1, ← hn, q2], Or.inr (Or.inl ⟨q1, hn ▸ q2, rfl⟩)⟩)
  · refine V.tp hb ?_
    refine v_istore_n (lv' := [(2, .int 0), (0, .ref 0), (1, .int v)]) C dX6_dealt_5 rfl (Nat.le_of_ble_eq_true rfl) rfl rfl ?_
    refine v_iload_n C dX6_dealt_6 rfl rfl rfl ?_
    refine v_if_eq (tgt := 16) C dX6_dealt_7 (by decide) rfl (fun _ => ?_) (fun q => absurd q (by decide))
    refine v_aload_n C dX6_dealt_16 rfl rfl rfl ?_
    refine v_callV C (Nat.le_of_ble_eq_true rfl) rfl rfl (As := []) (rest := []) (kX6_deals n σ hn h7 h hh hl2 hl4) rfl (Nat.le_of_ble_eq_true rfl) (Nat.le_of_ble_eq_true rfl) ⟨mlX6_225, mfX6_deals⟩ dkX6_deals (Nat.le_of_ble_eq_true rfl) dX6_dealt_17 rfl (kV ?_)
    refine v_iload_n C dX6_dealt_20 rfl rfl rfl ?_
    refine v_if_ge (tgt := 31) C dX6_dealt_21 (by decide) rfl (fun c21 => ?_) (fun c21 => ?_)
    · skip
      have hv1 : v = nI (tn v) ∧ tn v < n := piece_nat h7 ⟨c21, hn ▸ q2⟩
      have hv2 := hv1.2
      refine v_aload_n C dX6_dealt_31 rfl rfl rfl ?_
      refine v_getR C (Nat.le_of_ble_eq_true rfl) rfl rfl hinX6 24 (Nat.le_of_ble_eq_true rfl) lkX6_52 rfl dX6_dealt_32 rfl ?_
      refine v_iload_n C dX6_dealt_35 rfl rfl rfl ?_
      refine V.tp hv1.1 ?_
      refine v_iald (i := tn v) C (Nat.le_of_ble_eq_true rfl) rfl rfl (by omega) (by decide) dX6_dealt_36 rfl ?_
      exact v_iret C dX6_dealt_37 (by rw [hX]; exact ⟨_, rfl, by rw [dltA, if_neg q1, if_pos (hn ▸ q2), if_neg c21, deaS, setR_o _ _ _ _ (by decide), setR_k, pre, if_pos hv2], Or.inr (Or.inr ⟨q1, hn ▸ q2, deaS_Sm _ _ _ _⟩)⟩)
    · skip
      refine v_aload_n C dX6_dealt_24 rfl rfl rfl ?_
      refine v_callV C (Nat.le_of_ble_eq_true rfl) rfl rfl (As := []) (rest := []) (kX6_apart (deaS σ n h n) h (by rw [deaS, setR_o _ _ _ _ (by decide), setR_o _ _ _ _ (by decide)]; exact hh) hl2 hl4) rfl (Nat.le_of_ble_eq_true rfl) (Nat.le_of_ble_eq_true rfl) ⟨mlX6_213, mfX6_apart⟩ dkX6_apart (Nat.le_of_ble_eq_true rfl) dX6_dealt_25 rfl (kI ?_)
      refine v_goto (tgt := 37) C dX6_dealt_28 (by decide) ?_
      exact v_iret C dX6_dealt_37 (by rw [hX]; exact ⟨_, rfl, by rw [dltA, if_neg q1, if_pos (hn ▸ q2), if_pos c21, deaS, setR_k], Or.inr (Or.inr ⟨q1, hn ▸ q2, deaS_Sm _ _ _ _⟩)⟩)
def dig (h n k p : Nat) : Nat := k / h ^ (n - 1 - p) % h
def shbR (h n k i : Nat) (f : Nat → Int32) : Nat → Int32 := fun p => if i ≤ p ∧ p < n then nI (dig h n k p) else f p
def shbS (σ : St) (n h k : Nat) : St := setR (setR σ 15 (shbR h n k 0 (σ 15))) 16 (shaN (z4 (σ 16)) (blR σ n) (dig h n k) n)
theorem shbR_n (h n k : Nat) (f : Nat → Int32) : shbR h n k n f = f := by funext p; unfold shbR; rw [if_neg (by omega)]
theorem shbR_step {h n k i : Nat} {f : Nat → Int32} (hi : i + 1 ≤ n) : upd (shbR h n k (i + 1) f) i (nI (dig h n k i)) = shbR h n k i f := by
  funext p
  unfold upd shbR
  by_cases e : p = i
  · subst e; rw [if_pos rfl, if_pos (by omega)]
  · rw [if_neg e]
    by_cases g : i + 1 ≤ p ∧ p < n
    · rw [if_pos g, if_pos (by omega)]
    · rw [if_neg g, if_neg (by omega)]
theorem powN_nI (h : Nat) : ∀ n, powN (nI h) n = nI (h ^ n)
  | 0 => rfl
  | n + 1 => by rw [powN, powN_nI h n, pk_mul, Nat.pow_succ]
theorem kX6_sharesBy (n k : Nat) (σ : St) (hn : σ 0 8 = nI n) (h7 : n ≤ 7) (h : Nat) (hh : σ 0 9 = nI h) (hl2 : 2 ≤ h) (hl4 : h ≤ 4) (hk : k < 20000) : Ct yX6_sharesBy cX6_sharesBy 4 none 3 [.ref 0, .int (nI k)] σ (fV (shbS σ n h k)) := by
  refine ct_of plX6 rfl (Nat.le_of_ble_eq_true rfl) (fun X hX C => ?_)
  show V X 0 [(0, .ref 0), (1, .int (nI k))] [] σ
  refine v_iload_n C dX6_sharesBy_0 rfl rfl rfl ?_
  refine v_istore_n (lv' := [(2, .int (nI k)), (0, .ref 0), (1, .int (nI k))]) C dX6_sharesBy_1 rfl (Nat.le_of_ble_eq_true rfl) rfl rfl ?_
  refine v_aload_n C dX6_sharesBy_2 rfl rfl rfl ?_
  refine v_getI C (Nat.le_of_ble_eq_true rfl) rfl rfl hinX6 8 (Nat.le_of_ble_eq_true rfl) lkX6_65 rfl dX6_sharesBy_3 rfl ?_
  refine V.tp hn ?_
  refine v_iconst (v := 1) C dX6_sharesBy_6 (by decide) rfl ?_
  refine v_isub C dX6_sharesBy_7 rfl ?_
  refine V.top (fun v8_1 ev8_1 => ?_)
  refine v_istore_n (lv' := [(3, .int v8_1), (2, .int (nI k)), (0, .ref 0), (1, .int (nI k))]) C dX6_sharesBy_8 rfl (Nat.le_of_ble_eq_true rfl) rfl rfl ?_
  have lp9 : ∀ (i : Nat) (w9 : Int32) (x2 : Int32) (τ : St), i ≤ n → w9 = nI i - 1 → x2 = nI (k / h ^ (n - i)) → τ = setR σ 15 (shbR h n k i (σ 15)) → V X 9 [(3, .int w9), (2, .int x2), (0, .ref 0), (1, .int (nI k))] [] τ := by
    intro i
    induction i with
    | zero =>
      intro w9 x2 τ h1 ew9 ex2 eτ
      have hv9 : w9 = -1 := by rw [ew9]; decide
      have hht : τ 0 9 = nI h := by rw [eτ, setR_o _ _ _ _ (by decide)]; exact hh
      refine v_iload_n C dX6_sharesBy_9 rfl rfl rfl ?_
      refine V.tp hv9 ?_
      refine v_if_lt (tgt := 38) C dX6_sharesBy_10 (by decide) rfl (fun _ => ?_) (fun q => absurd q (by decide))
      refine v_aload_n C dX6_sharesBy_38 rfl rfl rfl ?_
      refine v_callV C (Nat.le_of_ble_eq_true rfl) rfl rfl (As := []) (rest := []) (kX6_givesAll n (dig h n k) τ (by rw [eτ, setR_o _ _ _ _ (by decide)]; exact hn) h7 (fun p hp => ⟨by rw [eτ, setR_k, shbR, if_pos ⟨Nat.zero_le _, hp⟩], by have := Nat.mod_lt (k / h ^ (n - 1 - p)) (show 0 < h by omega); unfold dig; omega⟩)) rfl (Nat.le_of_ble_eq_true rfl) (Nat.le_of_ble_eq_true rfl) ⟨mlX6_207, mfX6_givesAll⟩ dkX6_givesAll (Nat.le_of_ble_eq_true rfl) dX6_sharesBy_39 rfl (kV ?_)
      exact v_vret C dX6_sharesBy_42 (by rw [hX]; exact fV_of (by rw [eτ]; rfl))
    | succ i ih9 =>
      intro w9 x2 τ h1 ew9 ex2 eτ
      have hv9 : w9 = nI i := by rw [ew9]; exact nI_pred i
      have hht : τ 0 9 = nI h := by rw [eτ, setR_o _ _ _ _ (by decide)]; exact hh
      refine v_iload_n C dX6_sharesBy_9 rfl rfl rfl ?_
      refine V.tp hv9 ?_
      refine v_if_lt (tgt := 38) C dX6_sharesBy_10 (by decide) rfl (fun q => absurd q (nI_pos (by omega))) (fun _ => ?_)
      refine v_aload_n C dX6_sharesBy_13 rfl rfl rfl ?_
      refine v_getR C (Nat.le_of_ble_eq_true rfl) rfl rfl hinX6 24 (Nat.le_of_ble_eq_true rfl) lkX6_52 rfl dX6_sharesBy_14 rfl ?_
      refine v_iload_n C dX6_sharesBy_17 rfl rfl rfl ?_
      refine V.tp hv9 ?_
      refine v_iload_n C dX6_sharesBy_18 rfl rfl rfl ?_
      refine V.tp ex2 ?_
      refine v_aload_n C dX6_sharesBy_19 rfl rfl rfl ?_
      refine v_getI C (Nat.le_of_ble_eq_true rfl) rfl rfl hinX6 9 (Nat.le_of_ble_eq_true rfl) lkX6_61 rfl dX6_sharesBy_20 rfl ?_
      refine V.tp hht ?_
      refine v_irem C dX6_sharesBy_23 (nI_ne0 (by omega) (by omega)) rfl ?_
      refine V.tp (pk_rem (a := (k / h ^ (n - (i + 1)))) (d := h) (Nat.lt_of_le_of_lt (Nat.div_le_self _ _) (by omega)) (by omega) (by omega)) ?_
      refine v_iast (i := i) C (Nat.le_of_ble_eq_true rfl) rfl rfl (by omega) (by decide) dX6_sharesBy_24 rfl ?_
      refine V.nm (fun τ24_2 eτ24_2 => ?_)
      have hht2 : τ24_2 0 9 = nI h := by rw [eτ24_2, s2_ne (by decide)]; exact hht
      refine v_iload_n C dX6_sharesBy_25 rfl rfl rfl ?_
      refine V.tp ex2 ?_
      refine v_aload_n C dX6_sharesBy_26 rfl rfl rfl ?_
      refine v_getI C (Nat.le_of_ble_eq_true rfl) rfl rfl hinX6 9 (Nat.le_of_ble_eq_true rfl) lkX6_61 rfl dX6_sharesBy_27 rfl ?_
      refine V.tp hht2 ?_
      refine v_idiv C dX6_sharesBy_30 (nI_ne0 (by omega) (by omega)) rfl ?_
      refine V.tp (pk_div (a := (k / h ^ (n - (i + 1)))) (d := h) (Nat.lt_of_le_of_lt (Nat.div_le_self _ _) (by omega)) (by omega) (by omega)) ?_
      refine V.top (fun v31_3 ev31_3 => ?_)
      refine v_istore_n (lv' := [(2, .int v31_3), (3, .int w9), (0, .ref 0), (1, .int (nI k))]) C dX6_sharesBy_31 rfl (Nat.le_of_ble_eq_true rfl) rfl rfl ?_
      obtain ⟨v32_4, ev32_4⟩ : ∃ y : Int32, y = w9 + (-1) := ⟨_, rfl⟩
      refine v_iinc (lv' := [(3, .int v32_4), (2, .int v31_3), (0, .ref 0), (1, .int (nI k))]) C dX6_sharesBy_32 rfl (by rw [ev32_4]; rfl) (Nat.le_of_ble_eq_true rfl) rfl rfl ?_
      refine v_goto (tgt := 9) C dX6_sharesBy_35 (by decide) ?_
      exact V.sub [0, 1, 2, 3] rfl (ih9 _ _ _ (by omega) (by rw [ev32_4, hv9, Int32.sub_eq_add_neg]) (by rw [ev31_3, Nat.div_div_eq_div_mul, ← Nat.pow_succ, show (n - (i + 1)).succ = n - i by omega]) (by rw [eτ24_2, eτ, setR_s2, ← shbR_step (i := i) (by omega), dig, show n - 1 - i = n - (i + 1) by omega]))
  exact V.sub [0, 1, 2, 3] rfl (lp9 n _ _ _ (by omega) ev8_1 (by rw [Nat.sub_self]; simp) (by rw [shbR_n, setR_self]))
theorem shaN_cg {s0 s1 bl : Nat → Int32} {g : Nat → Nat} (hs : ∀ j, j < 4 → s0 j = s1 j) : ∀ n, (∀ p, p < n → g p < 4) → ∀ j, j < 4 → shaN s0 bl g n j = shaN s1 bl g n j
  | 0, _, j, hj => hs j hj
  | n + 1, hg, j, hj => by
    have ih := shaN_cg (bl := bl) (g := g) hs n (fun p hp => hg p (by omega))
    simp only [shaN, upd]
    rw [ih j hj, ih (g n) (hg n (by omega))]
theorem minV_cg {f g : Nat → Int32} : ∀ h, (∀ j, j < h ∨ j = 0 → f j = g j) → minV f h = minV g h
  | 0, hs => hs 0 (Or.inr rfl)
  | h + 1, hs => by
    rw [minV, minV, minV_cg h (fun j hj => hs j (by omega)), hs 0 (Or.inr rfl)]
    by_cases e : h = 0
    · rw [if_pos e, if_pos e]
    · rw [if_neg e, if_neg e, hs h (by omega)]
theorem maxV_cg {f g : Nat → Int32} : ∀ h, (∀ j, j < h ∨ j = 0 → f j = g j) → maxV f h = maxV g h
  | 0, hs => hs 0 (Or.inr rfl)
  | h + 1, hs => by
    rw [maxV, maxV, maxV_cg h (fun j hj => hs j (by omega)), hs 0 (Or.inr rfl)]
    by_cases e : h = 0
    · rw [if_pos e, if_pos e]
    · rw [if_neg e, if_neg e, hs h (by omega)]
theorem aptF_cg {f g : Nat → Int32} {h : Nat} (h1 : 0 < h) (hs : ∀ j, j < h → f j = g j) : aptF f h = aptF g h := by
  rw [aptF, aptF, minV_cg h (fun j hj => hs j (by omega)), maxV_cg h (fun j hj => hs j (by omega))]
def fshN (F : Nat → Int32) : Nat → Nat × Int32
  | 0 => (0, -9)
  | i + 1 => if (fshN F i).2 < 0 ∨ F i < (fshN F i).2 then (i, F i) else fshN F i
theorem fshN_le (F : Nat → Int32) : ∀ i, (fshN F i).1 ≤ i
  | 0 => Nat.le_refl 0
  | i + 1 => by
    have := fshN_le F i
    rw [fshN]
    split
    · exact Nat.le_succ i
    · omega
def shF (σ : St) (n h k : Nat) : Int32 := aptF (shaN (fun _ => 0) (blR σ n) (dig h n k) n) h
theorem dig_lt {h n k p : Nat} (h2 : 2 ≤ h) (h4 : h ≤ 4) : dig h n k p < 4 := by
  have := Nat.mod_lt (k / h ^ (n - 1 - p)) (show 0 < h by omega)
  unfold dig; omega
theorem shbS_Sm {σ τ : St} (h : Sm σ τ) (n k c : Nat) : Sm σ (shbS τ n k c) := ⟨fun a ha => by rw [shbS, setR_o _ _ _ _ (by omega), setR_o _ _ _ _ (by omega)]; exact h.1 a ha, fun j hj => by rw [shbS, setR_o _ _ _ _ (by decide), setR_o _ _ _ _ (by decide)]; exact h.2.1 j hj, fun j hj => by rw [shbS, setR_o _ _ _ _ (by decide), setR_o _ _ _ _ (by decide)]; exact h.2.2 j hj⟩
theorem blR_sm {σ τ : St} (h : Sm σ τ) (n : Nat) : blR τ n = blR σ n := blR_cg (Sm_r h 4 (by decide)) (Sm_r h 6 (by decide)) (Sm_r h 7 (by decide)) (Sm_r h 8 (by decide)) n
theorem shbS_16 {σ τ : St} (h : Sm σ τ) {n hh k : Nat} (h2 : 2 ≤ hh) (h4 : hh ≤ 4) (j : Nat) (hj : j < 4) : shbS τ n hh k 16 j = shaN (fun _ => 0) (blR σ n) (dig hh n k) n j := by
  rw [shbS, setR_k, blR_sm h]
  exact shaN_cg (fun j hj => by rw [z4, pre, if_pos hj]) n (fun p _ => dig_lt h2 h4) j hj
theorem shbS_15 (τ : St) {n hh k : Nat} (p : Nat) (hp : p < n) : shbS τ n hh k 15 p = nI (dig hh n k p) := by
  rw [shbS, setR_o _ _ _ _ (by decide), setR_k, shbR, if_pos ⟨Nat.zero_le _, hp⟩]
theorem pow_small {h n : Nat} (h4 : h ≤ 4) (h7 : n ≤ 7) : h ^ n ≤ 16384 := by
  have a : h ^ n ≤ 4 ^ n := Nat.pow_le_pow_left h4 n
  have b : 4 ^ n ≤ 4 ^ 7 := Nat.pow_le_pow_right (by decide) h7
  have c : (4 : Nat) ^ 7 = 16384 := by decide
  omega
theorem kX6_findShares (n : Nat) (σ : St) (hn : σ 0 8 = nI n) (h7 : n ≤ 7) (h : Nat) (hh : σ 0 9 = nI h) (hl2 : 2 ≤ h) (hl4 : h ≤ 4) : Ct yX6_findShares cX6_findShares 4 (some .int) 4 [.ref 0] σ (rI (fun v τ => v = (fshN (shF σ n h) (h ^ n)).2 ∧ Sm σ τ ∧ (∀ p, p < n → τ 15 p = nI (dig h n (fshN (shF σ n h) (h ^ n)).1 p)) ∧ (∀ j, j < 4 → τ 16 j = shaN (fun _ => 0) (blR σ n) (dig h n (fshN (shF σ n h) (h ^ n)).1) n j))) := by
  have hpw := pow_small hl4 h7
  refine ct_of plX6 rfl (Nat.le_of_ble_eq_true rfl) (fun X hX C => ?_)
  show V X 0 [(0, .ref 0)] [] σ
  refine v_iconst (v := 0) C dX6_findShares_0 (by decide) rfl ?_
  refine v_istore_n (lv' := [(1, .int 0), (0, .ref 0)]) C dX6_findShares_1 rfl (Nat.le_of_ble_eq_true rfl) rfl rfl ?_
  refine v_bipush (v := -9) C dX6_findShares_2 (by decide) rfl ?_
  refine v_istore_n (lv' := [(2, .int (-9)), (1, .int 0), (0, .ref 0)]) C dX6_findShares_4 rfl (Nat.le_of_ble_eq_true rfl) rfl rfl ?_
  refine v_iconst (v := 0) C dX6_findShares_5 (by decide) rfl ?_
  refine v_istore_n (lv' := [(3, .int 0), (2, .int (-9)), (1, .int 0), (0, .ref 0)]) C dX6_findShares_6 rfl (Nat.le_of_ble_eq_true rfl) rfl rfl ?_
  have lp7 : ∀ (k i : Nat) (x1 : Int32) (x2 : Int32) (τ : St), (h ^ n) < i + k → i ≤ (h ^ n) → x1 = nI (fshN (shF σ n h) i).1 → x2 = (fshN (shF σ n h) i).2 → Sm σ τ → V X 7 [(3, .int (nI i)), (2, .int x2), (1, .int x1), (0, .ref 0)] [] τ := by
    intro k
    induction k with
    | zero => intro i x1 x2 τ h1 h2; omega
    | succ k ih7 =>
      intro i x1 x2 τ h1 h2 ex1 ex2 eτ
      have hnt : τ 0 8 = nI n := Sm_n eτ hn
      have hht : τ 0 9 = nI h := (eτ.2.1 9 (by decide)).trans hh
      refine v_iload_n C dX6_findShares_7 rfl rfl rfl ?_
      refine v_aload_n C dX6_findShares_8 rfl rfl rfl ?_
      refine v_getI C (Nat.le_of_ble_eq_true rfl) rfl rfl hinX6 9 (Nat.le_of_ble_eq_true rfl) lkX6_61 rfl dX6_findShares_9 rfl ?_
      refine V.tp hht ?_
      refine v_aload_n C dX6_findShares_12 rfl rfl rfl ?_
      refine v_getI C (Nat.le_of_ble_eq_true rfl) rfl rfl hinX6 8 (Nat.le_of_ble_eq_true rfl) lkX6_65 rfl dX6_findShares_13 rfl ?_
      refine V.tp hnt ?_
      refine v_callS C (As := [.int (nI h), .int (nI n)]) (rest := [.int (nI i)]) (kX6_power (nI h) n τ h7) rfl (Nat.le_of_ble_eq_true rfl) (Nat.le_of_ble_eq_true rfl) ⟨mlX6_190, mfX6_power⟩ dkX6_power (Nat.le_of_ble_eq_true rfl) dX6_findShares_16 rfl (kI ?_)
      refine V.tp (powN_nI h n) ?_
      refine v_icmp_ge (tgt := 55) C dX6_findShares_19 (by decide) rfl (fun c19 => ?_) (fun c19 => ?_)
      · skip
        have c19 := mt (nI_ltI (a := i) (b := (h ^ n)) (by omega) (by omega)).mpr c19
        have hie : i = h ^ n := by omega
        have hfl := fshN_le (shF σ n h) i
        refine v_aload_n C dX6_findShares_55 rfl rfl rfl ?_
        refine v_iload_n C dX6_findShares_56 rfl rfl rfl ?_
        refine V.tp ex1 ?_
        refine v_callV C (Nat.le_of_ble_eq_true rfl) rfl rfl (As := [.int (nI (fshN (shF σ n h) i).1)]) (rest := []) (kX6_sharesBy n ((fshN (shF σ n h) i).1) τ hnt h7 h hht hl2 hl4 (by omega)) rfl (Nat.le_of_ble_eq_true rfl) (Nat.le_of_ble_eq_true rfl) ⟨mlX6_210, mfX6_sharesBy⟩ dkX6_sharesBy (Nat.le_of_ble_eq_true rfl) dX6_findShares_57 rfl (kV ?_)
        refine V.nm (fun τ60_1 eτ60_1 => ?_)
        have hsτ60_1 : Sm σ τ60_1 := by rw [eτ60_1]; exact shbS_Sm eτ _ _ _
        have hhτ60_1 : τ60_1 0 9 = nI h := (hsτ60_1.2.1 9 (by decide)).trans hh
        have haτ60_1 : aptF (τ60_1 16) h = shF σ n h ((fshN (shF σ n h) i).1) := by rw [shF]; exact aptF_cg (by omega) (fun j hj => by rw [eτ60_1]; exact shbS_16 eτ hl2 hl4 j (by omega))
        refine v_iload_n C dX6_findShares_60 rfl rfl rfl ?_
        exact v_iret C dX6_findShares_61 (by rw [hX]; exact ⟨_, rfl, by rw [ex2, hie], hsτ60_1, fun p hp => by rw [eτ60_1, ← hie]; exact shbS_15 _ p hp, fun j hj => by rw [eτ60_1, ← hie]; exact shbS_16 eτ hl2 hl4 j hj⟩)
      · skip
        have c19 := (nI_ltI (a := i) (b := (h ^ n)) (by omega) (by omega)).mp c19
        refine v_aload_n C dX6_findShares_22 rfl rfl rfl ?_
        refine v_iload_n C dX6_findShares_23 rfl rfl rfl ?_
        refine v_callV C (Nat.le_of_ble_eq_true rfl) rfl rfl (As := [.int (nI i)]) (rest := []) (kX6_sharesBy n i τ hnt h7 h hht hl2 hl4 (by omega)) rfl (Nat.le_of_ble_eq_true rfl) (Nat.le_of_ble_eq_true rfl) ⟨mlX6_210, mfX6_sharesBy⟩ dkX6_sharesBy (Nat.le_of_ble_eq_true rfl) dX6_findShares_24 rfl (kV ?_)
        refine V.nm (fun τ27_2 eτ27_2 => ?_)
        have hsτ27_2 : Sm σ τ27_2 := by rw [eτ27_2]; exact shbS_Sm eτ _ _ _
        have hhτ27_2 : τ27_2 0 9 = nI h := (hsτ27_2.2.1 9 (by decide)).trans hh
        have haτ27_2 : aptF (τ27_2 16) h = shF σ n h i := by rw [shF]; exact aptF_cg (by omega) (fun j hj => by rw [eτ27_2]; exact shbS_16 eτ hl2 hl4 j (by omega))
        refine v_iload_n C dX6_findShares_27 rfl rfl rfl ?_
        refine v_if_lt (tgt := 42) C dX6_findShares_28 (by decide) rfl (fun c28 => ?_) (fun c28 => ?_)
        · skip
          refine v_iload_n C dX6_findShares_42 rfl rfl rfl ?_
          refine v_istore_n (lv' := [(1, .int (nI i)), (3, .int (nI i)), (2, .int x2), (0, .ref 0)]) C dX6_findShares_43 rfl (Nat.le_of_ble_eq_true rfl) rfl rfl ?_
          refine v_aload_n C dX6_findShares_44 rfl rfl rfl ?_
          refine v_callV C (Nat.le_of_ble_eq_true rfl) rfl rfl (As := []) (rest := []) (kX6_apart τ27_2 h hhτ27_2 hl2 hl4) rfl (Nat.le_of_ble_eq_true rfl) (Nat.le_of_ble_eq_true rfl) ⟨mlX6_213, mfX6_apart⟩ dkX6_apart (Nat.le_of_ble_eq_true rfl) dX6_findShares_45 rfl (kI ?_)
          refine V.tp haτ27_2 ?_
          refine V.top (fun v48_3 ev48_3 => ?_)
          refine v_istore_n (lv' := [(2, .int v48_3), (1, .int (nI i)), (3, .int (nI i)), (0, .ref 0)]) C dX6_findShares_48 rfl (Nat.le_of_ble_eq_true rfl) rfl rfl ?_
          refine v_iinc (lv' := [(3, .int (nI (i + 1))), (2, .int v48_3), (1, .int (nI i)), (0, .ref 0)]) C dX6_findShares_49 rfl (nI_inc i) (Nat.le_of_ble_eq_true rfl) rfl rfl ?_
          refine v_goto (tgt := 7) C dX6_findShares_52 (by decide) ?_
          exact V.sub [0, 1, 2, 3] rfl (ih7 (i + 1) _ _ _ (by omega) (by omega) (by simp [fshN, ← ex1, ← ex2, c28]) (by rw [ev48_3]; simp [fshN, ← ex2, c28]) (hsτ27_2))
        · skip
          refine v_aload_n C dX6_findShares_31 rfl rfl rfl ?_
          refine v_callV C (Nat.le_of_ble_eq_true rfl) rfl rfl (As := []) (rest := []) (kX6_apart τ27_2 h hhτ27_2 hl2 hl4) rfl (Nat.le_of_ble_eq_true rfl) (Nat.le_of_ble_eq_true rfl) ⟨mlX6_213, mfX6_apart⟩ dkX6_apart (Nat.le_of_ble_eq_true rfl) dX6_findShares_32 rfl (kI ?_)
          refine V.tp haτ27_2 ?_
          refine v_iload_n C dX6_findShares_35 rfl rfl rfl ?_
          refine v_icmp_lt (tgt := 42) C dX6_findShares_36 (by decide) rfl (fun c36 => ?_) (fun c36 => ?_)
          · skip
            refine v_iload_n C dX6_findShares_42 rfl rfl rfl ?_
            refine v_istore_n (lv' := [(1, .int (nI i)), (3, .int (nI i)), (2, .int x2), (0, .ref 0)]) C dX6_findShares_43 rfl (Nat.le_of_ble_eq_true rfl) rfl rfl ?_
            refine v_aload_n C dX6_findShares_44 rfl rfl rfl ?_
            refine v_callV C (Nat.le_of_ble_eq_true rfl) rfl rfl (As := []) (rest := []) (kX6_apart τ27_2 h hhτ27_2 hl2 hl4) rfl (Nat.le_of_ble_eq_true rfl) (Nat.le_of_ble_eq_true rfl) ⟨mlX6_213, mfX6_apart⟩ dkX6_apart (Nat.le_of_ble_eq_true rfl) dX6_findShares_45 rfl (kI ?_)
            refine V.tp haτ27_2 ?_
            refine V.top (fun v48_4 ev48_4 => ?_)
            refine v_istore_n (lv' := [(2, .int v48_4), (1, .int (nI i)), (3, .int (nI i)), (0, .ref 0)]) C dX6_findShares_48 rfl (Nat.le_of_ble_eq_true rfl) rfl rfl ?_
            refine v_iinc (lv' := [(3, .int (nI (i + 1))), (2, .int v48_4), (1, .int (nI i)), (0, .ref 0)]) C dX6_findShares_49 rfl (nI_inc i) (Nat.le_of_ble_eq_true rfl) rfl rfl ?_
            refine v_goto (tgt := 7) C dX6_findShares_52 (by decide) ?_
            exact V.sub [0, 1, 2, 3] rfl (ih7 (i + 1) _ _ _ (by omega) (by omega) (by simp [fshN, ← ex1, ← ex2, c28, c36]) (by rw [ev48_4]; simp [fshN, ← ex2, c28, c36]) (hsτ27_2))
          · skip
            refine v_goto (tgt := 49) C dX6_findShares_39 (by decide) ?_
            refine v_iinc (lv' := [(3, .int (nI (i + 1))), (2, .int x2), (1, .int x1), (0, .ref 0)]) C dX6_findShares_49 rfl (nI_inc i) (Nat.le_of_ble_eq_true rfl) rfl rfl ?_
            refine v_goto (tgt := 7) C dX6_findShares_52 (by decide) ?_
            exact V.sub [0, 1, 2, 3] rfl (ih7 (i + 1) _ _ _ (by omega) (by omega) (by simp [fshN, ← ex1, ← ex2, c28, c36]) (by simp [fshN, ← ex2, c28, c36]) (hsτ27_2))
  exact V.sub [0, 1, 2, 3] rfl (lp7 ((h ^ n) + 1) 0 0 _ _ (by omega) (by omega) (rfl) (rfl) (Sm.rf σ))
