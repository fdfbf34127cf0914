/-! the class: Sharing, the plain ones -/
def blH (σ : St) (h n : Nat) : Nat → Int32 := fun p => blaF (σ (h + 1)) (σ (h + 3)) (σ (h + 4)) (σ (h + 5)) n p
theorem firV (f : Nat → Int32) : ∀ i, f (firN f i) = minV f i
  | 0 => rfl
  | i + 1 => by
    have := firV f i
    rw [firN, minV]
    by_cases h : i = 0
    · rw [if_pos h, if_pos h]
    · rw [if_neg h, if_neg h, ← this]
      split <;> rfl
theorem lasV (f : Nat → Int32) : ∀ i, f (lasN f i) = maxV f i
  | 0 => rfl
  | i + 1 => by
    have := lasV f i
    rw [lasN, maxV]
    by_cases h : i = 0
    · rw [if_pos h, if_pos h]
    · rw [if_neg h, if_neg h, ← this]
      split <;> rfl
def givS (σ : St) (p g : Nat) : St := s2 (s2 σ 51 p (nI g)) 53 g (σ 53 g + σ 50 p)
def takS (σ : St) (p g : Nat) : St := s2 σ 53 g (σ 53 g - σ 50 p)
def keeS (σ : St) (q : Nat) : St := if aptF (σ 53) q < σ 49 7 then setR (s2 σ 49 7 (aptF (σ 53) q)) 52 (pre 7 (σ 51) (σ 52)) else σ
theorem kX5_sumOfFirst (r N n : Nat) (σ : St) (hr : r < NC) (hs : shp r = .inr N) (hN : N < 100) (hn : n ≤ N) : Ct yX5_sumOfFirst cX5_sumOfFirst 4 (some .int) 0 [.ref r, .int (nI n)] σ (fI (sumN (σ r) n) σ) := by
  refine ct_of plX5 rfl (Nat.le_of_ble_eq_true rfl) (fun X hX C => ?_)
  show V X 0 [(0, .ref r), (1, .int (nI n))] [] σ
  refine v_iconst (v := 0) C dX5_sumOfFirst_0 (by decide) rfl ?_
  refine v_istore_n (lv' := [(2, .int 0), (0, .ref r), (1, .int (nI n))]) C dX5_sumOfFirst_1 rfl (Nat.le_of_ble_eq_true rfl) rfl rfl ?_
  refine v_iconst (v := 0) C dX5_sumOfFirst_2 (by decide) rfl ?_
  refine v_istore_n (lv' := [(3, .int 0), (2, .int 0), (0, .ref r), (1, .int (nI n))]) C dX5_sumOfFirst_3 rfl (Nat.le_of_ble_eq_true rfl) rfl rfl ?_
  have lp4 : ∀ (kf i : Nat) (x2 : Int32) , n < i + kf → i ≤ n → x2 = sumN (σ r) i → V X 4 [(3, .int (nI i)), (2, .int x2), (0, .ref r), (1, .int (nI n))] [] σ := by
    intro kf
    induction kf with
    | zero => intro i x2 h1 h2; omega
    | succ kf ih4 =>
      intro i x2 h1 h2 ex2
      refine v_iload_n C dX5_sumOfFirst_4 rfl rfl rfl ?_
      refine v_iload_n C dX5_sumOfFirst_5 rfl rfl rfl ?_
      refine v_icmp_ge (tgt := 27) C dX5_sumOfFirst_6 (by decide) rfl (fun c6 => ?_) (fun c6 => ?_)
      · skip
        have c6 := mt (nI_ltI (a := i) (b := n) (by omega) (by omega)).mpr c6
        refine v_iload_n C dX5_sumOfFirst_27 rfl rfl rfl ?_
        exact v_iret C dX5_sumOfFirst_28 (by rw [hX]; exact fI_of (by rw [ex2, show i = n by omega]) rfl)
      · skip
        have c6 := (nI_ltI (a := i) (b := n) (by omega) (by omega)).mp c6
        refine v_iload_n C dX5_sumOfFirst_9 rfl rfl rfl ?_
        refine v_aload_n C dX5_sumOfFirst_10 rfl rfl rfl ?_
        refine v_alen (v := nI N) C hr hs rfl dX5_sumOfFirst_11 rfl ?_
        refine v_icmp_ge (tgt := 27) C dX5_sumOfFirst_12 (by decide) rfl (fun c12 => ?_) (fun c12 => ?_)
        · skip
          have c12 := mt (nI_ltI (a := i) (b := N) (by omega) (by omega)).mpr c12
          refine v_iload_n C dX5_sumOfFirst_27 rfl rfl rfl ?_
          exact v_iret C dX5_sumOfFirst_28 (by rw [hX]; exact fI_of (by rw [ex2, show i = n by omega]) rfl)
        · skip
          have c12 := (nI_ltI (a := i) (b := N) (by omega) (by omega)).mp c12
          refine v_iload_n C dX5_sumOfFirst_15 rfl rfl rfl ?_
          refine v_aload_n C dX5_sumOfFirst_16 rfl rfl rfl ?_
          refine v_iload_n C dX5_sumOfFirst_17 rfl rfl rfl ?_
          refine v_iald (i := i) C hr hs rfl (by omega) (by omega) dX5_sumOfFirst_18 rfl ?_
          refine v_iadd C dX5_sumOfFirst_19 rfl ?_
          refine V.top (fun v20_1 ev20_1 => ?_)
          refine v_istore_n (lv' := [(2, .int v20_1), (3, .int (nI i)), (0, .ref r), (1, .int (nI n))]) C dX5_sumOfFirst_20 rfl (Nat.le_of_ble_eq_true rfl) rfl rfl ?_
          refine v_iinc (lv' := [(3, .int (nI (i + 1))), (2, .int v20_1), (0, .ref r), (1, .int (nI n))]) C dX5_sumOfFirst_21 rfl (nI_inc i) (Nat.le_of_ble_eq_true rfl) rfl rfl ?_
          refine v_goto (tgt := 4) C dX5_sumOfFirst_24 (by decide) ?_
          exact V.sub [0, 1, 2, 3] rfl (ih4 (i + 1) _ (by omega) (by omega) (by rw [ev20_1, ex2]; rfl))
  exact V.sub [0, 1, 2, 3] rfl (lp4 (n + 1) 0 0 (by omega) (by omega) (rfl))
theorem kX3_poorest (q : Nat) (σ : St) (hq : σ 49 5 = nI q) (q2 : 2 ≤ q) (q4 : q ≤ 4) : Ct yX3_poorest cX3_poorest 3 (some .int) 0 [.ref 49] σ (fI (nI (firN (σ 53) q)) σ) := by
  refine ct_of plX3 rfl (Nat.le_of_ble_eq_true rfl) (fun X hX C => ?_)
  show V X 0 [(0, .ref 49)] [] σ
  refine v_iconst (v := 0) C dX3_poorest_0 (by decide) rfl ?_
  refine v_istore_n (lv' := [(1, .int 0), (0, .ref 49)]) C dX3_poorest_1 rfl (Nat.le_of_ble_eq_true rfl) rfl rfl ?_
  refine v_iconst (v := 1) C dX3_poorest_2 (by decide) rfl ?_
  refine v_istore_n (lv' := [(2, .int 1), (1, .int 0), (0, .ref 49)]) C dX3_poorest_3 rfl (Nat.le_of_ble_eq_true rfl) rfl rfl ?_
  have lp4 : ∀ (kf i : Nat) (x1 : Int32) , q < i + kf → i ≤ q → x1 = nI (firN (σ 53) i) → (1 ≤ i) → V X 4 [(2, .int (nI i)), (1, .int x1), (0, .ref 49)] [] σ := by
    intro kf
    induction kf with
    | zero => intro i x1 h1 h2; omega
    | succ kf ih4 =>
      intro i x1 h1 h2 ex1 hi1
      have hfl := firN_lt (σ 53) i hi1
      refine v_iload_n C dX3_poorest_4 rfl rfl rfl ?_
      refine v_aload_n C dX3_poorest_5 rfl rfl rfl ?_
      refine v_getI C (Nat.le_of_ble_eq_true rfl) rfl rfl hinX3 5 (Nat.le_of_ble_eq_true rfl) lkX3_28 rfl dX3_poorest_6 rfl ?_
      refine V.tp hq ?_
      refine v_icmp_ge (tgt := 35) C dX3_poorest_9 (by decide) rfl (fun c9 => ?_) (fun c9 => ?_)
      · skip
        have c9 := mt (nI_ltI (a := i) (b := q) (by omega) (by omega)).mpr c9
        refine v_iload_n C dX3_poorest_35 rfl rfl rfl ?_
        refine V.tp ex1 ?_
        exact v_iret C dX3_poorest_36 (by rw [hX]; exact fI_of (by rw [show i = q by omega]) rfl)
      · skip
        have c9 := (nI_ltI (a := i) (b := q) (by omega) (by omega)).mp c9
        refine v_aload_n C dX3_poorest_12 rfl rfl rfl ?_
        refine v_getR C (Nat.le_of_ble_eq_true rfl) rfl rfl hinX3 3 (Nat.le_of_ble_eq_true rfl) lkX3_21 rfl dX3_poorest_13 rfl ?_
        refine v_iload_n C dX3_poorest_16 rfl rfl rfl ?_
        refine v_iald (i := i) C (Nat.le_of_ble_eq_true rfl) rfl rfl (by omega) (by decide) dX3_poorest_17 rfl ?_
        refine v_aload_n C dX3_poorest_18 rfl rfl rfl ?_
        refine v_getR C (Nat.le_of_ble_eq_true rfl) rfl rfl hinX3 3 (Nat.le_of_ble_eq_true rfl) lkX3_21 rfl dX3_poorest_19 rfl ?_
        refine v_iload_n C dX3_poorest_22 rfl rfl rfl ?_
        refine V.tp ex1 ?_
        refine v_iald (i := firN (σ 53) i) C (Nat.le_of_ble_eq_true rfl) rfl rfl (by omega) (by decide) dX3_poorest_23 rfl ?_
        refine v_icmp_ge (tgt := 29) C dX3_poorest_24 (by decide) rfl (fun c24 => ?_) (fun c24 => ?_)
        · skip
          refine v_iinc (lv' := [(2, .int (nI (i + 1))), (1, .int x1), (0, .ref 49)]) C dX3_poorest_29 rfl (nI_inc i) (Nat.le_of_ble_eq_true rfl) rfl rfl ?_
          refine v_goto (tgt := 4) C dX3_poorest_32 (by decide) ?_
          exact V.sub [0, 1, 2] rfl (ih4 (i + 1) _ (by omega) (by omega) (by rw [ex1]; simp [firN, show ¬ i = 0 by omega, c24]) (by omega))
        · skip
          refine v_iload_n C dX3_poorest_27 rfl rfl rfl ?_
          refine v_istore_n (lv' := [(1, .int (nI i)), (2, .int (nI i)), (0, .ref 49)]) C dX3_poorest_28 rfl (Nat.le_of_ble_eq_true rfl) rfl rfl ?_
          refine v_iinc (lv' := [(2, .int (nI (i + 1))), (1, .int (nI i)), (0, .ref 49)]) C dX3_poorest_29 rfl (nI_inc i) (Nat.le_of_ble_eq_true rfl) rfl rfl ?_
          refine v_goto (tgt := 4) C dX3_poorest_32 (by decide) ?_
          exact V.sub [0, 1, 2] rfl (ih4 (i + 1) _ (by omega) (by omega) (by simp [firN, show ¬ i = 0 by omega, c24]) (by omega))
  exact V.sub [0, 1, 2] rfl (lp4 (q + 1) 1 0 (by omega) (by omega) (by simp [firN]; rfl) (by omega))
theorem kX3_richest (q : Nat) (σ : St) (hq : σ 49 5 = nI q) (q2 : 2 ≤ q) (q4 : q ≤ 4) : Ct yX3_richest cX3_richest 3 (some .int) 0 [.ref 49] σ (fI (nI (lasN (σ 53) q)) σ) := by
  refine ct_of plX3 rfl (Nat.le_of_ble_eq_true rfl) (fun X hX C => ?_)
  show V X 0 [(0, .ref 49)] [] σ
  refine v_iconst (v := 0) C dX3_richest_0 (by decide) rfl ?_
  refine v_istore_n (lv' := [(1, .int 0), (0, .ref 49)]) C dX3_richest_1 rfl (Nat.le_of_ble_eq_true rfl) rfl rfl ?_
  refine v_iconst (v := 1) C dX3_richest_2 (by decide) rfl ?_
  refine v_istore_n (lv' := [(2, .int 1), (1, .int 0), (0, .ref 49)]) C dX3_richest_3 rfl (Nat.le_of_ble_eq_true rfl) rfl rfl ?_
  have lp4 : ∀ (kf i : Nat) (x1 : Int32) , q < i + kf → i ≤ q → x1 = nI (lasN (σ 53) i) → (1 ≤ i) → V X 4 [(2, .int (nI i)), (1, .int x1), (0, .ref 49)] [] σ := by
    intro kf
    induction kf with
    | zero => intro i x1 h1 h2; omega
    | succ kf ih4 =>
      intro i x1 h1 h2 ex1 hi1
      have hfl := lasN_lt (σ 53) i hi1
      refine v_iload_n C dX3_richest_4 rfl rfl rfl ?_
      refine v_aload_n C dX3_richest_5 rfl rfl rfl ?_
      refine v_getI C (Nat.le_of_ble_eq_true rfl) rfl rfl hinX3 5 (Nat.le_of_ble_eq_true rfl) lkX3_28 rfl dX3_richest_6 rfl ?_
      refine V.tp hq ?_
      refine v_icmp_ge (tgt := 35) C dX3_richest_9 (by decide) rfl (fun c9 => ?_) (fun c9 => ?_)
      · skip
        have c9 := mt (nI_ltI (a := i) (b := q) (by omega) (by omega)).mpr c9
        refine v_iload_n C dX3_richest_35 rfl rfl rfl ?_
        refine V.tp ex1 ?_
        exact v_iret C dX3_richest_36 (by rw [hX]; exact fI_of (by rw [show i = q by omega]) rfl)
      · skip
        have c9 := (nI_ltI (a := i) (b := q) (by omega) (by omega)).mp c9
        refine v_aload_n C dX3_richest_12 rfl rfl rfl ?_
        refine v_getR C (Nat.le_of_ble_eq_true rfl) rfl rfl hinX3 3 (Nat.le_of_ble_eq_true rfl) lkX3_21 rfl dX3_richest_13 rfl ?_
        refine v_iload_n C dX3_richest_16 rfl rfl rfl ?_
        refine v_iald (i := i) C (Nat.le_of_ble_eq_true rfl) rfl rfl (by omega) (by decide) dX3_richest_17 rfl ?_
        refine v_aload_n C dX3_richest_18 rfl rfl rfl ?_
        refine v_getR C (Nat.le_of_ble_eq_true rfl) rfl rfl hinX3 3 (Nat.le_of_ble_eq_true rfl) lkX3_21 rfl dX3_richest_19 rfl ?_
        refine v_iload_n C dX3_richest_22 rfl rfl rfl ?_
        refine V.tp ex1 ?_
        refine v_iald (i := lasN (σ 53) i) C (Nat.le_of_ble_eq_true rfl) rfl rfl (by omega) (by decide) dX3_richest_23 rfl ?_
        refine v_icmp_le (tgt := 29) C dX3_richest_24 (by decide) rfl (fun c24 => ?_) (fun c24 => ?_)
        · skip
          refine v_iinc (lv' := [(2, .int (nI (i + 1))), (1, .int x1), (0, .ref 49)]) C dX3_richest_29 rfl (nI_inc i) (Nat.le_of_ble_eq_true rfl) rfl rfl ?_
          refine v_goto (tgt := 4) C dX3_richest_32 (by decide) ?_
          exact V.sub [0, 1, 2] rfl (ih4 (i + 1) _ (by omega) (by omega) (by rw [ex1]; simp [lasN, show ¬ i = 0 by omega, c24]) (by omega))
        · skip
          refine v_iload_n C dX3_richest_27 rfl rfl rfl ?_
          refine v_istore_n (lv' := [(1, .int (nI i)), (2, .int (nI i)), (0, .ref 49)]) C dX3_richest_28 rfl (Nat.le_of_ble_eq_true rfl) rfl rfl ?_
          refine v_iinc (lv' := [(2, .int (nI (i + 1))), (1, .int (nI i)), (0, .ref 49)]) C dX3_richest_29 rfl (nI_inc i) (Nat.le_of_ble_eq_true rfl) rfl rfl ?_
          refine v_goto (tgt := 4) C dX3_richest_32 (by decide) ?_
          exact V.sub [0, 1, 2] rfl (ih4 (i + 1) _ (by omega) (by omega) (by simp [lasN, show ¬ i = 0 by omega, c24]) (by omega))
  exact V.sub [0, 1, 2] rfl (lp4 (q + 1) 1 0 (by omega) (by omega) (by simp [lasN]; rfl) (by omega))
theorem kX3_spread (q : Nat) (σ : St) (hq : σ 49 5 = nI q) (q2 : 2 ≤ q) (q4 : q ≤ 4) : Ct yX3_spread cX3_spread 1 (some .int) 1 [.ref 49] σ (fI (aptF (σ 53) q) σ) := by
  refine ct_of plX3 rfl (Nat.le_of_ble_eq_true rfl) (fun X hX C => ?_)
  show V X 0 [(0, .ref 49)] [] σ
  refine v_aload_n C dX3_spread_0 rfl rfl rfl ?_
  refine v_getR C (Nat.le_of_ble_eq_true rfl) rfl rfl hinX3 3 (Nat.le_of_ble_eq_true rfl) lkX3_21 rfl dX3_spread_1 rfl ?_
  refine v_aload_n C dX3_spread_4 rfl rfl rfl ?_
  refine v_callV C (Nat.le_of_ble_eq_true rfl) rfl rfl (As := []) (rest := [.ref 53]) (kX3_richest q σ hq q2 q4) rfl (Nat.le_of_ble_eq_true rfl) (Nat.le_of_ble_eq_true rfl) ⟨mlX3_103, mfX3_richest⟩ dkX3_richest (Nat.le_of_ble_eq_true rfl) dX3_spread_5 rfl (kI ?_)
  refine v_iald (i := (lasN (σ 53) q)) C (Nat.le_of_ble_eq_true rfl) rfl rfl (by have := lasN_lt (σ 53) q (by omega); omega) (by decide) dX3_spread_8 rfl ?_
  refine v_aload_n C dX3_spread_9 rfl rfl rfl ?_
  refine v_getR C (Nat.le_of_ble_eq_true rfl) rfl rfl hinX3 3 (Nat.le_of_ble_eq_true rfl) lkX3_21 rfl dX3_spread_10 rfl ?_
  refine v_aload_n C dX3_spread_13 rfl rfl rfl ?_
  refine v_callV C (Nat.le_of_ble_eq_true rfl) rfl rfl (As := []) (rest := [.ref 53, .int (σ 53 (lasN (σ 53) q))]) (kX3_poorest q σ hq q2 q4) rfl (Nat.le_of_ble_eq_true rfl) (Nat.le_of_ble_eq_true rfl) ⟨mlX3_97, mfX3_poorest⟩ dkX3_poorest (Nat.le_of_ble_eq_true rfl) dX3_spread_14 rfl (kI ?_)
  refine v_iald (i := (firN (σ 53) q)) C (Nat.le_of_ble_eq_true rfl) rfl rfl (by have := firN_lt (σ 53) q (by omega); omega) (by decide) dX3_spread_17 rfl ?_
  refine v_isub C dX3_spread_18 rfl ?_
  exact v_iret C dX3_spread_19 (by rw [hX]; exact fI_of (by rw [aptF, ← firV, ← lasV]) rfl)
theorem kX3_give (p g n q : Nat) (σ : St) (hn : σ 49 4 = nI n) (h7 : n ≤ 7) (hq : σ 49 5 = nI q) (q4 : q ≤ 4) (hp : p < n) (hg : g < q) : Ct yX3_give cX3_give 3 none 0 [.ref 49, .int (nI p), .int (nI g)] σ (fV (givS σ p g)) := by
  refine ct_of plX3 rfl (Nat.le_of_ble_eq_true rfl) (fun X hX C => ?_)
  show V X 0 [(0, .ref 49), (1, .int (nI p)), (2, .int (nI g))] [] σ
  refine v_iload_n C dX3_give_0 rfl rfl rfl ?_
  refine v_if_lt (tgt := 46) C dX3_give_1 (by decide) rfl (fun q => absurd q (nI_pos (by omega))) (fun _ => ?_)
  refine v_iload_n C dX3_give_4 rfl rfl rfl ?_
  refine v_aload_n C dX3_give_5 rfl rfl rfl ?_
  refine v_getI C (Nat.le_of_ble_eq_true rfl) rfl rfl hinX3 4 (Nat.le_of_ble_eq_true rfl) lkX3_24 rfl dX3_give_6 rfl ?_
  refine V.tp hn ?_
  refine v_icmp_ge (tgt := 46) C dX3_give_9 (by decide) rfl (fun c9 => ?_) (fun c9 => ?_)
  · skip
    have c9 := mt (nI_ltI (a := p) (b := n) (by omega) (by omega)).mpr c9
    exact v_vret C dX3_give_46 (by rw [hX]; exfalso; omega)
  · skip
    have c9 := (nI_ltI (a := p) (b := n) (by omega) (by omega)).mp c9
    refine v_iload_n C dX3_give_12 rfl rfl rfl ?_
    refine v_if_lt (tgt := 46) C dX3_give_13 (by decide) rfl (fun q => absurd q (nI_pos (by omega))) (fun _ => ?_)
    refine v_iload_n C dX3_give_16 rfl rfl rfl ?_
    refine v_aload_n C dX3_give_17 rfl rfl rfl ?_
    refine v_getI C (Nat.le_of_ble_eq_true rfl) rfl rfl hinX3 5 (Nat.le_of_ble_eq_true rfl) lkX3_28 rfl dX3_give_18 rfl ?_
    refine V.tp hq ?_
    refine v_icmp_ge (tgt := 46) C dX3_give_21 (by decide) rfl (fun c21 => ?_) (fun c21 => ?_)
    · skip
      have c21 := mt (nI_ltI (a := g) (b := q) (by omega) (by omega)).mpr c21
      exact v_vret C dX3_give_46 (by rw [hX]; exfalso; omega)
    · skip
      have c21 := (nI_ltI (a := g) (b := q) (by omega) (by omega)).mp c21
      refine v_aload_n C dX3_give_24 rfl rfl rfl ?_
      refine v_getR C (Nat.le_of_ble_eq_true rfl) rfl rfl hinX3 1 (Nat.le_of_ble_eq_true rfl) lkX3_15 rfl dX3_give_25 rfl ?_
      refine v_iload_n C dX3_give_28 rfl rfl rfl ?_
      refine v_iload_n C dX3_give_29 rfl rfl rfl ?_
      refine v_iast (i := p) C (Nat.le_of_ble_eq_true rfl) rfl rfl (by omega) (by decide) dX3_give_30 rfl ?_
      refine V.nm (fun τ30_1 eτ30_1 => ?_)
      refine v_aload_n C dX3_give_31 rfl rfl rfl ?_
      refine v_getR C (Nat.le_of_ble_eq_true rfl) rfl rfl hinX3 3 (Nat.le_of_ble_eq_true rfl) lkX3_21 rfl dX3_give_32 rfl ?_
      refine v_iload_n C dX3_give_35 rfl rfl rfl ?_
      refine v_dup2 C dX3_give_36 rfl rfl rfl ?_
      refine v_iald (i := g) C (Nat.le_of_ble_eq_true rfl) rfl rfl (by omega) (by decide) dX3_give_37 rfl ?_
      refine V.tp (by rw [eτ30_1, s2_ne (by decide)]) ?_
      refine v_aload_n C dX3_give_38 rfl rfl rfl ?_
      refine v_getR C (Nat.le_of_ble_eq_true rfl) rfl rfl hinX3 0 (Nat.le_of_ble_eq_true rfl) lkX3_9 rfl dX3_give_39 rfl ?_
      refine v_iload_n C dX3_give_42 rfl rfl rfl ?_
      refine v_iald (i := p) C (Nat.le_of_ble_eq_true rfl) rfl rfl (by omega) (by decide) dX3_give_43 rfl ?_
      refine V.tp (by rw [eτ30_1, s2_ne (by decide)]) ?_
      refine v_iadd C dX3_give_44 rfl ?_
      refine v_iast (i := g) C (Nat.le_of_ble_eq_true rfl) rfl rfl (by omega) (by decide) dX3_give_45 rfl ?_
      refine V.nm (fun τ45_2 eτ45_2 => ?_)
      exact v_vret C dX3_give_46 (by rw [hX]; exact fV_of (by rw [eτ45_2, eτ30_1]; rfl))
theorem kX3_takeBack (p g n q : Nat) (σ : St) (hn : σ 49 4 = nI n) (h7 : n ≤ 7) (hq : σ 49 5 = nI q) (q4 : q ≤ 4) (hp : p < n) (hg : g < q) : Ct yX3_takeBack cX3_takeBack 3 none 0 [.ref 49, .int (nI p), .int (nI g)] σ (fV (takS σ p g)) := by
  refine ct_of plX3 rfl (Nat.le_of_ble_eq_true rfl) (fun X hX C => ?_)
  show V X 0 [(0, .ref 49), (1, .int (nI p)), (2, .int (nI g))] [] σ
  refine v_iload_n C dX3_takeBack_0 rfl rfl rfl ?_
  refine v_if_lt (tgt := 39) C dX3_takeBack_1 (by decide) rfl (fun q => absurd q (nI_pos (by omega))) (fun _ => ?_)
  refine v_iload_n C dX3_takeBack_4 rfl rfl rfl ?_
  refine v_aload_n C dX3_takeBack_5 rfl rfl rfl ?_
  refine v_getI C (Nat.le_of_ble_eq_true rfl) rfl rfl hinX3 4 (Nat.le_of_ble_eq_true rfl) lkX3_24 rfl dX3_takeBack_6 rfl ?_
  refine V.tp hn ?_
  refine v_icmp_ge (tgt := 39) C dX3_takeBack_9 (by decide) rfl (fun c9 => ?_) (fun c9 => ?_)
  · skip
    have c9 := mt (nI_ltI (a := p) (b := n) (by omega) (by omega)).mpr c9
    exact v_vret C dX3_takeBack_39 (by rw [hX]; exfalso; omega)
  · skip
    have c9 := (nI_ltI (a := p) (b := n) (by omega) (by omega)).mp c9
    refine v_iload_n C dX3_takeBack_12 rfl rfl rfl ?_
    refine v_if_lt (tgt := 39) C dX3_takeBack_13 (by decide) rfl (fun q => absurd q (nI_pos (by omega))) (fun _ => ?_)
    refine v_iload_n C dX3_takeBack_16 rfl rfl rfl ?_
    refine v_aload_n C dX3_takeBack_17 rfl rfl rfl ?_
    refine v_getI C (Nat.le_of_ble_eq_true rfl) rfl rfl hinX3 5 (Nat.le_of_ble_eq_true rfl) lkX3_28 rfl dX3_takeBack_18 rfl ?_
    refine V.tp hq ?_
    refine v_icmp_ge (tgt := 39) C dX3_takeBack_21 (by decide) rfl (fun c21 => ?_) (fun c21 => ?_)
    · skip
      have c21 := mt (nI_ltI (a := g) (b := q) (by omega) (by omega)).mpr c21
      exact v_vret C dX3_takeBack_39 (by rw [hX]; exfalso; omega)
    · skip
      have c21 := (nI_ltI (a := g) (b := q) (by omega) (by omega)).mp c21
      refine v_aload_n C dX3_takeBack_24 rfl rfl rfl ?_
      refine v_getR C (Nat.le_of_ble_eq_true rfl) rfl rfl hinX3 3 (Nat.le_of_ble_eq_true rfl) lkX3_21 rfl dX3_takeBack_25 rfl ?_
      refine v_iload_n C dX3_takeBack_28 rfl rfl rfl ?_
      refine v_dup2 C dX3_takeBack_29 rfl rfl rfl ?_
      refine v_iald (i := g) C (Nat.le_of_ble_eq_true rfl) rfl rfl (by omega) (by decide) dX3_takeBack_30 rfl ?_
      refine v_aload_n C dX3_takeBack_31 rfl rfl rfl ?_
      refine v_getR C (Nat.le_of_ble_eq_true rfl) rfl rfl hinX3 0 (Nat.le_of_ble_eq_true rfl) lkX3_9 rfl dX3_takeBack_32 rfl ?_
      refine v_iload_n C dX3_takeBack_35 rfl rfl rfl ?_
      refine v_iald (i := p) C (Nat.le_of_ble_eq_true rfl) rfl rfl (by omega) (by decide) dX3_takeBack_36 rfl ?_
      refine v_isub C dX3_takeBack_37 rfl ?_
      refine v_iast (i := g) C (Nat.le_of_ble_eq_true rfl) rfl rfl (by omega) (by decide) dX3_takeBack_38 rfl ?_
      refine V.nm (fun τ38_1 eτ38_1 => ?_)
      exact v_vret C dX3_takeBack_39 (by rw [hX]; exact fV_of (by rw [eτ38_1]; rfl))
theorem kX3_canBeFairer (g q : Nat) (σ : St) (hq : σ 49 5 = nI q) (q4 : q ≤ 4) (hg : g < q) : Ct yX3_canBeFairer cX3_canBeFairer 2 (some .boolean) 0 [.ref 49, .int (nI g)] σ (fI (bI (0 < σ 49 7 ∧ σ 53 g - σ 49 6 < σ 49 7)) σ) := by
  refine ct_of plX3 rfl (Nat.le_of_ble_eq_true rfl) (fun X hX C => ?_)
  show V X 0 [(0, .ref 49), (1, .int (nI g))] [] σ
  refine v_aload_n C dX3_canBeFairer_0 rfl rfl rfl ?_
  refine v_getI C (Nat.le_of_ble_eq_true rfl) rfl rfl hinX3 7 (Nat.le_of_ble_eq_true rfl) lkX3_35 rfl dX3_canBeFairer_1 rfl ?_
  refine v_if_le (tgt := 29) C dX3_canBeFairer_4 (by decide) rfl (fun c4 => ?_) (fun c4 => ?_)
  · skip
    refine v_iconst (v := 0) C dX3_canBeFairer_29 (by decide) rfl ?_
    exact v_zret C rfl dX3_canBeFairer_30 (by rw [hX]; exact fI_of (by first | exact bI_t (by simp [not_true, c4]; done) | exact bI_f (by simp [not_true, c4]; done)) rfl)
  · skip
    refine v_aload_n C dX3_canBeFairer_7 rfl rfl rfl ?_
    refine v_getR C (Nat.le_of_ble_eq_true rfl) rfl rfl hinX3 3 (Nat.le_of_ble_eq_true rfl) lkX3_21 rfl dX3_canBeFairer_8 rfl ?_
    refine v_iload_n C dX3_canBeFairer_11 rfl rfl rfl ?_
    refine v_iald (i := g) C (Nat.le_of_ble_eq_true rfl) rfl rfl (by omega) (by decide) dX3_canBeFairer_12 rfl ?_
    refine v_aload_n C dX3_canBeFairer_13 rfl rfl rfl ?_
    refine v_getI C (Nat.le_of_ble_eq_true rfl) rfl rfl hinX3 6 (Nat.le_of_ble_eq_true rfl) lkX3_31 rfl dX3_canBeFairer_14 rfl ?_
    refine v_isub C dX3_canBeFairer_17 rfl ?_
    refine v_aload_n C dX3_canBeFairer_18 rfl rfl rfl ?_
    refine v_getI C (Nat.le_of_ble_eq_true rfl) rfl rfl hinX3 7 (Nat.le_of_ble_eq_true rfl) lkX3_35 rfl dX3_canBeFairer_19 rfl ?_
    refine v_icmp_ge (tgt := 29) C dX3_canBeFairer_22 (by decide) rfl (fun c22 => ?_) (fun c22 => ?_)
    · skip
      refine v_iconst (v := 0) C dX3_canBeFairer_29 (by decide) rfl ?_
      exact v_zret C rfl dX3_canBeFairer_30 (by rw [hX]; exact fI_of (by first | exact bI_t (by simp [not_true, c4, c22]; done) | exact bI_f (by simp [not_true, c4, c22]; done)) rfl)
    · skip
      refine v_iconst (v := 1) C dX3_canBeFairer_25 (by decide) rfl ?_
      refine v_goto (tgt := 30) C dX3_canBeFairer_26 (by decide) ?_
      exact v_zret C rfl dX3_canBeFairer_30 (by rw [hX]; exact fI_of (by first | exact bI_t (by simp [not_true, c4, c22]; done) | exact bI_f (by simp [not_true, c4, c22]; done)) rfl)
theorem kX3_keepIfFairer (q : Nat) (σ : St) (hq : σ 49 5 = nI q) (q2 : 2 ≤ q) (q4 : q ≤ 4) : Ct yX3_keepIfFairer cX3_keepIfFairer 2 none 2 [.ref 49] σ (fV (keeS σ q)) := by
  refine ct_of plX3 rfl (Nat.le_of_ble_eq_true rfl) (fun X hX C => ?_)
  show V X 0 [(0, .ref 49)] [] σ
  refine v_aload_n C dX3_keepIfFairer_0 rfl rfl rfl ?_
  refine v_callV C (Nat.le_of_ble_eq_true rfl) rfl rfl (As := []) (rest := []) (kX3_spread q σ hq q2 q4) rfl (Nat.le_of_ble_eq_true rfl) (Nat.le_of_ble_eq_true rfl) ⟨mlX3_87, mfX3_spread⟩ dkX3_spread (Nat.le_of_ble_eq_true rfl) dX3_keepIfFairer_1 rfl (kI ?_)
  refine V.top (fun v4_1 ev4_1 => ?_)
  refine v_istore_n (lv' := [(1, .int v4_1), (0, .ref 49)]) C dX3_keepIfFairer_4 rfl (Nat.le_of_ble_eq_true rfl) rfl rfl ?_
  refine v_iload_n C dX3_keepIfFairer_5 rfl rfl rfl ?_
  refine v_aload_n C dX3_keepIfFairer_6 rfl rfl rfl ?_
  refine v_getI C (Nat.le_of_ble_eq_true rfl) rfl rfl hinX3 7 (Nat.le_of_ble_eq_true rfl) lkX3_35 rfl dX3_keepIfFairer_7 rfl ?_
  refine v_icmp_ge (tgt := 33) C dX3_keepIfFairer_10 (by decide) rfl (fun c10 => ?_) (fun c10 => ?_)
  · skip
    exact v_vret C dX3_keepIfFairer_33 (by rw [hX]; exact fV_of (by rw [keeS, if_neg (by rw [← ev4_1]; exact c10)]))
  · skip
    refine v_aload_n C dX3_keepIfFairer_13 rfl rfl rfl ?_
    refine v_iload_n C dX3_keepIfFairer_14 rfl rfl rfl ?_
    refine v_put (ty := .int) C (Nat.le_of_ble_eq_true rfl) rfl rfl hinX3 tyX3_ok nmX3 7 (Nat.le_of_ble_eq_true rfl) lkX3_35 rfl (by decide +kernel) rfl rfl rfl dX3_keepIfFairer_15 rfl ?_
    refine V.nm (fun τ15_2 eτ15_2 => ?_)
    refine v_aload_n C dX3_keepIfFairer_18 rfl rfl rfl ?_
    refine v_getR C (Nat.le_of_ble_eq_true rfl) rfl rfl hinX3 1 (Nat.le_of_ble_eq_true rfl) lkX3_15 rfl dX3_keepIfFairer_19 rfl ?_
    refine v_iconst (v := 0) C dX3_keepIfFairer_22 (by decide) rfl ?_
    refine v_aload_n C dX3_keepIfFairer_23 rfl rfl rfl ?_
    refine v_getR C (Nat.le_of_ble_eq_true rfl) rfl rfl hinX3 2 (Nat.le_of_ble_eq_true rfl) lkX3_18 rfl dX3_keepIfFairer_24 rfl ?_
    refine v_iconst (v := 0) C dX3_keepIfFairer_27 (by decide) rfl ?_
    refine v_bipush (v := 7) C dX3_keepIfFairer_28 (by decide) rfl ?_
    refine v_copy (c := 7) C (Nat.le_of_ble_eq_true rfl) rfl (Nat.le_of_ble_eq_true rfl) rfl rfl (Nat.le_of_ble_eq_true rfl) (Nat.le_of_ble_eq_true rfl) (Nat.le_of_ble_eq_true rfl) (Nat.le_of_ble_eq_true rfl) acX3_91 dX3_keepIfFairer_30 rfl ?_
    refine V.nm (fun τ30_3 eτ30_3 => ?_)
    exact v_vret C dX3_keepIfFairer_33 (by rw [hX]; exact fV_of (by rw [keeS, if_pos (by rw [← ev4_1]; exact c10), eτ30_3, eτ15_2, ev4_1]; rfl))
