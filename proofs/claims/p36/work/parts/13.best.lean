/-! the check's class: looking for a best one -/
noncomputable def minN (ok : Nat → Prop) (f : Nat → Int32) : Nat → Option Nat
  | 0 => none
  | i + 1 => match minN ok f i with
    | none => cI (ok i) (some i) none
    | some b => cI (ok i ∧ f i < f b) (some i) (some b)
theorem minN_lt {ok : Nat → Prop} {f : Nat → Int32} : ∀ {i b : Nat}, minN ok f i = some b → b < i := by
  intro i
  induction i with
  | zero => intro b h; cases h
  | succ i ih =>
    intro b h
    simp only [minN] at h
    split at h
    · by_cases g : ok i
      · rw [cI_t g] at h; cases h; omega
      · rw [cI_f g] at h; cases h
    · next c hc =>
      by_cases g : ok i ∧ f i < f c
      · rw [cI_t g] at h; cases h; omega
      · rw [cI_f g] at h; cases h; have := ih hc; omega
def oI (o : Option Nat) : Int32 := match o with
  | none => -9
  | some b => nI b
def firN (f : Nat → Int32) : Nat → Nat
  | 0 => 0
  | i + 1 => if i = 0 then 0 else if f i < f (firN f i) then i else firN f i
theorem firN_lt (f : Nat → Int32) : ∀ i, 1 ≤ i → firN f i < i
  | 0, h => by omega
  | 1, _ => by simp [firN]
  | i + 2, _ => by
    have := firN_lt f (i + 1) (by omega)
    rw [firN, if_neg (by omega)]
    split <;> omega
def lasN (f : Nat → Int32) : Nat → Nat
  | 0 => 0
  | i + 1 => if i = 0 then 0 else if f (lasN f i) < f i then i else lasN f i
theorem lasN_lt (f : Nat → Int32) : ∀ i, 1 ≤ i → lasN f i < i
  | 0, h => by omega
  | 1, _ => by simp [lasN]
  | i + 2, _ => by
    have := lasN_lt f (i + 1) (by omega)
    rw [lasN, if_neg (by omega)]
    split <;> omega
def bitG (v : Int32) (k : Nat) : Int32 := v >>> (nI k &&& 31) &&& 1
def powN (a : Int32) : Nat → Int32
  | 0 => 1
  | i + 1 => powN a i * a
theorem kX6_bits (v : Int32) (σ : St) : Ct yX6_bits cX6_bits 3 (some .int) 0 [.int v] σ (fI (sumN (bitG v) 31) σ) := by
  refine ct_of plX6 rfl (Nat.le_of_ble_eq_true rfl) (fun X hX C => ?_)
  show V X 0 [(0, .int v)] [] σ
  refine v_iconst (v := 0) C dX6_bits_0 (by decide) rfl ?_
  refine v_istore_n (lv' := [(1, .int 0), (0, .int v)]) C dX6_bits_1 rfl (Nat.le_of_ble_eq_true rfl) rfl rfl ?_
  refine v_iconst (v := 0) C dX6_bits_2 (by decide) rfl ?_
  refine v_istore_n (lv' := [(2, .int 0), (1, .int 0), (0, .int v)]) C dX6_bits_3 rfl (Nat.le_of_ble_eq_true rfl) rfl rfl ?_
  have lp4 : ∀ (k i : Nat) (x1 : Int32) , 31 < i + k → i ≤ 31 → x1 = sumN (bitG v) i → V X 4 [(2, .int (nI i)), (1, .int x1), (0, .int v)] [] σ := by
    intro k
    induction k with
    | zero => intro i x1 h1 h2; omega
    | succ k ih4 =>
      intro i x1 h1 h2 ex1
      refine v_iload_n C dX6_bits_4 rfl rfl rfl ?_
      refine v_bipush (v := 31) C dX6_bits_5 (by decide) rfl ?_
      refine v_icmp_ge (tgt := 24) C dX6_bits_7 (by decide) rfl (fun c7 => ?_) (fun c7 => ?_)
      · skip
        have c7 := mt (nI_ltI (a := i) (b := 31) (by omega) (by omega)).mpr c7
        refine v_iload_n C dX6_bits_24 rfl rfl rfl ?_
        exact v_iret C dX6_bits_25 (by rw [hX]; exact fI_of (by rw [ex1, show i = 31 by omega]) rfl)
      · skip
        have c7 := (nI_ltI (a := i) (b := 31) (by omega) (by omega)).mp c7
        refine v_iload_n C dX6_bits_10 rfl rfl rfl ?_
        refine v_iload_n C dX6_bits_11 rfl rfl rfl ?_
        refine v_iload_n C dX6_bits_12 rfl rfl rfl ?_
        refine v_ishr C dX6_bits_13 rfl ?_
        refine v_iconst (v := 1) C dX6_bits_14 (by decide) rfl ?_
        refine v_iand C dX6_bits_15 rfl ?_
        refine v_iadd C dX6_bits_16 rfl ?_
        refine V.top (fun v17_1 ev17_1 => ?_)
        refine v_istore_n (lv' := [(1, .int v17_1), (2, .int (nI i)), (0, .int v)]) C dX6_bits_17 rfl (Nat.le_of_ble_eq_true rfl) rfl rfl ?_
        refine v_iinc (lv' := [(2, .int (nI (i + 1))), (1, .int v17_1), (0, .int v)]) C dX6_bits_18 rfl (nI_inc i) (Nat.le_of_ble_eq_true rfl) rfl rfl ?_
        refine v_goto (tgt := 4) C dX6_bits_21 (by decide) ?_
        exact V.sub [0, 1, 2] rfl (ih4 (i + 1) _ (by omega) (by omega) (by rw [ev17_1, ex1]; rfl))
  exact V.sub [0, 1, 2] rfl (lp4 (31 + 1) 0 0 (by omega) (by omega) (rfl))
theorem kX6_power (v : Int32) (n : Nat) (σ : St) (h7 : n ≤ 7) : Ct yX6_power cX6_power 4 (some .int) 0 [.int v, .int (nI n)] σ (fI (powN v n) σ) := by
  refine ct_of plX6 rfl (Nat.le_of_ble_eq_true rfl) (fun X hX C => ?_)
  show V X 0 [(0, .int v), (1, .int (nI n))] [] σ
  refine v_iconst (v := 1) C dX6_power_0 (by decide) rfl ?_
  refine v_istore_n (lv' := [(2, .int 1), (0, .int v), (1, .int (nI n))]) C dX6_power_1 rfl (Nat.le_of_ble_eq_true rfl) rfl rfl ?_
  refine v_iconst (v := 0) C dX6_power_2 (by decide) rfl ?_
  refine v_istore_n (lv' := [(3, .int 0), (2, .int 1), (0, .int v), (1, .int (nI n))]) C dX6_power_3 rfl (Nat.le_of_ble_eq_true rfl) rfl rfl ?_
  have lp4 : ∀ (k i : Nat) (x2 : Int32) , n < i + k → i ≤ n → x2 = powN v i → V X 4 [(3, .int (nI i)), (2, .int x2), (0, .int v), (1, .int (nI n))] [] σ := by
    intro k
    induction k with
    | zero => intro i x2 h1 h2; omega
    | succ k ih4 =>
      intro i x2 h1 h2 ex2
      refine v_iload_n C dX6_power_4 rfl rfl rfl ?_
      refine v_iload_n C dX6_power_5 rfl rfl rfl ?_
      refine v_icmp_ge (tgt := 19) C dX6_power_6 (by decide) rfl (fun c6 => ?_) (fun c6 => ?_)
      · skip
        have c6 := mt (nI_ltI (a := i) (b := n) (by omega) (by omega)).mpr c6
        refine v_iload_n C dX6_power_19 rfl rfl rfl ?_
        exact v_iret C dX6_power_20 (by rw [hX]; exact fI_of (by rw [ex2, show i = n by omega]) rfl)
      · skip
        have c6 := (nI_ltI (a := i) (b := n) (by omega) (by omega)).mp c6
        refine v_iload_n C dX6_power_9 rfl rfl rfl ?_
        refine v_iload_n C dX6_power_10 rfl rfl rfl ?_
        refine v_imul C dX6_power_11 rfl ?_
        refine V.top (fun v12_1 ev12_1 => ?_)
        refine v_istore_n (lv' := [(2, .int v12_1), (3, .int (nI i)), (0, .int v), (1, .int (nI n))]) C dX6_power_12 rfl (Nat.le_of_ble_eq_true rfl) rfl rfl ?_
        refine v_iinc (lv' := [(3, .int (nI (i + 1))), (2, .int v12_1), (0, .int v), (1, .int (nI n))]) C dX6_power_13 rfl (nI_inc i) (Nat.le_of_ble_eq_true rfl) rfl rfl ?_
        refine v_goto (tgt := 4) C dX6_power_16 (by decide) ?_
        exact V.sub [0, 1, 2, 3] rfl (ih4 (i + 1) _ (by omega) (by omega) (by rw [ev12_1, ex2]; rfl))
  exact V.sub [0, 1, 2, 3] rfl (lp4 (n + 1) 0 1 (by omega) (by omega) (rfl))
theorem kX6_poorest (h : Nat) (σ : St) (hh : σ 0 9 = nI h) (h2 : 2 ≤ h) (h4 : h ≤ 4) : Ct yX6_poorest cX6_poorest 3 (some .int) 0 [.ref 0] σ (fI (nI (firN (σ 16) h)) σ) := by
  refine ct_of plX6 rfl (Nat.le_of_ble_eq_true rfl) (fun X hX C => ?_)
  show V X 0 [(0, .ref 0)] [] σ
  refine v_iconst (v := 0) C dX6_poorest_0 (by decide) rfl ?_
  refine v_istore_n (lv' := [(1, .int 0), (0, .ref 0)]) C dX6_poorest_1 rfl (Nat.le_of_ble_eq_true rfl) rfl rfl ?_
  refine v_iconst (v := 1) C dX6_poorest_2 (by decide) rfl ?_
  refine v_istore_n (lv' := [(2, .int 1), (1, .int 0), (0, .ref 0)]) C dX6_poorest_3 rfl (Nat.le_of_ble_eq_true rfl) rfl rfl ?_
  have lp4 : ∀ (k i : Nat) (x1 : Int32) , h < i + k → i ≤ h → x1 = nI (firN (σ 16) i) → (1 ≤ i) → V X 4 [(2, .int (nI i)), (1, .int x1), (0, .ref 0)] [] σ := by
    intro k
    induction k with
    | zero => intro i x1 h1 h2; omega
    | succ k ih4 =>
      intro i x1 h1 h2 ex1 hi1
      have hfl := firN_lt (σ 16) i hi1
      refine v_iload_n C dX6_poorest_4 rfl rfl rfl ?_
      refine v_aload_n C dX6_poorest_5 rfl rfl rfl ?_
      refine v_getI C (Nat.le_of_ble_eq_true rfl) rfl rfl hinX6 9 (Nat.le_of_ble_eq_true rfl) lkX6_61 rfl dX6_poorest_6 rfl ?_
      refine V.tp hh ?_
      refine v_icmp_ge (tgt := 39) C dX6_poorest_9 (by decide) rfl (fun c9 => ?_) (fun c9 => ?_)
      · skip
        have c9 := mt (nI_ltI (a := i) (b := h) (by omega) (by omega)).mpr c9
        refine v_iload_n C dX6_poorest_39 rfl rfl rfl ?_
        refine V.tp ex1 ?_
        exact v_iret C dX6_poorest_40 (by rw [hX]; exact fI_of (by rw [show i = h by omega]) rfl)
      · skip
        have c9 := (nI_ltI (a := i) (b := h) (by omega) (by omega)).mp c9
        refine v_aload_n C dX6_poorest_12 rfl rfl rfl ?_
        refine v_getR C (Nat.le_of_ble_eq_true rfl) rfl rfl hinX6 25 (Nat.le_of_ble_eq_true rfl) lkX6_55 rfl dX6_poorest_13 rfl ?_
        refine v_iload_n C dX6_poorest_16 rfl rfl rfl ?_
        refine v_iald (i := i) C (Nat.le_of_ble_eq_true rfl) rfl rfl (by omega) (by decide) dX6_poorest_17 rfl ?_
        refine v_aload_n C dX6_poorest_18 rfl rfl rfl ?_
        refine v_getR C (Nat.le_of_ble_eq_true rfl) rfl rfl hinX6 25 (Nat.le_of_ble_eq_true rfl) lkX6_55 rfl dX6_poorest_19 rfl ?_
        refine v_iload_n C dX6_poorest_22 rfl rfl rfl ?_
        refine V.tp ex1 ?_
        refine v_iald (i := firN (σ 16) i) C (Nat.le_of_ble_eq_true rfl) rfl rfl (by omega) (by decide) dX6_poorest_23 rfl ?_
        refine v_icmp_ge (tgt := 31) C dX6_poorest_24 (by decide) rfl (fun c24 => ?_) (fun c24 => ?_)
        · skip
          refine v_iload_n C dX6_poorest_31 rfl rfl rfl ?_
          refine V.tp ex1 ?_
          refine V.top (fun v32_1 ev32_1 => ?_)
          refine v_istore_n (lv' := [(1, .int v32_1), (2, .int (nI i)), (0, .ref 0)]) C dX6_poorest_32 rfl (Nat.le_of_ble_eq_true rfl) rfl rfl ?_
          refine v_iinc (lv' := [(2, .int (nI (i + 1))), (1, .int v32_1), (0, .ref 0)]) C dX6_poorest_33 rfl (nI_inc i) (Nat.le_of_ble_eq_true rfl) rfl rfl ?_
          refine v_goto (tgt := 4) C dX6_poorest_36 (by decide) ?_
          exact V.sub [0, 1, 2] rfl (ih4 (i + 1) _ (by omega) (by omega) (by rw [ev32_1]; simp [firN, show ¬ i = 0 by omega, c24]) (by omega))
        · skip
          refine v_iload_n C dX6_poorest_27 rfl rfl rfl ?_
          refine v_goto (tgt := 32) C dX6_poorest_28 (by decide) ?_
          refine v_istore_n (lv' := [(1, .int (nI i)), (2, .int (nI i)), (0, .ref 0)]) C dX6_poorest_32 rfl (Nat.le_of_ble_eq_true rfl) rfl rfl ?_
          refine v_iinc (lv' := [(2, .int (nI (i + 1))), (1, .int (nI i)), (0, .ref 0)]) C dX6_poorest_33 rfl (nI_inc i) (Nat.le_of_ble_eq_true rfl) rfl rfl ?_
          refine v_goto (tgt := 4) C dX6_poorest_36 (by decide) ?_
          exact V.sub [0, 1, 2] rfl (ih4 (i + 1) _ (by omega) (by omega) (by simp [firN, show ¬ i = 0 by omega, c24]) (by omega))
  exact V.sub [0, 1, 2] rfl (lp4 (h + 1) 1 0 (by omega) (by omega) (by simp [firN]; rfl) (by omega))
noncomputable def gueA (σ : St) (n : Nat) (r : Int32) : Int32 := cI (placeP r) (oI (minN (fun p => σ 8 p = r) (blaF (σ 4) (σ 6) (σ 7) (σ 8) n) n)) (-1)
noncomputable def gueS (σ : St) (r : Int32) : St := cI (placeP r) σ (noS σ 1)
theorem kX6_guest (r : Int32) (n : Nat) (σ : St) (hn : σ 0 8 = nI n) (h7 : n ≤ 7) : Ct yX6_guest cX6_guest 4 (some .int) 2 [.ref 0, .int r] σ (fI (gueA σ n r) (gueS σ r)) := by
  refine ct_of plX6 rfl (Nat.le_of_ble_eq_true rfl) (fun X hX C => ?_)
  show V X 0 [(0, .ref 0), (1, .int r)] [] σ
  refine v_iload_n C dX6_guest_0 rfl rfl rfl ?_
  refine v_callS C (As := [.int r]) (rest := []) (kX6_isPlace r σ) rfl (Nat.le_of_ble_eq_true rfl) (Nat.le_of_ble_eq_true rfl) ⟨mlX6_119, mfX6_isPlace⟩ dkX6_isPlace (Nat.le_of_ble_eq_true rfl) dX6_guest_1 rfl (kI ?_)
  refine v_if_ne (tgt := 13) C dX6_guest_4 (by decide) rfl (fun c4 => ?_) (fun c4 => ?_)
  · skip
    have c4 := bI_n c4
    refine v_bipush (v := -9) C dX6_guest_13 (by decide) rfl ?_
    refine v_istore_n (lv' := [(2, .int (-9)), (0, .ref 0), (1, .int r)]) C dX6_guest_15 rfl (Nat.le_of_ble_eq_true rfl) rfl rfl ?_
    refine v_iconst (v := 0) C dX6_guest_16 (by decide) rfl ?_
    refine v_istore_n (lv' := [(3, .int 0), (2, .int (-9)), (0, .ref 0), (1, .int r)]) C dX6_guest_17 rfl (Nat.le_of_ble_eq_true rfl) rfl rfl ?_
    have lp18 : ∀ (k i : Nat) (x2 : Int32) , n < i + k → i ≤ n → x2 = oI (minN (fun p => σ 8 p = r) (blaF (σ 4) (σ 6) (σ 7) (σ 8) n) i) → V X 18 [(3, .int (nI i)), (2, .int x2), (0, .ref 0), (1, .int r)] [] σ := by
      intro k
      induction k with
      | zero => intro i x2 h1 h2; omega
      | succ k ih18 =>
        intro i x2 h1 h2 ex2
        rcases hq : minN (fun p => σ 8 p = r) (blaF (σ 4) (σ 6) (σ 7) (σ 8) n) i with _ | b
        · have hx : x2 = -9 := by rw [ex2, hq]; rfl
          refine v_iload_n C dX6_guest_18 rfl rfl rfl ?_
          refine v_aload_n C dX6_guest_19 rfl rfl rfl ?_
          refine v_getI C (Nat.le_of_ble_eq_true rfl) rfl rfl hinX6 8 (Nat.le_of_ble_eq_true rfl) lkX6_65 rfl dX6_guest_20 rfl ?_
          refine V.tp hn ?_
          refine v_icmp_ge (tgt := 61) C dX6_guest_23 (by decide) rfl (fun c23 => ?_) (fun c23 => ?_)
          · skip
            have c23 := mt (nI_ltI (a := i) (b := n) (by omega) (by omega)).mpr c23
            refine v_iload_n C dX6_guest_61 rfl rfl rfl ?_
            refine V.tp hx ?_
            exact v_iret C dX6_guest_62 (by rw [hX]; exact fI_of (by rw [gueA, cI_t c4, ← hx, ex2, show i = n by omega]) (by rw [gueS, cI_t c4]))
          · skip
            have c23 := (nI_ltI (a := i) (b := n) (by omega) (by omega)).mp c23
            refine v_aload_n C dX6_guest_26 rfl rfl rfl ?_
            refine v_getR C (Nat.le_of_ble_eq_true rfl) rfl rfl hinX6 7 (Nat.le_of_ble_eq_true rfl) lkX6_31 rfl dX6_guest_27 rfl ?_
            refine v_iload_n C dX6_guest_30 rfl rfl rfl ?_
            refine v_iald (i := i) C (Nat.le_of_ble_eq_true rfl) rfl rfl (by omega) (by decide) dX6_guest_31 rfl ?_
            refine v_iload_n C dX6_guest_32 rfl rfl rfl ?_
            refine v_icmp_ne (tgt := 55) C dX6_guest_33 (by decide) rfl (fun c33 => ?_) (fun c33 => ?_)
            · skip
              refine v_iinc (lv' := [(3, .int (nI (i + 1))), (2, .int x2), (0, .ref 0), (1, .int r)]) C dX6_guest_55 rfl (nI_inc i) (Nat.le_of_ble_eq_true rfl) rfl rfl ?_
              refine v_goto (tgt := 18) C dX6_guest_58 (by decide) ?_
              exact V.sub [0, 1, 2, 3] rfl (ih18 (i + 1) _ (by omega) (by omega) (by rw [hx]; simp [minN, hq, oI, cI, c33]))
            · skip
              refine v_iload_n C dX6_guest_36 rfl rfl rfl ?_
              refine V.tp hx ?_
              refine v_if_lt (tgt := 53) C dX6_guest_37 (by decide) rfl (fun _ => ?_) (fun q => absurd q (by decide))
              refine v_iload_n C dX6_guest_53 rfl rfl rfl ?_
              refine v_istore_n (lv' := [(2, .int (nI i)), (3, .int (nI i)), (0, .ref 0), (1, .int r)]) C dX6_guest_54 rfl (Nat.le_of_ble_eq_true rfl) rfl rfl ?_
              refine v_iinc (lv' := [(3, .int (nI (i + 1))), (2, .int (nI i)), (0, .ref 0), (1, .int r)]) C dX6_guest_55 rfl (nI_inc i) (Nat.le_of_ble_eq_true rfl) rfl rfl ?_
              refine v_goto (tgt := 18) C dX6_guest_58 (by decide) ?_
              exact V.sub [0, 1, 2, 3] rfl (ih18 (i + 1) _ (by omega) (by omega) (by simp [minN, hq, oI, cI, c33]))
        · have hx : x2 = nI b := by rw [ex2, hq]; rfl
          have hbl := minN_lt hq
          refine v_iload_n C dX6_guest_18 rfl rfl rfl ?_
          refine v_aload_n C dX6_guest_19 rfl rfl rfl ?_
          refine v_getI C (Nat.le_of_ble_eq_true rfl) rfl rfl hinX6 8 (Nat.le_of_ble_eq_true rfl) lkX6_65 rfl dX6_guest_20 rfl ?_
          refine V.tp hn ?_
          refine v_icmp_ge (tgt := 61) C dX6_guest_23 (by decide) rfl (fun c23 => ?_) (fun c23 => ?_)
          · skip
            have c23 := mt (nI_ltI (a := i) (b := n) (by omega) (by omega)).mpr c23
            refine v_iload_n C dX6_guest_61 rfl rfl rfl ?_
            refine V.tp hx ?_
            exact v_iret C dX6_guest_62 (by rw [hX]; exact fI_of (by rw [gueA, cI_t c4, ← hx, ex2, show i = n by omega]) (by rw [gueS, cI_t c4]))
          · skip
            have c23 := (nI_ltI (a := i) (b := n) (by omega) (by omega)).mp c23
            refine v_aload_n C dX6_guest_26 rfl rfl rfl ?_
            refine v_getR C (Nat.le_of_ble_eq_true rfl) rfl rfl hinX6 7 (Nat.le_of_ble_eq_true rfl) lkX6_31 rfl dX6_guest_27 rfl ?_
            refine v_iload_n C dX6_guest_30 rfl rfl rfl ?_
            refine v_iald (i := i) C (Nat.le_of_ble_eq_true rfl) rfl rfl (by omega) (by decide) dX6_guest_31 rfl ?_
            refine v_iload_n C dX6_guest_32 rfl rfl rfl ?_
            refine v_icmp_ne (tgt := 55) C dX6_guest_33 (by decide) rfl (fun c33 => ?_) (fun c33 => ?_)
            · skip
              refine v_iinc (lv' := [(3, .int (nI (i + 1))), (2, .int x2), (0, .ref 0), (1, .int r)]) C dX6_guest_55 rfl (nI_inc i) (Nat.le_of_ble_eq_true rfl) rfl rfl ?_
              refine v_goto (tgt := 18) C dX6_guest_58 (by decide) ?_
              exact V.sub [0, 1, 2, 3] rfl (ih18 (i + 1) _ (by omega) (by omega) (by rw [hx]; simp [minN, hq, oI, cI, c33]))
            · skip
              refine v_iload_n C dX6_guest_36 rfl rfl rfl ?_
              refine V.tp hx ?_
              refine v_if_lt (tgt := 53) C dX6_guest_37 (by decide) rfl (fun q => absurd q (nI_pos (by omega))) (fun _ => ?_)
              refine v_aload_n C dX6_guest_40 rfl rfl rfl ?_
              refine v_iload_n C dX6_guest_41 rfl rfl rfl ?_
              refine v_callV C (Nat.le_of_ble_eq_true rfl) rfl rfl (As := [.int (nI i)]) (rest := []) (kX6_blameOf n i σ hn h7 (by omega)) rfl (Nat.le_of_ble_eq_true rfl) (Nat.le_of_ble_eq_true rfl) ⟨mlX6_169, mfX6_blameOf⟩ dkX6_blameOf (Nat.le_of_ble_eq_true rfl) dX6_guest_42 rfl (kI ?_)
              refine v_aload_n C dX6_guest_45 rfl rfl rfl ?_
              refine v_iload_n C dX6_guest_46 rfl rfl rfl ?_
              refine V.tp hx ?_
              refine v_callV C (Nat.le_of_ble_eq_true rfl) rfl rfl (As := [.int (nI b)]) (rest := [.int (blaF (σ 4) (σ 6) (σ 7) (σ 8) n i)]) (kX6_blameOf n b σ hn h7 (by omega)) rfl (Nat.le_of_ble_eq_true rfl) (Nat.le_of_ble_eq_true rfl) ⟨mlX6_169, mfX6_blameOf⟩ dkX6_blameOf (Nat.le_of_ble_eq_true rfl) dX6_guest_47 rfl (kI ?_)
              refine v_icmp_ge (tgt := 55) C dX6_guest_50 (by decide) rfl (fun c50 => ?_) (fun c50 => ?_)
              · skip
                refine v_iinc (lv' := [(3, .int (nI (i + 1))), (2, .int x2), (0, .ref 0), (1, .int r)]) C dX6_guest_55 rfl (nI_inc i) (Nat.le_of_ble_eq_true rfl) rfl rfl ?_
                refine v_goto (tgt := 18) C dX6_guest_58 (by decide) ?_
                exact V.sub [0, 1, 2, 3] rfl (ih18 (i + 1) _ (by omega) (by omega) (by rw [hx]; simp [minN, hq, oI, cI, c33, c50]))
              · skip
                refine v_iload_n C dX6_guest_53 rfl rfl rfl ?_
                refine v_istore_n (lv' := [(2, .int (nI i)), (3, .int (nI i)), (0, .ref 0), (1, .int r)]) C dX6_guest_54 rfl (Nat.le_of_ble_eq_true rfl) rfl rfl ?_
                refine v_iinc (lv' := [(3, .int (nI (i + 1))), (2, .int (nI i)), (0, .ref 0), (1, .int r)]) C dX6_guest_55 rfl (nI_inc i) (Nat.le_of_ble_eq_true rfl) rfl rfl ?_
                refine v_goto (tgt := 18) C dX6_guest_58 (by decide) ?_
                exact V.sub [0, 1, 2, 3] rfl (ih18 (i + 1) _ (by omega) (by omega) (by simp [minN, hq, oI, cI, c33, c50]))
    exact V.sub [0, 1, 2, 3] rfl (lp18 (n + 1) 0 _ (by omega) (by omega) (rfl))
  · skip
    have c4 := bI_0 c4
    refine v_aload_n C dX6_guest_7 rfl rfl rfl ?_
    refine v_iconst (v := -1) C dX6_guest_8 (by decide) rfl ?_
    refine v_callV C (Nat.le_of_ble_eq_true rfl) rfl rfl (As := [.int (-1)]) (rest := []) (kX6_no (-1) 1 σ (by decide) (by decide)) rfl (Nat.le_of_ble_eq_true rfl) (Nat.le_of_ble_eq_true rfl) ⟨mlX6_79, mfX6_no⟩ dkX6_no (Nat.le_of_ble_eq_true rfl) dX6_guest_9 rfl (kI ?_)
    exact v_iret C dX6_guest_12 (by rw [hX]; exact fI_of (by simp [gueA, cI, c4]) (by simp [gueS, cI, c4]))
def bwiF (σ : St) (n p : Nat) (f : Int32) : Int32 := binF (σ 4) (upd (σ 6) p f) (σ 7) (σ 8) n 10
theorem s2_back (σ : St) (k p : Nat) (x : Int32) : s2 (s2 σ k p x) k p (σ k p) = σ := by
  funext a b
  rw [s2_get, s2_get]
  by_cases h : a = k ∧ b = p
  · rw [if_pos h, h.1, h.2]
  · rw [if_neg h, if_neg h]
theorem kX6_blameWith (n p : Nat) (f : Int32) (σ : St) (hn : σ 0 8 = nI n) (h7 : n ≤ 7) (hp : p < n) : Ct yX6_blameWith cX6_blameWith 5 (some .int) 3 [.ref 0, .int (nI p), .int f] σ (fI (bwiF σ n p f) σ) := by
  refine ct_of plX6 rfl (Nat.le_of_ble_eq_true rfl) (fun X hX C => ?_)
  show V X 0 [(0, .ref 0), (1, .int (nI p)), (2, .int f)] [] σ
  refine v_aload_n C dX6_blameWith_0 rfl rfl rfl ?_
  refine v_getR C (Nat.le_of_ble_eq_true rfl) rfl rfl hinX6 5 (Nat.le_of_ble_eq_true rfl) lkX6_25 rfl dX6_blameWith_1 rfl ?_
  refine v_iload_n C dX6_blameWith_4 rfl rfl rfl ?_
  refine v_iald (i := p) C (Nat.le_of_ble_eq_true rfl) rfl rfl (by omega) (by decide) dX6_blameWith_5 rfl ?_
  refine V.top (fun v6_1 ev6_1 => ?_)
  refine v_istore_n (lv' := [(3, .int v6_1), (0, .ref 0), (1, .int (nI p)), (2, .int f)]) C dX6_blameWith_6 rfl (Nat.le_of_ble_eq_true rfl) rfl rfl ?_
  refine v_aload_n C dX6_blameWith_7 rfl rfl rfl ?_
  refine v_getR C (Nat.le_of_ble_eq_true rfl) rfl rfl hinX6 5 (Nat.le_of_ble_eq_true rfl) lkX6_25 rfl dX6_blameWith_8 rfl ?_
  refine v_iload_n C dX6_blameWith_11 rfl rfl rfl ?_
  refine v_iload_n C dX6_blameWith_12 rfl rfl rfl ?_
  refine v_iast (i := p) C (Nat.le_of_ble_eq_true rfl) rfl rfl (by omega) (by decide) dX6_blameWith_13 rfl ?_
  refine V.nm (fun τ13_2 eτ13_2 => ?_)
  have hnt : τ13_2 0 8 = nI n := by rw [eτ13_2, s2_ne (by decide)]; exact hn
  refine v_aload_n C dX6_blameWith_14 rfl rfl rfl ?_
  refine v_bipush (v := 10) C dX6_blameWith_15 (by decide) rfl ?_
  refine v_callV C (Nat.le_of_ble_eq_true rfl) rfl rfl (As := [.int 10]) (rest := []) (kX6_blameIn n 10 τ13_2 hnt h7) rfl (Nat.le_of_ble_eq_true rfl) (Nat.le_of_ble_eq_true rfl) ⟨mlX6_178, mfX6_blameIn⟩ dkX6_blameIn (Nat.le_of_ble_eq_true rfl) dX6_blameWith_17 rfl (kI ?_)
  refine V.top (fun v20_3 ev20_3 => ?_)
  refine v_istore (lv' := [(4, .int v20_3), (3, .int v6_1), (0, .ref 0), (1, .int (nI p)), (2, .int f)]) C dX6_blameWith_20 (Nat.le_of_ble_eq_true rfl) rfl rfl ?_
  refine v_aload_n C dX6_blameWith_22 rfl rfl rfl ?_
  refine v_getR C (Nat.le_of_ble_eq_true rfl) rfl rfl hinX6 5 (Nat.le_of_ble_eq_true rfl) lkX6_25 rfl dX6_blameWith_23 rfl ?_
  refine v_iload_n C dX6_blameWith_26 rfl rfl rfl ?_
  refine v_iload_n C dX6_blameWith_27 rfl rfl rfl ?_
  refine v_iast (i := p) C (Nat.le_of_ble_eq_true rfl) rfl rfl (by omega) (by decide) dX6_blameWith_28 rfl ?_
  refine V.nm (fun τ28_4 eτ28_4 => ?_)
  refine v_iload C dX6_blameWith_29 rfl rfl ?_
  exact v_iret C dX6_blameWith_31 (by rw [hX]; exact fI_of (by rw [ev20_3, eτ13_2]; simp [bwiF, s2_row]) (by rw [eτ28_4, eτ13_2, ev6_1]; exact s2_back _ _ _ _))
def heaN (σ : St) (n : Nat) : Nat → Int32 × Int32
  | 0 => (-9, -9)
  | i + 1 => if σ 6 i = 9 then heaN σ n i else if (heaN σ n i).2 < bwiF σ n i (σ 6 i + 1) then (nI i, bwiF σ n i (σ 6 i + 1)) else heaN σ n i
theorem kX6_heavier (n : Nat) (σ : St) (hn : σ 0 8 = nI n) (h7 : n ≤ 7) : Ct yX6_heavier cX6_heavier 4 (some .int) 4 [.ref 0] σ (fI (heaN σ n n).1 σ) := by
  refine ct_of plX6 rfl (Nat.le_of_ble_eq_true rfl) (fun X hX C => ?_)
  show V X 0 [(0, .ref 0)] [] σ
  refine v_bipush (v := -9) C dX6_heavier_0 (by decide) rfl ?_
  refine v_istore_n (lv' := [(1, .int (-9)), (0, .ref 0)]) C dX6_heavier_2 rfl (Nat.le_of_ble_eq_true rfl) rfl rfl ?_
  refine v_bipush (v := -9) C dX6_heavier_3 (by decide) rfl ?_
  refine v_istore_n (lv' := [(2, .int (-9)), (1, .int (-9)), (0, .ref 0)]) C dX6_heavier_5 rfl (Nat.le_of_ble_eq_true rfl) rfl rfl ?_
  refine v_iconst (v := 0) C dX6_heavier_6 (by decide) rfl ?_
  refine v_istore_n (lv' := [(3, .int 0), (2, .int (-9)), (1, .int (-9)), (0, .ref 0)]) C dX6_heavier_7 rfl (Nat.le_of_ble_eq_true rfl) rfl rfl ?_
  have lp8 : ∀ (k i : Nat) (x1 : Int32) (x2 : Int32) , n < i + k → i ≤ n → x1 = (heaN σ n i).1 → x2 = (heaN σ n i).2 → V X 8 [(3, .int (nI i)), (2, .int x2), (1, .int x1), (0, .ref 0)] [] σ := by
    intro k
    induction k with
    | zero => intro i x1 x2 h1 h2; omega
    | succ k ih8 =>
      intro i x1 x2 h1 h2 ex1 ex2
      refine v_iload_n C dX6_heavier_8 rfl rfl rfl ?_
      refine v_aload_n C dX6_heavier_9 rfl rfl rfl ?_
      refine v_getI C (Nat.le_of_ble_eq_true rfl) rfl rfl hinX6 8 (Nat.le_of_ble_eq_true rfl) lkX6_65 rfl dX6_heavier_10 rfl ?_
      refine V.tp hn ?_
      refine v_icmp_ge (tgt := 69) C dX6_heavier_13 (by decide) rfl (fun c13 => ?_) (fun c13 => ?_)
      · skip
        have c13 := mt (nI_ltI (a := i) (b := n) (by omega) (by omega)).mpr c13
        refine v_iload_n C dX6_heavier_69 rfl rfl rfl ?_
        exact v_iret C dX6_heavier_70 (by rw [hX]; exact fI_of (by rw [ex1, show i = n by omega]) rfl)
      · skip
        have c13 := (nI_ltI (a := i) (b := n) (by omega) (by omega)).mp c13
        refine v_aload_n C dX6_heavier_16 rfl rfl rfl ?_
        refine v_getR C (Nat.le_of_ble_eq_true rfl) rfl rfl hinX6 5 (Nat.le_of_ble_eq_true rfl) lkX6_25 rfl dX6_heavier_17 rfl ?_
        refine v_iload_n C dX6_heavier_20 rfl rfl rfl ?_
        refine v_iald (i := i) C (Nat.le_of_ble_eq_true rfl) rfl rfl (by omega) (by decide) dX6_heavier_21 rfl ?_
        refine v_bipush (v := 9) C dX6_heavier_22 (by decide) rfl ?_
        refine v_icmp_eq (tgt := 63) C dX6_heavier_24 (by decide) rfl (fun c24 => ?_) (fun c24 => ?_)
        · skip
          refine v_iinc (lv' := [(3, .int (nI (i + 1))), (2, .int x2), (1, .int x1), (0, .ref 0)]) C dX6_heavier_63 rfl (nI_inc i) (Nat.le_of_ble_eq_true rfl) rfl rfl ?_
          refine v_goto (tgt := 8) C dX6_heavier_66 (by decide) ?_
          exact V.sub [0, 1, 2, 3] rfl (ih8 (i + 1) _ _ (by omega) (by omega) (by simp [heaN, ← ex1, ← ex2, c24]) (by simp [heaN, ← ex1, ← ex2, c24]))
        · skip
          refine v_aload_n C dX6_heavier_27 rfl rfl rfl ?_
          refine v_iload_n C dX6_heavier_28 rfl rfl rfl ?_
          refine v_aload_n C dX6_heavier_29 rfl rfl rfl ?_
          refine v_getR C (Nat.le_of_ble_eq_true rfl) rfl rfl hinX6 5 (Nat.le_of_ble_eq_true rfl) lkX6_25 rfl dX6_heavier_30 rfl ?_
          refine v_iload_n C dX6_heavier_33 rfl rfl rfl ?_
          refine v_iald (i := i) C (Nat.le_of_ble_eq_true rfl) rfl rfl (by omega) (by decide) dX6_heavier_34 rfl ?_
          refine v_iconst (v := 1) C dX6_heavier_35 (by decide) rfl ?_
          refine v_iadd C dX6_heavier_36 rfl ?_
          refine v_callV C (Nat.le_of_ble_eq_true rfl) rfl rfl (As := [.int (nI i), .int ((σ 6 i) + 1)]) (rest := []) (kX6_blameWith n i ((σ 6 i) + 1) σ hn h7 (by omega)) rfl (Nat.le_of_ble_eq_true rfl) (Nat.le_of_ble_eq_true rfl) ⟨mlX6_237, mfX6_blameWith⟩ dkX6_blameWith (Nat.le_of_ble_eq_true rfl) dX6_heavier_37 rfl (kI ?_)
          refine v_iload_n C dX6_heavier_40 rfl rfl rfl ?_
          refine v_icmp_gt (tgt := 47) C dX6_heavier_41 (by decide) rfl (fun c41 => ?_) (fun c41 => ?_)
          · skip
            refine v_iload_n C dX6_heavier_47 rfl rfl rfl ?_
            refine v_istore_n (lv' := [(1, .int (nI i)), (3, .int (nI i)), (2, .int x2), (0, .ref 0)]) C dX6_heavier_48 rfl (Nat.le_of_ble_eq_true rfl) rfl rfl ?_
            refine v_aload_n C dX6_heavier_49 rfl rfl rfl ?_
            refine v_iload_n C dX6_heavier_50 rfl rfl rfl ?_
            refine v_aload_n C dX6_heavier_51 rfl rfl rfl ?_
            refine v_getR C (Nat.le_of_ble_eq_true rfl) rfl rfl hinX6 5 (Nat.le_of_ble_eq_true rfl) lkX6_25 rfl dX6_heavier_52 rfl ?_
            refine v_iload_n C dX6_heavier_55 rfl rfl rfl ?_
            refine v_iald (i := i) C (Nat.le_of_ble_eq_true rfl) rfl rfl (by omega) (by decide) dX6_heavier_56 rfl ?_
            refine v_iconst (v := 1) C dX6_heavier_57 (by decide) rfl ?_
            refine v_iadd C dX6_heavier_58 rfl ?_
            refine v_callV C (Nat.le_of_ble_eq_true rfl) rfl rfl (As := [.int (nI i), .int ((σ 6 i) + 1)]) (rest := []) (kX6_blameWith n i ((σ 6 i) + 1) σ hn h7 (by omega)) rfl (Nat.le_of_ble_eq_true rfl) (Nat.le_of_ble_eq_true rfl) ⟨mlX6_237, mfX6_blameWith⟩ dkX6_blameWith (Nat.le_of_ble_eq_true rfl) dX6_heavier_59 rfl (kI ?_)
            refine V.top (fun v62_1 ev62_1 => ?_)
            refine v_istore_n (lv' := [(2, .int v62_1), (1, .int (nI i)), (3, .int (nI i)), (0, .ref 0)]) C dX6_heavier_62 rfl (Nat.le_of_ble_eq_true rfl) rfl rfl ?_
            refine v_iinc (lv' := [(3, .int (nI (i + 1))), (2, .int v62_1), (1, .int (nI i)), (0, .ref 0)]) C dX6_heavier_63 rfl (nI_inc i) (Nat.le_of_ble_eq_true rfl) rfl rfl ?_
            refine v_goto (tgt := 8) C dX6_heavier_66 (by decide) ?_
            exact V.sub [0, 1, 2, 3] rfl (ih8 (i + 1) _ _ (by omega) (by omega) (by simp [heaN, ← ex1, ← ex2, c24, c41]) (by simp [heaN, ← ex1, ← ex2, c24, c41, ev62_1]))
          · skip
            refine v_goto (tgt := 63) C dX6_heavier_44 (by decide) ?_
            refine v_iinc (lv' := [(3, .int (nI (i + 1))), (2, .int x2), (1, .int x1), (0, .ref 0)]) C dX6_heavier_63 rfl (nI_inc i) (Nat.le_of_ble_eq_true rfl) rfl rfl ?_
            refine v_goto (tgt := 8) C dX6_heavier_66 (by decide) ?_
            exact V.sub [0, 1, 2, 3] rfl (ih8 (i + 1) _ _ (by omega) (by omega) (by simp [heaN, ← ex1, ← ex2, c24, c41]) (by simp [heaN, ← ex1, ← ex2, c24, c41]))
  exact V.sub [0, 1, 2, 3] rfl (lp8 (n + 1) 0 _ _ (by omega) (by omega) (rfl) (rfl))
def makP (σ : St) (n p : Nat) (v : Int32) : Prop := ∃ f, f < 10 ∧ ¬ nI f = σ 6 p ∧ bwiF σ n p (nI f) = v
theorem kX6_makes (n p : Nat) (v : Int32) (σ : St) (hn : σ 0 8 = nI n) (h7 : n ≤ 7) (hp : p < n) : Ct yX6_makes cX6_makes 4 (some .boolean) 4 [.ref 0, .int (nI p), .int v] σ (fI (bI (makP σ n p v)) σ) := by
  refine ct_of plX6 rfl (Nat.le_of_ble_eq_true rfl) (fun X hX C => ?_)
  show V X 0 [(0, .ref 0), (1, .int (nI p)), (2, .int v)] [] σ
  refine v_iconst (v := 0) C dX6_makes_0 (by decide) rfl ?_
  refine v_istore_n (lv' := [(3, .int 0), (0, .ref 0), (1, .int (nI p)), (2, .int v)]) C dX6_makes_1 rfl (Nat.le_of_ble_eq_true rfl) rfl rfl ?_
  have lp2 : ∀ (k i : Nat)  , 10 < i + k → i ≤ 10 → (∀ f, f < i → ¬ (¬ nI f = σ 6 p ∧ bwiF σ n p (nI f) = v)) → V X 2 [(3, .int (nI i)), (0, .ref 0), (1, .int (nI p)), (2, .int v)] [] σ := by
    intro k
    induction k with
    | zero => intro i  h1 h2; omega
    | succ k ih2 =>
      intro i  h1 h2  hb
      refine v_iload_n C dX6_makes_2 rfl rfl rfl ?_
      refine v_bipush (v := 10) C dX6_makes_3 (by decide) rfl ?_
      refine v_icmp_ge (tgt := 36) C dX6_makes_5 (by decide) rfl (fun c5 => ?_) (fun c5 => ?_)
      · skip
        have c5 := mt (nI_ltI (a := i) (b := 10) (by omega) (by omega)).mpr c5
        refine v_iconst (v := 0) C dX6_makes_36 (by decide) rfl ?_
        exact v_zret C rfl dX6_makes_37 (by rw [hX]; exact fI_of (bI_f (fun ⟨f, h1, h2⟩ => hb f (by omega) h2)) rfl)
      · skip
        have c5 := (nI_ltI (a := i) (b := 10) (by omega) (by omega)).mp c5
        refine v_iload_n C dX6_makes_8 rfl rfl rfl ?_
        refine v_aload_n C dX6_makes_9 rfl rfl rfl ?_
        refine v_getR C (Nat.le_of_ble_eq_true rfl) rfl rfl hinX6 5 (Nat.le_of_ble_eq_true rfl) lkX6_25 rfl dX6_makes_10 rfl ?_
        refine v_iload_n C dX6_makes_13 rfl rfl rfl ?_
        refine v_iald (i := p) C (Nat.le_of_ble_eq_true rfl) rfl rfl (by omega) (by decide) dX6_makes_14 rfl ?_
        refine v_icmp_eq (tgt := 30) C dX6_makes_15 (by decide) rfl (fun c15 => ?_) (fun c15 => ?_)
        · skip
          refine v_iinc (lv' := [(3, .int (nI (i + 1))), (0, .ref 0), (1, .int (nI p)), (2, .int v)]) C dX6_makes_30 rfl (nI_inc i) (Nat.le_of_ble_eq_true rfl) rfl rfl ?_
          refine v_goto (tgt := 2) C dX6_makes_33 (by decide) ?_
          exact V.sub [0, 1, 2, 3] rfl (ih2 (i + 1)  (by omega) (by omega)  (by intro f hf; exact (Classical.em (f = i)).elim (fun h5 => by rw [h5]; simp [c15]) (fun h5 => hb f (by omega))))
        · skip
          refine v_aload_n C dX6_makes_18 rfl rfl rfl ?_
          refine v_iload_n C dX6_makes_19 rfl rfl rfl ?_
          refine v_iload_n C dX6_makes_20 rfl rfl rfl ?_
          refine v_callV C (Nat.le_of_ble_eq_true rfl) rfl rfl (As := [.int (nI p), .int (nI i)]) (rest := []) (kX6_blameWith n p (nI i) σ hn h7 (by omega)) rfl (Nat.le_of_ble_eq_true rfl) (Nat.le_of_ble_eq_true rfl) ⟨mlX6_237, mfX6_blameWith⟩ dkX6_blameWith (Nat.le_of_ble_eq_true rfl) dX6_makes_21 rfl (kI ?_)
          refine v_iload_n C dX6_makes_24 rfl rfl rfl ?_
          refine v_icmp_ne (tgt := 30) C dX6_makes_25 (by decide) rfl (fun c25 => ?_) (fun c25 => ?_)
          · skip
            refine v_iinc (lv' := [(3, .int (nI (i + 1))), (0, .ref 0), (1, .int (nI p)), (2, .int v)]) C dX6_makes_30 rfl (nI_inc i) (Nat.le_of_ble_eq_true rfl) rfl rfl ?_
            refine v_goto (tgt := 2) C dX6_makes_33 (by decide) ?_
            exact V.sub [0, 1, 2, 3] rfl (ih2 (i + 1)  (by omega) (by omega)  (by intro f hf; exact (Classical.em (f = i)).elim (fun h5 => by rw [h5]; simp [c15, c25]) (fun h5 => hb f (by omega))))
          · skip
            refine v_iconst (v := 1) C dX6_makes_28 (by decide) rfl ?_
            exact v_zret C rfl dX6_makes_29 (by rw [hX]; exact fI_of (bI_t ⟨i, by omega, c15, c25⟩) rfl)
  exact V.sub [0, 1, 2, 3] rfl (lp2 (10 + 1) 0  (by omega) (by omega)  (by intro f hf; omega))
noncomputable def whoG (σ : St) (n : Nat) (v : Int32) (p : Nat) : Int32 := cI (makP σ n p v) ((1 : Int32) <<< (nI p &&& 31)) 0
noncomputable def whoA (σ : St) (n : Nat) (v : Int32) : Int32 := if v < 0 then -4 else if 999 < v then -6 else orN (whoG σ n v) n
def rfS (σ : St) (v : Int32) (m : Int32) : St := if v < 0 then noS σ 4 else if m < v then noS σ 6 else σ
theorem kX6_whose (v : Int32) (n : Nat) (σ : St) (hn : σ 0 8 = nI n) (h7 : n ≤ 7) : Ct yX6_whose cX6_whose 5 (some .int) 5 [.ref 0, .int v] σ (fI (whoA σ n v) (rfS σ v 999)) := by
  refine ct_of plX6 rfl (Nat.le_of_ble_eq_true rfl) (fun X hX C => ?_)
  show V X 0 [(0, .ref 0), (1, .int v)] [] σ
  refine v_iload_n C dX6_whose_0 rfl rfl rfl ?_
  refine v_iconst (v := 0) C dX6_whose_1 (by decide) rfl ?_
  refine v_sipush (v := 999) C dX6_whose_2 (by decide) rfl ?_
  refine v_callS C (As := [.int v, .int 0, .int 999]) (rest := []) (kX6_bound v 0 999 σ) rfl (Nat.le_of_ble_eq_true rfl) (Nat.le_of_ble_eq_true rfl) ⟨mlX6_72, mfX6_bound⟩ dkX6_bound (Nat.le_of_ble_eq_true rfl) dX6_whose_5 rfl (kI ?_)
  rcases bnd_cases v 0 999 with ⟨hb, q1⟩ | ⟨hb, q1, q2⟩ | ⟨hb, q1, q2⟩
  · refine V.tp hb ?_
    refine v_istore_n (lv' := [(2, .int (-4)), (0, .ref 0), (1, .int v)]) C dX6_whose_8 rfl (Nat.le_of_ble_eq_true rfl) rfl rfl ?_
    refine v_iload_n C dX6_whose_9 rfl rfl rfl ?_
    refine v_if_eq (tgt := 19) C dX6_whose_10 (by decide) rfl (fun q => absurd q (by decide)) (fun _ => ?_)
    refine v_aload_n C dX6_whose_13 rfl rfl rfl ?_
    refine v_iload_n C dX6_whose_14 rfl rfl rfl ?_
    refine v_callV C (Nat.le_of_ble_eq_true rfl) rfl rfl (As := [.int (-4)]) (rest := []) (kX6_no (-4) 4 σ (by decide) (by decide)) rfl (Nat.le_of_ble_eq_true rfl) (Nat.le_of_ble_eq_true rfl) ⟨mlX6_79, mfX6_no⟩ dkX6_no (Nat.le_of_ble_eq_true rfl) dX6_whose_15 rfl (kI ?_)
    exact v_iret C dX6_whose_18 (by rw [hX]; exact fI_of (by simp [whoA, q1]) (by simp [rfS, q1]))
  · refine V.tp hb ?_
    refine v_istore_n (lv' := [(2, .int (-6)), (0, .ref 0), (1, .int v)]) C dX6_whose_8 rfl (Nat.le_of_ble_eq_true rfl) rfl rfl ?_
    refine v_iload_n C dX6_whose_9 rfl rfl rfl ?_
    refine v_if_eq (tgt := 19) C dX6_whose_10 (by decide) rfl (fun q => absurd q (by decide)) (fun _ => ?_)
    refine v_aload_n C dX6_whose_13 rfl rfl rfl ?_
    refine v_iload_n C dX6_whose_14 rfl rfl rfl ?_
    refine v_callV C (Nat.le_of_ble_eq_true rfl) rfl rfl (As := [.int (-6)]) (rest := []) (kX6_no (-6) 6 σ (by decide) (by decide)) rfl (Nat.le_of_ble_eq_true rfl) (Nat.le_of_ble_eq_true rfl) ⟨mlX6_79, mfX6_no⟩ dkX6_no (Nat.le_of_ble_eq_true rfl) dX6_whose_15 rfl (kI ?_)
    exact v_iret C dX6_whose_18 (by rw [hX]; exact fI_of (by simp [whoA, q1, q2]) (by simp [rfS, q1, q2]))
  · refine V.tp hb ?_
    refine v_istore_n (lv' := [(2, .int 0), (0, .ref 0), (1, .int v)]) C dX6_whose_8 rfl (Nat.le_of_ble_eq_true rfl) rfl rfl ?_
    refine v_iload_n C dX6_whose_9 rfl rfl rfl ?_
    refine v_if_eq (tgt := 19) C dX6_whose_10 (by decide) rfl (fun _ => ?_) (fun q => absurd q (by decide))
    refine v_iconst (v := 0) C dX6_whose_19 (by decide) rfl ?_
    refine v_istore_n (lv' := [(3, .int 0), (2, .int 0), (0, .ref 0), (1, .int v)]) C dX6_whose_20 rfl (Nat.le_of_ble_eq_true rfl) rfl rfl ?_
    refine v_iconst (v := 0) C dX6_whose_21 (by decide) rfl ?_
    refine v_istore (lv' := [(4, .int 0), (3, .int 0), (2, .int 0), (0, .ref 0), (1, .int v)]) C dX6_whose_22 (Nat.le_of_ble_eq_true rfl) rfl rfl ?_
    have lp24 : ∀ (k i : Nat) (x3 : Int32) , n < i + k → i ≤ n → x3 = orN (whoG σ n v) i → V X 24 [(4, .int (nI i)), (3, .int x3), (2, .int 0), (0, .ref 0), (1, .int v)] [] σ := by
      intro k
      induction k with
      | zero => intro i x3 h1 h2; omega
      | succ k ih24 =>
        intro i x3 h1 h2 ex3
        refine v_iload C dX6_whose_24 rfl rfl ?_
        refine v_aload_n C dX6_whose_26 rfl rfl rfl ?_
        refine v_getI C (Nat.le_of_ble_eq_true rfl) rfl rfl hinX6 8 (Nat.le_of_ble_eq_true rfl) lkX6_65 rfl dX6_whose_27 rfl ?_
        refine V.tp hn ?_
        refine v_icmp_ge (tgt := 60) C dX6_whose_30 (by decide) rfl (fun c30 => ?_) (fun c30 => ?_)
        · skip
          have c30 := mt (nI_ltI (a := i) (b := n) (by omega) (by omega)).mpr c30
          refine v_iload_n C dX6_whose_60 rfl rfl rfl ?_
          exact v_iret C dX6_whose_61 (by rw [hX]; exact fI_of (by simp [whoA, q1, q2, ex3, show i = n by omega]) (by simp [rfS, q1, q2]))
        · skip
          have c30 := (nI_ltI (a := i) (b := n) (by omega) (by omega)).mp c30
          refine v_iload_n C dX6_whose_33 rfl rfl rfl ?_
          refine v_aload_n C dX6_whose_34 rfl rfl rfl ?_
          refine v_iload C dX6_whose_35 rfl rfl ?_
          refine v_iload_n C dX6_whose_37 rfl rfl rfl ?_
          refine v_callV C (Nat.le_of_ble_eq_true rfl) rfl rfl (As := [.int (nI i), .int v]) (rest := [.int x3]) (kX6_makes n i v σ hn h7 (by omega)) rfl (Nat.le_of_ble_eq_true rfl) (Nat.le_of_ble_eq_true rfl) ⟨mlX6_243, mfX6_makes⟩ dkX6_makes (Nat.le_of_ble_eq_true rfl) dX6_whose_38 rfl (kI ?_)
          refine v_if_eq (tgt := 51) C dX6_whose_41 (by decide) rfl (fun c41 => ?_) (fun c41 => ?_)
          · skip
            have c41 := bI_0 c41
            refine v_iconst (v := 0) C dX6_whose_51 (by decide) rfl ?_
            refine v_ior C dX6_whose_52 rfl ?_
            refine V.top (fun v53_1 ev53_1 => ?_)
            refine v_istore_n (lv' := [(3, .int v53_1), (4, .int (nI i)), (2, .int 0), (0, .ref 0), (1, .int v)]) C dX6_whose_53 rfl (Nat.le_of_ble_eq_true rfl) rfl rfl ?_
            refine v_iinc (lv' := [(4, .int (nI (i + 1))), (3, .int v53_1), (2, .int 0), (0, .ref 0), (1, .int v)]) C dX6_whose_54 rfl (nI_inc i) (Nat.le_of_ble_eq_true rfl) rfl rfl ?_
            refine v_goto (tgt := 24) C dX6_whose_57 (by decide) ?_
            exact V.sub [0, 1, 2, 3, 4] rfl (ih24 (i + 1) _ (by omega) (by omega) (by rw [ev53_1, ex3]; simp [orN, whoG, cI, c41]))
          · skip
            have c41 := bI_n c41
            refine v_iconst (v := 1) C dX6_whose_44 (by decide) rfl ?_
            refine v_iload C dX6_whose_45 rfl rfl ?_
            refine v_ishl C dX6_whose_47 rfl ?_
            refine v_goto (tgt := 52) C dX6_whose_48 (by decide) ?_
            refine v_ior C dX6_whose_52 rfl ?_
            refine V.top (fun v53_2 ev53_2 => ?_)
            refine v_istore_n (lv' := [(3, .int v53_2), (4, .int (nI i)), (2, .int 0), (0, .ref 0), (1, .int v)]) C dX6_whose_53 rfl (Nat.le_of_ble_eq_true rfl) rfl rfl ?_
            refine v_iinc (lv' := [(4, .int (nI (i + 1))), (3, .int v53_2), (2, .int 0), (0, .ref 0), (1, .int v)]) C dX6_whose_54 rfl (nI_inc i) (Nat.le_of_ble_eq_true rfl) rfl rfl ?_
            refine v_goto (tgt := 24) C dX6_whose_57 (by decide) ?_
            exact V.sub [0, 1, 2, 3, 4] rfl (ih24 (i + 1) _ (by omega) (by omega) (by rw [ev53_2, ex3]; simp [orN, whoG, cI, c41]))
    exact V.sub [0, 1, 2, 3, 4] rfl (lp24 (n + 1) 0 0 (by omega) (by omega) (rfl))
def eveG (σ : St) (n p : Nat) (v : Int32) (f : Nat) : Int32 := if bwiF σ n p (nI f) < v then 0 else 1
def eveF (σ : St) (n : Nat) (v : Int32) (p : Nat) : Int32 := if sumN (eveG σ n p v) 10 < 5 then sumN (eveG σ n p v) 10 else 10 - sumN (eveG σ n p v) 10
def askA (σ : St) (n : Nat) (v : Int32) : Int32 := if v < 0 then -4 else if 999 < v then -6 else if n = 0 then -9 else nI (lasN (eveF σ n v) n)
theorem kX6_evenBy (n p : Nat) (v : Int32) (σ : St) (hn : σ 0 8 = nI n) (h7 : n ≤ 7) (hp : p < n) : Ct yX6_evenBy cX6_evenBy 5 (some .int) 4 [.ref 0, .int (nI p), .int v] σ (fI (eveF σ n v p) σ) := by
  refine ct_of plX6 rfl (Nat.le_of_ble_eq_true rfl) (fun X hX C => ?_)
  show V X 0 [(0, .ref 0), (1, .int (nI p)), (2, .int v)] [] σ
  refine v_iconst (v := 0) C dX6_evenBy_0 (by decide) rfl ?_
  refine v_istore_n (lv' := [(3, .int 0), (0, .ref 0), (1, .int (nI p)), (2, .int v)]) C dX6_evenBy_1 rfl (Nat.le_of_ble_eq_true rfl) rfl rfl ?_
  refine v_iconst (v := 0) C dX6_evenBy_2 (by decide) rfl ?_
  refine v_istore (lv' := [(4, .int 0), (3, .int 0), (0, .ref 0), (1, .int (nI p)), (2, .int v)]) C dX6_evenBy_3 (Nat.le_of_ble_eq_true rfl) rfl rfl ?_
  have lp5 : ∀ (k i : Nat) (x3 : Int32) , 10 < i + k → i ≤ 10 → x3 = sumN (eveG σ n p v) i → V X 5 [(4, .int (nI i)), (3, .int x3), (0, .ref 0), (1, .int (nI p)), (2, .int v)] [] σ := by
    intro k
    induction k with
    | zero => intro i x3 h1 h2; omega
    | succ k ih5 =>
      intro i x3 h1 h2 ex3
      refine v_iload C dX6_evenBy_5 rfl rfl ?_
      refine v_bipush (v := 10) C dX6_evenBy_7 (by decide) rfl ?_
      refine v_icmp_ge (tgt := 37) C dX6_evenBy_9 (by decide) rfl (fun c9 => ?_) (fun c9 => ?_)
      · skip
        have c9 := mt (nI_ltI (a := i) (b := 10) (by omega) (by omega)).mpr c9
        refine v_iload_n C dX6_evenBy_37 rfl rfl rfl ?_
        refine v_iconst (v := 5) C dX6_evenBy_38 (by decide) rfl ?_
        refine v_icmp_ge (tgt := 46) C dX6_evenBy_39 (by decide) rfl (fun c39 => ?_) (fun c39 => ?_)
        · skip
          refine v_bipush (v := 10) C dX6_evenBy_46 (by decide) rfl ?_
          refine v_iload_n C dX6_evenBy_48 rfl rfl rfl ?_
          refine v_isub C dX6_evenBy_49 rfl ?_
          exact v_iret C dX6_evenBy_50 (by rw [hX]; exact fI_of (by rw [show i = 10 by omega] at ex3; simp [eveF, ← ex3, c39]) rfl)
        · skip
          refine v_iload_n C dX6_evenBy_42 rfl rfl rfl ?_
          refine v_goto (tgt := 50) C dX6_evenBy_43 (by decide) ?_
          exact v_iret C dX6_evenBy_50 (by rw [hX]; exact fI_of (by rw [show i = 10 by omega] at ex3; simp [eveF, ← ex3, c39]) rfl)
      · skip
        have c9 := (nI_ltI (a := i) (b := 10) (by omega) (by omega)).mp c9
        refine v_iload_n C dX6_evenBy_12 rfl rfl rfl ?_
        refine v_aload_n C dX6_evenBy_13 rfl rfl rfl ?_
        refine v_iload_n C dX6_evenBy_14 rfl rfl rfl ?_
        refine v_iload C dX6_evenBy_15 rfl rfl ?_
        refine v_callV C (Nat.le_of_ble_eq_true rfl) rfl rfl (As := [.int (nI p), .int (nI i)]) (rest := [.int x3]) (kX6_blameWith n p (nI i) σ hn h7 (by omega)) rfl (Nat.le_of_ble_eq_true rfl) (Nat.le_of_ble_eq_true rfl) ⟨mlX6_237, mfX6_blameWith⟩ dkX6_blameWith (Nat.le_of_ble_eq_true rfl) dX6_evenBy_17 rfl (kI ?_)
        refine v_iload_n C dX6_evenBy_20 rfl rfl rfl ?_
        refine v_icmp_lt (tgt := 28) C dX6_evenBy_21 (by decide) rfl (fun c21 => ?_) (fun c21 => ?_)
        · skip
          refine v_iconst (v := 0) C dX6_evenBy_28 (by decide) rfl ?_
          refine v_iadd C dX6_evenBy_29 rfl ?_
          refine V.top (fun v30_1 ev30_1 => ?_)
          refine v_istore_n (lv' := [(3, .int v30_1), (4, .int (nI i)), (0, .ref 0), (1, .int (nI p)), (2, .int v)]) C dX6_evenBy_30 rfl (Nat.le_of_ble_eq_true rfl) rfl rfl ?_
          refine v_iinc (lv' := [(4, .int (nI (i + 1))), (3, .int v30_1), (0, .ref 0), (1, .int (nI p)), (2, .int v)]) C dX6_evenBy_31 rfl (nI_inc i) (Nat.le_of_ble_eq_true rfl) rfl rfl ?_
          refine v_goto (tgt := 5) C dX6_evenBy_34 (by decide) ?_
          exact V.sub [0, 1, 2, 3, 4] rfl (ih5 (i + 1) _ (by omega) (by omega) (by rw [ev30_1, ex3]; simp [sumN, eveG, c21]))
        · skip
          refine v_iconst (v := 1) C dX6_evenBy_24 (by decide) rfl ?_
          refine v_goto (tgt := 29) C dX6_evenBy_25 (by decide) ?_
          refine v_iadd C dX6_evenBy_29 rfl ?_
          refine V.top (fun v30_2 ev30_2 => ?_)
          refine v_istore_n (lv' := [(3, .int v30_2), (4, .int (nI i)), (0, .ref 0), (1, .int (nI p)), (2, .int v)]) C dX6_evenBy_30 rfl (Nat.le_of_ble_eq_true rfl) rfl rfl ?_
          refine v_iinc (lv' := [(4, .int (nI (i + 1))), (3, .int v30_2), (0, .ref 0), (1, .int (nI p)), (2, .int v)]) C dX6_evenBy_31 rfl (nI_inc i) (Nat.le_of_ble_eq_true rfl) rfl rfl ?_
          refine v_goto (tgt := 5) C dX6_evenBy_34 (by decide) ?_
          exact V.sub [0, 1, 2, 3, 4] rfl (ih5 (i + 1) _ (by omega) (by omega) (by rw [ev30_2, ex3]; simp [sumN, eveG, c21]))
  exact V.sub [0, 1, 2, 3, 4] rfl (lp5 (10 + 1) 0 0 (by omega) (by omega) (rfl))
