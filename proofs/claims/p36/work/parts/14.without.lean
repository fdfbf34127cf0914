/-! the check's class: ask, wider, bigger; without a piece -/
theorem kX6_ask (v : Int32) (n : Nat) (σ : St) (hn : σ 0 8 = nI n) (h7 : n ≤ 7) : Ct yX6_ask cX6_ask 5 (some .int) 5 [.ref 0, .int v] σ (fI (askA σ n v) (rfS σ v 999)) := by
  refine ct_of plX6 rfl (Nat.le_of_ble_eq_true rfl) (fun X hX C => ?_)
  show V X 0 [(0, .ref 0), (1, .int v)] [] σ
  refine v_iload_n C dX6_ask_0 rfl rfl rfl ?_
  refine v_iconst (v := 0) C dX6_ask_1 (by decide) rfl ?_
  refine v_sipush (v := 999) C dX6_ask_2 (by decide) rfl ?_
  refine v_callS C (As := [.int v, .int 0, .int 999]) (rest := []) (kX6_bound v 0 999 σ) rfl (Nat.le_of_ble_eq_true rfl) (Nat.le_of_ble_eq_true rfl) ⟨mlX6_72, mfX6_bound⟩ dkX6_bound (Nat.le_of_ble_eq_true rfl) dX6_ask_5 rfl (kI ?_)
  rcases bnd_cases v 0 999 with ⟨hb, q1⟩ | ⟨hb, q1, q2⟩ | ⟨hb, q1, q2⟩
  · refine V.tp hb ?_
    refine v_istore_n (lv' := [(2, .int (-4)), (0, .ref 0), (1, .int v)]) C dX6_ask_8 rfl (Nat.le_of_ble_eq_true rfl) rfl rfl ?_
    refine v_iload_n C dX6_ask_9 rfl rfl rfl ?_
    refine v_if_eq (tgt := 19) C dX6_ask_10 (by decide) rfl (fun q => absurd q (by decide)) (fun _ => ?_)
    refine v_aload_n C dX6_ask_13 rfl rfl rfl ?_
    refine v_iload_n C dX6_ask_14 rfl rfl rfl ?_
    refine v_callV C (Nat.le_of_ble_eq_true rfl) rfl rfl (As := [.int (-4)]) (rest := []) (kX6_no (-4) 4 σ (by decide) (by decide)) rfl (Nat.le_of_ble_eq_true rfl) (Nat.le_of_ble_eq_true rfl) ⟨mlX6_79, mfX6_no⟩ dkX6_no (Nat.le_of_ble_eq_true rfl) dX6_ask_15 rfl (kI ?_)
    exact v_iret C dX6_ask_18 (by rw [hX]; exact fI_of (by simp [askA, q1]) (by simp [rfS, q1]))
  · refine V.tp hb ?_
    refine v_istore_n (lv' := [(2, .int (-6)), (0, .ref 0), (1, .int v)]) C dX6_ask_8 rfl (Nat.le_of_ble_eq_true rfl) rfl rfl ?_
    refine v_iload_n C dX6_ask_9 rfl rfl rfl ?_
    refine v_if_eq (tgt := 19) C dX6_ask_10 (by decide) rfl (fun q => absurd q (by decide)) (fun _ => ?_)
    refine v_aload_n C dX6_ask_13 rfl rfl rfl ?_
    refine v_iload_n C dX6_ask_14 rfl rfl rfl ?_
    refine v_callV C (Nat.le_of_ble_eq_true rfl) rfl rfl (As := [.int (-6)]) (rest := []) (kX6_no (-6) 6 σ (by decide) (by decide)) rfl (Nat.le_of_ble_eq_true rfl) (Nat.le_of_ble_eq_true rfl) ⟨mlX6_79, mfX6_no⟩ dkX6_no (Nat.le_of_ble_eq_true rfl) dX6_ask_15 rfl (kI ?_)
    exact v_iret C dX6_ask_18 (by rw [hX]; exact fI_of (by simp [askA, q1, q2]) (by simp [rfS, q1, q2]))
  · refine V.tp hb ?_
    refine v_istore_n (lv' := [(2, .int 0), (0, .ref 0), (1, .int v)]) C dX6_ask_8 rfl (Nat.le_of_ble_eq_true rfl) rfl rfl ?_
    refine v_iload_n C dX6_ask_9 rfl rfl rfl ?_
    refine v_if_eq (tgt := 19) C dX6_ask_10 (by decide) rfl (fun _ => ?_) (fun q => absurd q (by decide))
    refine v_aload_n C dX6_ask_19 rfl rfl rfl ?_
    refine v_getI C (Nat.le_of_ble_eq_true rfl) rfl rfl hinX6 8 (Nat.le_of_ble_eq_true rfl) lkX6_65 rfl dX6_ask_20 rfl ?_
    refine V.tp hn ?_
    refine v_if_ne (tgt := 31) C dX6_ask_23 (by decide) rfl (fun c23 => ?_) (fun c23 => ?_)
    · skip
      have c23 := mt (nI_eq (a := n) (b := 0) (by omega) (by omega)).mpr c23
      refine v_iconst (v := 0) C dX6_ask_31 (by decide) rfl ?_
      refine v_istore_n (lv' := [(3, .int 0), (2, .int 0), (0, .ref 0), (1, .int v)]) C dX6_ask_32 rfl (Nat.le_of_ble_eq_true rfl) rfl rfl ?_
      refine v_iconst (v := 1) C dX6_ask_33 (by decide) rfl ?_
      refine v_istore (lv' := [(4, .int 1), (3, .int 0), (2, .int 0), (0, .ref 0), (1, .int v)]) C dX6_ask_34 (Nat.le_of_ble_eq_true rfl) rfl rfl ?_
      have lp36 : ∀ (k i : Nat) (x3 : Int32) , n < i + k → i ≤ n → x3 = nI (lasN (eveF σ n v) i) → (1 ≤ i) → V X 36 [(4, .int (nI i)), (3, .int x3), (2, .int 0), (0, .ref 0), (1, .int v)] [] σ := by
        intro k
        induction k with
        | zero => intro i x3 h1 h2; omega
        | succ k ih36 =>
          intro i x3 h1 h2 ex3 hi1
          have hfl := lasN_lt (eveF σ n v) i hi1
          refine v_iload C dX6_ask_36 rfl rfl ?_
          refine v_aload_n C dX6_ask_38 rfl rfl rfl ?_
          refine v_getI C (Nat.le_of_ble_eq_true rfl) rfl rfl hinX6 8 (Nat.le_of_ble_eq_true rfl) lkX6_65 rfl dX6_ask_39 rfl ?_
          refine V.tp hn ?_
          refine v_icmp_ge (tgt := 74) C dX6_ask_42 (by decide) rfl (fun c42 => ?_) (fun c42 => ?_)
          · skip
            have c42 := mt (nI_ltI (a := i) (b := n) (by omega) (by omega)).mpr c42
            refine v_iload_n C dX6_ask_74 rfl rfl rfl ?_
            refine V.tp ex3 ?_
            exact v_iret C dX6_ask_75 (by rw [hX]; exact fI_of (by simp [askA, q1, q2, show ¬ n = 0 by omega, show i = n by omega]) (by simp [rfS, q1, q2]))
          · skip
            have c42 := (nI_ltI (a := i) (b := n) (by omega) (by omega)).mp c42
            refine v_aload_n C dX6_ask_45 rfl rfl rfl ?_
            refine v_iload C dX6_ask_46 rfl rfl ?_
            refine v_iload_n C dX6_ask_48 rfl rfl rfl ?_
            refine v_callV C (Nat.le_of_ble_eq_true rfl) rfl rfl (As := [.int (nI i), .int v]) (rest := []) (kX6_evenBy n i v σ hn h7 (by omega)) rfl (Nat.le_of_ble_eq_true rfl) (Nat.le_of_ble_eq_true rfl) ⟨mlX6_246, mfX6_evenBy⟩ dkX6_evenBy (Nat.le_of_ble_eq_true rfl) dX6_ask_49 rfl (kI ?_)
            refine v_aload_n C dX6_ask_52 rfl rfl rfl ?_
            refine v_iload_n C dX6_ask_53 rfl rfl rfl ?_
            refine V.tp ex3 ?_
            refine v_iload_n C dX6_ask_54 rfl rfl rfl ?_
            refine v_callV C (Nat.le_of_ble_eq_true rfl) rfl rfl (As := [.int (nI (lasN (eveF σ n v) i)), .int v]) (rest := [.int (eveF σ n v i)]) (kX6_evenBy n (lasN (eveF σ n v) i) v σ hn h7 (by omega)) rfl (Nat.le_of_ble_eq_true rfl) (Nat.le_of_ble_eq_true rfl) ⟨mlX6_246, mfX6_evenBy⟩ dkX6_evenBy (Nat.le_of_ble_eq_true rfl) dX6_ask_55 rfl (kI ?_)
            refine v_icmp_le (tgt := 66) C dX6_ask_58 (by decide) rfl (fun c58 => ?_) (fun c58 => ?_)
            · skip
              refine v_iload_n C dX6_ask_66 rfl rfl rfl ?_
              refine V.tp ex3 ?_
              refine V.top (fun v67_1 ev67_1 => ?_)
              refine v_istore_n (lv' := [(3, .int v67_1), (4, .int (nI i)), (2, .int 0), (0, .ref 0), (1, .int v)]) C dX6_ask_67 rfl (Nat.le_of_ble_eq_true rfl) rfl rfl ?_
              refine v_iinc (lv' := [(4, .int (nI (i + 1))), (3, .int v67_1), (2, .int 0), (0, .ref 0), (1, .int v)]) C dX6_ask_68 rfl (nI_inc i) (Nat.le_of_ble_eq_true rfl) rfl rfl ?_
              refine v_goto (tgt := 36) C dX6_ask_71 (by decide) ?_
              exact V.sub [0, 1, 2, 3, 4] rfl (ih36 (i + 1) _ (by omega) (by omega) (by rw [ev67_1]; simp [lasN, show ¬ i = 0 by omega, c58]) (by omega))
            · skip
              refine v_iload C dX6_ask_61 rfl rfl ?_
              refine v_goto (tgt := 67) C dX6_ask_63 (by decide) ?_
              refine v_istore_n (lv' := [(3, .int (nI i)), (4, .int (nI i)), (2, .int 0), (0, .ref 0), (1, .int v)]) C dX6_ask_67 rfl (Nat.le_of_ble_eq_true rfl) rfl rfl ?_
              refine v_iinc (lv' := [(4, .int (nI (i + 1))), (3, .int (nI i)), (2, .int 0), (0, .ref 0), (1, .int v)]) C dX6_ask_68 rfl (nI_inc i) (Nat.le_of_ble_eq_true rfl) rfl rfl ?_
              refine v_goto (tgt := 36) C dX6_ask_71 (by decide) ?_
              exact V.sub [0, 1, 2, 3, 4] rfl (ih36 (i + 1) _ (by omega) (by omega) (by simp [lasN, show ¬ i = 0 by omega, c58]) (by omega))
      exact V.sub [0, 1, 2, 3, 4] rfl (lp36 (n + 1) 1 0 (by omega) (by omega) (by simp [lasN]; rfl) (by omega))
    · skip
      have c23 := (nI_eq (a := n) (b := 0) (by omega) (by omega)).mp c23
      refine v_bipush (v := -9) C dX6_ask_26 (by decide) rfl ?_
      refine v_goto (tgt := 32) C dX6_ask_28 (by decide) ?_
      refine v_istore_n (lv' := [(3, .int (-9)), (2, .int 0), (0, .ref 0), (1, .int v)]) C dX6_ask_32 rfl (Nat.le_of_ble_eq_true rfl) rfl rfl ?_
      refine v_iconst (v := 1) C dX6_ask_33 (by decide) rfl ?_
      refine v_istore (lv' := [(4, .int 1), (3, .int (-9)), (2, .int 0), (0, .ref 0), (1, .int v)]) C dX6_ask_34 (Nat.le_of_ble_eq_true rfl) rfl rfl ?_
      have hz : σ 0 8 = 0 := by rw [hn, show n = 0 by omega]; rfl
      refine v_iload C dX6_ask_36 rfl rfl ?_
      refine v_aload_n C dX6_ask_38 rfl rfl rfl ?_
      refine v_getI C (Nat.le_of_ble_eq_true rfl) rfl rfl hinX6 8 (Nat.le_of_ble_eq_true rfl) lkX6_65 rfl dX6_ask_39 rfl ?_
      refine V.tp hz ?_
      refine v_icmp_ge (tgt := 74) C dX6_ask_42 (by decide) rfl (fun _ => ?_) (fun q => absurd q (by decide))
      refine v_iload_n C dX6_ask_74 rfl rfl rfl ?_
      exact v_iret C dX6_ask_75 (by rw [hX]; exact fI_of (by simp [askA, q1, q2, show n = 0 by omega]) (by simp [rfS, q1, q2]))
noncomputable def dnF (P : Nat → Prop) (m : Nat) : Nat → Int32
  | 0 => -9
  | t + 1 => cI (P (m - t - 1)) (nI (m - t - 1)) (dnF P m t)
theorem dnF_step {P : Nat → Prop} {m i : Nat} (h : i + 1 ≤ m) : dnF P m (m - i) = cI (P i) (nI i) (dnF P m (m - (i + 1))) := by
  rw [show m - i = (m - (i + 1)) + 1 by omega, dnF, show m - (m - (i + 1)) - 1 = i by omega]
theorem s2_self (σ : St) (k p : Nat) : s2 σ k p (σ k p) = σ := by
  funext a b
  rw [s2_get]
  by_cases h : a = k ∧ b = p
  · rw [if_pos h, h.1, h.2]
  · rw [if_neg h]
theorem s2_s2 (σ : St) (k p : Nat) (x y : Int32) : s2 (s2 σ k p x) k p y = s2 σ k p y := by
  funext a b
  rw [s2_get, s2_get, s2_get]
  by_cases h : a = k ∧ b = p
  · rw [if_pos h, if_pos h]
  · rw [if_neg h, if_neg h, if_neg h]
def cwP (σ : St) (n p : Nat) (r : Int32) (f i : Nat) : Prop := carP (σ 4) (σ 5) (σ 8) (σ 2) (upd (σ 3) f (nI i)) n p r
def cbP (σ : St) (n p : Nat) (r : Int32) (i : Nat) : Prop := carP (σ 4) (σ 5) (σ 8) (upd (σ 2) (tn r) (nI i)) (σ 3) n p r
noncomputable def wdrA (σ : St) (n : Nat) (f p r : Int32) : Int32 := cI (floorP f ∧ pieceP p (nI n) ∧ roomP r) (dnF (cwP σ n (tn p) r (tn f)) 10 10) (-1)
noncomputable def wdrS (σ : St) (n : Nat) (f p r : Int32) : St := cI (floorP f ∧ pieceP p (nI n) ∧ roomP r) σ (noS σ 1)
noncomputable def bigA (σ : St) (n : Nat) (p r : Int32) : Int32 := cI (pieceP p (nI n) ∧ roomP r) (dnF (cbP σ n (tn p) r) 21 21) (-1)
noncomputable def bigS (σ : St) (n : Nat) (p r : Int32) : St := cI (pieceP p (nI n) ∧ roomP r) σ (noS σ 1)
theorem kX6_wider (f p r : Int32) (n : Nat) (σ : St) (hn : σ 0 8 = nI n) (h7 : n ≤ 7) : Ct yX6_wider cX6_wider 7 (some .int) 2 [.ref 0, .int f, .int p, .int r] σ (fI (wdrA σ n f p r) (wdrS σ n f p r)) := by
  refine ct_of plX6 rfl (Nat.le_of_ble_eq_true rfl) (fun X hX C => ?_)
  show V X 0 [(0, .ref 0), (1, .int f), (2, .int p), (3, .int r)] [] σ
  refine v_iload_n C dX6_wider_0 rfl rfl rfl ?_
  refine v_callS C (As := [.int f]) (rest := []) (kX6_isFloor f σ) rfl (Nat.le_of_ble_eq_true rfl) (Nat.le_of_ble_eq_true rfl) ⟨mlX6_175, mfX6_isFloor⟩ dkX6_isFloor (Nat.le_of_ble_eq_true rfl) dX6_wider_1 rfl (kI ?_)
  refine v_if_eq (tgt := 22) C dX6_wider_4 (by decide) rfl (fun c4 => ?_) (fun c4 => ?_)
  · skip
    have c4 := bI_0 c4
    refine v_aload_n C dX6_wider_22 rfl rfl rfl ?_
    refine v_iconst (v := -1) C dX6_wider_23 (by decide) rfl ?_
    refine v_callV C (Nat.le_of_ble_eq_true rfl) rfl rfl (As := [.int (-1)]) (rest := []) (kX6_no (-1) 1 σ (by decide) (by decide)) rfl (Nat.le_of_ble_eq_true rfl) (Nat.le_of_ble_eq_true rfl) ⟨mlX6_79, mfX6_no⟩ dkX6_no (Nat.le_of_ble_eq_true rfl) dX6_wider_24 rfl (kI ?_)
    exact v_iret C dX6_wider_27 (by rw [hX]; exact fI_of (by simp [wdrA, cI, ← hn, c4]) (by simp [wdrS, cI, ← hn, c4]))
  · skip
    have c4 := bI_n c4
    have hfl : floorP f := c4
    refine v_aload_n C dX6_wider_7 rfl rfl rfl ?_
    refine v_iload_n C dX6_wider_8 rfl rfl rfl ?_
    refine v_callV C (Nat.le_of_ble_eq_true rfl) rfl rfl (As := [.int p]) (rest := []) (kX6_isPiece p σ) rfl (Nat.le_of_ble_eq_true rfl) (Nat.le_of_ble_eq_true rfl) ⟨mlX6_116, mfX6_isPiece⟩ dkX6_isPiece (Nat.le_of_ble_eq_true rfl) dX6_wider_9 rfl (kI ?_)
    refine v_if_eq (tgt := 22) C dX6_wider_12 (by decide) rfl (fun c12 => ?_) (fun c12 => ?_)
    · skip
      have c12 := bI_0 c12
      refine v_aload_n C dX6_wider_22 rfl rfl rfl ?_
      refine v_iconst (v := -1) C dX6_wider_23 (by decide) rfl ?_
      refine v_callV C (Nat.le_of_ble_eq_true rfl) rfl rfl (As := [.int (-1)]) (rest := []) (kX6_no (-1) 1 σ (by decide) (by decide)) rfl (Nat.le_of_ble_eq_true rfl) (Nat.le_of_ble_eq_true rfl) ⟨mlX6_79, mfX6_no⟩ dkX6_no (Nat.le_of_ble_eq_true rfl) dX6_wider_24 rfl (kI ?_)
      exact v_iret C dX6_wider_27 (by rw [hX]; exact fI_of (by simp [wdrA, cI, ← hn, c4, c12]) (by simp [wdrS, cI, ← hn, c4, c12]))
    · skip
      have c12 := bI_n c12
      have hp1 : p = nI (tn p) := (piece_nat h7 (hn ▸ c12)).1
      have hp2 : tn p < n := (piece_nat h7 (hn ▸ c12)).2
      refine v_iload_n C dX6_wider_15 rfl rfl rfl ?_
      refine v_callS C (As := [.int r]) (rest := []) (kX6_isRoom r σ) rfl (Nat.le_of_ble_eq_true rfl) (Nat.le_of_ble_eq_true rfl) ⟨mlX6_68, mfX6_isRoom⟩ dkX6_isRoom (Nat.le_of_ble_eq_true rfl) dX6_wider_16 rfl (kI ?_)
      refine v_if_ne (tgt := 28) C dX6_wider_19 (by decide) rfl (fun c19 => ?_) (fun c19 => ?_)
      · skip
        have c19 := bI_n c19
        have hrm : roomP r := c19
        have hr : placeP r := Or.inl hrm
        have hall : floorP f ∧ pieceP p (nI n) ∧ roomP r := ⟨hfl, hn ▸ c12, hrm⟩
        refine v_aload_n C dX6_wider_28 rfl rfl rfl ?_
        refine v_getR C (Nat.le_of_ble_eq_true rfl) rfl rfl hinX6 2 (Nat.le_of_ble_eq_true rfl) lkX6_16 rfl dX6_wider_29 rfl ?_
        refine v_iload_n C dX6_wider_32 rfl rfl rfl ?_
        refine v_iald (i := (tn f)) C (Nat.le_of_ble_eq_true rfl) rfl (floor_nat hfl).1 (floor_nat hfl).2 (by decide) dX6_wider_33 rfl ?_
        refine V.top (fun v34_1 ev34_1 => ?_)
        refine v_istore (lv' := [(4, .int v34_1), (0, .ref 0), (1, .int f), (2, .int p), (3, .int r)]) C dX6_wider_34 (Nat.le_of_ble_eq_true rfl) rfl rfl ?_
        refine v_bipush (v := -9) C dX6_wider_36 (by decide) rfl ?_
        refine v_istore (lv' := [(5, .int (-9)), (4, .int v34_1), (0, .ref 0), (1, .int f), (2, .int p), (3, .int r)]) C dX6_wider_38 (Nat.le_of_ble_eq_true rfl) rfl rfl ?_
        refine v_bipush (v := 9) C dX6_wider_40 (by decide) rfl ?_
        refine v_istore (lv' := [(6, .int 9), (5, .int (-9)), (4, .int v34_1), (0, .ref 0), (1, .int f), (2, .int p), (3, .int r)]) C dX6_wider_42 (Nat.le_of_ble_eq_true rfl) rfl rfl ?_
        have lp44 : ∀ (i : Nat) (w44 : Int32) (x5 : Int32) (τ : St), i ≤ 10 → w44 = nI i - 1 → x5 = dnF (fun i => cwP σ n (tn p) r (tn f) i) 10 (10 - i) → (∃ x, τ = s2 σ 3 (tn f) x) → V X 44 [(6, .int w44), (5, .int x5), (4, .int v34_1), (0, .ref 0), (1, .int f), (2, .int p), (3, .int r)] [] τ := by
          intro i
          induction i with
          | zero =>
            intro w44 x5 τ h1 ew44 ex5 eτ
            have hv44 : w44 = -1 := by rw [ew44]; decide
            refine v_iload C dX6_wider_44 rfl rfl ?_
            refine V.tp hv44 ?_
            refine v_if_lt (tgt := 81) C dX6_wider_46 (by decide) rfl (fun _ => ?_) (fun q => absurd q (by decide))
            refine v_aload_n C dX6_wider_81 rfl rfl rfl ?_
            refine v_getR C (Nat.le_of_ble_eq_true rfl) rfl rfl hinX6 2 (Nat.le_of_ble_eq_true rfl) lkX6_16 rfl dX6_wider_82 rfl ?_
            refine v_iload_n C dX6_wider_85 rfl rfl rfl ?_
            refine v_iload C dX6_wider_86 rfl rfl ?_
            refine v_iast (i := (tn f)) C (Nat.le_of_ble_eq_true rfl) rfl (floor_nat hfl).1 (floor_nat hfl).2 (by decide) dX6_wider_88 rfl ?_
            refine V.nm (fun τ88_2 eτ88_2 => ?_)
            refine v_iload C dX6_wider_89 rfl rfl ?_
            exact v_iret C dX6_wider_91 (by rw [hX]; exact fI_of (by rw [wdrA, cI_t hall, ex5]) (by rw [wdrS, cI_t hall]; obtain ⟨x, hx⟩ := eτ; rw [eτ88_2, hx, s2_s2, ev34_1, s2_self]))
          | succ i ih44 =>
            intro w44 x5 τ h1 ew44 ex5 eτ
            have hv44 : w44 = nI i := by rw [ew44]; exact nI_pred i
            refine v_iload C dX6_wider_44 rfl rfl ?_
            refine V.tp hv44 ?_
            refine v_if_lt (tgt := 81) C dX6_wider_46 (by decide) rfl (fun q => absurd q (nI_pos (by omega))) (fun _ => ?_)
            refine v_aload_n C dX6_wider_49 rfl rfl rfl ?_
            refine v_getR C (Nat.le_of_ble_eq_true rfl) rfl rfl hinX6 2 (Nat.le_of_ble_eq_true rfl) lkX6_16 rfl dX6_wider_50 rfl ?_
            refine v_iload_n C dX6_wider_53 rfl rfl rfl ?_
            refine v_iload C dX6_wider_54 rfl rfl ?_
            refine V.tp hv44 ?_
            refine v_iast (i := (tn f)) C (Nat.le_of_ble_eq_true rfl) rfl (floor_nat hfl).1 (floor_nat hfl).2 (by decide) dX6_wider_56 rfl ?_
            refine V.nm (fun τ56_3 eτ56_3 => ?_)
            have hte : τ56_3 = s2 σ 3 (tn f) (nI i) := by obtain ⟨x, hx⟩ := eτ; rw [eτ56_3, hx, s2_s2]
            have hnt : τ56_3 0 8 = nI n := by rw [hte, s2_ne (by decide)]; exact hn
            refine v_aload_n C dX6_wider_57 rfl rfl rfl ?_
            refine v_iload_n C dX6_wider_58 rfl rfl rfl ?_
            refine V.tp hp1 ?_
            refine v_iload_n C dX6_wider_59 rfl rfl rfl ?_
            refine v_callV C (Nat.le_of_ble_eq_true rfl) rfl rfl (As := [.int (nI (tn p)), .int r]) (rest := []) (kX6_canCarry n (tn p) r τ56_3 hnt h7 (by omega) hr) rfl (Nat.le_of_ble_eq_true rfl) (Nat.le_of_ble_eq_true rfl) ⟨mlX6_122, mfX6_canCarry⟩ dkX6_canCarry (Nat.le_of_ble_eq_true rfl) dX6_wider_60 rfl (kI ?_)
            refine V.tp (show bI (carP (τ56_3 4) (τ56_3 5) (τ56_3 8) (τ56_3 2) (τ56_3 3) n (tn p) r) = bI (cwP σ n (tn p) r (tn f) i) from by rw [hte]; rfl) ?_
            refine v_if_eq (tgt := 71) C dX6_wider_63 (by decide) rfl (fun c63 => ?_) (fun c63 => ?_)
            · skip
              have c63 := bI_0 c63
              refine v_iload C dX6_wider_71 rfl rfl ?_
              refine v_istore (lv' := [(5, .int x5), (6, .int w44), (4, .int v34_1), (0, .ref 0), (1, .int f), (2, .int p), (3, .int r)]) C dX6_wider_73 (Nat.le_of_ble_eq_true rfl) rfl rfl ?_
              obtain ⟨v75_4, ev75_4⟩ : ∃ y : Int32, y = w44 + (-1) := ⟨_, rfl⟩
              refine v_iinc (lv' := [(6, .int v75_4), (5, .int x5), (4, .int v34_1), (0, .ref 0), (1, .int f), (2, .int p), (3, .int r)]) C dX6_wider_75 rfl (by rw [ev75_4]; rfl) (Nat.le_of_ble_eq_true rfl) rfl rfl ?_
              refine v_goto (tgt := 44) C dX6_wider_78 (by decide) ?_
              exact V.sub [0, 1, 2, 3, 4, 5, 6] rfl (ih44 _ _ _ (by omega) (by rw [ev75_4, hv44, Int32.sub_eq_add_neg]) (by rw [dnF_step (by omega), cI_f c63]; exact ex5) (⟨_, hte⟩))
            · skip
              have c63 := bI_n c63
              refine v_iload C dX6_wider_66 rfl rfl ?_
              refine V.tp hv44 ?_
              refine v_goto (tgt := 73) C dX6_wider_68 (by decide) ?_
              refine v_istore (lv' := [(5, .int (nI i)), (6, .int w44), (4, .int v34_1), (0, .ref 0), (1, .int f), (2, .int p), (3, .int r)]) C dX6_wider_73 (Nat.le_of_ble_eq_true rfl) rfl rfl ?_
              obtain ⟨v75_5, ev75_5⟩ : ∃ y : Int32, y = w44 + (-1) := ⟨_, rfl⟩
              refine v_iinc (lv' := [(6, .int v75_5), (5, .int (nI i)), (4, .int v34_1), (0, .ref 0), (1, .int f), (2, .int p), (3, .int r)]) C dX6_wider_75 rfl (by rw [ev75_5]; rfl) (Nat.le_of_ble_eq_true rfl) rfl rfl ?_
              refine v_goto (tgt := 44) C dX6_wider_78 (by decide) ?_
              exact V.sub [0, 1, 2, 3, 4, 5, 6] rfl (ih44 _ _ _ (by omega) (by rw [ev75_5, hv44, Int32.sub_eq_add_neg]) (by rw [dnF_step (by omega), cI_t c63]) (⟨_, hte⟩))
        exact V.sub [0, 1, 2, 3, 4, 5, 6] rfl (lp44 10 _ _ _ (by omega) (by decide) (rfl) (⟨_, (s2_self _ _ _).symm⟩))
      · skip
        have c19 := bI_0 c19
        refine v_aload_n C dX6_wider_22 rfl rfl rfl ?_
        refine v_iconst (v := -1) C dX6_wider_23 (by decide) rfl ?_
        refine v_callV C (Nat.le_of_ble_eq_true rfl) rfl rfl (As := [.int (-1)]) (rest := []) (kX6_no (-1) 1 σ (by decide) (by decide)) rfl (Nat.le_of_ble_eq_true rfl) (Nat.le_of_ble_eq_true rfl) ⟨mlX6_79, mfX6_no⟩ dkX6_no (Nat.le_of_ble_eq_true rfl) dX6_wider_24 rfl (kI ?_)
        exact v_iret C dX6_wider_27 (by rw [hX]; exact fI_of (by simp [wdrA, cI, ← hn, c4, c12, c19]) (by simp [wdrS, cI, ← hn, c4, c12, c19]))
theorem kX6_bigger (p r : Int32) (n : Nat) (σ : St) (hn : σ 0 8 = nI n) (h7 : n ≤ 7) : Ct yX6_bigger cX6_bigger 6 (some .int) 2 [.ref 0, .int p, .int r] σ (fI (bigA σ n p r) (bigS σ n p r)) := by
  refine ct_of plX6 rfl (Nat.le_of_ble_eq_true rfl) (fun X hX C => ?_)
  show V X 0 [(0, .ref 0), (1, .int p), (2, .int r)] [] σ
  refine v_aload_n C dX6_bigger_0 rfl rfl rfl ?_
  refine v_iload_n C dX6_bigger_1 rfl rfl rfl ?_
  refine v_callV C (Nat.le_of_ble_eq_true rfl) rfl rfl (As := [.int p]) (rest := []) (kX6_isPiece p σ) rfl (Nat.le_of_ble_eq_true rfl) (Nat.le_of_ble_eq_true rfl) ⟨mlX6_116, mfX6_isPiece⟩ dkX6_isPiece (Nat.le_of_ble_eq_true rfl) dX6_bigger_2 rfl (kI ?_)
  refine v_if_eq (tgt := 15) C dX6_bigger_5 (by decide) rfl (fun c5 => ?_) (fun c5 => ?_)
  · skip
    have c5 := bI_0 c5
    refine v_aload_n C dX6_bigger_15 rfl rfl rfl ?_
    refine v_iconst (v := -1) C dX6_bigger_16 (by decide) rfl ?_
    refine v_callV C (Nat.le_of_ble_eq_true rfl) rfl rfl (As := [.int (-1)]) (rest := []) (kX6_no (-1) 1 σ (by decide) (by decide)) rfl (Nat.le_of_ble_eq_true rfl) (Nat.le_of_ble_eq_true rfl) ⟨mlX6_79, mfX6_no⟩ dkX6_no (Nat.le_of_ble_eq_true rfl) dX6_bigger_17 rfl (kI ?_)
    exact v_iret C dX6_bigger_20 (by rw [hX]; exact fI_of (by simp [bigA, cI, ← hn, c5]) (by simp [bigS, cI, ← hn, c5]))
  · skip
    have c5 := bI_n c5
    have hp1 : p = nI (tn p) := (piece_nat h7 (hn ▸ c5)).1
    have hp2 : tn p < n := (piece_nat h7 (hn ▸ c5)).2
    refine v_iload_n C dX6_bigger_8 rfl rfl rfl ?_
    refine v_callS C (As := [.int r]) (rest := []) (kX6_isRoom r σ) rfl (Nat.le_of_ble_eq_true rfl) (Nat.le_of_ble_eq_true rfl) ⟨mlX6_68, mfX6_isRoom⟩ dkX6_isRoom (Nat.le_of_ble_eq_true rfl) dX6_bigger_9 rfl (kI ?_)
    refine v_if_ne (tgt := 21) C dX6_bigger_12 (by decide) rfl (fun c12 => ?_) (fun c12 => ?_)
    · skip
      have c12 := bI_n c12
      have hrm : roomP r := c12
      have hr : placeP r := Or.inl hrm
      have hall : pieceP p (nI n) ∧ roomP r := ⟨hn ▸ c5, hrm⟩
      refine v_aload_n C dX6_bigger_21 rfl rfl rfl ?_
      refine v_getR C (Nat.le_of_ble_eq_true rfl) rfl rfl hinX6 1 (Nat.le_of_ble_eq_true rfl) lkX6_13 rfl dX6_bigger_22 rfl ?_
      refine v_iload_n C dX6_bigger_25 rfl rfl rfl ?_
      refine v_iald (i := (tn r)) C (Nat.le_of_ble_eq_true rfl) rfl (room_nat hrm).1 (room_nat hrm).2 (by decide) dX6_bigger_26 rfl ?_
      refine V.top (fun v27_1 ev27_1 => ?_)
      refine v_istore_n (lv' := [(3, .int v27_1), (0, .ref 0), (1, .int p), (2, .int r)]) C dX6_bigger_27 rfl (Nat.le_of_ble_eq_true rfl) rfl rfl ?_
      refine v_bipush (v := -9) C dX6_bigger_28 (by decide) rfl ?_
      refine v_istore (lv' := [(4, .int (-9)), (3, .int v27_1), (0, .ref 0), (1, .int p), (2, .int r)]) C dX6_bigger_30 (Nat.le_of_ble_eq_true rfl) rfl rfl ?_
      refine v_bipush (v := 20) C dX6_bigger_32 (by decide) rfl ?_
      refine v_istore (lv' := [(5, .int 20), (4, .int (-9)), (3, .int v27_1), (0, .ref 0), (1, .int p), (2, .int r)]) C dX6_bigger_34 (Nat.le_of_ble_eq_true rfl) rfl rfl ?_
      have lp36 : ∀ (i : Nat) (w36 : Int32) (x5 : Int32) (τ : St), i ≤ 21 → w36 = nI i - 1 → x5 = dnF (fun i => cbP σ n (tn p) r i) 21 (21 - i) → (∃ x, τ = s2 σ 2 (tn r) x) → V X 36 [(5, .int w36), (4, .int x5), (3, .int v27_1), (0, .ref 0), (1, .int p), (2, .int r)] [] τ := by
        intro i
        induction i with
        | zero =>
          intro w36 x5 τ h1 ew36 ex5 eτ
          have hv36 : w36 = -1 := by rw [ew36]; decide
          refine v_iload C dX6_bigger_36 rfl rfl ?_
          refine V.tp hv36 ?_
          refine v_if_lt (tgt := 73) C dX6_bigger_38 (by decide) rfl (fun _ => ?_) (fun q => absurd q (by decide))
          refine v_aload_n C dX6_bigger_73 rfl rfl rfl ?_
          refine v_getR C (Nat.le_of_ble_eq_true rfl) rfl rfl hinX6 1 (Nat.le_of_ble_eq_true rfl) lkX6_13 rfl dX6_bigger_74 rfl ?_
          refine v_iload_n C dX6_bigger_77 rfl rfl rfl ?_
          refine v_iload_n C dX6_bigger_78 rfl rfl rfl ?_
          refine v_iast (i := (tn r)) C (Nat.le_of_ble_eq_true rfl) rfl (room_nat hrm).1 (room_nat hrm).2 (by decide) dX6_bigger_79 rfl ?_
          refine V.nm (fun τ79_2 eτ79_2 => ?_)
          refine v_iload C dX6_bigger_80 rfl rfl ?_
          exact v_iret C dX6_bigger_82 (by rw [hX]; exact fI_of (by rw [bigA, cI_t hall, ex5]) (by rw [bigS, cI_t hall]; obtain ⟨x, hx⟩ := eτ; rw [eτ79_2, hx, s2_s2, ev27_1, s2_self]))
        | succ i ih36 =>
          intro w36 x5 τ h1 ew36 ex5 eτ
          have hv36 : w36 = nI i := by rw [ew36]; exact nI_pred i
          refine v_iload C dX6_bigger_36 rfl rfl ?_
          refine V.tp hv36 ?_
          refine v_if_lt (tgt := 73) C dX6_bigger_38 (by decide) rfl (fun q => absurd q (nI_pos (by omega))) (fun _ => ?_)
          refine v_aload_n C dX6_bigger_41 rfl rfl rfl ?_
          refine v_getR C (Nat.le_of_ble_eq_true rfl) rfl rfl hinX6 1 (Nat.le_of_ble_eq_true rfl) lkX6_13 rfl dX6_bigger_42 rfl ?_
          refine v_iload_n C dX6_bigger_45 rfl rfl rfl ?_
          refine v_iload C dX6_bigger_46 rfl rfl ?_
          refine V.tp hv36 ?_
          refine v_iast (i := (tn r)) C (Nat.le_of_ble_eq_true rfl) rfl (room_nat hrm).1 (room_nat hrm).2 (by decide) dX6_bigger_48 rfl ?_
          refine V.nm (fun τ48_3 eτ48_3 => ?_)
          have hte : τ48_3 = s2 σ 2 (tn r) (nI i) := by obtain ⟨x, hx⟩ := eτ; rw [eτ48_3, hx, s2_s2]
          have hnt : τ48_3 0 8 = nI n := by rw [hte, s2_ne (by decide)]; exact hn
          refine v_aload_n C dX6_bigger_49 rfl rfl rfl ?_
          refine v_iload_n C dX6_bigger_50 rfl rfl rfl ?_
          refine V.tp hp1 ?_
          refine v_iload_n C dX6_bigger_51 rfl rfl rfl ?_
          refine v_callV C (Nat.le_of_ble_eq_true rfl) rfl rfl (As := [.int (nI (tn p)), .int r]) (rest := []) (kX6_canCarry n (tn p) r τ48_3 hnt h7 (by omega) hr) rfl (Nat.le_of_ble_eq_true rfl) (Nat.le_of_ble_eq_true rfl) ⟨mlX6_122, mfX6_canCarry⟩ dkX6_canCarry (Nat.le_of_ble_eq_true rfl) dX6_bigger_52 rfl (kI ?_)
          refine V.tp (show bI (carP (τ48_3 4) (τ48_3 5) (τ48_3 8) (τ48_3 2) (τ48_3 3) n (tn p) r) = bI (cbP σ n (tn p) r i) from by rw [hte]; rfl) ?_
          refine v_if_eq (tgt := 63) C dX6_bigger_55 (by decide) rfl (fun c55 => ?_) (fun c55 => ?_)
          · skip
            have c55 := bI_0 c55
            refine v_iload C dX6_bigger_63 rfl rfl ?_
            refine v_istore (lv' := [(4, .int x5), (5, .int w36), (3, .int v27_1), (0, .ref 0), (1, .int p), (2, .int r)]) C dX6_bigger_65 (Nat.le_of_ble_eq_true rfl) rfl rfl ?_
            obtain ⟨v67_4, ev67_4⟩ : ∃ y : Int32, y = w36 + (-1) := ⟨_, rfl⟩
            refine v_iinc (lv' := [(5, .int v67_4), (4, .int x5), (3, .int v27_1), (0, .ref 0), (1, .int p), (2, .int r)]) C dX6_bigger_67 rfl (by rw [ev67_4]; rfl) (Nat.le_of_ble_eq_true rfl) rfl rfl ?_
            refine v_goto (tgt := 36) C dX6_bigger_70 (by decide) ?_
            exact V.sub [0, 1, 2, 3, 4, 5] rfl (ih36 _ _ _ (by omega) (by rw [ev67_4, hv36, Int32.sub_eq_add_neg]) (by rw [dnF_step (by omega), cI_f c55]; exact ex5) (⟨_, hte⟩))
          · skip
            have c55 := bI_n c55
            refine v_iload C dX6_bigger_58 rfl rfl ?_
            refine V.tp hv36 ?_
            refine v_goto (tgt := 65) C dX6_bigger_60 (by decide) ?_
            refine v_istore (lv' := [(4, .int (nI i)), (5, .int w36), (3, .int v27_1), (0, .ref 0), (1, .int p), (2, .int r)]) C dX6_bigger_65 (Nat.le_of_ble_eq_true rfl) rfl rfl ?_
            obtain ⟨v67_5, ev67_5⟩ : ∃ y : Int32, y = w36 + (-1) := ⟨_, rfl⟩
            refine v_iinc (lv' := [(5, .int v67_5), (4, .int (nI i)), (3, .int v27_1), (0, .ref 0), (1, .int p), (2, .int r)]) C dX6_bigger_67 rfl (by rw [ev67_5]; rfl) (Nat.le_of_ble_eq_true rfl) rfl rfl ?_
            refine v_goto (tgt := 36) C dX6_bigger_70 (by decide) ?_
            exact V.sub [0, 1, 2, 3, 4, 5] rfl (ih36 _ _ _ (by omega) (by rw [ev67_5, hv36, Int32.sub_eq_add_neg]) (by rw [dnF_step (by omega), cI_t c55]) (⟨_, hte⟩))
      exact V.sub [0, 1, 2, 3, 4, 5] rfl (lp36 21 _ _ _ (by omega) (by decide) (rfl) (⟨_, (s2_self _ _ _).symm⟩))
    · skip
      have c12 := bI_0 c12
      refine v_aload_n C dX6_bigger_15 rfl rfl rfl ?_
      refine v_iconst (v := -1) C dX6_bigger_16 (by decide) rfl ?_
      refine v_callV C (Nat.le_of_ble_eq_true rfl) rfl rfl (As := [.int (-1)]) (rest := []) (kX6_no (-1) 1 σ (by decide) (by decide)) rfl (Nat.le_of_ble_eq_true rfl) (Nat.le_of_ble_eq_true rfl) ⟨mlX6_79, mfX6_no⟩ dkX6_no (Nat.le_of_ble_eq_true rfl) dX6_bigger_17 rfl (kI ?_)
      exact v_iret C dX6_bigger_20 (by rw [hX]; exact fI_of (by simp [bigA, cI, ← hn, c5, c12]) (by simp [bigS, cI, ← hn, c5, c12]))
def delR (i p : Nat) (f : Nat → Int32) : Nat → Int32 := fun k => if p ≤ k ∧ k < i then f (k + 1) else f k
theorem delR_0 (p : Nat) (f : Nat → Int32) : delR p p f = f := by
  funext k
  unfold delR
  rw [if_neg (by omega)]
theorem delR_at {i p : Nat} {f : Nat → Int32} (k : Nat) (h : i ≤ k) : delR i p f k = f k := by
  unfold delR
  rw [if_neg (by omega)]
theorem delR_step {i p : Nat} (f : Nat → Int32) (h : p ≤ i) : upd (delR i p f) i (f (i + 1)) = delR (i + 1) p f := by
  funext k
  unfold upd delR
  by_cases e : k = i
  · subst e; rw [if_pos rfl, if_pos (by omega)]
  · rw [if_neg e]
    by_cases g : p ≤ k ∧ k < i
    · rw [if_pos g, if_pos (by omega)]
    · rw [if_neg g, if_neg (by omega)]
def delS (σ : St) (m p i : Nat) : St := fun a => if a = 0 then upd (σ 0) 8 (nI m) else if 4 ≤ a ∧ a ≤ 8 then delR i p (σ a) else σ a
theorem delS_0 (σ : St) (m p : Nat) : delS σ m p p = s2 σ 0 8 (nI m) := by
  funext a
  unfold delS
  by_cases h0 : a = 0
  · subst h0; rw [if_pos rfl, s2_eq]
  · rw [if_neg h0, s2_ne h0]
    by_cases h : 4 ≤ a ∧ a ≤ 8
    · rw [if_pos h, delR_0]
    · rw [if_neg h]
theorem delS_r (σ : St) (m p i a : Nat) (h : 4 ≤ a) (h2 : a ≤ 8) : delS σ m p i a = delR i p (σ a) := by
  unfold delS; rw [if_neg (by omega), if_pos ⟨h, h2⟩]
theorem delS_8 (σ : St) (m p i : Nat) : delS σ m p i 0 8 = nI m := by simp [delS, upd]
theorem delS_o (σ : St) (m p i a : Nat) (h0 : a ≠ 0) (h : a < 4 ∨ 8 < a) : delS σ m p i a = σ a := by
  unfold delS; rw [if_neg h0, if_neg (by omega)]
theorem delS_z (σ : St) (m p i j : Nat) (h : j ≠ 8) : delS σ m p i 0 j = σ 0 j := by simp [delS, upd, h]
theorem delS_step (σ : St) (m : Nat) {p i : Nat} (h : p ≤ i) : s2 (s2 (s2 (s2 (s2 (delS σ m p i) 4 i (σ 4 (i + 1))) 5 i (σ 5 (i + 1))) 6 i (σ 6 (i + 1))) 7 i (σ 7 (i + 1))) 8 i (σ 8 (i + 1)) = delS σ m p (i + 1) := by
  funext a
  by_cases h8 : a = 8
  · subst h8
    rw [s2_eq, s2_ne (by decide), s2_ne (by decide), s2_ne (by decide), s2_ne (by decide), delS_r _ _ _ _ _ (by decide) (by decide), delS_r _ _ _ _ _ (by decide) (by decide), delR_step _ h]
  · rw [s2_ne h8]
    by_cases h7 : a = 7
    · subst h7
      rw [s2_eq, s2_ne (by decide), s2_ne (by decide), s2_ne (by decide), delS_r _ _ _ _ _ (by decide) (by decide), delS_r _ _ _ _ _ (by decide) (by decide), delR_step _ h]
    · rw [s2_ne h7]
      by_cases h6 : a = 6
      · subst h6
        rw [s2_eq, s2_ne (by decide), s2_ne (by decide), delS_r _ _ _ _ _ (by decide) (by decide), delS_r _ _ _ _ _ (by decide) (by decide), delR_step _ h]
      · rw [s2_ne h6]
        by_cases h5 : a = 5
        · subst h5
          rw [s2_eq, s2_ne (by decide), delS_r _ _ _ _ _ (by decide) (by decide), delS_r _ _ _ _ _ (by decide) (by decide), delR_step _ h]
        · rw [s2_ne h5]
          by_cases h4 : a = 4
          · subst h4
            rw [s2_eq, delS_r _ _ _ _ _ (by decide) (by decide), delS_r _ _ _ _ _ (by decide) (by decide), delR_step _ h]
          · rw [s2_ne h4]
            by_cases h0 : a = 0
            · subst h0; rfl
            · rw [delS_o _ _ _ _ _ h0 (by omega), delS_o _ _ _ _ _ h0 (by omega)]
theorem kX6_leaves (n p : Nat) (σ : St) (hn : σ 0 8 = nI n) (h7 : n ≤ 7) (hp : p < n) : Ct yX6_leaves cX6_leaves 3 none 0 [.ref 0, .int (nI p)] σ (fV (delS σ (n - 1) p (n - 1))) := by
  refine ct_of plX6 rfl (Nat.le_of_ble_eq_true rfl) (fun X hX C => ?_)
  show V X 0 [(0, .ref 0), (1, .int (nI p))] [] σ
  refine v_aload_n C dX6_leaves_0 rfl rfl rfl ?_
  refine v_dup C dX6_leaves_1 rfl rfl ?_
  refine v_getI C (Nat.le_of_ble_eq_true rfl) rfl rfl hinX6 8 (Nat.le_of_ble_eq_true rfl) lkX6_65 rfl dX6_leaves_2 rfl ?_
  refine V.tp hn ?_
  refine v_iconst (v := 1) C dX6_leaves_5 (by decide) rfl ?_
  refine v_isub C dX6_leaves_6 rfl ?_
  refine V.tp (pk_sub (a := n) (b := 1) (by omega)) ?_
  refine v_put (ty := .int) C (Nat.le_of_ble_eq_true rfl) rfl rfl hinX6 tyX6_ok nmX6 8 (Nat.le_of_ble_eq_true rfl) lkX6_65 rfl (by decide +kernel) rfl rfl rfl dX6_leaves_7 rfl ?_
  refine V.nm (fun τ7_1 eτ7_1 => ?_)
  refine v_iload_n C dX6_leaves_10 rfl rfl rfl ?_
  refine v_istore_n (lv' := [(2, .int (nI p)), (0, .ref 0), (1, .int (nI p))]) C dX6_leaves_11 rfl (Nat.le_of_ble_eq_true rfl) rfl rfl ?_
  have lp12 : ∀ (k i : Nat)  (τ : St), (n - 1) < i + k → i ≤ (n - 1) → τ = delS σ (n - 1) p i → (p ≤ i) → V X 12 [(2, .int (nI i)), (0, .ref 0), (1, .int (nI p))] [] τ := by
    intro k
    induction k with
    | zero => intro i  τ h1 h2; omega
    | succ k ih12 =>
      intro i  τ h1 h2  eτ hpi
      have hnt : τ 0 8 = nI (n - 1) := by rw [eτ, delS_8]
      have g4 : τ 4 (i + 1) = σ 4 (i + 1) := by rw [eτ, delS_r _ _ _ _ _ (by decide) (by decide), delR_at _ (by omega)]
      refine v_iload_n C dX6_leaves_12 rfl rfl rfl ?_
      refine v_aload_n C dX6_leaves_13 rfl rfl rfl ?_
      refine v_getI C (Nat.le_of_ble_eq_true rfl) rfl rfl hinX6 8 (Nat.le_of_ble_eq_true rfl) lkX6_65 rfl dX6_leaves_14 rfl ?_
      refine V.tp hnt ?_
      refine v_icmp_ge (tgt := 96) C dX6_leaves_17 (by decide) rfl (fun c17 => ?_) (fun c17 => ?_)
      · skip
        have c17 := mt (nI_ltI (a := i) (b := (n - 1)) (by omega) (by omega)).mpr c17
        exact v_vret C dX6_leaves_96 (by rw [hX]; exact fV_of (by rw [eτ, show i = n - 1 by omega]))
      · skip
        have c17 := (nI_ltI (a := i) (b := (n - 1)) (by omega) (by omega)).mp c17
        refine v_aload_n C dX6_leaves_20 rfl rfl rfl ?_
        refine v_getR C (Nat.le_of_ble_eq_true rfl) rfl rfl hinX6 3 (Nat.le_of_ble_eq_true rfl) lkX6_19 rfl dX6_leaves_21 rfl ?_
        refine v_iload_n C dX6_leaves_24 rfl rfl rfl ?_
        refine v_aload_n C dX6_leaves_25 rfl rfl rfl ?_
        refine v_getR C (Nat.le_of_ble_eq_true rfl) rfl rfl hinX6 3 (Nat.le_of_ble_eq_true rfl) lkX6_19 rfl dX6_leaves_26 rfl ?_
        refine v_iload_n C dX6_leaves_29 rfl rfl rfl ?_
        refine v_iconst (v := 1) C dX6_leaves_30 (by decide) rfl ?_
        refine v_iadd C dX6_leaves_31 rfl ?_
        refine V.tp (nI_add i 1) ?_
        refine v_iald (i := i + 1) C (Nat.le_of_ble_eq_true rfl) rfl rfl (by omega) (by decide) dX6_leaves_32 rfl ?_
        refine V.tp g4 ?_
        refine v_iast (i := i) C (Nat.le_of_ble_eq_true rfl) rfl rfl (by omega) (by decide) dX6_leaves_33 rfl ?_
        refine V.nm (fun τ33_2 eτ33_2 => ?_)
        have g5 : τ33_2 5 (i + 1) = σ 5 (i + 1) := by rw [eτ33_2, s2_ne (by decide), eτ, delS_r _ _ _ _ _ (by decide) (by decide), delR_at _ (by omega)]
        have d6 : τ33_2 6 = τ 6 := by rw [eτ33_2, s2_ne (by decide)]
        have d7 : τ33_2 7 = τ 7 := by rw [eτ33_2, s2_ne (by decide)]
        have d8 : τ33_2 8 = τ 8 := by rw [eτ33_2, s2_ne (by decide)]
        refine v_aload_n C dX6_leaves_34 rfl rfl rfl ?_
        refine v_getR C (Nat.le_of_ble_eq_true rfl) rfl rfl hinX6 4 (Nat.le_of_ble_eq_true rfl) lkX6_22 rfl dX6_leaves_35 rfl ?_
        refine v_iload_n C dX6_leaves_38 rfl rfl rfl ?_
        refine v_aload_n C dX6_leaves_39 rfl rfl rfl ?_
        refine v_getR C (Nat.le_of_ble_eq_true rfl) rfl rfl hinX6 4 (Nat.le_of_ble_eq_true rfl) lkX6_22 rfl dX6_leaves_40 rfl ?_
        refine v_iload_n C dX6_leaves_43 rfl rfl rfl ?_
        refine v_iconst (v := 1) C dX6_leaves_44 (by decide) rfl ?_
        refine v_iadd C dX6_leaves_45 rfl ?_
        refine V.tp (nI_add i 1) ?_
        refine v_iald (i := i + 1) C (Nat.le_of_ble_eq_true rfl) rfl rfl (by omega) (by decide) dX6_leaves_46 rfl ?_
        refine V.tp g5 ?_
        refine v_iast (i := i) C (Nat.le_of_ble_eq_true rfl) rfl rfl (by omega) (by decide) dX6_leaves_47 rfl ?_
        refine V.nm (fun τ47_3 eτ47_3 => ?_)
        have g6 : τ47_3 6 (i + 1) = σ 6 (i + 1) := by rw [eτ47_3, s2_ne (by decide), d6, eτ, delS_r _ _ _ _ _ (by decide) (by decide), delR_at _ (by omega)]
        have d7 : τ47_3 7 = τ 7 := by rw [eτ47_3, s2_ne (by decide), d7]
        have d8 : τ47_3 8 = τ 8 := by rw [eτ47_3, s2_ne (by decide), d8]
        refine v_aload_n C dX6_leaves_48 rfl rfl rfl ?_
        refine v_getR C (Nat.le_of_ble_eq_true rfl) rfl rfl hinX6 5 (Nat.le_of_ble_eq_true rfl) lkX6_25 rfl dX6_leaves_49 rfl ?_
        refine v_iload_n C dX6_leaves_52 rfl rfl rfl ?_
        refine v_aload_n C dX6_leaves_53 rfl rfl rfl ?_
        refine v_getR C (Nat.le_of_ble_eq_true rfl) rfl rfl hinX6 5 (Nat.le_of_ble_eq_true rfl) lkX6_25 rfl dX6_leaves_54 rfl ?_
        refine v_iload_n C dX6_leaves_57 rfl rfl rfl ?_
        refine v_iconst (v := 1) C dX6_leaves_58 (by decide) rfl ?_
        refine v_iadd C dX6_leaves_59 rfl ?_
        refine V.tp (nI_add i 1) ?_
        refine v_iald (i := i + 1) C (Nat.le_of_ble_eq_true rfl) rfl rfl (by omega) (by decide) dX6_leaves_60 rfl ?_
        refine V.tp g6 ?_
        refine v_iast (i := i) C (Nat.le_of_ble_eq_true rfl) rfl rfl (by omega) (by decide) dX6_leaves_61 rfl ?_
        refine V.nm (fun τ61_4 eτ61_4 => ?_)
        have g7 : τ61_4 7 (i + 1) = σ 7 (i + 1) := by rw [eτ61_4, s2_ne (by decide), d7, eτ, delS_r _ _ _ _ _ (by decide) (by decide), delR_at _ (by omega)]
        have d8 : τ61_4 8 = τ 8 := by rw [eτ61_4, s2_ne (by decide), d8]
        refine v_aload_n C dX6_leaves_62 rfl rfl rfl ?_
        refine v_getR C (Nat.le_of_ble_eq_true rfl) rfl rfl hinX6 6 (Nat.le_of_ble_eq_true rfl) lkX6_28 rfl dX6_leaves_63 rfl ?_
        refine v_iload_n C dX6_leaves_66 rfl rfl rfl ?_
        refine v_aload_n C dX6_leaves_67 rfl rfl rfl ?_
        refine v_getR C (Nat.le_of_ble_eq_true rfl) rfl rfl hinX6 6 (Nat.le_of_ble_eq_true rfl) lkX6_28 rfl dX6_leaves_68 rfl ?_
        refine v_iload_n C dX6_leaves_71 rfl rfl rfl ?_
        refine v_iconst (v := 1) C dX6_leaves_72 (by decide) rfl ?_
        refine v_iadd C dX6_leaves_73 rfl ?_
        refine V.tp (nI_add i 1) ?_
        refine v_iald (i := i + 1) C (Nat.le_of_ble_eq_true rfl) rfl rfl (by omega) (by decide) dX6_leaves_74 rfl ?_
        refine V.tp g7 ?_
        refine v_iast (i := i) C (Nat.le_of_ble_eq_true rfl) rfl rfl (by omega) (by decide) dX6_leaves_75 rfl ?_
        refine V.nm (fun τ75_5 eτ75_5 => ?_)
        have g8 : τ75_5 8 (i + 1) = σ 8 (i + 1) := by rw [eτ75_5, s2_ne (by decide), d8, eτ, delS_r _ _ _ _ _ (by decide) (by decide), delR_at _ (by omega)]
        refine v_aload_n C dX6_leaves_76 rfl rfl rfl ?_
        refine v_getR C (Nat.le_of_ble_eq_true rfl) rfl rfl hinX6 7 (Nat.le_of_ble_eq_true rfl) lkX6_31 rfl dX6_leaves_77 rfl ?_
        refine v_iload_n C dX6_leaves_80 rfl rfl rfl ?_
        refine v_aload_n C dX6_leaves_81 rfl rfl rfl ?_
        refine v_getR C (Nat.le_of_ble_eq_true rfl) rfl rfl hinX6 7 (Nat.le_of_ble_eq_true rfl) lkX6_31 rfl dX6_leaves_82 rfl ?_
        refine v_iload_n C dX6_leaves_85 rfl rfl rfl ?_
        refine v_iconst (v := 1) C dX6_leaves_86 (by decide) rfl ?_
        refine v_iadd C dX6_leaves_87 rfl ?_
        refine V.tp (nI_add i 1) ?_
        refine v_iald (i := i + 1) C (Nat.le_of_ble_eq_true rfl) rfl rfl (by omega) (by decide) dX6_leaves_88 rfl ?_
        refine V.tp g8 ?_
        refine v_iast (i := i) C (Nat.le_of_ble_eq_true rfl) rfl rfl (by omega) (by decide) dX6_leaves_89 rfl ?_
        refine V.nm (fun τ89_6 eτ89_6 => ?_)
        refine v_iinc (lv' := [(2, .int (nI (i + 1))), (0, .ref 0), (1, .int (nI p))]) C dX6_leaves_90 rfl (nI_inc i) (Nat.le_of_ble_eq_true rfl) rfl rfl ?_
        refine v_goto (tgt := 12) C dX6_leaves_93 (by decide) ?_
        exact V.sub [0, 1, 2] rfl (ih12 (i + 1)  _ (by omega) (by omega)  (by rw [eτ89_6, eτ75_5, eτ61_4, eτ47_3, eτ33_2, eτ]; exact delS_step σ (n - 1) hpi) (by omega))
  exact V.sub [0, 1, 2] rfl (lp12 ((n - 1) + 1) p  _ (by omega) (by omega)  (by rw [eτ7_1, delS_0]) (by omega))
