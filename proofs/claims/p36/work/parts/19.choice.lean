/-! the check's class: choice, shares, envy (the rows on bits are the kit's, pasted) -/
def bt (x : Int32) (i : Nat) : Bool := x.toBitVec.getLsbD i
theorem b_ext {x y : Int32} (h : ∀ i, i < 32 → bt x i = bt y i) : x = y := Int32.toBitVec_inj.mp (BitVec.eq_of_getLsbD_eq (fun i hi => h i hi))
theorem b_or (x y : Int32) (i : Nat) : bt (x ||| y) i = (bt x i || bt y i) := by unfold bt; rw [Int32.toBitVec_or, BitVec.getLsbD_or]
theorem b_and (x y : Int32) (i : Nat) : bt (x &&& y) i = (bt x i && bt y i) := by unfold bt; rw [Int32.toBitVec_and, BitVec.getLsbD_and]
theorem b_xor (x y : Int32) (i : Nat) : bt (x ^^^ y) i = (bt x i ^^ bt y i) := by unfold bt; rw [Int32.toBitVec_xor, BitVec.getLsbD_xor]
theorem b_big {x : Int32} {i : Nat} (h : 32 ≤ i) : bt x i = false := BitVec.getLsbD_of_ge _ _ h
theorem b_255 (i : Nat) : bt 255 i = decide (i < 8) := by
  rcases Nat.lt_or_ge i 32 with h | h
  · exact (by decide +kernel : ∀ i, i < 32 → bt 255 i = decide (i < 8)) i h
  · rw [b_big h, decide_eq_false (by omega)]
theorem b_65535 (i : Nat) : bt 65535 i = decide (i < 16) := by
  rcases Nat.lt_or_ge i 32 with h | h
  · exact (by decide +kernel : ∀ i, i < 32 → bt 65535 i = decide (i < 16)) i h
  · rw [b_big h, decide_eq_false (by omega)]
theorem b_m1 : ∀ i, i < 32 → bt (-1) i = true := by decide +kernel
theorem b_0 (i : Nat) : bt 0 i = false := BitVec.getLsbD_zero
theorem s_l : ∀ n, n < 32 → ((nI n &&& 31).toBitVec.smod 32).toNat = n := by decide +kernel
theorem s_u : ∀ n, n < 32 → (((nI n).toUInt32 &&& Int32.toUInt32 31).toBitVec % 32).toNat = n := by decide +kernel
theorem b_shl (n : Nat) (hn : n < 32) (x : Int32) {i : Nat} (hi : i < 32) : bt (x <<< (nI n &&& 31)) i = (decide (n ≤ i) && bt x (i - n)) := by
  unfold bt
  rw [Int32.toBitVec_shiftLeft]
  show (x.toBitVec <<< ((nI n &&& 31).toBitVec.smod 32).toNat).getLsbD i = _
  rw [s_l n hn, BitVec.getLsbD_shiftLeft]
  rcases Nat.lt_or_ge i n with h | h
  · simp [h, Nat.not_le.mpr h]
  · simp [hi, h, Nat.not_lt.mpr h]
theorem b_ushr (n : Nat) (hn : n < 32) (x : Int32) (i : Nat) : bt ((x.toUInt32 >>> ((nI n).toUInt32 &&& Int32.toUInt32 31)).toInt32) i = bt x (n + i) := by
  show (x.toUInt32 >>> ((nI n).toUInt32 &&& Int32.toUInt32 31)).toBitVec.getLsbD i = x.toUInt32.toBitVec.getLsbD (n + i)
  rw [UInt32.toBitVec_shiftRight]
  show (x.toUInt32.toBitVec >>> (((nI n).toUInt32 &&& Int32.toUInt32 31).toBitVec % 32).toNat).getLsbD i = _
  rw [s_u n hn, BitVec.getLsbD_ushiftRight]
theorem b_sshr (n : Nat) (hn : n < 32) (x : Int32) {i : Nat} (hi : i < 32) : bt (x >>> (nI n &&& 31)) i = if n + i < 32 then bt x (n + i) else bt x 31 := by
  unfold bt
  rw [Int32.toBitVec_shiftRight]
  show (x.toBitVec.sshiftRight ((nI n &&& 31).toBitVec.smod 32).toNat).getLsbD i = _
  rw [s_l n hn, BitVec.getLsbD_sshiftRight, BitVec.msb_eq_getLsbD_last]
  simp [hi]
theorem b_1 (i : Nat) : bt 1 i = decide (i = 0) := by
  rcases Nat.lt_or_ge i 32 with h | h
  · exact (by decide +kernel : ∀ i, i < 32 → bt 1 i = decide (i = 0)) i h
  · rw [b_big h, decide_eq_false (by omega)]
theorem and1 (x : Int32) : x &&& 1 = 1 ↔ bt x 0 = true := by
  constructor
  · intro h
    have := b_and x 1 0
    rw [h, b_1] at this
    simpa using this.symm
  · intro h
    apply b_ext
    intro i hi
    rw [b_and, b_1]
    by_cases e : i = 0
    · subst e; simp [h]
    · simp [e]
theorem hasP_bt {s : Int32} {p : Nat} (hp : p < 31) : hasP s (nI p) ↔ bt s p = true := by
  rw [hasP, and1, b_sshr p (by omega) s (by decide), if_pos (by omega)]; rfl
theorem bt_set {t : Int32} {b p : Nat} (hb : b < 31) (hp : p < 31) : bt (t ||| (1 : Int32) <<< (nI b &&& 31)) p = (bt t p || decide (p = b)) := by
  rw [b_or, b_shl b (by omega) 1 (by omega), b_1]
  congr 1
  by_cases h : p = b
  · subst h; simp
  · by_cases g : b ≤ p
    · simp [h, g, show ¬ p - b = 0 by omega]
    · simp [h, g]
noncomputable def cN (P : Nat → Prop) : Nat → Nat
  | 0 => 0
  | i + 1 => cN P i + cI (P i) 1 0
theorem cN_full {P : Nat → Prop} : ∀ n, (∀ p, p < n → P p) → cN P n = n
  | 0, _ => rfl
  | n + 1, h => by rw [cN, cN_full n (fun p hp => h p (by omega)), cI_t (h n (by omega))]
theorem cN_none {P : Nat → Prop} : ∀ n, (∀ p, p < n → ¬ P p) → cN P n = 0
  | 0, _ => rfl
  | n + 1, h => by rw [cN, cN_none n (fun p hp => h p (by omega)), cI_f (h n (by omega))]
theorem cN_add {P Q : Nat → Prop} {b : Nat} : ∀ n, (∀ p, p < n → (Q p → P p ∨ p = b)) → cN Q n ≤ cN P n + cI (b < n) 1 0
  | 0, _ => Nat.zero_le _
  | n + 1, h => by
    have ih := cN_add (P := P) (Q := Q) (b := b) n (fun p hp => h p (by omega))
    rw [cN, cN]
    by_cases hb : b = n
    · subst hb
      rw [cI_f (by omega)] at ih
      rw [cI_t (P := b < b + 1) (by omega)]
      by_cases q : Q b
      · rw [cI_t q]; omega
      · rw [cI_f q]; omega
    · have hbn : cI (b < n + 1) 1 0 = cI (b < n) 1 0 := by
        by_cases g : b < n
        · rw [cI_t g, cI_t (by omega)]
        · rw [cI_f g, cI_f (by omega)]
      rw [hbn]
      by_cases q : Q n
      · rw [cI_t q]
        rcases h n (by omega) q with z | z
        · rw [cI_t z]; omega
        · exact absurd z.symm hb
      · rw [cI_f q]; omega
theorem minN_none {ok : Nat → Prop} {f : Nat → Int32} : ∀ n, minN ok f n = none → ∀ p, p < n → ¬ ok p
  | 0, _, p, hp => by omega
  | n + 1, h, p, hp => by
    simp only [minN] at h
    split at h
    · next hq =>
      by_cases g : ok n
      · rw [cI_t g] at h; cases h
      · by_cases e : p = n
        · subst e; exact g
        · exact minN_none n hq p (by omega)
    · next c hq =>
      by_cases g : ok n ∧ f n < f c
      · rw [cI_t g] at h; cases h
      · rw [cI_f g] at h; cases h
noncomputable def tkN (bl : Nat → Int32) (n : Nat) : Nat → Int32
  | 0 => 0
  | k + 1 => tkN bl n k ||| (1 : Int32) <<< (oI (minN (fun p => ¬ hasP (tkN bl n k) (nI p)) bl n) &&& 31)
noncomputable def chM (bl : Nat → Int32) (n k : Nat) : Option Nat := minN (fun p => ¬ hasP (tkN bl n k) (nI p)) bl n
noncomputable def chS (s0 bl : Nat → Int32) (n h : Nat) : Nat → (Nat → Int32)
  | 0 => s0
  | k + 1 => upd (chS s0 bl n h k) (k % h) (chS s0 bl n h k (k % h) + ofO bl 0 (chM bl n k))
def chL (h : Nat) : Nat → Int32
  | 0 => -9
  | k + 1 => nI (k % h)
theorem tk_bt (bl : Nat → Int32) {n : Nat} (h7 : n ≤ 7) (k : Nat) {p : Nat} (hp : p < 7) : bt (tkN bl n (k + 1)) p = (bt (tkN bl n k) p || decide (chM bl n k = some p)) := by
  rw [tkN]
  rcases hq : chM bl n k with _ | b
  · rw [show minN (fun p => ¬ hasP (tkN bl n k) (nI p)) bl n = none from hq]
    show bt (_ ||| (1 : Int32) <<< ((-9 : Int32) &&& 31)) p = _
    rw [show ((-9 : Int32) &&& 31) = (nI 23 &&& 31) by decide, bt_set (by decide) (by omega)]
    simp; omega
  · have hb : b < n := minN_lt hq
    rw [show minN (fun p => ¬ hasP (tkN bl n k) (nI p)) bl n = some b from hq]
    show bt (_ ||| (1 : Int32) <<< (nI b &&& 31)) p = _
    rw [bt_set (by omega) (by omega)]
    congr 1
    simp [eq_comm]
theorem tk_cnt (bl : Nat → Int32) {n : Nat} (h7 : n ≤ 7) : ∀ k, cN (fun p => hasP (tkN bl n k) (nI p)) n ≤ k
  | 0 => by
    rw [cN_none]
    · exact Nat.le_refl 0
    · intro p hp; rw [hasP_bt (by omega)]; simp [tkN, b_0]
  | k + 1 => by
    have ih := tk_cnt bl h7 k
    rcases hq : chM bl n k with _ | b
    · have : cN (fun p => hasP (tkN bl n (k + 1)) (nI p)) n ≤ cN (fun p => hasP (tkN bl n k) (nI p)) n + cI (n < n) 1 0 := cN_add (b := n) n (fun p hp q => by
        rw [hasP_bt (by omega), tk_bt bl h7 k (by omega), hq] at q
        left
        rw [hasP_bt (by omega)]
        simpa using q)
      rw [cI_f (by omega)] at this
      omega
    · have : cN (fun p => hasP (tkN bl n (k + 1)) (nI p)) n ≤ cN (fun p => hasP (tkN bl n k) (nI p)) n + cI (b < n) 1 0 := cN_add (b := b) n (fun p hp q => by
        rw [hasP_bt (by omega), tk_bt bl h7 k (by omega), hq] at q
        rw [hasP_bt (by omega)]
        simp at q
        rcases q with q | q
        · exact Or.inl q
        · exact Or.inr q.symm)
      have c1 : cI (b < n) 1 0 ≤ 1 := by
        by_cases g : b < n
        · rw [cI_t g]; omega
        · rw [cI_f g]; omega
      omega
theorem chM_some (bl : Nat → Int32) {n k : Nat} (h7 : n ≤ 7) (hk : k < n) : ∃ p, chM bl n k = some p ∧ p < n := by
  rcases hq : chM bl n k with _ | b
  · exfalso
    have h1 := minN_none n hq
    have h2 := cN_full (P := fun p => hasP (tkN bl n k) (nI p)) n (fun p hp => Classical.not_not.mp (h1 p hp))
    have := tk_cnt bl h7 k
    omega
  · exact ⟨b, rfl, minN_lt hq⟩
theorem kX6_mildest (t : Int32) (n : Nat) (σ : St) (hn : σ 0 8 = nI n) (h7 : n ≤ 7) : Ct yX6_mildest cX6_mildest 4 (some .int) 2 [.ref 0, .int t] σ (fI (oI (minN (fun p => ¬ hasP t (nI p)) (blR σ n) n)) σ) := by
  refine ct_of plX6 rfl (Nat.le_of_ble_eq_true rfl) (fun X hX C => ?_)
  show V X 0 [(0, .ref 0), (1, .int t)] [] σ
  refine v_bipush (v := -9) C dX6_mildest_0 (by decide) rfl ?_
  refine v_istore_n (lv' := [(2, .int (-9)), (0, .ref 0), (1, .int t)]) C dX6_mildest_2 rfl (Nat.le_of_ble_eq_true rfl) rfl rfl ?_
  refine v_iconst (v := 0) C dX6_mildest_3 (by decide) rfl ?_
  refine v_istore_n (lv' := [(3, .int 0), (2, .int (-9)), (0, .ref 0), (1, .int t)]) C dX6_mildest_4 rfl (Nat.le_of_ble_eq_true rfl) rfl rfl ?_
  have lp5 : ∀ (k i : Nat) (x2 : Int32) , n < i + k → i ≤ n → x2 = oI (minN (fun p => ¬ hasP t (nI p)) (blR σ n) i) → V X 5 [(3, .int (nI i)), (2, .int x2), (0, .ref 0), (1, .int t)] [] σ := by
    intro k
    induction k with
    | zero => intro i x2 h1 h2; omega
    | succ k ih5 =>
      intro i x2 h1 h2 ex2
      rcases hq : minN (fun p => ¬ hasP t (nI p)) (blR σ n) i with _ | b
      · have hx : x2 = -9 := by rw [ex2, hq]; rfl
        refine v_iload_n C dX6_mildest_5 rfl rfl rfl ?_
        refine v_aload_n C dX6_mildest_6 rfl rfl rfl ?_
        refine v_getI C (Nat.le_of_ble_eq_true rfl) rfl rfl hinX6 8 (Nat.le_of_ble_eq_true rfl) lkX6_65 rfl dX6_mildest_7 rfl ?_
        refine V.tp hn ?_
        refine v_icmp_ge (tgt := 46) C dX6_mildest_10 (by decide) rfl (fun c10 => ?_) (fun c10 => ?_)
        · skip
          have c10 := mt (nI_ltI (a := i) (b := n) (by omega) (by omega)).mpr c10
          refine v_iload_n C dX6_mildest_46 rfl rfl rfl ?_
          refine V.tp hx ?_
          exact v_iret C dX6_mildest_47 (by rw [hX]; exact fI_of (by rw [← hx, ex2, show i = n by omega]) rfl)
        · skip
          have c10 := (nI_ltI (a := i) (b := n) (by omega) (by omega)).mp c10
          refine v_iload_n C dX6_mildest_13 rfl rfl rfl ?_
          refine v_iload_n C dX6_mildest_14 rfl rfl rfl ?_
          refine v_callS C (As := [.int t, .int (nI i)]) (rest := []) (kX6_has t (nI i) σ) rfl (Nat.le_of_ble_eq_true rfl) (Nat.le_of_ble_eq_true rfl) ⟨mlX6_181, mfX6_has⟩ dkX6_has (Nat.le_of_ble_eq_true rfl) dX6_mildest_15 rfl (kI ?_)
          refine v_if_ne (tgt := 40) C dX6_mildest_18 (by decide) rfl (fun c18 => ?_) (fun c18 => ?_)
          · skip
            have c18 := bI_n c18
            refine v_iinc (lv' := [(3, .int (nI (i + 1))), (2, .int x2), (0, .ref 0), (1, .int t)]) C dX6_mildest_40 rfl (nI_inc i) (Nat.le_of_ble_eq_true rfl) rfl rfl ?_
            refine v_goto (tgt := 5) C dX6_mildest_43 (by decide) ?_
            exact V.sub [0, 1, 2, 3] rfl (ih5 (i + 1) _ (by omega) (by omega) (by rw [hx]; simp [minN, hq, oI, cI, blR, c18]))
          · skip
            have c18 := bI_0 c18
            refine v_iload_n C dX6_mildest_21 rfl rfl rfl ?_
            refine V.tp hx ?_
            refine v_if_lt (tgt := 38) C dX6_mildest_22 (by decide) rfl (fun _ => ?_) (fun q => absurd q (by decide))
            refine v_iload_n C dX6_mildest_38 rfl rfl rfl ?_
            refine v_istore_n (lv' := [(2, .int (nI i)), (3, .int (nI i)), (0, .ref 0), (1, .int t)]) C dX6_mildest_39 rfl (Nat.le_of_ble_eq_true rfl) rfl rfl ?_
            refine v_iinc (lv' := [(3, .int (nI (i + 1))), (2, .int (nI i)), (0, .ref 0), (1, .int t)]) C dX6_mildest_40 rfl (nI_inc i) (Nat.le_of_ble_eq_true rfl) rfl rfl ?_
            refine v_goto (tgt := 5) C dX6_mildest_43 (by decide) ?_
            exact V.sub [0, 1, 2, 3] rfl (ih5 (i + 1) _ (by omega) (by omega) (by simp [minN, hq, oI, cI, blR, c18]))
      · have hx : x2 = nI b := by rw [ex2, hq]; rfl
        have hbl := minN_lt hq
        refine v_iload_n C dX6_mildest_5 rfl rfl rfl ?_
        refine v_aload_n C dX6_mildest_6 rfl rfl rfl ?_
        refine v_getI C (Nat.le_of_ble_eq_true rfl) rfl rfl hinX6 8 (Nat.le_of_ble_eq_true rfl) lkX6_65 rfl dX6_mildest_7 rfl ?_
        refine V.tp hn ?_
        refine v_icmp_ge (tgt := 46) C dX6_mildest_10 (by decide) rfl (fun c10 => ?_) (fun c10 => ?_)
        · skip
          have c10 := mt (nI_ltI (a := i) (b := n) (by omega) (by omega)).mpr c10
          refine v_iload_n C dX6_mildest_46 rfl rfl rfl ?_
          refine V.tp hx ?_
          exact v_iret C dX6_mildest_47 (by rw [hX]; exact fI_of (by rw [← hx, ex2, show i = n by omega]) rfl)
        · skip
          have c10 := (nI_ltI (a := i) (b := n) (by omega) (by omega)).mp c10
          refine v_iload_n C dX6_mildest_13 rfl rfl rfl ?_
          refine v_iload_n C dX6_mildest_14 rfl rfl rfl ?_
          refine v_callS C (As := [.int t, .int (nI i)]) (rest := []) (kX6_has t (nI i) σ) rfl (Nat.le_of_ble_eq_true rfl) (Nat.le_of_ble_eq_true rfl) ⟨mlX6_181, mfX6_has⟩ dkX6_has (Nat.le_of_ble_eq_true rfl) dX6_mildest_15 rfl (kI ?_)
          refine v_if_ne (tgt := 40) C dX6_mildest_18 (by decide) rfl (fun c18 => ?_) (fun c18 => ?_)
          · skip
            have c18 := bI_n c18
            refine v_iinc (lv' := [(3, .int (nI (i + 1))), (2, .int x2), (0, .ref 0), (1, .int t)]) C dX6_mildest_40 rfl (nI_inc i) (Nat.le_of_ble_eq_true rfl) rfl rfl ?_
            refine v_goto (tgt := 5) C dX6_mildest_43 (by decide) ?_
            exact V.sub [0, 1, 2, 3] rfl (ih5 (i + 1) _ (by omega) (by omega) (by rw [hx]; simp [minN, hq, oI, cI, blR, c18]))
          · skip
            have c18 := bI_0 c18
            refine v_iload_n C dX6_mildest_21 rfl rfl rfl ?_
            refine V.tp hx ?_
            refine v_if_lt (tgt := 38) C dX6_mildest_22 (by decide) rfl (fun q => absurd q (nI_pos (by omega))) (fun _ => ?_)
            refine v_aload_n C dX6_mildest_25 rfl rfl rfl ?_
            refine v_iload_n C dX6_mildest_26 rfl rfl rfl ?_
            refine v_callV C (Nat.le_of_ble_eq_true rfl) rfl rfl (As := [.int (nI i)]) (rest := []) (kX6_blameOf n i σ hn h7 (by omega)) rfl (Nat.le_of_ble_eq_true rfl) (Nat.le_of_ble_eq_true rfl) ⟨mlX6_169, mfX6_blameOf⟩ dkX6_blameOf (Nat.le_of_ble_eq_true rfl) dX6_mildest_27 rfl (kI ?_)
            refine v_aload_n C dX6_mildest_30 rfl rfl rfl ?_
            refine v_iload_n C dX6_mildest_31 rfl rfl rfl ?_
            refine V.tp hx ?_
            refine v_callV C (Nat.le_of_ble_eq_true rfl) rfl rfl (As := [.int (nI b)]) (rest := [.int (blaF (σ 4) (σ 6) (σ 7) (σ 8) n i)]) (kX6_blameOf n b σ hn h7 (by omega)) rfl (Nat.le_of_ble_eq_true rfl) (Nat.le_of_ble_eq_true rfl) ⟨mlX6_169, mfX6_blameOf⟩ dkX6_blameOf (Nat.le_of_ble_eq_true rfl) dX6_mildest_32 rfl (kI ?_)
            refine v_icmp_ge (tgt := 40) C dX6_mildest_35 (by decide) rfl (fun c35 => ?_) (fun c35 => ?_)
            · skip
              refine v_iinc (lv' := [(3, .int (nI (i + 1))), (2, .int x2), (0, .ref 0), (1, .int t)]) C dX6_mildest_40 rfl (nI_inc i) (Nat.le_of_ble_eq_true rfl) rfl rfl ?_
              refine v_goto (tgt := 5) C dX6_mildest_43 (by decide) ?_
              exact V.sub [0, 1, 2, 3] rfl (ih5 (i + 1) _ (by omega) (by omega) (by rw [hx]; simp [minN, hq, oI, cI, blR, c18, c35]))
            · skip
              refine v_iload_n C dX6_mildest_38 rfl rfl rfl ?_
              refine v_istore_n (lv' := [(2, .int (nI i)), (3, .int (nI i)), (0, .ref 0), (1, .int t)]) C dX6_mildest_39 rfl (Nat.le_of_ble_eq_true rfl) rfl rfl ?_
              refine v_iinc (lv' := [(3, .int (nI (i + 1))), (2, .int (nI i)), (0, .ref 0), (1, .int t)]) C dX6_mildest_40 rfl (nI_inc i) (Nat.le_of_ble_eq_true rfl) rfl rfl ?_
              refine v_goto (tgt := 5) C dX6_mildest_43 (by decide) ?_
              exact V.sub [0, 1, 2, 3] rfl (ih5 (i + 1) _ (by omega) (by omega) (by simp [minN, hq, oI, cI, blR, c18, c35]))
  exact V.sub [0, 1, 2, 3] rfl (lp5 (n + 1) 0 _ (by omega) (by omega) (rfl))
noncomputable def choA (σ : St) (n h : Nat) (v : Int32) : Int32 := if v < -1 then -4 else if v < nI h then (if v < 0 then chL h n else chS (z4 (σ 16)) (blR σ n) n h n (tn v)) else -1
theorem heir_nat {v : Int32} {h : Nat} (h4 : h ≤ 4) (h1 : ¬ v < 0) (h2 : v < nI h) : v = nI (tn v) ∧ tn v < h := piece_nat (by omega) ⟨h1, h2⟩
theorem kX6_choice (v : Int32) (n : Nat) (σ : St) (hn : σ 0 8 = nI n) (h7 : n ≤ 7) (h : Nat) (hh : σ 0 9 = nI h) (hl2 : 2 ≤ h) (hl4 : h ≤ 4) : Ct yX6_choice cX6_choice 7 (some .int) 3 [.ref 0, .int v] σ (rI (fun r τ => r = choA σ n h v ∧ ((v < -1 ∧ τ = noS σ 4) ∨ (¬ v < -1 ∧ ¬ v < nI h ∧ τ = noS σ 1) ∨ (¬ v < -1 ∧ v < nI h ∧ Sm σ τ)))) := by
  refine ct_of plX6 rfl (Nat.le_of_ble_eq_true rfl) (fun X hX C => ?_)
  show V X 0 [(0, .ref 0), (1, .int v)] [] σ
  refine v_iload_n C dX6_choice_0 rfl rfl rfl ?_
  refine v_iconst (v := -1) C dX6_choice_1 (by decide) rfl ?_
  refine v_icmp_ge (tgt := 10) C dX6_choice_2 (by decide) rfl (fun c2 => ?_) (fun c2 => ?_)
  · skip
    refine v_iload_n C dX6_choice_10 rfl rfl rfl ?_
    refine v_aload_n C dX6_choice_11 rfl rfl rfl ?_
    refine v_getI C (Nat.le_of_ble_eq_true rfl) rfl rfl hinX6 9 (Nat.le_of_ble_eq_true rfl) lkX6_61 rfl dX6_choice_12 rfl ?_
    refine V.tp hh ?_
    refine v_icmp_lt (tgt := 22) C dX6_choice_15 (by decide) rfl (fun c15 => ?_) (fun c15 => ?_)
    · skip
      refine v_iconst (v := 0) C dX6_choice_22 (by decide) rfl ?_
      have q1 := c2
      have q2 := c15
      refine v_istore_n (lv' := [(2, .int 0), (0, .ref 0), (1, .int v)]) C dX6_choice_23 rfl (Nat.le_of_ble_eq_true rfl) rfl rfl ?_
      refine v_iload_n C dX6_choice_24 rfl rfl rfl ?_
      refine v_if_eq (tgt := 34) C dX6_choice_25 (by decide) rfl (fun _ => ?_) (fun q => absurd q (by decide))
      refine v_iconst (v := 0) C dX6_choice_34 (by decide) rfl ?_
      refine v_istore_n (lv' := [(3, .int 0), (2, .int 0), (0, .ref 0), (1, .int v)]) C dX6_choice_35 rfl (Nat.le_of_ble_eq_true rfl) rfl rfl ?_
      have lp36 : ∀ (k i : Nat)  (τ : St), 4 < i + k → i ≤ 4 → τ = setR σ 16 (pre i (fun _ => 0) (σ 16)) → V X 36 [(3, .int (nI i)), (2, .int 0), (0, .ref 0), (1, .int v)] [] τ := by
        intro k
        induction k with
        | zero => intro i  τ h1 h2; omega
        | succ k ih36 =>
          intro i  τ h1 h2  eτ
          refine v_iload_n C dX6_choice_36 rfl rfl rfl ?_
          refine v_iconst (v := 4) C dX6_choice_37 (by decide) rfl ?_
          refine v_icmp_ge (tgt := 54) C dX6_choice_38 (by decide) rfl (fun c38 => ?_) (fun c38 => ?_)
          · skip
            have c38 := mt (nI_ltI (a := i) (b := 4) (by omega) (by omega)).mpr c38
            refine v_iconst (v := 0) C dX6_choice_54 (by decide) rfl ?_
            refine v_istore_n (lv' := [(3, .int 0), (2, .int 0), (0, .ref 0), (1, .int v)]) C dX6_choice_55 rfl (Nat.le_of_ble_eq_true rfl) rfl rfl ?_
            refine v_bipush (v := -9) C dX6_choice_56 (by decide) rfl ?_
            refine v_istore (lv' := [(4, .int (-9)), (3, .int 0), (2, .int 0), (0, .ref 0), (1, .int v)]) C dX6_choice_58 (Nat.le_of_ble_eq_true rfl) rfl rfl ?_
            refine v_iconst (v := 0) C dX6_choice_60 (by decide) rfl ?_
            refine v_istore (lv' := [(5, .int 0), (4, .int (-9)), (3, .int 0), (2, .int 0), (0, .ref 0), (1, .int v)]) C dX6_choice_61 (Nat.le_of_ble_eq_true rfl) rfl rfl ?_
            have lp63 : ∀ (k q : Nat) (x3 : Int32) (x4 : Int32) (υ : St), n < q + k → q ≤ n → x3 = tkN (blR σ n) n q → x4 = chL h q → υ = setR σ 16 (chS (z4 (σ 16)) (blR σ n) n h q) → V X 63 [(5, .int (nI q)), (4, .int x4), (3, .int x3), (0, .ref 0), (1, .int v)] [] υ := by
              intro k
              induction k with
              | zero => intro q x3 x4 υ h1 h2; omega
              | succ k ih63 =>
                intro q x3 x4 υ h1 h2 ex3 ex4 eυ
                have hnt : υ 0 8 = nI n := by rw [eυ, setR_o _ _ _ _ (by decide)]; exact hn
                have hht : υ 0 9 = nI h := by rw [eυ, setR_o _ _ _ _ (by decide)]; exact hh
                have hv16 : υ 16 (q % h) = (chS (z4 (σ 16)) (blR σ n) n h q) (q % h) := by rw [eυ, setR_k]
                have hqh := Nat.mod_lt q (show 0 < h by omega)
                refine v_iload C dX6_choice_63 rfl rfl ?_
                refine v_aload_n C dX6_choice_65 rfl rfl rfl ?_
                refine v_getI C (Nat.le_of_ble_eq_true rfl) rfl rfl hinX6 8 (Nat.le_of_ble_eq_true rfl) lkX6_65 rfl dX6_choice_66 rfl ?_
                refine V.tp hnt ?_
                refine v_icmp_ge (tgt := 117) C dX6_choice_69 (by decide) rfl (fun c69 => ?_) (fun c69 => ?_)
                · skip
                  have c69 := mt (nI_ltI (a := q) (b := n) (by omega) (by omega)).mpr c69
                  refine v_iload_n C dX6_choice_117 rfl rfl rfl ?_
                  refine v_if_ge (tgt := 126) C dX6_choice_118 (by decide) rfl (fun c118 => ?_) (fun c118 => ?_)
                  · skip
                    have hv1 : v = nI (tn v) ∧ tn v < h := heir_nat hl4 c118 q2
                    have hv2 := hv1.2
                    refine v_aload_n C dX6_choice_126 rfl rfl rfl ?_
                    refine v_getR C (Nat.le_of_ble_eq_true rfl) rfl rfl hinX6 25 (Nat.le_of_ble_eq_true rfl) lkX6_55 rfl dX6_choice_127 rfl ?_
                    refine v_iload_n C dX6_choice_130 rfl rfl rfl ?_
                    refine V.tp hv1.1 ?_
                    refine v_iald (i := tn v) C (Nat.le_of_ble_eq_true rfl) rfl rfl (by omega) (by decide) dX6_choice_131 rfl ?_
                    exact v_iret C dX6_choice_132 (by rw [hX]; exact ⟨_, rfl, by rw [choA, if_neg q1, if_pos q2, if_neg c118, eυ, setR_k, show q = n by omega], Or.inr (Or.inr ⟨q1, q2, by rw [eυ]; exact ⟨fun k hk => setR_o _ _ _ _ (by omega), fun j _ => by rw [setR_o _ _ _ _ (by decide)], fun j _ => by rw [setR_o _ _ _ _ (by decide)]⟩⟩)⟩)
                  · skip
                    refine v_iload C dX6_choice_121 rfl rfl ?_
                    refine v_goto (tgt := 132) C dX6_choice_123 (by decide) ?_
                    exact v_iret C dX6_choice_132 (by rw [hX]; exact ⟨_, rfl, by rw [choA, if_neg q1, if_pos q2, if_pos c118, ex4, show q = n by omega], Or.inr (Or.inr ⟨q1, q2, by rw [eυ]; exact ⟨fun k hk => setR_o _ _ _ _ (by omega), fun j _ => by rw [setR_o _ _ _ _ (by decide)], fun j _ => by rw [setR_o _ _ _ _ (by decide)]⟩⟩)⟩)
                · skip
                  have c69 := (nI_ltI (a := q) (b := n) (by omega) (by omega)).mp c69
                  refine v_aload_n C dX6_choice_72 rfl rfl rfl ?_
                  refine v_iload_n C dX6_choice_73 rfl rfl rfl ?_
                  refine v_callV C (Nat.le_of_ble_eq_true rfl) rfl rfl (As := [.int x3]) (rest := []) (kX6_mildest x3 n υ hnt h7) rfl (Nat.le_of_ble_eq_true rfl) (Nat.le_of_ble_eq_true rfl) ⟨mlX6_228, mfX6_mildest⟩ dkX6_mildest (Nat.le_of_ble_eq_true rfl) dX6_choice_74 rfl (kI ?_)
                  obtain ⟨b, hb, hbn⟩ := chM_some (blR σ n) h7 (show q < n by assumption)
                  refine V.tp (show oI (minN (fun p => ¬ hasP x3 (nI p)) (blR υ n) n) = nI b from by rw [ex3, blR_cg (σ := σ) (τ := υ) (by rw [eυ]; rfl) (by rw [eυ]; rfl) (by rw [eυ]; rfl) (by rw [eυ]; rfl)]; exact congrArg oI hb) ?_
                  refine v_istore (lv' := [(6, .int (nI b)), (5, .int (nI q)), (4, .int x4), (3, .int x3), (0, .ref 0), (1, .int v)]) C dX6_choice_77 (Nat.le_of_ble_eq_true rfl) rfl rfl ?_
                  refine v_iload_n C dX6_choice_79 rfl rfl rfl ?_
                  refine v_iconst (v := 1) C dX6_choice_80 (by decide) rfl ?_
                  refine v_iload C dX6_choice_81 rfl rfl ?_
                  refine v_ishl C dX6_choice_83 rfl ?_
                  refine v_ior C dX6_choice_84 rfl ?_
                  refine V.top (fun v85_1 ev85_1 => ?_)
                  refine v_istore_n (lv' := [(3, .int v85_1), (6, .int (nI b)), (5, .int (nI q)), (4, .int x4), (0, .ref 0), (1, .int v)]) C dX6_choice_85 rfl (Nat.le_of_ble_eq_true rfl) rfl rfl ?_
                  refine v_iload C dX6_choice_86 rfl rfl ?_
                  refine v_aload_n C dX6_choice_88 rfl rfl rfl ?_
                  refine v_getI C (Nat.le_of_ble_eq_true rfl) rfl rfl hinX6 9 (Nat.le_of_ble_eq_true rfl) lkX6_61 rfl dX6_choice_89 rfl ?_
                  refine V.tp hht ?_
                  refine v_irem C dX6_choice_92 (nI_ne0 (by omega) (by omega)) rfl ?_
                  refine V.tp (pk_rem (a := q) (d := h) (by omega) (by omega) (by omega)) ?_
                  refine v_istore (lv' := [(4, .int (nI (q % h))), (3, .int v85_1), (6, .int (nI b)), (5, .int (nI q)), (0, .ref 0), (1, .int v)]) C dX6_choice_93 (Nat.le_of_ble_eq_true rfl) rfl rfl ?_
                  refine v_aload_n C dX6_choice_95 rfl rfl rfl ?_
                  refine v_getR C (Nat.le_of_ble_eq_true rfl) rfl rfl hinX6 25 (Nat.le_of_ble_eq_true rfl) lkX6_55 rfl dX6_choice_96 rfl ?_
                  refine v_iload C dX6_choice_99 rfl rfl ?_
                  refine v_dup2 C dX6_choice_101 rfl rfl rfl ?_
                  refine v_iald (i := q % h) C (Nat.le_of_ble_eq_true rfl) rfl rfl (by omega) (by decide) dX6_choice_102 rfl ?_
                  refine V.tp hv16 ?_
                  refine v_aload_n C dX6_choice_103 rfl rfl rfl ?_
                  refine v_iload C dX6_choice_104 rfl rfl ?_
                  refine v_callV C (Nat.le_of_ble_eq_true rfl) rfl rfl (As := [.int (nI b)]) (rest := [.int ((chS (z4 (σ 16)) (blR σ n) n h q) (q % h)), .int (nI (q % h)), .ref 16]) (kX6_blameOf n b υ hnt h7 hbn) rfl (Nat.le_of_ble_eq_true rfl) (Nat.le_of_ble_eq_true rfl) ⟨mlX6_169, mfX6_blameOf⟩ dkX6_blameOf (Nat.le_of_ble_eq_true rfl) dX6_choice_106 rfl (kI ?_)
                  refine V.tp (show blaF (υ 4) (υ 6) (υ 7) (υ 8) n b = ofO (blR σ n) 0 (chM (blR σ n) n q) from by rw [hb, eυ]; rfl) ?_
                  refine v_iadd C dX6_choice_109 rfl ?_
                  refine v_iast (i := q % h) C (Nat.le_of_ble_eq_true rfl) rfl rfl (by omega) (by decide) dX6_choice_110 rfl ?_
                  refine V.nm (fun τ110_2 eτ110_2 => ?_)
                  refine v_iinc (lv' := [(5, .int (nI (q + 1))), (4, .int (nI (q % h))), (3, .int v85_1), (6, .int (nI b)), (0, .ref 0), (1, .int v)]) C dX6_choice_111 rfl (nI_inc q) (Nat.le_of_ble_eq_true rfl) rfl rfl ?_
                  refine v_goto (tgt := 63) C dX6_choice_114 (by decide) ?_
                  exact V.sub [0, 1, 2, 4, 5] rfl (ih63 (q + 1) _ _ _ (by omega) (by omega) (by rw [ev85_1, tkN, show minN (fun p => ¬ hasP (tkN (blR σ n) n q) (nI p)) (blR σ n) n = some b from hb, ex3]; rfl) (rfl) (by rw [eτ110_2, eυ, setR_s2]; rfl))
            exact V.sub [0, 1, 2, 4, 5] rfl (lp63 (n + 1) 0 0 _ _ (by omega) (by omega) (rfl) (rfl) (by rw [eτ, show i = 4 by omega]; rfl))
          · skip
            have c38 := (nI_ltI (a := i) (b := 4) (by omega) (by omega)).mp c38
            refine v_aload_n C dX6_choice_41 rfl rfl rfl ?_
            refine v_getR C (Nat.le_of_ble_eq_true rfl) rfl rfl hinX6 25 (Nat.le_of_ble_eq_true rfl) lkX6_55 rfl dX6_choice_42 rfl ?_
            refine v_iload_n C dX6_choice_45 rfl rfl rfl ?_
            refine v_iconst (v := 0) C dX6_choice_46 (by decide) rfl ?_
            refine v_iast (i := i) C (Nat.le_of_ble_eq_true rfl) rfl rfl (by omega) (by decide) dX6_choice_47 rfl ?_
            refine V.nm (fun τ47_3 eτ47_3 => ?_)
            refine v_iinc (lv' := [(3, .int (nI (i + 1))), (2, .int 0), (0, .ref 0), (1, .int v)]) C dX6_choice_48 rfl (nI_inc i) (Nat.le_of_ble_eq_true rfl) rfl rfl ?_
            refine v_goto (tgt := 36) C dX6_choice_51 (by decide) ?_
            exact V.sub [0, 1, 2, 3] rfl (ih36 (i + 1)  _ (by omega) (by omega)  (by rw [eτ47_3, eτ, setR_s2, pre_upd _ _ _ rfl]))
      exact V.sub [0, 1, 2, 3] rfl (lp36 (4 + 1) 0  _ (by omega) (by omega)  (by rw [pre_0, setR_self]))
    · skip
      refine v_iconst (v := -1) C dX6_choice_18 (by decide) rfl ?_
      refine v_goto (tgt := 23) C dX6_choice_19 (by decide) ?_
      have q1 := c2
      have q2 := c15
      refine v_istore_n (lv' := [(2, .int (-1)), (0, .ref 0), (1, .int v)]) C dX6_choice_23 rfl (Nat.le_of_ble_eq_true rfl) rfl rfl ?_
      refine v_iload_n C dX6_choice_24 rfl rfl rfl ?_
      refine v_if_eq (tgt := 34) C dX6_choice_25 (by decide) rfl (fun q => absurd q (by decide)) (fun _ => ?_)
      refine v_aload_n C dX6_choice_28 rfl rfl rfl ?_
      refine v_iload_n C dX6_choice_29 rfl rfl rfl ?_
      refine v_callV C (Nat.le_of_ble_eq_true rfl) rfl rfl (As := [.int (-1)]) (rest := []) (kX6_no (-1) 1 σ (by decide) (by decide)) rfl (Nat.le_of_ble_eq_true rfl) (Nat.le_of_ble_eq_true rfl) ⟨mlX6_79, mfX6_no⟩ dkX6_no (Nat.le_of_ble_eq_true rfl) dX6_choice_30 rfl (kI ?_)
      exact v_iret C dX6_choice_33 (by rw [hX]; exact ⟨_, rfl, by simp [choA, q1, q2], Or.inr (Or.inl ⟨q1, q2, rfl⟩)⟩)
  · skip
    refine v_bipush (v := -4) C dX6_choice_5 (by decide) rfl ?_
    refine v_goto (tgt := 23) C dX6_choice_7 (by decide) ?_
    have q1 := c2
    refine v_istore_n (lv' := [(2, .int (-4)), (0, .ref 0), (1, .int v)]) C dX6_choice_23 rfl (Nat.le_of_ble_eq_true rfl) rfl rfl ?_
    refine v_iload_n C dX6_choice_24 rfl rfl rfl ?_
    refine v_if_eq (tgt := 34) C dX6_choice_25 (by decide) rfl (fun q => absurd q (by decide)) (fun _ => ?_)
    refine v_aload_n C dX6_choice_28 rfl rfl rfl ?_
    refine v_iload_n C dX6_choice_29 rfl rfl rfl ?_
    refine v_callV C (Nat.le_of_ble_eq_true rfl) rfl rfl (As := [.int (-4)]) (rest := []) (kX6_no (-4) 4 σ (by decide) (by decide)) rfl (Nat.le_of_ble_eq_true rfl) (Nat.le_of_ble_eq_true rfl) ⟨mlX6_79, mfX6_no⟩ dkX6_no (Nat.le_of_ble_eq_true rfl) dX6_choice_30 rfl (kI ?_)
    exact v_iret C dX6_choice_33 (by rw [hX]; exact ⟨_, rfl, by simp [choA, q1], Or.inl ⟨q1, rfl⟩⟩)
