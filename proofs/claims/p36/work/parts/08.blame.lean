/-! the check's class: blame, bulk, width -/
def suiG (kd pl : Nat → Int32) (p q : Nat) : Int32 := if ¬ q = p ∧ ¬ pl p = 9 ∧ pl q = pl p ∧ (kd q = 1 ∨ kd q = 4) then 2 else 0
def suiF (kd ft pl : Nat → Int32) (n p : Nat) : Int32 := ft p + sumN (suiG kd pl p) n
def venF (ft : Nat → Int32) (n p : Nat) : Int32 := ft p / 2 + (if n = 1 then 0 else ft ((p + 1) % n))
def blaF (kd ft ag pl : Nat → Int32) (n p : Nat) : Int32 :=
  if kd p = 1 then suiF kd ft pl n p else if kd p = 2 then venF ft n p else if kd p = 3 then ft p + ag p / 10 else if kd p = 4 then suiF kd ft pl n p + ft p else if kd p = 5 then venF ft n p / 2 else ft p
def widF (kd bk : Nat → Int32) (p : Nat) : Int32 := if kd p = 4 then 10 else if kd p = 2 then bk p - 1 else if kd p = 3 then bk p / 2 else bk p
def binG (kd ft ag pl : Nat → Int32) (n : Nat) (r : Int32) (p : Nat) : Int32 := if r = 10 ∨ pl p = r then blaF kd ft ag pl n p else 0
def binF (kd ft ag pl : Nat → Int32) (n : Nat) (r : Int32) : Int32 := sumN (binG kd ft ag pl n r) n
def bulG (bk pl : Nat → Int32) (r : Int32) (p : Nat) : Int32 := if pl p = r then bk p else 0
def bulF (bk pl : Nat → Int32) (n : Nat) (r : Int32) : Int32 := sumN (bulG bk pl r) n
theorem kX6_suiteOf (n p : Nat) (σ : St) (hn : σ 0 8 = nI n) (h7 : n ≤ 7) (hp : p < n) : Ct yX6_suiteOf cX6_suiteOf 4 (some .int) 0 [.ref 0, .int (nI p)] σ (fI (suiF (σ 4) (σ 6) (σ 8) n p) σ) := by
  refine ct_of plX6 rfl (Nat.le_of_ble_eq_true rfl) (fun X hX C => ?_)
  show V X 0 [(0, .ref 0), (1, .int (nI p))] [] σ
  refine v_aload_n C dX6_suiteOf_0 rfl rfl rfl ?_
  refine v_getR C (Nat.le_of_ble_eq_true rfl) rfl rfl hinX6 5 (Nat.le_of_ble_eq_true rfl) lkX6_25 rfl dX6_suiteOf_1 rfl ?_
  refine v_iload_n C dX6_suiteOf_4 rfl rfl rfl ?_
  refine v_iald (i := p) C (Nat.le_of_ble_eq_true rfl) rfl rfl (by omega) (by decide) dX6_suiteOf_5 rfl ?_
  refine V.top (fun v6_1 ev6_1 => ?_)
  refine v_istore_n (lv' := [(2, .int v6_1), (0, .ref 0), (1, .int (nI p))]) C dX6_suiteOf_6 rfl (Nat.le_of_ble_eq_true rfl) rfl rfl ?_
  refine v_iconst (v := 0) C dX6_suiteOf_7 (by decide) rfl ?_
  refine v_istore_n (lv' := [(3, .int 0), (2, .int v6_1), (0, .ref 0), (1, .int (nI p))]) C dX6_suiteOf_8 rfl (Nat.le_of_ble_eq_true rfl) rfl rfl ?_
  have lp9 : ∀ (k i : Nat) (x2 : Int32) , n < i + k → i ≤ n → x2 = σ 6 p + sumN (suiG (σ 4) (σ 8) p) i → V X 9 [(3, .int (nI i)), (2, .int x2), (0, .ref 0), (1, .int (nI p))] [] σ := by
    intro k
    induction k with
    | zero => intro i x2 h1 h2; omega
    | succ k ih =>
      intro i x2 h1 h2 ex2
      refine v_iload_n C dX6_suiteOf_9 rfl rfl rfl ?_
      refine v_aload_n C dX6_suiteOf_10 rfl rfl rfl ?_
      refine v_getI C (Nat.le_of_ble_eq_true rfl) rfl rfl hinX6 8 (Nat.le_of_ble_eq_true rfl) lkX6_65 rfl dX6_suiteOf_11 rfl ?_
      refine V.tp hn ?_
      refine v_icmp_ge (tgt := 82) C dX6_suiteOf_14 (by decide) rfl (fun c14 => ?_) (fun c14 => ?_)
      · skip
        have c14 := mt (nI_ltI (a := i) (b := n) (by omega) (by omega)).mpr c14
        refine v_iload_n C dX6_suiteOf_82 rfl rfl rfl ?_
        exact v_iret C dX6_suiteOf_83 (by rw [hX]; exact fI_of (by rw [ex2, suiF, show i = n by omega]) rfl)
      · skip
        have c14 := (nI_ltI (a := i) (b := n) (by omega) (by omega)).mp c14
        refine v_iload_n C dX6_suiteOf_17 rfl rfl rfl ?_
        refine v_iload_n C dX6_suiteOf_18 rfl rfl rfl ?_
        refine v_iload_n C dX6_suiteOf_19 rfl rfl rfl ?_
        refine v_icmp_eq (tgt := 73) C dX6_suiteOf_20 (by decide) rfl (fun c20 => ?_) (fun c20 => ?_)
        · skip
          have c20 := (nI_eq (a := i) (b := p) (by omega) (by omega)).mp c20
          refine v_iconst (v := 0) C dX6_suiteOf_73 (by decide) rfl ?_
          refine v_iadd C dX6_suiteOf_74 rfl ?_
          refine V.top (fun v75_2 ev75_2 => ?_)
          refine v_istore_n (lv' := [(2, .int v75_2), (3, .int (nI i)), (0, .ref 0), (1, .int (nI p))]) C dX6_suiteOf_75 rfl (Nat.le_of_ble_eq_true rfl) rfl rfl ?_
          refine v_iinc (lv' := [(3, .int (nI (i + 1))), (2, .int v75_2), (0, .ref 0), (1, .int (nI p))]) C dX6_suiteOf_76 rfl (nI_inc i) (Nat.le_of_ble_eq_true rfl) rfl rfl ?_
          refine v_goto (tgt := 9) C dX6_suiteOf_79 (by decide) ?_
          exact V.sub [0, 1, 2, 3] rfl (ih (i + 1) _ (by omega) (by omega) (by rw [ev75_2, ex2]; simp [sumN, suiG, Int32.add_assoc, c14, c20]))
        · skip
          have c20 := mt (nI_eq (a := i) (b := p) (by omega) (by omega)).mpr c20
          refine v_aload_n C dX6_suiteOf_23 rfl rfl rfl ?_
          refine v_getR C (Nat.le_of_ble_eq_true rfl) rfl rfl hinX6 7 (Nat.le_of_ble_eq_true rfl) lkX6_31 rfl dX6_suiteOf_24 rfl ?_
          refine v_iload_n C dX6_suiteOf_27 rfl rfl rfl ?_
          refine v_iald (i := p) C (Nat.le_of_ble_eq_true rfl) rfl rfl (by omega) (by decide) dX6_suiteOf_28 rfl ?_
          refine v_bipush (v := 9) C dX6_suiteOf_29 (by decide) rfl ?_
          refine v_icmp_eq (tgt := 73) C dX6_suiteOf_31 (by decide) rfl (fun c31 => ?_) (fun c31 => ?_)
          · skip
            refine v_iconst (v := 0) C dX6_suiteOf_73 (by decide) rfl ?_
            refine v_iadd C dX6_suiteOf_74 rfl ?_
            refine V.top (fun v75_3 ev75_3 => ?_)
            refine v_istore_n (lv' := [(2, .int v75_3), (3, .int (nI i)), (0, .ref 0), (1, .int (nI p))]) C dX6_suiteOf_75 rfl (Nat.le_of_ble_eq_true rfl) rfl rfl ?_
            refine v_iinc (lv' := [(3, .int (nI (i + 1))), (2, .int v75_3), (0, .ref 0), (1, .int (nI p))]) C dX6_suiteOf_76 rfl (nI_inc i) (Nat.le_of_ble_eq_true rfl) rfl rfl ?_
            refine v_goto (tgt := 9) C dX6_suiteOf_79 (by decide) ?_
            exact V.sub [0, 1, 2, 3] rfl (ih (i + 1) _ (by omega) (by omega) (by rw [ev75_3, ex2]; simp [sumN, suiG, Int32.add_assoc, c14, c20, c31]))
          · skip
            refine v_aload_n C dX6_suiteOf_34 rfl rfl rfl ?_
            refine v_getR C (Nat.le_of_ble_eq_true rfl) rfl rfl hinX6 7 (Nat.le_of_ble_eq_true rfl) lkX6_31 rfl dX6_suiteOf_35 rfl ?_
            refine v_iload_n C dX6_suiteOf_38 rfl rfl rfl ?_
            refine v_iald (i := i) C (Nat.le_of_ble_eq_true rfl) rfl rfl (by omega) (by decide) dX6_suiteOf_39 rfl ?_
            refine v_aload_n C dX6_suiteOf_40 rfl rfl rfl ?_
            refine v_getR C (Nat.le_of_ble_eq_true rfl) rfl rfl hinX6 7 (Nat.le_of_ble_eq_true rfl) lkX6_31 rfl dX6_suiteOf_41 rfl ?_
            refine v_iload_n C dX6_suiteOf_44 rfl rfl rfl ?_
            refine v_iald (i := p) C (Nat.le_of_ble_eq_true rfl) rfl rfl (by omega) (by decide) dX6_suiteOf_45 rfl ?_
            refine v_icmp_ne (tgt := 73) C dX6_suiteOf_46 (by decide) rfl (fun c46 => ?_) (fun c46 => ?_)
            · skip
              refine v_iconst (v := 0) C dX6_suiteOf_73 (by decide) rfl ?_
              refine v_iadd C dX6_suiteOf_74 rfl ?_
              refine V.top (fun v75_4 ev75_4 => ?_)
              refine v_istore_n (lv' := [(2, .int v75_4), (3, .int (nI i)), (0, .ref 0), (1, .int (nI p))]) C dX6_suiteOf_75 rfl (Nat.le_of_ble_eq_true rfl) rfl rfl ?_
              refine v_iinc (lv' := [(3, .int (nI (i + 1))), (2, .int v75_4), (0, .ref 0), (1, .int (nI p))]) C dX6_suiteOf_76 rfl (nI_inc i) (Nat.le_of_ble_eq_true rfl) rfl rfl ?_
              refine v_goto (tgt := 9) C dX6_suiteOf_79 (by decide) ?_
              exact V.sub [0, 1, 2, 3] rfl (ih (i + 1) _ (by omega) (by omega) (by rw [ev75_4, ex2]; simp [sumN, suiG, Int32.add_assoc, c14, c20, c31, c46]))
            · skip
              refine v_aload_n C dX6_suiteOf_49 rfl rfl rfl ?_
              refine v_getR C (Nat.le_of_ble_eq_true rfl) rfl rfl hinX6 3 (Nat.le_of_ble_eq_true rfl) lkX6_19 rfl dX6_suiteOf_50 rfl ?_
              refine v_iload_n C dX6_suiteOf_53 rfl rfl rfl ?_
              refine v_iald (i := i) C (Nat.le_of_ble_eq_true rfl) rfl rfl (by omega) (by decide) dX6_suiteOf_54 rfl ?_
              refine v_iconst (v := 1) C dX6_suiteOf_55 (by decide) rfl ?_
              refine v_icmp_eq (tgt := 69) C dX6_suiteOf_56 (by decide) rfl (fun c56 => ?_) (fun c56 => ?_)
              · skip
                refine v_iconst (v := 2) C dX6_suiteOf_69 (by decide) rfl ?_
                refine v_goto (tgt := 74) C dX6_suiteOf_70 (by decide) ?_
                refine v_iadd C dX6_suiteOf_74 rfl ?_
                refine V.top (fun v75_5 ev75_5 => ?_)
                refine v_istore_n (lv' := [(2, .int v75_5), (3, .int (nI i)), (0, .ref 0), (1, .int (nI p))]) C dX6_suiteOf_75 rfl (Nat.le_of_ble_eq_true rfl) rfl rfl ?_
                refine v_iinc (lv' := [(3, .int (nI (i + 1))), (2, .int v75_5), (0, .ref 0), (1, .int (nI p))]) C dX6_suiteOf_76 rfl (nI_inc i) (Nat.le_of_ble_eq_true rfl) rfl rfl ?_
                refine v_goto (tgt := 9) C dX6_suiteOf_79 (by decide) ?_
                exact V.sub [0, 1, 2, 3] rfl (ih (i + 1) _ (by omega) (by omega) (by rw [ev75_5, ex2]; simp [sumN, suiG, Int32.add_assoc, c14, c20, c31, c46, c56]))
              · skip
                refine v_aload_n C dX6_suiteOf_59 rfl rfl rfl ?_
                refine v_getR C (Nat.le_of_ble_eq_true rfl) rfl rfl hinX6 3 (Nat.le_of_ble_eq_true rfl) lkX6_19 rfl dX6_suiteOf_60 rfl ?_
                refine v_iload_n C dX6_suiteOf_63 rfl rfl rfl ?_
                refine v_iald (i := i) C (Nat.le_of_ble_eq_true rfl) rfl rfl (by omega) (by decide) dX6_suiteOf_64 rfl ?_
                refine v_iconst (v := 4) C dX6_suiteOf_65 (by decide) rfl ?_
                refine v_icmp_ne (tgt := 73) C dX6_suiteOf_66 (by decide) rfl (fun c66 => ?_) (fun c66 => ?_)
                · skip
                  refine v_iconst (v := 0) C dX6_suiteOf_73 (by decide) rfl ?_
                  refine v_iadd C dX6_suiteOf_74 rfl ?_
                  refine V.top (fun v75_6 ev75_6 => ?_)
                  refine v_istore_n (lv' := [(2, .int v75_6), (3, .int (nI i)), (0, .ref 0), (1, .int (nI p))]) C dX6_suiteOf_75 rfl (Nat.le_of_ble_eq_true rfl) rfl rfl ?_
                  refine v_iinc (lv' := [(3, .int (nI (i + 1))), (2, .int v75_6), (0, .ref 0), (1, .int (nI p))]) C dX6_suiteOf_76 rfl (nI_inc i) (Nat.le_of_ble_eq_true rfl) rfl rfl ?_
                  refine v_goto (tgt := 9) C dX6_suiteOf_79 (by decide) ?_
                  exact V.sub [0, 1, 2, 3] rfl (ih (i + 1) _ (by omega) (by omega) (by rw [ev75_6, ex2]; simp [sumN, suiG, Int32.add_assoc, c14, c20, c31, c46, c56, c66]))
                · skip
                  refine v_iconst (v := 2) C dX6_suiteOf_69 (by decide) rfl ?_
                  refine v_goto (tgt := 74) C dX6_suiteOf_70 (by decide) ?_
                  refine v_iadd C dX6_suiteOf_74 rfl ?_
                  refine V.top (fun v75_7 ev75_7 => ?_)
                  refine v_istore_n (lv' := [(2, .int v75_7), (3, .int (nI i)), (0, .ref 0), (1, .int (nI p))]) C dX6_suiteOf_75 rfl (Nat.le_of_ble_eq_true rfl) rfl rfl ?_
                  refine v_iinc (lv' := [(3, .int (nI (i + 1))), (2, .int v75_7), (0, .ref 0), (1, .int (nI p))]) C dX6_suiteOf_76 rfl (nI_inc i) (Nat.le_of_ble_eq_true rfl) rfl rfl ?_
                  refine v_goto (tgt := 9) C dX6_suiteOf_79 (by decide) ?_
                  exact V.sub [0, 1, 2, 3] rfl (ih (i + 1) _ (by omega) (by omega) (by rw [ev75_7, ex2]; simp [sumN, suiG, Int32.add_assoc, c14, c20, c31, c46, c56, c66]))
  exact V.sub [0, 1, 2, 3] rfl (lp9 (n + 1) 0 v6_1 (by omega) (by omega) (by rw [ev6_1]; simp [sumN]))
theorem kX6_veneerOf (n p : Nat) (σ : St) (hn : σ 0 8 = nI n) (h7 : n ≤ 7) (hp : p < n) : Ct yX6_veneerOf cX6_veneerOf 2 (some .int) 0 [.ref 0, .int (nI p)] σ (fI (venF (σ 6) n p) σ) := by
  refine ct_of plX6 rfl (Nat.le_of_ble_eq_true rfl) (fun X hX C => ?_)
  show V X 0 [(0, .ref 0), (1, .int (nI p))] [] σ
  refine v_aload_n C dX6_veneerOf_0 rfl rfl rfl ?_
  refine v_getR C (Nat.le_of_ble_eq_true rfl) rfl rfl hinX6 5 (Nat.le_of_ble_eq_true rfl) lkX6_25 rfl dX6_veneerOf_1 rfl ?_
  refine v_iload_n C dX6_veneerOf_4 rfl rfl rfl ?_
  refine v_iald (i := p) C (Nat.le_of_ble_eq_true rfl) rfl rfl (by omega) (by decide) dX6_veneerOf_5 rfl ?_
  refine v_iconst (v := 2) C dX6_veneerOf_6 (by decide) rfl ?_
  refine v_idiv C dX6_veneerOf_7 (by decide) rfl ?_
  refine v_aload_n C dX6_veneerOf_8 rfl rfl rfl ?_
  refine v_getI C (Nat.le_of_ble_eq_true rfl) rfl rfl hinX6 8 (Nat.le_of_ble_eq_true rfl) lkX6_65 rfl dX6_veneerOf_9 rfl ?_
  refine V.tp hn ?_
  refine v_iconst (v := 1) C dX6_veneerOf_12 (by decide) rfl ?_
  refine v_icmp_ne (tgt := 20) C dX6_veneerOf_13 (by decide) rfl (fun c13 => ?_) (fun c13 => ?_)
  · skip
    have c13 := mt (nI_eq (a := n) (b := 1) (by omega) (by omega)).mpr c13
    refine v_aload_n C dX6_veneerOf_20 rfl rfl rfl ?_
    refine v_getR C (Nat.le_of_ble_eq_true rfl) rfl rfl hinX6 5 (Nat.le_of_ble_eq_true rfl) lkX6_25 rfl dX6_veneerOf_21 rfl ?_
    refine v_iload_n C dX6_veneerOf_24 rfl rfl rfl ?_
    refine v_iconst (v := 1) C dX6_veneerOf_25 (by decide) rfl ?_
    refine v_iadd C dX6_veneerOf_26 rfl ?_
    refine v_aload_n C dX6_veneerOf_27 rfl rfl rfl ?_
    refine v_getI C (Nat.le_of_ble_eq_true rfl) rfl rfl hinX6 8 (Nat.le_of_ble_eq_true rfl) lkX6_65 rfl dX6_veneerOf_28 rfl ?_
    refine V.tp hn ?_
    refine v_irem C dX6_veneerOf_31 (nI_ne0 (by omega) (by omega)) rfl ?_
    refine v_iald (i := ((p + 1) % n)) C (Nat.le_of_ble_eq_true rfl) rfl (by rw [show nI p + 1 = nI (p + 1) from nI_1 p]; exact pk_rem (by omega) (by omega) (by omega)) (by have := Nat.mod_lt (p + 1) (show 0 < n by omega); omega) (by decide) dX6_veneerOf_32 rfl ?_
    refine v_iadd C dX6_veneerOf_33 rfl ?_
    exact v_iret C dX6_veneerOf_34 (by rw [hX]; exact fI_of (by simp [venF, c13]) rfl)
  · skip
    have c13 := (nI_eq (a := n) (b := 1) (by omega) (by omega)).mp c13
    refine v_iconst (v := 0) C dX6_veneerOf_16 (by decide) rfl ?_
    refine v_goto (tgt := 33) C dX6_veneerOf_17 (by decide) ?_
    refine v_iadd C dX6_veneerOf_33 rfl ?_
    exact v_iret C dX6_veneerOf_34 (by rw [hX]; exact fI_of (by simp [venF, c13]) rfl)
theorem kX6_blameOf (n p : Nat) (σ : St) (hn : σ 0 8 = nI n) (h7 : n ≤ 7) (hp : p < n) : Ct yX6_blameOf cX6_blameOf 2 (some .int) 1 [.ref 0, .int (nI p)] σ (fI (blaF (σ 4) (σ 6) (σ 7) (σ 8) n p) σ) := by
  refine ct_of plX6 rfl (Nat.le_of_ble_eq_true rfl) (fun X hX C => ?_)
  show V X 0 [(0, .ref 0), (1, .int (nI p))] [] σ
  refine v_aload_n C dX6_blameOf_0 rfl rfl rfl ?_
  refine v_getR C (Nat.le_of_ble_eq_true rfl) rfl rfl hinX6 3 (Nat.le_of_ble_eq_true rfl) lkX6_19 rfl dX6_blameOf_1 rfl ?_
  refine v_iload_n C dX6_blameOf_4 rfl rfl rfl ?_
  refine v_iald (i := p) C (Nat.le_of_ble_eq_true rfl) rfl rfl (by omega) (by decide) dX6_blameOf_5 rfl ?_
  by_cases s6_1 : σ 4 p = 1
  · refine V.tp s6_1 ?_
    refine v_tableIn (off := 34) (tgt := 40) C dX6_blameOf_6 (by decide) (by decide) rfl (by decide) ?_
    refine v_aload_n C dX6_blameOf_40 rfl rfl rfl ?_
    refine v_iload_n C dX6_blameOf_41 rfl rfl rfl ?_
    refine v_callV C (Nat.le_of_ble_eq_true rfl) rfl rfl (As := [.int (nI p)]) (rest := []) (kX6_suiteOf n p σ hn h7 (by omega)) rfl (Nat.le_of_ble_eq_true rfl) (Nat.le_of_ble_eq_true rfl) ⟨mlX6_163, mfX6_suiteOf⟩ dkX6_suiteOf (Nat.le_of_ble_eq_true rfl) dX6_blameOf_42 rfl (kI ?_)
    exact v_iret C dX6_blameOf_45 (by rw [hX]; exact fI_of (by simp [blaF, s6_1]) rfl)
  by_cases s6_2 : σ 4 p = 2
  · refine V.tp s6_2 ?_
    refine v_tableIn (off := 40) (tgt := 46) C dX6_blameOf_6 (by decide) (by decide) rfl (by decide) ?_
    refine v_aload_n C dX6_blameOf_46 rfl rfl rfl ?_
    refine v_iload_n C dX6_blameOf_47 rfl rfl rfl ?_
    refine v_callV C (Nat.le_of_ble_eq_true rfl) rfl rfl (As := [.int (nI p)]) (rest := []) (kX6_veneerOf n p σ hn h7 (by omega)) rfl (Nat.le_of_ble_eq_true rfl) (Nat.le_of_ble_eq_true rfl) ⟨mlX6_166, mfX6_veneerOf⟩ dkX6_veneerOf (Nat.le_of_ble_eq_true rfl) dX6_blameOf_48 rfl (kI ?_)
    exact v_iret C dX6_blameOf_51 (by rw [hX]; exact fI_of (by simp [blaF, s6_1, s6_2]) rfl)
  by_cases s6_3 : σ 4 p = 3
  · refine V.tp s6_3 ?_
    refine v_tableIn (off := 46) (tgt := 52) C dX6_blameOf_6 (by decide) (by decide) rfl (by decide) ?_
    refine v_aload_n C dX6_blameOf_52 rfl rfl rfl ?_
    refine v_getR C (Nat.le_of_ble_eq_true rfl) rfl rfl hinX6 5 (Nat.le_of_ble_eq_true rfl) lkX6_25 rfl dX6_blameOf_53 rfl ?_
    refine v_iload_n C dX6_blameOf_56 rfl rfl rfl ?_
    refine v_iald (i := p) C (Nat.le_of_ble_eq_true rfl) rfl rfl (by omega) (by decide) dX6_blameOf_57 rfl ?_
    refine v_aload_n C dX6_blameOf_58 rfl rfl rfl ?_
    refine v_getR C (Nat.le_of_ble_eq_true rfl) rfl rfl hinX6 6 (Nat.le_of_ble_eq_true rfl) lkX6_28 rfl dX6_blameOf_59 rfl ?_
    refine v_iload_n C dX6_blameOf_62 rfl rfl rfl ?_
    refine v_iald (i := p) C (Nat.le_of_ble_eq_true rfl) rfl rfl (by omega) (by decide) dX6_blameOf_63 rfl ?_
    refine v_bipush (v := 10) C dX6_blameOf_64 (by decide) rfl ?_
    refine v_idiv C dX6_blameOf_66 (by decide) rfl ?_
    refine v_iadd C dX6_blameOf_67 rfl ?_
    exact v_iret C dX6_blameOf_68 (by rw [hX]; exact fI_of (by simp [blaF, s6_1, s6_2, s6_3]) rfl)
  by_cases s6_4 : σ 4 p = 4
  · refine V.tp s6_4 ?_
    refine v_tableIn (off := 63) (tgt := 69) C dX6_blameOf_6 (by decide) (by decide) rfl (by decide) ?_
    refine v_aload_n C dX6_blameOf_69 rfl rfl rfl ?_
    refine v_iload_n C dX6_blameOf_70 rfl rfl rfl ?_
    refine v_callV C (Nat.le_of_ble_eq_true rfl) rfl rfl (As := [.int (nI p)]) (rest := []) (kX6_suiteOf n p σ hn h7 (by omega)) rfl (Nat.le_of_ble_eq_true rfl) (Nat.le_of_ble_eq_true rfl) ⟨mlX6_163, mfX6_suiteOf⟩ dkX6_suiteOf (Nat.le_of_ble_eq_true rfl) dX6_blameOf_71 rfl (kI ?_)
    refine v_aload_n C dX6_blameOf_74 rfl rfl rfl ?_
    refine v_getR C (Nat.le_of_ble_eq_true rfl) rfl rfl hinX6 5 (Nat.le_of_ble_eq_true rfl) lkX6_25 rfl dX6_blameOf_75 rfl ?_
    refine v_iload_n C dX6_blameOf_78 rfl rfl rfl ?_
    refine v_iald (i := p) C (Nat.le_of_ble_eq_true rfl) rfl rfl (by omega) (by decide) dX6_blameOf_79 rfl ?_
    refine v_iadd C dX6_blameOf_80 rfl ?_
    exact v_iret C dX6_blameOf_81 (by rw [hX]; exact fI_of (by simp [blaF, s6_1, s6_2, s6_3, s6_4]) rfl)
  by_cases s6_5 : σ 4 p = 5
  · refine V.tp s6_5 ?_
    refine v_tableIn (off := 76) (tgt := 82) C dX6_blameOf_6 (by decide) (by decide) rfl (by decide) ?_
    refine v_aload_n C dX6_blameOf_82 rfl rfl rfl ?_
    refine v_iload_n C dX6_blameOf_83 rfl rfl rfl ?_
    refine v_callV C (Nat.le_of_ble_eq_true rfl) rfl rfl (As := [.int (nI p)]) (rest := []) (kX6_veneerOf n p σ hn h7 (by omega)) rfl (Nat.le_of_ble_eq_true rfl) (Nat.le_of_ble_eq_true rfl) ⟨mlX6_166, mfX6_veneerOf⟩ dkX6_veneerOf (Nat.le_of_ble_eq_true rfl) dX6_blameOf_84 rfl (kI ?_)
    refine v_iconst (v := 2) C dX6_blameOf_87 (by decide) rfl ?_
    refine v_idiv C dX6_blameOf_88 (by decide) rfl ?_
    exact v_iret C dX6_blameOf_89 (by rw [hX]; exact fI_of (by simp [blaF, s6_1, s6_2, s6_3, s6_4, s6_5]) rfl)
  refine v_tableOut (tgt := 90) C dX6_blameOf_6 (by have e0 := lv_neT s6_1 (a := 1) (by decide); have e1 := lv_neT s6_2 (a := 2) (by decide); have e2 := lv_neT s6_3 (a := 3) (by decide); have e3 := lv_neT s6_4 (a := 4) (by decide); have e4 := lv_neT s6_5 (a := 5) (by decide); omega) (by decide) ?_
  refine v_aload_n C dX6_blameOf_90 rfl rfl rfl ?_
  refine v_getR C (Nat.le_of_ble_eq_true rfl) rfl rfl hinX6 5 (Nat.le_of_ble_eq_true rfl) lkX6_25 rfl dX6_blameOf_91 rfl ?_
  refine v_iload_n C dX6_blameOf_94 rfl rfl rfl ?_
  refine v_iald (i := p) C (Nat.le_of_ble_eq_true rfl) rfl rfl (by omega) (by decide) dX6_blameOf_95 rfl ?_
  exact v_iret C dX6_blameOf_96 (by rw [hX]; exact fI_of (by simp [blaF, s6_1, s6_2, s6_3, s6_4, s6_5]) rfl)
theorem kX6_wideOf (n p : Nat) (σ : St) (h7 : n ≤ 7) (hp : p < n) : Ct yX6_wideOf cX6_wideOf 2 (some .int) 0 [.ref 0, .int (nI p)] σ (fI (widF (σ 4) (σ 5) p) σ) := by
  refine ct_of plX6 rfl (Nat.le_of_ble_eq_true rfl) (fun X hX C => ?_)
  show V X 0 [(0, .ref 0), (1, .int (nI p))] [] σ
  refine v_aload_n C dX6_wideOf_0 rfl rfl rfl ?_
  refine v_getR C (Nat.le_of_ble_eq_true rfl) rfl rfl hinX6 3 (Nat.le_of_ble_eq_true rfl) lkX6_19 rfl dX6_wideOf_1 rfl ?_
  refine v_iload_n C dX6_wideOf_4 rfl rfl rfl ?_
  refine v_iald (i := p) C (Nat.le_of_ble_eq_true rfl) rfl rfl (by omega) (by decide) dX6_wideOf_5 rfl ?_
  refine v_iconst (v := 4) C dX6_wideOf_6 (by decide) rfl ?_
  refine v_icmp_ne (tgt := 15) C dX6_wideOf_7 (by decide) rfl (fun c7 => ?_) (fun c7 => ?_)
  · skip
    refine v_aload_n C dX6_wideOf_15 rfl rfl rfl ?_
    refine v_getR C (Nat.le_of_ble_eq_true rfl) rfl rfl hinX6 3 (Nat.le_of_ble_eq_true rfl) lkX6_19 rfl dX6_wideOf_16 rfl ?_
    refine v_iload_n C dX6_wideOf_19 rfl rfl rfl ?_
    refine v_iald (i := p) C (Nat.le_of_ble_eq_true rfl) rfl rfl (by omega) (by decide) dX6_wideOf_20 rfl ?_
    refine v_iconst (v := 2) C dX6_wideOf_21 (by decide) rfl ?_
    refine v_icmp_ne (tgt := 36) C dX6_wideOf_22 (by decide) rfl (fun c22 => ?_) (fun c22 => ?_)
    · skip
      refine v_aload_n C dX6_wideOf_36 rfl rfl rfl ?_
      refine v_getR C (Nat.le_of_ble_eq_true rfl) rfl rfl hinX6 3 (Nat.le_of_ble_eq_true rfl) lkX6_19 rfl dX6_wideOf_37 rfl ?_
      refine v_iload_n C dX6_wideOf_40 rfl rfl rfl ?_
      refine v_iald (i := p) C (Nat.le_of_ble_eq_true rfl) rfl rfl (by omega) (by decide) dX6_wideOf_41 rfl ?_
      refine v_iconst (v := 3) C dX6_wideOf_42 (by decide) rfl ?_
      refine v_icmp_ne (tgt := 57) C dX6_wideOf_43 (by decide) rfl (fun c43 => ?_) (fun c43 => ?_)
      · skip
        refine v_aload_n C dX6_wideOf_57 rfl rfl rfl ?_
        refine v_getR C (Nat.le_of_ble_eq_true rfl) rfl rfl hinX6 4 (Nat.le_of_ble_eq_true rfl) lkX6_22 rfl dX6_wideOf_58 rfl ?_
        refine v_iload_n C dX6_wideOf_61 rfl rfl rfl ?_
        refine v_iald (i := p) C (Nat.le_of_ble_eq_true rfl) rfl rfl (by omega) (by decide) dX6_wideOf_62 rfl ?_
        exact v_iret C dX6_wideOf_63 (by rw [hX]; exact fI_of (by simp [widF, c7, c22, c43]) rfl)
      · skip
        refine v_aload_n C dX6_wideOf_46 rfl rfl rfl ?_
        refine v_getR C (Nat.le_of_ble_eq_true rfl) rfl rfl hinX6 4 (Nat.le_of_ble_eq_true rfl) lkX6_22 rfl dX6_wideOf_47 rfl ?_
        refine v_iload_n C dX6_wideOf_50 rfl rfl rfl ?_
        refine v_iald (i := p) C (Nat.le_of_ble_eq_true rfl) rfl rfl (by omega) (by decide) dX6_wideOf_51 rfl ?_
        refine v_iconst (v := 2) C dX6_wideOf_52 (by decide) rfl ?_
        refine v_idiv C dX6_wideOf_53 (by decide) rfl ?_
        refine v_goto (tgt := 63) C dX6_wideOf_54 (by decide) ?_
        exact v_iret C dX6_wideOf_63 (by rw [hX]; exact fI_of (by simp [widF, c7, c22, c43]) rfl)
    · skip
      refine v_aload_n C dX6_wideOf_25 rfl rfl rfl ?_
      refine v_getR C (Nat.le_of_ble_eq_true rfl) rfl rfl hinX6 4 (Nat.le_of_ble_eq_true rfl) lkX6_22 rfl dX6_wideOf_26 rfl ?_
      refine v_iload_n C dX6_wideOf_29 rfl rfl rfl ?_
      refine v_iald (i := p) C (Nat.le_of_ble_eq_true rfl) rfl rfl (by omega) (by decide) dX6_wideOf_30 rfl ?_
      refine v_iconst (v := 1) C dX6_wideOf_31 (by decide) rfl ?_
      refine v_isub C dX6_wideOf_32 rfl ?_
      refine v_goto (tgt := 63) C dX6_wideOf_33 (by decide) ?_
      exact v_iret C dX6_wideOf_63 (by rw [hX]; exact fI_of (by simp [widF, c7, c22]) rfl)
  · skip
    refine v_bipush (v := 10) C dX6_wideOf_10 (by decide) rfl ?_
    refine v_goto (tgt := 63) C dX6_wideOf_12 (by decide) ?_
    exact v_iret C dX6_wideOf_63 (by rw [hX]; exact fI_of (by simp [widF, c7]) rfl)
theorem kX6_blameIn (n : Nat) (r : Int32) (σ : St) (hn : σ 0 8 = nI n) (h7 : n ≤ 7) : Ct yX6_blameIn cX6_blameIn 4 (some .int) 2 [.ref 0, .int r] σ (fI (binF (σ 4) (σ 6) (σ 7) (σ 8) n r) σ) := by
  refine ct_of plX6 rfl (Nat.le_of_ble_eq_true rfl) (fun X hX C => ?_)
  show V X 0 [(0, .ref 0), (1, .int r)] [] σ
  refine v_iconst (v := 0) C dX6_blameIn_0 (by decide) rfl ?_
  refine v_istore_n (lv' := [(2, .int 0), (0, .ref 0), (1, .int r)]) C dX6_blameIn_1 rfl (Nat.le_of_ble_eq_true rfl) rfl rfl ?_
  refine v_iconst (v := 0) C dX6_blameIn_2 (by decide) rfl ?_
  refine v_istore_n (lv' := [(3, .int 0), (2, .int 0), (0, .ref 0), (1, .int r)]) C dX6_blameIn_3 rfl (Nat.le_of_ble_eq_true rfl) rfl rfl ?_
  have lp4 : ∀ (k i : Nat) (x2 : Int32) , n < i + k → i ≤ n → x2 = sumN (binG (σ 4) (σ 6) (σ 7) (σ 8) n r) i → V X 4 [(3, .int (nI i)), (2, .int x2), (0, .ref 0), (1, .int r)] [] σ := by
    intro k
    induction k with
    | zero => intro i x2 h1 h2; omega
    | succ k ih =>
      intro i x2 h1 h2 ex2
      refine v_iload_n C dX6_blameIn_4 rfl rfl rfl ?_
      refine v_aload_n C dX6_blameIn_5 rfl rfl rfl ?_
      refine v_getI C (Nat.le_of_ble_eq_true rfl) rfl rfl hinX6 8 (Nat.le_of_ble_eq_true rfl) lkX6_65 rfl dX6_blameIn_6 rfl ?_
      refine V.tp hn ?_
      refine v_icmp_ge (tgt := 46) C dX6_blameIn_9 (by decide) rfl (fun c9 => ?_) (fun c9 => ?_)
      · skip
        have c9 := mt (nI_ltI (a := i) (b := n) (by omega) (by omega)).mpr c9
        refine v_iload_n C dX6_blameIn_46 rfl rfl rfl ?_
        exact v_iret C dX6_blameIn_47 (by rw [hX]; exact fI_of (by rw [ex2, binF, show i = n by omega]) rfl)
      · skip
        have c9 := (nI_ltI (a := i) (b := n) (by omega) (by omega)).mp c9
        refine v_iload_n C dX6_blameIn_12 rfl rfl rfl ?_
        refine v_iload_n C dX6_blameIn_13 rfl rfl rfl ?_
        refine v_bipush (v := 10) C dX6_blameIn_14 (by decide) rfl ?_
        refine v_icmp_eq (tgt := 29) C dX6_blameIn_16 (by decide) rfl (fun c16 => ?_) (fun c16 => ?_)
        · skip
          refine v_aload_n C dX6_blameIn_29 rfl rfl rfl ?_
          refine v_iload_n C dX6_blameIn_30 rfl rfl rfl ?_
          refine v_callV C (Nat.le_of_ble_eq_true rfl) rfl rfl (As := [.int (nI i)]) (rest := [.int x2]) (kX6_blameOf n i σ hn h7 (by omega)) rfl (Nat.le_of_ble_eq_true rfl) (Nat.le_of_ble_eq_true rfl) ⟨mlX6_169, mfX6_blameOf⟩ dkX6_blameOf (Nat.le_of_ble_eq_true rfl) dX6_blameIn_31 rfl (kI ?_)
          refine v_goto (tgt := 38) C dX6_blameIn_34 (by decide) ?_
          refine v_iadd C dX6_blameIn_38 rfl ?_
          refine V.top (fun v39_1 ev39_1 => ?_)
          refine v_istore_n (lv' := [(2, .int v39_1), (3, .int (nI i)), (0, .ref 0), (1, .int r)]) C dX6_blameIn_39 rfl (Nat.le_of_ble_eq_true rfl) rfl rfl ?_
          refine v_iinc (lv' := [(3, .int (nI (i + 1))), (2, .int v39_1), (0, .ref 0), (1, .int r)]) C dX6_blameIn_40 rfl (nI_inc i) (Nat.le_of_ble_eq_true rfl) rfl rfl ?_
          refine v_goto (tgt := 4) C dX6_blameIn_43 (by decide) ?_
          exact V.sub [0, 1, 2, 3] rfl (ih (i + 1) _ (by omega) (by omega) (by rw [ev39_1, ex2]; simp [sumN, binG, Int32.add_assoc, c9, c16]))
        · skip
          refine v_aload_n C dX6_blameIn_19 rfl rfl rfl ?_
          refine v_getR C (Nat.le_of_ble_eq_true rfl) rfl rfl hinX6 7 (Nat.le_of_ble_eq_true rfl) lkX6_31 rfl dX6_blameIn_20 rfl ?_
          refine v_iload_n C dX6_blameIn_23 rfl rfl rfl ?_
          refine v_iald (i := i) C (Nat.le_of_ble_eq_true rfl) rfl rfl (by omega) (by decide) dX6_blameIn_24 rfl ?_
          refine v_iload_n C dX6_blameIn_25 rfl rfl rfl ?_
          refine v_icmp_ne (tgt := 37) C dX6_blameIn_26 (by decide) rfl (fun c26 => ?_) (fun c26 => ?_)
          · skip
            refine v_iconst (v := 0) C dX6_blameIn_37 (by decide) rfl ?_
            refine v_iadd C dX6_blameIn_38 rfl ?_
            refine V.top (fun v39_2 ev39_2 => ?_)
            refine v_istore_n (lv' := [(2, .int v39_2), (3, .int (nI i)), (0, .ref 0), (1, .int r)]) C dX6_blameIn_39 rfl (Nat.le_of_ble_eq_true rfl) rfl rfl ?_
            refine v_iinc (lv' := [(3, .int (nI (i + 1))), (2, .int v39_2), (0, .ref 0), (1, .int r)]) C dX6_blameIn_40 rfl (nI_inc i) (Nat.le_of_ble_eq_true rfl) rfl rfl ?_
            refine v_goto (tgt := 4) C dX6_blameIn_43 (by decide) ?_
            exact V.sub [0, 1, 2, 3] rfl (ih (i + 1) _ (by omega) (by omega) (by rw [ev39_2, ex2]; simp [sumN, binG, Int32.add_assoc, c9, c16, c26]))
          · skip
            refine v_aload_n C dX6_blameIn_29 rfl rfl rfl ?_
            refine v_iload_n C dX6_blameIn_30 rfl rfl rfl ?_
            refine v_callV C (Nat.le_of_ble_eq_true rfl) rfl rfl (As := [.int (nI i)]) (rest := [.int x2]) (kX6_blameOf n i σ hn h7 (by omega)) rfl (Nat.le_of_ble_eq_true rfl) (Nat.le_of_ble_eq_true rfl) ⟨mlX6_169, mfX6_blameOf⟩ dkX6_blameOf (Nat.le_of_ble_eq_true rfl) dX6_blameIn_31 rfl (kI ?_)
            refine v_goto (tgt := 38) C dX6_blameIn_34 (by decide) ?_
            refine v_iadd C dX6_blameIn_38 rfl ?_
            refine V.top (fun v39_3 ev39_3 => ?_)
            refine v_istore_n (lv' := [(2, .int v39_3), (3, .int (nI i)), (0, .ref 0), (1, .int r)]) C dX6_blameIn_39 rfl (Nat.le_of_ble_eq_true rfl) rfl rfl ?_
            refine v_iinc (lv' := [(3, .int (nI (i + 1))), (2, .int v39_3), (0, .ref 0), (1, .int r)]) C dX6_blameIn_40 rfl (nI_inc i) (Nat.le_of_ble_eq_true rfl) rfl rfl ?_
            refine v_goto (tgt := 4) C dX6_blameIn_43 (by decide) ?_
            exact V.sub [0, 1, 2, 3] rfl (ih (i + 1) _ (by omega) (by omega) (by rw [ev39_3, ex2]; simp [sumN, binG, Int32.add_assoc, c9, c16, c26]))
  exact V.sub [0, 1, 2, 3] rfl (lp4 (n + 1) 0 0 (by omega) (by omega) (rfl))
theorem kX6_bulkIn (n : Nat) (r : Int32) (σ : St) (hn : σ 0 8 = nI n) (h7 : n ≤ 7) : Ct yX6_bulkIn cX6_bulkIn 4 (some .int) 0 [.ref 0, .int r] σ (fI (bulF (σ 5) (σ 8) n r) σ) := by
  refine ct_of plX6 rfl (Nat.le_of_ble_eq_true rfl) (fun X hX C => ?_)
  show V X 0 [(0, .ref 0), (1, .int r)] [] σ
  refine v_iconst (v := 0) C dX6_bulkIn_0 (by decide) rfl ?_
  refine v_istore_n (lv' := [(2, .int 0), (0, .ref 0), (1, .int r)]) C dX6_bulkIn_1 rfl (Nat.le_of_ble_eq_true rfl) rfl rfl ?_
  refine v_iconst (v := 0) C dX6_bulkIn_2 (by decide) rfl ?_
  refine v_istore_n (lv' := [(3, .int 0), (2, .int 0), (0, .ref 0), (1, .int r)]) C dX6_bulkIn_3 rfl (Nat.le_of_ble_eq_true rfl) rfl rfl ?_
  have lp4 : ∀ (k i : Nat) (x2 : Int32) , n < i + k → i ≤ n → x2 = sumN (bulG (σ 5) (σ 8) r) i → V X 4 [(3, .int (nI i)), (2, .int x2), (0, .ref 0), (1, .int r)] [] σ := by
    intro k
    induction k with
    | zero => intro i x2 h1 h2; omega
    | succ k ih =>
      intro i x2 h1 h2 ex2
      refine v_iload_n C dX6_bulkIn_4 rfl rfl rfl ?_
      refine v_aload_n C dX6_bulkIn_5 rfl rfl rfl ?_
      refine v_getI C (Nat.le_of_ble_eq_true rfl) rfl rfl hinX6 8 (Nat.le_of_ble_eq_true rfl) lkX6_65 rfl dX6_bulkIn_6 rfl ?_
      refine V.tp hn ?_
      refine v_icmp_ge (tgt := 41) C dX6_bulkIn_9 (by decide) rfl (fun c9 => ?_) (fun c9 => ?_)
      · skip
        have c9 := mt (nI_ltI (a := i) (b := n) (by omega) (by omega)).mpr c9
        refine v_iload_n C dX6_bulkIn_41 rfl rfl rfl ?_
        exact v_iret C dX6_bulkIn_42 (by rw [hX]; exact fI_of (by rw [ex2, bulF, show i = n by omega]) rfl)
      · skip
        have c9 := (nI_ltI (a := i) (b := n) (by omega) (by omega)).mp c9
        refine v_iload_n C dX6_bulkIn_12 rfl rfl rfl ?_
        refine v_aload_n C dX6_bulkIn_13 rfl rfl rfl ?_
        refine v_getR C (Nat.le_of_ble_eq_true rfl) rfl rfl hinX6 7 (Nat.le_of_ble_eq_true rfl) lkX6_31 rfl dX6_bulkIn_14 rfl ?_
        refine v_iload_n C dX6_bulkIn_17 rfl rfl rfl ?_
        refine v_iald (i := i) C (Nat.le_of_ble_eq_true rfl) rfl rfl (by omega) (by decide) dX6_bulkIn_18 rfl ?_
        refine v_iload_n C dX6_bulkIn_19 rfl rfl rfl ?_
        refine v_icmp_ne (tgt := 32) C dX6_bulkIn_20 (by decide) rfl (fun c20 => ?_) (fun c20 => ?_)
        · skip
          refine v_iconst (v := 0) C dX6_bulkIn_32 (by decide) rfl ?_
          refine v_iadd C dX6_bulkIn_33 rfl ?_
          refine V.top (fun v34_1 ev34_1 => ?_)
          refine v_istore_n (lv' := [(2, .int v34_1), (3, .int (nI i)), (0, .ref 0), (1, .int r)]) C dX6_bulkIn_34 rfl (Nat.le_of_ble_eq_true rfl) rfl rfl ?_
          refine v_iinc (lv' := [(3, .int (nI (i + 1))), (2, .int v34_1), (0, .ref 0), (1, .int r)]) C dX6_bulkIn_35 rfl (nI_inc i) (Nat.le_of_ble_eq_true rfl) rfl rfl ?_
          refine v_goto (tgt := 4) C dX6_bulkIn_38 (by decide) ?_
          exact V.sub [0, 1, 2, 3] rfl (ih (i + 1) _ (by omega) (by omega) (by rw [ev34_1, ex2]; simp [sumN, bulG, Int32.add_assoc, c9, c20]))
        · skip
          refine v_aload_n C dX6_bulkIn_23 rfl rfl rfl ?_
          refine v_getR C (Nat.le_of_ble_eq_true rfl) rfl rfl hinX6 4 (Nat.le_of_ble_eq_true rfl) lkX6_22 rfl dX6_bulkIn_24 rfl ?_
          refine v_iload_n C dX6_bulkIn_27 rfl rfl rfl ?_
          refine v_iald (i := i) C (Nat.le_of_ble_eq_true rfl) rfl rfl (by omega) (by decide) dX6_bulkIn_28 rfl ?_
          refine v_goto (tgt := 33) C dX6_bulkIn_29 (by decide) ?_
          refine v_iadd C dX6_bulkIn_33 rfl ?_
          refine V.top (fun v34_2 ev34_2 => ?_)
          refine v_istore_n (lv' := [(2, .int v34_2), (3, .int (nI i)), (0, .ref 0), (1, .int r)]) C dX6_bulkIn_34 rfl (Nat.le_of_ble_eq_true rfl) rfl rfl ?_
          refine v_iinc (lv' := [(3, .int (nI (i + 1))), (2, .int v34_2), (0, .ref 0), (1, .int r)]) C dX6_bulkIn_35 rfl (nI_inc i) (Nat.le_of_ble_eq_true rfl) rfl rfl ?_
          refine v_goto (tgt := 4) C dX6_bulkIn_38 (by decide) ?_
          exact V.sub [0, 1, 2, 3] rfl (ih (i + 1) _ (by omega) (by omega) (by rw [ev34_2, ex2]; simp [sumN, bulG, Int32.add_assoc, c9, c20]))
  exact V.sub [0, 1, 2, 3] rfl (lp4 (n + 1) 0 0 (by omega) (by omega) (rfl))
