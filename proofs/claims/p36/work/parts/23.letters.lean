/-! the check's class: reading the letters -/
def nx (tx : Nat → Int32) (t a : Nat) : Int32 := if a < t then tx a else -1
def kinF (b : Int32) : Int32 := if b = 99 then 3 else if b = 112 then 0 else if b = 115 then 1 else if b = 116 then 5 else if b = 118 then 2 else if b = 119 then 4 else -1
def letP (b : Int32) : Prop := b = 105 ∨ b = 109 ∨ b = 115 ∨ b = 114 ∨ b = 121 ∨ b = 104 ∨ b = 112
def vaN (g : Nat → Int32) (a : Nat) : Nat → Int32
  | 0 => 0
  | i + 1 => 10 * vaN g a i + g (a + i) - 48
def digP (c : Int32) : Prop := isInP c 48 57
theorem kX6_next (a t : Nat) (σ : St) (ha : σ 0 16 = nI a) (ht : σ 0 15 = nI t) (h96 : t ≤ 96) (h2a : a < 1000) : Ct yX6_next cX6_next 1 (some .int) 0 [.ref 0] σ (fI (nx (σ 9) t a) σ) := by
  refine ct_of plX6 rfl (Nat.le_of_ble_eq_true rfl) (fun X hX C => ?_)
  show V X 0 [(0, .ref 0)] [] σ
  refine v_aload_n C dX6_next_0 rfl rfl rfl ?_
  refine v_getI C (Nat.le_of_ble_eq_true rfl) rfl rfl hinX6 16 (Nat.le_of_ble_eq_true rfl) lkX6_83 rfl dX6_next_1 rfl ?_
  refine V.tp ha ?_
  refine v_aload_n C dX6_next_4 rfl rfl rfl ?_
  refine v_getI C (Nat.le_of_ble_eq_true rfl) rfl rfl hinX6 15 (Nat.le_of_ble_eq_true rfl) lkX6_76 rfl dX6_next_5 rfl ?_
  refine V.tp ht ?_
  refine v_icmp_ge (tgt := 23) C dX6_next_8 (by decide) rfl (fun c8 => ?_) (fun c8 => ?_)
  · skip
    have c8 := mt (nI_ltI (a := a) (b := t) (by omega) (by omega)).mpr c8
    refine v_iconst (v := -1) C dX6_next_23 (by decide) rfl ?_
    exact v_iret C dX6_next_24 (by rw [hX]; exact fI_of (by simp [nx, c8]) rfl)
  · skip
    have c8 := (nI_ltI (a := a) (b := t) (by omega) (by omega)).mp c8
    refine v_aload_n C dX6_next_11 rfl rfl rfl ?_
    refine v_getR C (Nat.le_of_ble_eq_true rfl) rfl rfl hinX6 11 (Nat.le_of_ble_eq_true rfl) lkX6_34 rfl dX6_next_12 rfl ?_
    refine v_aload_n C dX6_next_15 rfl rfl rfl ?_
    refine v_getI C (Nat.le_of_ble_eq_true rfl) rfl rfl hinX6 16 (Nat.le_of_ble_eq_true rfl) lkX6_83 rfl dX6_next_16 rfl ?_
    refine V.tp ha ?_
    refine v_iald (i := a) C (Nat.le_of_ble_eq_true rfl) rfl rfl (by omega) (by decide) dX6_next_19 rfl ?_
    refine v_goto (tgt := 24) C dX6_next_20 (by decide) ?_
    exact v_iret C dX6_next_24 (by rw [hX]; exact fI_of (by simp [nx, c8]) rfl)
theorem kX6_kindOf (b : Int32) (σ : St) : Ct yX6_kindOf cX6_kindOf 1 (some .int) 0 [.int b] σ (fI (kinF b) σ) := by
  refine ct_of plX6 rfl (Nat.le_of_ble_eq_true rfl) (fun X hX C => ?_)
  show V X 0 [(0, .int b)] [] σ
  refine v_iload_n C dX6_kindOf_0 rfl rfl rfl ?_
  by_cases s1_99 : b = 99
  · refine V.tp s1_99 ?_
    refine v_lookup (off := 65) (tgt := 66) C dX6_kindOf_1 (by decide) (by decide) (by decide) ?_
    refine v_iconst (v := 3) C dX6_kindOf_66 (by decide) rfl ?_
    exact v_iret C dX6_kindOf_67 (by rw [hX]; exact fI_of (by simp [kinF, s1_99]) rfl)
  by_cases s1_112 : b = 112
  · refine V.tp s1_112 ?_
    refine v_lookup (off := 59) (tgt := 60) C dX6_kindOf_1 (by decide) (by decide) (by decide) ?_
    refine v_iconst (v := 0) C dX6_kindOf_60 (by decide) rfl ?_
    exact v_iret C dX6_kindOf_61 (by rw [hX]; exact fI_of (by simp [kinF, s1_99, s1_112]) rfl)
  by_cases s1_115 : b = 115
  · refine V.tp s1_115 ?_
    refine v_lookup (off := 61) (tgt := 62) C dX6_kindOf_1 (by decide) (by decide) (by decide) ?_
    refine v_iconst (v := 1) C dX6_kindOf_62 (by decide) rfl ?_
    exact v_iret C dX6_kindOf_63 (by rw [hX]; exact fI_of (by simp [kinF, s1_99, s1_112, s1_115]) rfl)
  by_cases s1_116 : b = 116
  · refine V.tp s1_116 ?_
    refine v_lookup (off := 69) (tgt := 70) C dX6_kindOf_1 (by decide) (by decide) (by decide) ?_
    refine v_iconst (v := 5) C dX6_kindOf_70 (by decide) rfl ?_
    exact v_iret C dX6_kindOf_71 (by rw [hX]; exact fI_of (by simp [kinF, s1_99, s1_112, s1_115, s1_116]) rfl)
  by_cases s1_118 : b = 118
  · refine V.tp s1_118 ?_
    refine v_lookup (off := 63) (tgt := 64) C dX6_kindOf_1 (by decide) (by decide) (by decide) ?_
    refine v_iconst (v := 2) C dX6_kindOf_64 (by decide) rfl ?_
    exact v_iret C dX6_kindOf_65 (by rw [hX]; exact fI_of (by simp [kinF, s1_99, s1_112, s1_115, s1_116, s1_118]) rfl)
  by_cases s1_119 : b = 119
  · refine V.tp s1_119 ?_
    refine v_lookup (off := 67) (tgt := 68) C dX6_kindOf_1 (by decide) (by decide) (by decide) ?_
    refine v_iconst (v := 4) C dX6_kindOf_68 (by decide) rfl ?_
    exact v_iret C dX6_kindOf_69 (by rw [hX]; exact fI_of (by simp [kinF, s1_99, s1_112, s1_115, s1_116, s1_118, s1_119]) rfl)
  refine v_lookup (off := 71) (tgt := 72) C dX6_kindOf_1 (by decide) (by show Op.lookupswitch.offset [(99, 65), (112, 59), (115, 61), (116, 69), (118, 63), (119, 67)] 71 _ = _; rw [lv_osw s1_99 (a := 99) (by decide), lv_osw s1_112 (a := 112) (by decide), lv_osw s1_115 (a := 115) (by decide), lv_osw s1_116 (a := 116) (by decide), lv_osw s1_118 (a := 118) (by decide), lv_osw s1_119 (a := 119) (by decide)]; rfl) (by decide) ?_
  refine v_iconst (v := -1) C dX6_kindOf_72 (by decide) rfl ?_
  exact v_iret C dX6_kindOf_73 (by rw [hX]; exact fI_of (by simp [kinF, s1_99, s1_112, s1_115, s1_116, s1_118, s1_119]) rfl)
theorem kX6_isLetter (b : Int32) (σ : St) : Ct yX6_isLetter cX6_isLetter 1 (some .boolean) 0 [.int b] σ (fI (bI (letP b)) σ) := by
  refine ct_of plX6 rfl (Nat.le_of_ble_eq_true rfl) (fun X hX C => ?_)
  show V X 0 [(0, .int b)] [] σ
  refine v_iload_n C dX6_isLetter_0 rfl rfl rfl ?_
  refine v_bipush (v := 105) C dX6_isLetter_1 (by decide) rfl ?_
  refine v_icmp_eq (tgt := 42) C dX6_isLetter_3 (by decide) rfl (fun c3 => ?_) (fun c3 => ?_)
  · skip
    refine v_iconst (v := 1) C dX6_isLetter_42 (by decide) rfl ?_
    refine v_goto (tgt := 47) C dX6_isLetter_43 (by decide) ?_
    exact v_zret C rfl dX6_isLetter_47 (by rw [hX]; exact fI_of (by first | exact bI_t (by simp [letP, c3]; done) | exact bI_f (by simp [letP, c3]; done)) rfl)
  · skip
    refine v_iload_n C dX6_isLetter_6 rfl rfl rfl ?_
    refine v_bipush (v := 109) C dX6_isLetter_7 (by decide) rfl ?_
    refine v_icmp_eq (tgt := 42) C dX6_isLetter_9 (by decide) rfl (fun c9 => ?_) (fun c9 => ?_)
    · skip
      refine v_iconst (v := 1) C dX6_isLetter_42 (by decide) rfl ?_
      refine v_goto (tgt := 47) C dX6_isLetter_43 (by decide) ?_
      exact v_zret C rfl dX6_isLetter_47 (by rw [hX]; exact fI_of (by first | exact bI_t (by simp [letP, c3, c9]; done) | exact bI_f (by simp [letP, c3, c9]; done)) rfl)
    · skip
      refine v_iload_n C dX6_isLetter_12 rfl rfl rfl ?_
      refine v_bipush (v := 115) C dX6_isLetter_13 (by decide) rfl ?_
      refine v_icmp_eq (tgt := 42) C dX6_isLetter_15 (by decide) rfl (fun c15 => ?_) (fun c15 => ?_)
      · skip
        refine v_iconst (v := 1) C dX6_isLetter_42 (by decide) rfl ?_
        refine v_goto (tgt := 47) C dX6_isLetter_43 (by decide) ?_
        exact v_zret C rfl dX6_isLetter_47 (by rw [hX]; exact fI_of (by first | exact bI_t (by simp [letP, c3, c9, c15]; done) | exact bI_f (by simp [letP, c3, c9, c15]; done)) rfl)
      · skip
        refine v_iload_n C dX6_isLetter_18 rfl rfl rfl ?_
        refine v_bipush (v := 114) C dX6_isLetter_19 (by decide) rfl ?_
        refine v_icmp_eq (tgt := 42) C dX6_isLetter_21 (by decide) rfl (fun c21 => ?_) (fun c21 => ?_)
        · skip
          refine v_iconst (v := 1) C dX6_isLetter_42 (by decide) rfl ?_
          refine v_goto (tgt := 47) C dX6_isLetter_43 (by decide) ?_
          exact v_zret C rfl dX6_isLetter_47 (by rw [hX]; exact fI_of (by first | exact bI_t (by simp [letP, c3, c9, c15, c21]; done) | exact bI_f (by simp [letP, c3, c9, c15, c21]; done)) rfl)
        · skip
          refine v_iload_n C dX6_isLetter_24 rfl rfl rfl ?_
          refine v_bipush (v := 121) C dX6_isLetter_25 (by decide) rfl ?_
          refine v_icmp_eq (tgt := 42) C dX6_isLetter_27 (by decide) rfl (fun c27 => ?_) (fun c27 => ?_)
          · skip
            refine v_iconst (v := 1) C dX6_isLetter_42 (by decide) rfl ?_
            refine v_goto (tgt := 47) C dX6_isLetter_43 (by decide) ?_
            exact v_zret C rfl dX6_isLetter_47 (by rw [hX]; exact fI_of (by first | exact bI_t (by simp [letP, c3, c9, c15, c21, c27]; done) | exact bI_f (by simp [letP, c3, c9, c15, c21, c27]; done)) rfl)
          · skip
            refine v_iload_n C dX6_isLetter_30 rfl rfl rfl ?_
            refine v_bipush (v := 104) C dX6_isLetter_31 (by decide) rfl ?_
            refine v_icmp_eq (tgt := 42) C dX6_isLetter_33 (by decide) rfl (fun c33 => ?_) (fun c33 => ?_)
            · skip
              refine v_iconst (v := 1) C dX6_isLetter_42 (by decide) rfl ?_
              refine v_goto (tgt := 47) C dX6_isLetter_43 (by decide) ?_
              exact v_zret C rfl dX6_isLetter_47 (by rw [hX]; exact fI_of (by first | exact bI_t (by simp [letP, c3, c9, c15, c21, c27, c33]; done) | exact bI_f (by simp [letP, c3, c9, c15, c21, c27, c33]; done)) rfl)
            · skip
              refine v_iload_n C dX6_isLetter_36 rfl rfl rfl ?_
              refine v_bipush (v := 112) C dX6_isLetter_37 (by decide) rfl ?_
              refine v_icmp_ne (tgt := 46) C dX6_isLetter_39 (by decide) rfl (fun c39 => ?_) (fun c39 => ?_)
              · skip
                refine v_iconst (v := 0) C dX6_isLetter_46 (by decide) rfl ?_
                exact v_zret C rfl dX6_isLetter_47 (by rw [hX]; exact fI_of (by first | exact bI_t (by simp [letP, c3, c9, c15, c21, c27, c33, c39]; done) | exact bI_f (by simp [letP, c3, c9, c15, c21, c27, c33, c39]; done)) rfl)
              · skip
                refine v_iconst (v := 1) C dX6_isLetter_42 (by decide) rfl ?_
                refine v_goto (tgt := 47) C dX6_isLetter_43 (by decide) ?_
                exact v_zret C rfl dX6_isLetter_47 (by rw [hX]; exact fI_of (by first | exact bI_t (by simp [letP, c3, c9, c15, c21, c27, c33, c39]; done) | exact bI_f (by simp [letP, c3, c9, c15, c21, c27, c33, c39]; done)) rfl)
theorem kX6_readsDigits (p d : Nat) (a t : Nat) (σ : St) (ha : σ 0 16 = nI a) (ht : σ 0 15 = nI t) (h96 : t ≤ 96) (h2a : a < 500) (hp : p < 192) (hd : d ≤ 2) : Ct yX6_readsDigits cX6_readsDigits 5 (some .boolean) 1 [.ref 0, .int (nI p), .int (nI d)] σ (rI (fun r τ => (r = 1 ∧ (∀ j, j < d → digP ((nx (σ 9) t) (a + j))) ∧ τ = s2 (s2 σ 0 16 (nI (a + d))) 12 p (vaN (nx (σ 9) t) a d)) ∨ (r = 0 ∧ ∃ j, j < d ∧ (∀ i, i < j → digP ((nx (σ 9) t) (a + i))) ∧ ¬ digP ((nx (σ 9) t) (a + j)) ∧ τ = s2 σ 0 16 (nI (a + j))))) := by
  refine ct_of plX6 rfl (Nat.le_of_ble_eq_true rfl) (fun X hX C => ?_)
  show V X 0 [(0, .ref 0), (1, .int (nI p)), (2, .int (nI d))] [] σ
  refine v_iconst (v := 0) C dX6_readsDigits_0 (by decide) rfl ?_
  refine v_istore_n (lv' := [(3, .int 0), (0, .ref 0), (1, .int (nI p)), (2, .int (nI d))]) C dX6_readsDigits_1 rfl (Nat.le_of_ble_eq_true rfl) rfl rfl ?_
  refine v_iconst (v := 0) C dX6_readsDigits_2 (by decide) rfl ?_
  refine v_istore (lv' := [(4, .int 0), (3, .int 0), (0, .ref 0), (1, .int (nI p)), (2, .int (nI d))]) C dX6_readsDigits_3 (Nat.le_of_ble_eq_true rfl) rfl rfl ?_
  have lp5 : ∀ (kf i : Nat) (x3 : Int32) (τ : St), d < i + kf → i ≤ d → x3 = vaN (nx (σ 9) t) a i → τ = s2 σ 0 16 (nI (a + i)) → (∀ j, j < i → digP ((nx (σ 9) t) (a + j))) → V X 5 [(4, .int (nI i)), (3, .int x3), (0, .ref 0), (1, .int (nI p)), (2, .int (nI d))] [] τ := by
    intro kf
    induction kf with
    | zero => intro i x3 τ h1 h2; omega
    | succ kf ih5 =>
      intro i x3 τ h1 h2 ex3 eτ hb
      have ha_ : τ 0 16 = nI (a + i) := by rw [eτ, s2_get, if_pos ⟨rfl, rfl⟩]
      have ht_ : τ 0 15 = nI t := by rw [eτ, s2_get, if_neg (by decide)]; exact ht
      have h9_ : τ 9 = σ 9 := by rw [eτ, s2_ne (by decide)]
      refine v_iload C dX6_readsDigits_5 rfl rfl ?_
      refine v_iload_n C dX6_readsDigits_7 rfl rfl rfl ?_
      refine v_icmp_ge (tgt := 56) C dX6_readsDigits_8 (by decide) rfl (fun c8 => ?_) (fun c8 => ?_)
      · skip
        have c8 := mt (nI_ltI (a := i) (b := d) (by omega) (by omega)).mpr c8
        refine v_aload_n C dX6_readsDigits_56 rfl rfl rfl ?_
        refine v_getR C (Nat.le_of_ble_eq_true rfl) rfl rfl hinX6 14 (Nat.le_of_ble_eq_true rfl) lkX6_43 rfl dX6_readsDigits_57 rfl ?_
        refine v_iload_n C dX6_readsDigits_60 rfl rfl rfl ?_
        refine v_iload_n C dX6_readsDigits_61 rfl rfl rfl ?_
        refine v_iast (i := p) C (Nat.le_of_ble_eq_true rfl) rfl rfl (by omega) (by decide) dX6_readsDigits_62 rfl ?_
        refine V.nm (fun τ62_1 eτ62_1 => ?_)
        refine v_iconst (v := 1) C dX6_readsDigits_63 (by decide) rfl ?_
        exact v_zret C rfl dX6_readsDigits_64 (by rw [hX]; exact ⟨_, rfl, Or.inl ⟨rfl, fun j hj => hb j (by omega), by rw [eτ62_1, eτ, ex3, show i = d by omega]⟩⟩)
      · skip
        have c8 := (nI_ltI (a := i) (b := d) (by omega) (by omega)).mp c8
        refine v_aload_n C dX6_readsDigits_11 rfl rfl rfl ?_
        refine v_callV C (Nat.le_of_ble_eq_true rfl) rfl rfl (As := []) (rest := []) (kX6_next (a + i) t τ ha_ ht_ h96 (by omega)) rfl (Nat.le_of_ble_eq_true rfl) (Nat.le_of_ble_eq_true rfl) ⟨mlX6_86, mfX6_next⟩ dkX6_next (Nat.le_of_ble_eq_true rfl) dX6_readsDigits_12 rfl (kI ?_)
        refine V.tp (show nx (τ 9) t (a + i) = (nx (σ 9) t) (a + i) from by rw [h9_]) ?_
        refine v_bipush (v := 48) C dX6_readsDigits_15 (by decide) rfl ?_
        refine v_bipush (v := 57) C dX6_readsDigits_17 (by decide) rfl ?_
        refine v_callS C (As := [.int ((nx (σ 9) t) (a + i)), .int 48, .int 57]) (rest := []) (kX6_isIn ((nx (σ 9) t) (a + i)) 48 57 τ) rfl (Nat.le_of_ble_eq_true rfl) (Nat.le_of_ble_eq_true rfl) ⟨mlX6_90, mfX6_isIn⟩ dkX6_isIn (Nat.le_of_ble_eq_true rfl) dX6_readsDigits_19 rfl (kI ?_)
        refine v_if_ne (tgt := 27) C dX6_readsDigits_22 (by decide) rfl (fun c22 => ?_) (fun c22 => ?_)
        · skip
          have c22 := bI_n c22
          refine v_bipush (v := 10) C dX6_readsDigits_27 (by decide) rfl ?_
          refine v_iload_n C dX6_readsDigits_29 rfl rfl rfl ?_
          refine v_imul C dX6_readsDigits_30 rfl ?_
          refine v_aload_n C dX6_readsDigits_31 rfl rfl rfl ?_
          refine v_callV C (Nat.le_of_ble_eq_true rfl) rfl rfl (As := []) (rest := [.int (10 * x3)]) (kX6_next (a + i) t τ ha_ ht_ h96 (by omega)) rfl (Nat.le_of_ble_eq_true rfl) (Nat.le_of_ble_eq_true rfl) ⟨mlX6_86, mfX6_next⟩ dkX6_next (Nat.le_of_ble_eq_true rfl) dX6_readsDigits_32 rfl (kI ?_)
          refine V.tp (show nx (τ 9) t (a + i) = (nx (σ 9) t) (a + i) from by rw [h9_]) ?_
          refine v_iadd C dX6_readsDigits_35 rfl ?_
          refine v_bipush (v := 48) C dX6_readsDigits_36 (by decide) rfl ?_
          refine v_isub C dX6_readsDigits_38 rfl ?_
          refine V.top (fun v39_2 ev39_2 => ?_)
          refine v_istore_n (lv' := [(3, .int v39_2), (4, .int (nI i)), (0, .ref 0), (1, .int (nI p)), (2, .int (nI d))]) C dX6_readsDigits_39 rfl (Nat.le_of_ble_eq_true rfl) rfl rfl ?_
          refine v_aload_n C dX6_readsDigits_40 rfl rfl rfl ?_
          refine v_dup C dX6_readsDigits_41 rfl rfl ?_
          refine v_getI C (Nat.le_of_ble_eq_true rfl) rfl rfl hinX6 16 (Nat.le_of_ble_eq_true rfl) lkX6_83 rfl dX6_readsDigits_42 rfl ?_
          refine V.tp ha_ ?_
          refine v_iconst (v := 1) C dX6_readsDigits_45 (by decide) rfl ?_
          refine v_iadd C dX6_readsDigits_46 rfl ?_
          refine V.tp (nI_add (a + i) 1) ?_
          refine v_put (ty := .int) C (Nat.le_of_ble_eq_true rfl) rfl rfl hinX6 tyX6_ok nmX6 16 (Nat.le_of_ble_eq_true rfl) lkX6_83 rfl (by decide +kernel) rfl rfl rfl dX6_readsDigits_47 rfl ?_
          refine V.nm (fun τ47_3 eτ47_3 => ?_)
          refine v_iinc (lv' := [(4, .int (nI (i + 1))), (3, .int v39_2), (0, .ref 0), (1, .int (nI p)), (2, .int (nI d))]) C dX6_readsDigits_50 rfl (nI_inc i) (Nat.le_of_ble_eq_true rfl) rfl rfl ?_
          refine v_goto (tgt := 5) C dX6_readsDigits_53 (by decide) ?_
          exact V.sub [0, 1, 2, 3, 4] rfl (ih5 (i + 1) _ _ (by omega) (by omega) (by rw [ev39_2, ex3]; rfl) (by rw [eτ47_3, eτ, s2_s2]; rfl) (by intro j hj; exact (Classical.em (j = i)).elim (fun e => by rw [e]; exact c22) (fun e => hb j (by omega))))
        · skip
          have c22 := bI_0 c22
          refine v_iconst (v := 0) C dX6_readsDigits_25 (by decide) rfl ?_
          exact v_zret C rfl dX6_readsDigits_26 (by rw [hX]; exact ⟨_, rfl, Or.inr ⟨rfl, i, by omega, hb, c22, eτ⟩⟩)
  exact V.sub [0, 1, 2, 3, 4] rfl (lp5 (d + 1) 0 0 _ (by omega) (by omega) (rfl) (by rw [Nat.add_zero, ← ha, s2_self]) (by intro j hj; omega))
def Rd (σ τ : St) (p : Nat) : Prop := (∀ k, k ≠ 0 → k ≠ 12 → τ k = σ k) ∧ (∀ j, j ≠ 16 → τ 0 j = σ 0 j) ∧ (∀ j, j < p → τ 12 j = σ 12 j)
theorem Rd.rf (σ : St) (p : Nat) : Rd σ σ p := ⟨fun _ _ _ => rfl, fun _ _ => rfl, fun _ _ => rfl⟩
theorem Rd.tr {σ τ υ : St} {p q : Nat} (h : Rd σ τ p) (g : Rd τ υ q) (hq : p ≤ q) : Rd σ υ p :=
  ⟨fun k a b => (g.1 k a b).trans (h.1 k a b), fun j a => (g.2.1 j a).trans (h.2.1 j a), fun j a => (g.2.2 j (by omega)).trans (h.2.2 j a)⟩
theorem Rd_at (σ : St) (p : Nat) (v : Int32) : Rd σ (s2 σ 0 16 v) p := ⟨fun k a _ => by rw [s2_ne a], fun j a => by rw [s2_get, if_neg (fun q => a q.2)], fun j _ => by rw [s2_ne (by decide)]⟩
theorem Rd_put (σ : St) (p q : Nat) (v : Int32) (h : p ≤ q) : Rd σ (s2 σ 12 q v) p := ⟨fun k _ b => by rw [s2_ne b], fun j _ => by rw [s2_ne (by decide)], fun j a => by rw [s2_get, if_neg (by omega)]⟩
/-- what a place asks of a letter: 0 a digit, 1 a kind, else the end -/
def chk (f : Nat) (c : Int32) : Prop := if f = 0 then digP c else if f = 1 then ¬ kinF c < 0 else c = 59
noncomputable def scn (g : Nat → Int32) : List Nat → Nat → Option Nat
  | [], _ => none
  | f :: fs, a => cI (chk f (g a)) (scn g fs (a + 1)) (some a)
theorem scn_app (g : Nat → Int32) : ∀ (l m : List Nat) (a : Nat), scn g (l ++ m) a = match scn g l a with
    | none => scn g m (a + l.length)
    | some x => some x
  | [], m, a => rfl
  | f :: fs, m, a => by
    by_cases h : chk f (g a)
    · rw [List.cons_append, scn, cI_t h, scn_app g fs m (a + 1), scn, cI_t h]
      rw [show a + (f :: fs).length = a + 1 + fs.length by simp only [List.length_cons]; omega]
    · rw [List.cons_append, scn, cI_f h, scn, cI_f h]
theorem chk0 {c : Int32} (h : digP c) : chk 0 c := h
theorem chk0n {c : Int32} (h : ¬ digP c) : ¬ chk 0 c := h
/-- a reading of some places from a on, into told from p on -/
def Rok (σ τ : St) (t p a : Nat) (fs : List Nat) : Prop := scn (nx (σ 9) t) fs a = none ∧ τ 0 16 = nI (a + fs.length) ∧ Rd σ τ p
def Rno (σ τ : St) (t p a : Nat) (fs : List Nat) : Prop := ∃ x, scn (nx (σ 9) t) fs a = some x ∧ τ 0 16 = nI x ∧ Rd σ τ p
theorem dig1 {σ τ : St} {t p a : Nat} (h : (∀ j, j < 1 → digP (nx (σ 9) t (a + j))) ∧ τ = s2 (s2 σ 0 16 (nI (a + 1))) 12 p (vaN (nx (σ 9) t) a 1)) : Rok σ τ t p a [0] ∧ τ 12 p = vaN (nx (σ 9) t) a 1 := by
  obtain ⟨h1, rfl⟩ := h
  exact ⟨⟨by rw [scn, cI_t (show chk 0 (nx (σ 9) t a) from h1 0 (by decide))]; rfl, by rw [s2_ne (by decide), s2_get, if_pos ⟨rfl, rfl⟩]; rfl, (Rd_at σ p _).tr (Rd_put _ p p _ (Nat.le_refl p)) (Nat.le_refl p)⟩, by rw [s2_get, if_pos ⟨rfl, rfl⟩]⟩
theorem dig1n {σ τ : St} {t p a : Nat} (h : ∃ j, j < 1 ∧ (∀ i, i < j → digP (nx (σ 9) t (a + i))) ∧ ¬ digP (nx (σ 9) t (a + j)) ∧ τ = s2 σ 0 16 (nI (a + j))) : Rno σ τ t p a [0] := by
  obtain ⟨j, hj, h1, h2, rfl⟩ := h
  obtain rfl : j = 0 := by omega
  exact ⟨a, by rw [scn, cI_f (show ¬ chk 0 (nx (σ 9) t a) from h2)], by rw [s2_get, if_pos ⟨rfl, rfl⟩]; rfl, Rd_at σ p _⟩
theorem dig2 {σ τ : St} {t p a : Nat} (h : (∀ j, j < 2 → digP (nx (σ 9) t (a + j))) ∧ τ = s2 (s2 σ 0 16 (nI (a + 2))) 12 p (vaN (nx (σ 9) t) a 2)) : Rok σ τ t p a [0, 0] ∧ τ 12 p = vaN (nx (σ 9) t) a 2 := by
  obtain ⟨h1, rfl⟩ := h
  exact ⟨⟨by rw [scn, cI_t (show chk 0 (nx (σ 9) t a) from h1 0 (by decide)), scn, cI_t (show chk 0 (nx (σ 9) t (a + 1)) from h1 1 (by decide))]; rfl, by rw [s2_ne (by decide), s2_get, if_pos ⟨rfl, rfl⟩]; rfl, (Rd_at σ p _).tr (Rd_put _ p p _ (Nat.le_refl p)) (Nat.le_refl p)⟩, by rw [s2_get, if_pos ⟨rfl, rfl⟩]⟩
theorem dig2n {σ τ : St} {t p a : Nat} (h : ∃ j, j < 2 ∧ (∀ i, i < j → digP (nx (σ 9) t (a + i))) ∧ ¬ digP (nx (σ 9) t (a + j)) ∧ τ = s2 σ 0 16 (nI (a + j))) : Rno σ τ t p a [0, 0] := by
  obtain ⟨j, hj, h1, h2, rfl⟩ := h
  rcases (show j = 0 ∨ j = 1 by omega) with rfl | rfl
  · exact ⟨a, by rw [scn, cI_f (show ¬ chk 0 (nx (σ 9) t a) from h2)], by rw [s2_get, if_pos ⟨rfl, rfl⟩]; rfl, Rd_at σ p _⟩
  · exact ⟨a + 1, by rw [scn, cI_t (show chk 0 (nx (σ 9) t a) from h1 0 (by decide)), scn, cI_f (show ¬ chk 0 (nx (σ 9) t (a + 1)) from h2)], by rw [s2_get, if_pos ⟨rfl, rfl⟩], Rd_at σ p _⟩
theorem Rok_app {σ τ υ : St} {t p q a : Nat} {l m : List Nat} (h : Rok σ τ t p a l) (g : Rok τ υ t q (a + l.length) m) (hq : p ≤ q) : Rok σ υ t p a (l ++ m) := by
  obtain ⟨h1, h2, h3⟩ := h
  obtain ⟨g1, g2, g3⟩ := g
  rw [h3.1 9 (by decide) (by decide)] at g1
  exact ⟨by rw [scn_app, h1]; exact g1, by rw [g2, List.length_append, Nat.add_assoc], h3.tr g3 hq⟩
theorem Rno_app {σ τ υ : St} {t p q a : Nat} {l m : List Nat} (h : Rok σ τ t p a l) (g : Rno τ υ t q (a + l.length) m) (hq : p ≤ q) : Rno σ υ t p a (l ++ m) := by
  obtain ⟨h1, h2, h3⟩ := h
  obtain ⟨x, g1, g2, g3⟩ := g
  rw [h3.1 9 (by decide) (by decide)] at g1
  exact ⟨x, by rw [scn_app, h1]; exact g1, g2, h3.tr g3 hq⟩
theorem Rno_ap {σ τ : St} {t p a : Nat} {l m : List Nat} (h : Rno σ τ t p a l) : Rno σ τ t p a (l ++ m) := by
  obtain ⟨x, h1, h2, h3⟩ := h
  exact ⟨x, by rw [scn_app, h1], h2, h3⟩
