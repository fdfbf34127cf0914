/-! the check's class: the public methods, the plain ones -/
abbrev tn (x : Int32) : Nat := x.toNatClampNeg
theorem nat_of {v : Int32} {a b : Nat} (ha : a < 2 ^ 31) (hb : b < 2 ^ 31) (h1 : ¬ v < nI a) (h2 : ¬ nI b < v) : v = nI (tn v) ∧ a ≤ tn v ∧ tn v ≤ b := by
  by_cases hab : a ≤ b
  · rw [Int32.lt_iff_toInt_lt, nI_toInt (by omega)] at h1
    rw [Int32.lt_iff_toInt_lt, nI_toInt hb] at h2
    obtain ⟨j, hj, e⟩ := nI_of (x := v) (by rw [Int32.lt_iff_toInt_lt, Int32.toInt_zero]; omega)
    subst e
    rw [nI_toInt hj] at h1 h2
    unfold tn
    rw [nI_clamp hj]
    exact ⟨rfl, by omega, by omega⟩
  · exfalso
    rw [Int32.lt_iff_toInt_lt, nI_toInt hb] at h2
    rw [Int32.lt_iff_toInt_lt] at h1
    rw [nI_toInt ha] at h1; omega
theorem piece_nat {p : Int32} {n : Nat} (hn : n ≤ 7) (h : pieceP p (nI n)) : p = nI (tn p) ∧ tn p < n := by
  obtain ⟨h1, h2⟩ := h
  obtain ⟨j, hj, e⟩ := nI_of h1
  subst e
  unfold tn
  rw [nI_clamp hj]
  exact ⟨rfl, (nI_ltI hj (by omega)).mp h2⟩
def letA (c : Int32) (t : Nat) : Int32 := if c < 0 then -4 else if 255 < c then -6 else if t = 96 then -6 else nI (t + 1)
def letS (σ : St) (c : Int32) (t : Nat) : St := if c < 0 then noS σ 4 else if 255 < c then noS σ 6 else if t = 96 then noS σ 6 else s2 (s2 σ 9 t c) 0 15 (nI (t + 1))
def rowA (v : Int32) (u : Nat) : Int32 := if v < 0 then -4 else if 99 < v then -6 else if u = 12 then -6 else nI (u + 1)
def rowS (σ : St) (v : Int32) (u : Nat) : St := if v < 0 then noS σ 4 else if 99 < v then noS σ 6 else if u = 12 then noS σ 6 else s2 (s2 σ 17 u v) 0 27 (nI (u + 1))
theorem kX6_letter (c : Int32) (t : Nat) (σ : St) (ht : σ 0 15 = nI t) (h96 : t ≤ 96) : Ct yX6_letter cX6_letter 3 (some .int) 1 [.ref 0, .int c] σ (fI (letA c t) (letS σ c t)) := by
  refine ct_of plX6 rfl (Nat.le_of_ble_eq_true rfl) (fun X hX C => ?_)
  show V X 0 [(0, .ref 0), (1, .int c)] [] σ
  refine v_iload_n C dX6_letter_0 rfl rfl rfl ?_
  refine v_iconst (v := 0) C dX6_letter_1 (by decide) rfl ?_
  refine v_sipush (v := 255) C dX6_letter_2 (by decide) rfl ?_
  refine v_callS C (As := [.int c, .int 0, .int 255]) (rest := []) (kX6_bound c 0 255 σ) rfl (Nat.le_of_ble_eq_true rfl) (Nat.le_of_ble_eq_true rfl) ⟨mlX6_72, mfX6_bound⟩ dkX6_bound (Nat.le_of_ble_eq_true rfl) dX6_letter_5 rfl (kI ?_)
  rcases bnd_cases c 0 255 with ⟨hb, q1⟩ | ⟨hb, q1, q2⟩ | ⟨hb, q1, q2⟩
  · refine V.tp hb ?_
    refine v_istore_n (lv' := [(2, .int (-4)), (0, .ref 0), (1, .int c)]) C dX6_letter_8 rfl (Nat.le_of_ble_eq_true rfl) rfl rfl ?_
    refine v_iload_n C dX6_letter_9 rfl rfl rfl ?_
    refine v_if_ne (tgt := 25) C dX6_letter_10 (by decide) rfl (fun _ => ?_) (fun q => absurd q (by decide))
    refine v_iload_n C dX6_letter_25 rfl rfl rfl ?_
    refine v_if_eq (tgt := 35) C dX6_letter_26 (by decide) rfl (fun q => absurd q (by decide)) (fun _ => ?_)
    refine v_aload_n C dX6_letter_29 rfl rfl rfl ?_
    refine v_iload_n C dX6_letter_30 rfl rfl rfl ?_
    refine v_callV C (Nat.le_of_ble_eq_true rfl) rfl rfl (As := [.int (-4)]) (rest := []) (kX6_no (-4) 4 σ (by decide) (by decide)) rfl (Nat.le_of_ble_eq_true rfl) (Nat.le_of_ble_eq_true rfl) ⟨mlX6_79, mfX6_no⟩ dkX6_no (Nat.le_of_ble_eq_true rfl) dX6_letter_31 rfl (kI ?_)
    exact v_iret C dX6_letter_34 (by rw [hX]; exact fI_of (by simp [letA, q1]) (by simp [letS, q1]))
  · refine V.tp hb ?_
    refine v_istore_n (lv' := [(2, .int (-6)), (0, .ref 0), (1, .int c)]) C dX6_letter_8 rfl (Nat.le_of_ble_eq_true rfl) rfl rfl ?_
    refine v_iload_n C dX6_letter_9 rfl rfl rfl ?_
    refine v_if_ne (tgt := 25) C dX6_letter_10 (by decide) rfl (fun _ => ?_) (fun q => absurd q (by decide))
    refine v_iload_n C dX6_letter_25 rfl rfl rfl ?_
    refine v_if_eq (tgt := 35) C dX6_letter_26 (by decide) rfl (fun q => absurd q (by decide)) (fun _ => ?_)
    refine v_aload_n C dX6_letter_29 rfl rfl rfl ?_
    refine v_iload_n C dX6_letter_30 rfl rfl rfl ?_
    refine v_callV C (Nat.le_of_ble_eq_true rfl) rfl rfl (As := [.int (-6)]) (rest := []) (kX6_no (-6) 6 σ (by decide) (by decide)) rfl (Nat.le_of_ble_eq_true rfl) (Nat.le_of_ble_eq_true rfl) ⟨mlX6_79, mfX6_no⟩ dkX6_no (Nat.le_of_ble_eq_true rfl) dX6_letter_31 rfl (kI ?_)
    exact v_iret C dX6_letter_34 (by rw [hX]; exact fI_of (by simp [letA, q1, q2]) (by simp [letS, q1, q2]))
  · refine V.tp hb ?_
    refine v_istore_n (lv' := [(2, .int 0), (0, .ref 0), (1, .int c)]) C dX6_letter_8 rfl (Nat.le_of_ble_eq_true rfl) rfl rfl ?_
    refine v_iload_n C dX6_letter_9 rfl rfl rfl ?_
    refine v_if_ne (tgt := 25) C dX6_letter_10 (by decide) rfl (fun q => absurd q (by decide)) (fun _ => ?_)
    refine v_aload_n C dX6_letter_13 rfl rfl rfl ?_
    refine v_getI C (Nat.le_of_ble_eq_true rfl) rfl rfl hinX6 15 (Nat.le_of_ble_eq_true rfl) lkX6_76 rfl dX6_letter_14 rfl ?_
    refine V.tp ht ?_
    refine v_bipush (v := 96) C dX6_letter_17 (by decide) rfl ?_
    refine v_icmp_ne (tgt := 25) C dX6_letter_19 (by decide) rfl (fun c19 => ?_) (fun c19 => ?_)
    · skip
      have c19 := mt (nI_eq (a := t) (b := 96) (by omega) (by omega)).mpr c19
      refine v_iload_n C dX6_letter_25 rfl rfl rfl ?_
      refine v_if_eq (tgt := 35) C dX6_letter_26 (by decide) rfl (fun _ => ?_) (fun q => absurd q (by decide))
      refine v_aload_n C dX6_letter_35 rfl rfl rfl ?_
      refine v_getR C (Nat.le_of_ble_eq_true rfl) rfl rfl hinX6 11 (Nat.le_of_ble_eq_true rfl) lkX6_34 rfl dX6_letter_36 rfl ?_
      refine v_aload_n C dX6_letter_39 rfl rfl rfl ?_
      refine v_getI C (Nat.le_of_ble_eq_true rfl) rfl rfl hinX6 15 (Nat.le_of_ble_eq_true rfl) lkX6_76 rfl dX6_letter_40 rfl ?_
      refine V.tp ht ?_
      refine v_iload_n C dX6_letter_43 rfl rfl rfl ?_
      refine v_iast (i := t) C (Nat.le_of_ble_eq_true rfl) rfl rfl (by omega) (by decide) dX6_letter_44 rfl ?_
      refine V.nm (fun τ44_1 eτ44_1 => ?_)
      have htn : τ44_1 0 15 = nI t := by rw [eτ44_1, s2_ne (by decide)]; exact ht
      refine v_aload_n C dX6_letter_45 rfl rfl rfl ?_
      refine v_dup C dX6_letter_46 rfl rfl ?_
      refine v_getI C (Nat.le_of_ble_eq_true rfl) rfl rfl hinX6 15 (Nat.le_of_ble_eq_true rfl) lkX6_76 rfl dX6_letter_47 rfl ?_
      refine V.tp htn ?_
      refine v_iconst (v := 1) C dX6_letter_50 (by decide) rfl ?_
      refine v_iadd C dX6_letter_51 rfl ?_
      refine V.tp (nI_add t 1) ?_
      refine v_put (ty := .int) C (Nat.le_of_ble_eq_true rfl) rfl rfl hinX6 tyX6_ok nmX6 15 (Nat.le_of_ble_eq_true rfl) lkX6_76 rfl (by decide +kernel) rfl rfl rfl dX6_letter_52 rfl ?_
      refine V.nm (fun τ52_2 eτ52_2 => ?_)
      have htm : τ52_2 0 15 = nI (t + 1) := by rw [eτ52_2, s2_get, if_pos ⟨rfl, rfl⟩]
      refine v_aload_n C dX6_letter_55 rfl rfl rfl ?_
      refine v_getI C (Nat.le_of_ble_eq_true rfl) rfl rfl hinX6 15 (Nat.le_of_ble_eq_true rfl) lkX6_76 rfl dX6_letter_56 rfl ?_
      refine V.tp htm ?_
      exact v_iret C dX6_letter_59 (by rw [hX]; exact fI_of (by simp [letA, q1, q2, c19, eτ44_1, eτ52_2]) (by simp [letS, q1, q2, c19, eτ44_1, eτ52_2]))
    · skip
      have c19 := (nI_eq (a := t) (b := 96) (by omega) (by omega)).mp c19
      refine v_bipush (v := -6) C dX6_letter_22 (by decide) rfl ?_
      refine v_istore_n (lv' := [(2, .int (-6)), (0, .ref 0), (1, .int c)]) C dX6_letter_24 rfl (Nat.le_of_ble_eq_true rfl) rfl rfl ?_
      refine v_iload_n C dX6_letter_25 rfl rfl rfl ?_
      refine v_if_eq (tgt := 35) C dX6_letter_26 (by decide) rfl (fun q => absurd q (by decide)) (fun _ => ?_)
      refine v_aload_n C dX6_letter_29 rfl rfl rfl ?_
      refine v_iload_n C dX6_letter_30 rfl rfl rfl ?_
      refine v_callV C (Nat.le_of_ble_eq_true rfl) rfl rfl (As := [.int (-6)]) (rest := []) (kX6_no (-6) 6 σ (by decide) (by decide)) rfl (Nat.le_of_ble_eq_true rfl) (Nat.le_of_ble_eq_true rfl) ⟨mlX6_79, mfX6_no⟩ dkX6_no (Nat.le_of_ble_eq_true rfl) dX6_letter_31 rfl (kI ?_)
      exact v_iret C dX6_letter_34 (by rw [hX]; exact fI_of (by simp [letA, q1, q2, c19]) (by simp [letS, q1, q2, c19]))
theorem kX6_row (v : Int32) (u : Nat) (σ : St) (hu : σ 0 27 = nI u) (h12 : u ≤ 12) : Ct yX6_row cX6_row 3 (some .int) 1 [.ref 0, .int v] σ (fI (rowA v u) (rowS σ v u)) := by
  refine ct_of plX6 rfl (Nat.le_of_ble_eq_true rfl) (fun X hX C => ?_)
  show V X 0 [(0, .ref 0), (1, .int v)] [] σ
  refine v_iload_n C dX6_row_0 rfl rfl rfl ?_
  refine v_iconst (v := 0) C dX6_row_1 (by decide) rfl ?_
  refine v_bipush (v := 99) C dX6_row_2 (by decide) rfl ?_
  refine v_callS C (As := [.int v, .int 0, .int 99]) (rest := []) (kX6_bound v 0 99 σ) rfl (Nat.le_of_ble_eq_true rfl) (Nat.le_of_ble_eq_true rfl) ⟨mlX6_72, mfX6_bound⟩ dkX6_bound (Nat.le_of_ble_eq_true rfl) dX6_row_4 rfl (kI ?_)
  rcases bnd_cases v 0 99 with ⟨hb, q1⟩ | ⟨hb, q1, q2⟩ | ⟨hb, q1, q2⟩
  · refine V.tp hb ?_
    refine v_istore_n (lv' := [(2, .int (-4)), (0, .ref 0), (1, .int v)]) C dX6_row_7 rfl (Nat.le_of_ble_eq_true rfl) rfl rfl ?_
    refine v_iload_n C dX6_row_8 rfl rfl rfl ?_
    refine v_if_ne (tgt := 24) C dX6_row_9 (by decide) rfl (fun _ => ?_) (fun q => absurd q (by decide))
    refine v_iload_n C dX6_row_24 rfl rfl rfl ?_
    refine v_if_eq (tgt := 34) C dX6_row_25 (by decide) rfl (fun q => absurd q (by decide)) (fun _ => ?_)
    refine v_aload_n C dX6_row_28 rfl rfl rfl ?_
    refine v_iload_n C dX6_row_29 rfl rfl rfl ?_
    refine v_callV C (Nat.le_of_ble_eq_true rfl) rfl rfl (As := [.int (-4)]) (rest := []) (kX6_no (-4) 4 σ (by decide) (by decide)) rfl (Nat.le_of_ble_eq_true rfl) (Nat.le_of_ble_eq_true rfl) ⟨mlX6_79, mfX6_no⟩ dkX6_no (Nat.le_of_ble_eq_true rfl) dX6_row_30 rfl (kI ?_)
    exact v_iret C dX6_row_33 (by rw [hX]; exact fI_of (by simp [rowA, q1]) (by simp [rowS, q1]))
  · refine V.tp hb ?_
    refine v_istore_n (lv' := [(2, .int (-6)), (0, .ref 0), (1, .int v)]) C dX6_row_7 rfl (Nat.le_of_ble_eq_true rfl) rfl rfl ?_
    refine v_iload_n C dX6_row_8 rfl rfl rfl ?_
    refine v_if_ne (tgt := 24) C dX6_row_9 (by decide) rfl (fun _ => ?_) (fun q => absurd q (by decide))
    refine v_iload_n C dX6_row_24 rfl rfl rfl ?_
    refine v_if_eq (tgt := 34) C dX6_row_25 (by decide) rfl (fun q => absurd q (by decide)) (fun _ => ?_)
    refine v_aload_n C dX6_row_28 rfl rfl rfl ?_
    refine v_iload_n C dX6_row_29 rfl rfl rfl ?_
    refine v_callV C (Nat.le_of_ble_eq_true rfl) rfl rfl (As := [.int (-6)]) (rest := []) (kX6_no (-6) 6 σ (by decide) (by decide)) rfl (Nat.le_of_ble_eq_true rfl) (Nat.le_of_ble_eq_true rfl) ⟨mlX6_79, mfX6_no⟩ dkX6_no (Nat.le_of_ble_eq_true rfl) dX6_row_30 rfl (kI ?_)
    exact v_iret C dX6_row_33 (by rw [hX]; exact fI_of (by simp [rowA, q1, q2]) (by simp [rowS, q1, q2]))
  · refine V.tp hb ?_
    refine v_istore_n (lv' := [(2, .int 0), (0, .ref 0), (1, .int v)]) C dX6_row_7 rfl (Nat.le_of_ble_eq_true rfl) rfl rfl ?_
    refine v_iload_n C dX6_row_8 rfl rfl rfl ?_
    refine v_if_ne (tgt := 24) C dX6_row_9 (by decide) rfl (fun q => absurd q (by decide)) (fun _ => ?_)
    refine v_aload_n C dX6_row_12 rfl rfl rfl ?_
    refine v_getI C (Nat.le_of_ble_eq_true rfl) rfl rfl hinX6 27 (Nat.le_of_ble_eq_true rfl) lkX6_249 rfl dX6_row_13 rfl ?_
    refine V.tp hu ?_
    refine v_bipush (v := 12) C dX6_row_16 (by decide) rfl ?_
    refine v_icmp_ne (tgt := 24) C dX6_row_18 (by decide) rfl (fun c18 => ?_) (fun c18 => ?_)
    · skip
      have c18 := mt (nI_eq (a := u) (b := 12) (by omega) (by omega)).mpr c18
      refine v_iload_n C dX6_row_24 rfl rfl rfl ?_
      refine v_if_eq (tgt := 34) C dX6_row_25 (by decide) rfl (fun _ => ?_) (fun q => absurd q (by decide))
      refine v_aload_n C dX6_row_34 rfl rfl rfl ?_
      refine v_getR C (Nat.le_of_ble_eq_true rfl) rfl rfl hinX6 26 (Nat.le_of_ble_eq_true rfl) lkX6_58 rfl dX6_row_35 rfl ?_
      refine v_aload_n C dX6_row_38 rfl rfl rfl ?_
      refine v_getI C (Nat.le_of_ble_eq_true rfl) rfl rfl hinX6 27 (Nat.le_of_ble_eq_true rfl) lkX6_249 rfl dX6_row_39 rfl ?_
      refine V.tp hu ?_
      refine v_iload_n C dX6_row_42 rfl rfl rfl ?_
      refine v_iast (i := u) C (Nat.le_of_ble_eq_true rfl) rfl rfl (by omega) (by decide) dX6_row_43 rfl ?_
      refine V.nm (fun τ43_1 eτ43_1 => ?_)
      have htn : τ43_1 0 27 = nI u := by rw [eτ43_1, s2_ne (by decide)]; exact hu
      refine v_aload_n C dX6_row_44 rfl rfl rfl ?_
      refine v_dup C dX6_row_45 rfl rfl ?_
      refine v_getI C (Nat.le_of_ble_eq_true rfl) rfl rfl hinX6 27 (Nat.le_of_ble_eq_true rfl) lkX6_249 rfl dX6_row_46 rfl ?_
      refine V.tp htn ?_
      refine v_iconst (v := 1) C dX6_row_49 (by decide) rfl ?_
      refine v_iadd C dX6_row_50 rfl ?_
      refine V.tp (nI_add u 1) ?_
      refine v_put (ty := .int) C (Nat.le_of_ble_eq_true rfl) rfl rfl hinX6 tyX6_ok nmX6 27 (Nat.le_of_ble_eq_true rfl) lkX6_249 rfl (by decide +kernel) rfl rfl rfl dX6_row_51 rfl ?_
      refine V.nm (fun τ51_2 eτ51_2 => ?_)
      have htm : τ51_2 0 27 = nI (u + 1) := by rw [eτ51_2, s2_get, if_pos ⟨rfl, rfl⟩]
      refine v_aload_n C dX6_row_54 rfl rfl rfl ?_
      refine v_getI C (Nat.le_of_ble_eq_true rfl) rfl rfl hinX6 27 (Nat.le_of_ble_eq_true rfl) lkX6_249 rfl dX6_row_55 rfl ?_
      refine V.tp htm ?_
      exact v_iret C dX6_row_58 (by rw [hX]; exact fI_of (by simp [rowA, q1, q2, c18, eτ43_1, eτ51_2]) (by simp [rowS, q1, q2, c18, eτ43_1, eτ51_2]))
    · skip
      have c18 := (nI_eq (a := u) (b := 12) (by omega) (by omega)).mp c18
      refine v_bipush (v := -6) C dX6_row_21 (by decide) rfl ?_
      refine v_istore_n (lv' := [(2, .int (-6)), (0, .ref 0), (1, .int v)]) C dX6_row_23 rfl (Nat.le_of_ble_eq_true rfl) rfl rfl ?_
      refine v_iload_n C dX6_row_24 rfl rfl rfl ?_
      refine v_if_eq (tgt := 34) C dX6_row_25 (by decide) rfl (fun q => absurd q (by decide)) (fun _ => ?_)
      refine v_aload_n C dX6_row_28 rfl rfl rfl ?_
      refine v_iload_n C dX6_row_29 rfl rfl rfl ?_
      refine v_callV C (Nat.le_of_ble_eq_true rfl) rfl rfl (As := [.int (-6)]) (rest := []) (kX6_no (-6) 6 σ (by decide) (by decide)) rfl (Nat.le_of_ble_eq_true rfl) (Nat.le_of_ble_eq_true rfl) ⟨mlX6_79, mfX6_no⟩ dkX6_no (Nat.le_of_ble_eq_true rfl) dX6_row_30 rfl (kI ?_)
      exact v_iret C dX6_row_33 (by rw [hX]; exact fI_of (by simp [rowA, q1, q2, c18]) (by simp [rowS, q1, q2, c18]))
noncomputable def cI {α : Type} (P : Prop) (a b : α) : α := @ite α P (Classical.propDecidable P) a b
theorem cI_t {α : Type} {P : Prop} {a b : α} (h : P) : cI P a b = a := by simp [cI, h]
theorem cI_f {α : Type} {P : Prop} {a b : α} (h : ¬ P) : cI P a b = b := by simp [cI, h]
noncomputable def pieA (σ : St) (n : Nat) (p w : Int32) : Int32 := cI (pieceP p (nI n)) (if w = 0 then σ 4 (tn p) else if w = 1 then σ 5 (tn p) else if w = 2 then σ 6 (tn p) else if w = 3 then σ 7 (tn p) else if w = 4 then σ 8 (tn p) else if w = 5 then blaF (σ 4) (σ 6) (σ 7) (σ 8) n (tn p) else if w = 6 then widF (σ 4) (σ 5) (tn p) else -2) (-1)
noncomputable def pieS (σ : St) (n : Nat) (p w : Int32) : St := cI (pieceP p (nI n)) (if w = 0 ∨ w = 1 ∨ w = 2 ∨ w = 3 ∨ w = 4 ∨ w = 5 ∨ w = 6 then σ else noS σ 2) (noS σ 1)
noncomputable def staA (σ : St) (n : Nat) (p r : Int32) : Int32 := cI (pieceP p (nI n) ∧ placeP r) (bI (carP (σ 4) (σ 5) (σ 8) (σ 2) (σ 3) n (tn p) r)) (-1)
noncomputable def staS (σ : St) (n : Nat) (p r : Int32) : St := cI (pieceP p (nI n) ∧ placeP r) σ (noS σ 1)
noncomputable def carA (σ : St) (n : Nat) (p r : Int32) : Int32 := cI (pieceP p (nI n) ∧ placeP r) (cI (carP (σ 4) (σ 5) (σ 8) (σ 2) (σ 3) n (tn p) r) (σ 8 (tn p)) (-3)) (-1)
noncomputable def carS (σ : St) (n : Nat) (p r : Int32) : St := cI (pieceP p (nI n) ∧ placeP r) (cI (carP (σ 4) (σ 5) (σ 8) (σ 2) (σ 3) n (tn p) r) (s2 σ 8 (tn p) r) (noS σ 3)) (noS σ 1)
noncomputable def polA (σ : St) (n : Nat) (p : Int32) : Int32 := cI (pieceP p (nI n)) (if σ 6 (tn p) = 9 then -3 else σ 6 (tn p) + 1) (-1)
noncomputable def polS (σ : St) (n : Nat) (p : Int32) : St := cI (pieceP p (nI n)) (if σ 6 (tn p) = 9 then noS σ 3 else s2 σ 6 (tn p) (σ 6 (tn p) + 1)) (noS σ 1)
noncomputable def sizA (σ : St) (n : Nat) (r v : Int32) : Int32 := cI (roomP r) (if v < 0 then -4 else if 20 < v then -6 else if v < bulF (σ 5) (σ 8) n r then -3 else σ 2 (tn r)) (-1)
noncomputable def sizS (σ : St) (n : Nat) (r v : Int32) : St := cI (roomP r) (if v < 0 then noS σ 4 else if 20 < v then noS σ 6 else if v < bulF (σ 5) (σ 8) n r then noS σ 3 else s2 σ 2 (tn r) v) (noS σ 1)
noncomputable def widA (σ : St) (f v : Int32) : Int32 := cI (floorP f) (if v < 0 then -4 else if 9 < v then -6 else σ 3 (tn f)) (-1)
noncomputable def widS (σ : St) (f v : Int32) : St := cI (floorP f) (if v < 0 then noS σ 4 else if 9 < v then noS σ 6 else s2 σ 3 (tn f) v) (noS σ 1)
def heiA (σ : St) (v : Int32) : Int32 := if v < 2 then -4 else if 4 < v then -6 else σ 0 9
def heiS (σ : St) (v : Int32) : St := if v < 2 then noS σ 4 else if 4 < v then noS σ 6 else s2 σ 0 9 v
def yeaA (σ : St) (n y : Nat) (v : Int32) : Int32 := if v < 1 then -4 else if 60 < v then -6 else if 999 < y + tn v then -6 else yrs n σ (tn v) 0 10
def yeaS (σ : St) (n y : Nat) (v : Int32) : St := if v < 1 then noS σ 4 else if 60 < v then noS σ 6 else if 999 < y + tn v then noS σ 6 else yrs n σ (tn v)
noncomputable def blaA (σ : St) (n : Nat) (r : Int32) : Int32 := cI (placeP r ∨ r = 10) (binF (σ 4) (σ 6) (σ 7) (σ 8) n r) (-1)
noncomputable def blaS (σ : St) (n : Nat) (r : Int32) : St := cI (placeP r ∨ r = 10) σ (noS σ 1)
theorem floor_nat {f : Int32} (h : floorP f) : f = nI (tn f) ∧ tn f < 3 := by
  rcases h with rfl | rfl
  · exact ⟨by decide, by decide⟩
  · exact ⟨by decide, by decide⟩
theorem kX6_piece (p v : Int32) (n : Nat) (σ : St) (hn : σ 0 8 = nI n) (h7 : n ≤ 7) : Ct yX6_piece cX6_piece 3 (some .int) 2 [.ref 0, .int p, .int v] σ (fI (pieA σ n p v) (pieS σ n p v)) := by
  refine ct_of plX6 rfl (Nat.le_of_ble_eq_true rfl) (fun X hX C => ?_)
  show V X 0 [(0, .ref 0), (1, .int p), (2, .int v)] [] σ
  refine v_aload_n C dX6_piece_0 rfl rfl rfl ?_
  refine v_iload_n C dX6_piece_1 rfl rfl rfl ?_
  refine v_callV C (Nat.le_of_ble_eq_true rfl) rfl rfl (As := [.int p]) (rest := []) (kX6_isPiece p σ) rfl (Nat.le_of_ble_eq_true rfl) (Nat.le_of_ble_eq_true rfl) ⟨mlX6_116, mfX6_isPiece⟩ dkX6_isPiece (Nat.le_of_ble_eq_true rfl) dX6_piece_2 rfl (kI ?_)
  refine v_if_ne (tgt := 14) C dX6_piece_5 (by decide) rfl (fun c5 => ?_) (fun c5 => ?_)
  · skip
    have c5 := bI_n c5
    have hp1 : p = nI (tn p) := (piece_nat h7 (hn ▸ c5)).1
    have hp2 : tn p < n := (piece_nat h7 (hn ▸ c5)).2
    refine v_iload_n C dX6_piece_14 rfl rfl rfl ?_
    by_cases s15_0 : v = 0
    · refine V.tp s15_0 ?_
      refine v_tableIn (off := 41) (tgt := 56) C dX6_piece_15 (by decide) (by decide) rfl (by decide) ?_
      refine v_aload_n C dX6_piece_56 rfl rfl rfl ?_
      refine v_getR C (Nat.le_of_ble_eq_true rfl) rfl rfl hinX6 3 (Nat.le_of_ble_eq_true rfl) lkX6_19 rfl dX6_piece_57 rfl ?_
      refine v_iload_n C dX6_piece_60 rfl rfl rfl ?_
      refine V.tp hp1 ?_
      refine v_iald (i := tn p) C (Nat.le_of_ble_eq_true rfl) rfl rfl (by omega) (by decide) dX6_piece_61 rfl ?_
      exact v_iret C dX6_piece_62 (by rw [hX]; exact fI_of (by simp [pieA, cI, ← hn, c5, s15_0]) (by simp [pieS, cI, ← hn, c5, s15_0]))
    by_cases s15_1 : v = 1
    · refine V.tp s15_1 ?_
      refine v_tableIn (off := 48) (tgt := 63) C dX6_piece_15 (by decide) (by decide) rfl (by decide) ?_
      refine v_aload_n C dX6_piece_63 rfl rfl rfl ?_
      refine v_getR C (Nat.le_of_ble_eq_true rfl) rfl rfl hinX6 4 (Nat.le_of_ble_eq_true rfl) lkX6_22 rfl dX6_piece_64 rfl ?_
      refine v_iload_n C dX6_piece_67 rfl rfl rfl ?_
      refine V.tp hp1 ?_
      refine v_iald (i := tn p) C (Nat.le_of_ble_eq_true rfl) rfl rfl (by omega) (by decide) dX6_piece_68 rfl ?_
      exact v_iret C dX6_piece_69 (by rw [hX]; exact fI_of (by simp [pieA, cI, ← hn, c5, s15_0, s15_1]) (by simp [pieS, cI, ← hn, c5, s15_0, s15_1]))
    by_cases s15_2 : v = 2
    · refine V.tp s15_2 ?_
      refine v_tableIn (off := 55) (tgt := 70) C dX6_piece_15 (by decide) (by decide) rfl (by decide) ?_
      refine v_aload_n C dX6_piece_70 rfl rfl rfl ?_
      refine v_getR C (Nat.le_of_ble_eq_true rfl) rfl rfl hinX6 5 (Nat.le_of_ble_eq_true rfl) lkX6_25 rfl dX6_piece_71 rfl ?_
      refine v_iload_n C dX6_piece_74 rfl rfl rfl ?_
      refine V.tp hp1 ?_
      refine v_iald (i := tn p) C (Nat.le_of_ble_eq_true rfl) rfl rfl (by omega) (by decide) dX6_piece_75 rfl ?_
      exact v_iret C dX6_piece_76 (by rw [hX]; exact fI_of (by simp [pieA, cI, ← hn, c5, s15_0, s15_1, s15_2]) (by simp [pieS, cI, ← hn, c5, s15_0, s15_1, s15_2]))
    by_cases s15_3 : v = 3
    · refine V.tp s15_3 ?_
      refine v_tableIn (off := 62) (tgt := 77) C dX6_piece_15 (by decide) (by decide) rfl (by decide) ?_
      refine v_aload_n C dX6_piece_77 rfl rfl rfl ?_
      refine v_getR C (Nat.le_of_ble_eq_true rfl) rfl rfl hinX6 6 (Nat.le_of_ble_eq_true rfl) lkX6_28 rfl dX6_piece_78 rfl ?_
      refine v_iload_n C dX6_piece_81 rfl rfl rfl ?_
      refine V.tp hp1 ?_
      refine v_iald (i := tn p) C (Nat.le_of_ble_eq_true rfl) rfl rfl (by omega) (by decide) dX6_piece_82 rfl ?_
      exact v_iret C dX6_piece_83 (by rw [hX]; exact fI_of (by simp [pieA, cI, ← hn, c5, s15_0, s15_1, s15_2, s15_3]) (by simp [pieS, cI, ← hn, c5, s15_0, s15_1, s15_2, s15_3]))
    by_cases s15_4 : v = 4
    · refine V.tp s15_4 ?_
      refine v_tableIn (off := 69) (tgt := 84) C dX6_piece_15 (by decide) (by decide) rfl (by decide) ?_
      refine v_aload_n C dX6_piece_84 rfl rfl rfl ?_
      refine v_getR C (Nat.le_of_ble_eq_true rfl) rfl rfl hinX6 7 (Nat.le_of_ble_eq_true rfl) lkX6_31 rfl dX6_piece_85 rfl ?_
      refine v_iload_n C dX6_piece_88 rfl rfl rfl ?_
      refine V.tp hp1 ?_
      refine v_iald (i := tn p) C (Nat.le_of_ble_eq_true rfl) rfl rfl (by omega) (by decide) dX6_piece_89 rfl ?_
      exact v_iret C dX6_piece_90 (by rw [hX]; exact fI_of (by simp [pieA, cI, ← hn, c5, s15_0, s15_1, s15_2, s15_3, s15_4]) (by simp [pieS, cI, ← hn, c5, s15_0, s15_1, s15_2, s15_3, s15_4]))
    by_cases s15_5 : v = 5
    · refine V.tp s15_5 ?_
      refine v_tableIn (off := 76) (tgt := 91) C dX6_piece_15 (by decide) (by decide) rfl (by decide) ?_
      refine v_aload_n C dX6_piece_91 rfl rfl rfl ?_
      refine v_iload_n C dX6_piece_92 rfl rfl rfl ?_
      refine V.tp hp1 ?_
      refine v_callV C (Nat.le_of_ble_eq_true rfl) rfl rfl (As := [.int (nI (tn p))]) (rest := []) (kX6_blameOf n (tn p) σ hn h7 (by omega)) rfl (Nat.le_of_ble_eq_true rfl) (Nat.le_of_ble_eq_true rfl) ⟨mlX6_169, mfX6_blameOf⟩ dkX6_blameOf (Nat.le_of_ble_eq_true rfl) dX6_piece_93 rfl (kI ?_)
      exact v_iret C dX6_piece_96 (by rw [hX]; exact fI_of (by simp [pieA, cI, ← hn, c5, s15_0, s15_1, s15_2, s15_3, s15_4, s15_5]) (by simp [pieS, cI, ← hn, c5, s15_0, s15_1, s15_2, s15_3, s15_4, s15_5]))
    by_cases s15_6 : v = 6
    · refine V.tp s15_6 ?_
      refine v_tableIn (off := 82) (tgt := 97) C dX6_piece_15 (by decide) (by decide) rfl (by decide) ?_
      refine v_aload_n C dX6_piece_97 rfl rfl rfl ?_
      refine v_iload_n C dX6_piece_98 rfl rfl rfl ?_
      refine V.tp hp1 ?_
      refine v_callV C (Nat.le_of_ble_eq_true rfl) rfl rfl (As := [.int (nI (tn p))]) (rest := []) (kX6_wideOf n (tn p) σ h7 (by omega)) rfl (Nat.le_of_ble_eq_true rfl) (Nat.le_of_ble_eq_true rfl) ⟨mlX6_172, mfX6_wideOf⟩ dkX6_wideOf (Nat.le_of_ble_eq_true rfl) dX6_piece_99 rfl (kI ?_)
      exact v_iret C dX6_piece_102 (by rw [hX]; exact fI_of (by simp [pieA, cI, ← hn, c5, s15_0, s15_1, s15_2, s15_3, s15_4, s15_5, s15_6]) (by simp [pieS, cI, ← hn, c5, s15_0, s15_1, s15_2, s15_3, s15_4, s15_5, s15_6]))
    refine v_tableOut (tgt := 103) C dX6_piece_15 (by have e0 := lv_neT s15_0 (a := 0) (by decide); have e1 := lv_neT s15_1 (a := 1) (by decide); have e2 := lv_neT s15_2 (a := 2) (by decide); have e3 := lv_neT s15_3 (a := 3) (by decide); have e4 := lv_neT s15_4 (a := 4) (by decide); have e5 := lv_neT s15_5 (a := 5) (by decide); have e6 := lv_neT s15_6 (a := 6) (by decide); omega) (by decide) ?_
    refine v_aload_n C dX6_piece_103 rfl rfl rfl ?_
    refine v_bipush (v := -2) C dX6_piece_104 (by decide) rfl ?_
    refine v_callV C (Nat.le_of_ble_eq_true rfl) rfl rfl (As := [.int (-2)]) (rest := []) (kX6_no (-2) 2 σ (by decide) (by decide)) rfl (Nat.le_of_ble_eq_true rfl) (Nat.le_of_ble_eq_true rfl) ⟨mlX6_79, mfX6_no⟩ dkX6_no (Nat.le_of_ble_eq_true rfl) dX6_piece_106 rfl (kI ?_)
    exact v_iret C dX6_piece_109 (by rw [hX]; exact fI_of (by simp [pieA, cI, ← hn, c5, s15_0, s15_1, s15_2, s15_3, s15_4, s15_5, s15_6]) (by simp [pieS, cI, ← hn, c5, s15_0, s15_1, s15_2, s15_3, s15_4, s15_5, s15_6]))
  · skip
    have c5 := bI_0 c5
    refine v_aload_n C dX6_piece_8 rfl rfl rfl ?_
    refine v_iconst (v := -1) C dX6_piece_9 (by decide) rfl ?_
    refine v_callV C (Nat.le_of_ble_eq_true rfl) rfl rfl (As := [.int (-1)]) (rest := []) (kX6_no (-1) 1 σ (by decide) (by decide)) rfl (Nat.le_of_ble_eq_true rfl) (Nat.le_of_ble_eq_true rfl) ⟨mlX6_79, mfX6_no⟩ dkX6_no (Nat.le_of_ble_eq_true rfl) dX6_piece_10 rfl (kI ?_)
    exact v_iret C dX6_piece_13 (by rw [hX]; exact fI_of (by simp [pieA, cI, ← hn, c5]) (by simp [pieS, cI, ← hn, c5]))
theorem kX6_stands (p r : Int32) (n : Nat) (σ : St) (hn : σ 0 8 = nI n) (h7 : n ≤ 7) : Ct yX6_stands cX6_stands 3 (some .int) 2 [.ref 0, .int p, .int r] σ (fI (staA σ n p r) (staS σ n p r)) := by
  refine ct_of plX6 rfl (Nat.le_of_ble_eq_true rfl) (fun X hX C => ?_)
  show V X 0 [(0, .ref 0), (1, .int p), (2, .int r)] [] σ
  refine v_aload_n C dX6_stands_0 rfl rfl rfl ?_
  refine v_iload_n C dX6_stands_1 rfl rfl rfl ?_
  refine v_callV C (Nat.le_of_ble_eq_true rfl) rfl rfl (As := [.int p]) (rest := []) (kX6_isPiece p σ) rfl (Nat.le_of_ble_eq_true rfl) (Nat.le_of_ble_eq_true rfl) ⟨mlX6_116, mfX6_isPiece⟩ dkX6_isPiece (Nat.le_of_ble_eq_true rfl) dX6_stands_2 rfl (kI ?_)
  refine v_if_eq (tgt := 15) C dX6_stands_5 (by decide) rfl (fun c5 => ?_) (fun c5 => ?_)
  · skip
    have c5 := bI_0 c5
    refine v_aload_n C dX6_stands_15 rfl rfl rfl ?_
    refine v_iconst (v := -1) C dX6_stands_16 (by decide) rfl ?_
    refine v_callV C (Nat.le_of_ble_eq_true rfl) rfl rfl (As := [.int (-1)]) (rest := []) (kX6_no (-1) 1 σ (by decide) (by decide)) rfl (Nat.le_of_ble_eq_true rfl) (Nat.le_of_ble_eq_true rfl) ⟨mlX6_79, mfX6_no⟩ dkX6_no (Nat.le_of_ble_eq_true rfl) dX6_stands_17 rfl (kI ?_)
    exact v_iret C dX6_stands_20 (by rw [hX]; exact fI_of (by simp [staA, cI, ← hn, bI, c5]) (by simp [staS, cI, ← hn, bI, c5]))
  · skip
    have c5 := bI_n c5
    have hp1 : p = nI (tn p) := (piece_nat h7 (hn ▸ c5)).1
    have hp2 : tn p < n := (piece_nat h7 (hn ▸ c5)).2
    refine v_iload_n C dX6_stands_8 rfl rfl rfl ?_
    refine v_callS C (As := [.int r]) (rest := []) (kX6_isPlace r σ) rfl (Nat.le_of_ble_eq_true rfl) (Nat.le_of_ble_eq_true rfl) ⟨mlX6_119, mfX6_isPlace⟩ dkX6_isPlace (Nat.le_of_ble_eq_true rfl) dX6_stands_9 rfl (kI ?_)
    refine v_if_ne (tgt := 21) C dX6_stands_12 (by decide) rfl (fun c12 => ?_) (fun c12 => ?_)
    · skip
      have c12 := bI_n c12
      have hr : placeP r := c12
      refine v_aload_n C dX6_stands_21 rfl rfl rfl ?_
      refine v_iload_n C dX6_stands_22 rfl rfl rfl ?_
      refine V.tp hp1 ?_
      refine v_iload_n C dX6_stands_23 rfl rfl rfl ?_
      refine v_callV C (Nat.le_of_ble_eq_true rfl) rfl rfl (As := [.int (nI (tn p)), .int r]) (rest := []) (kX6_canCarry n (tn p) r σ hn h7 (by omega) hr) rfl (Nat.le_of_ble_eq_true rfl) (Nat.le_of_ble_eq_true rfl) ⟨mlX6_122, mfX6_canCarry⟩ dkX6_canCarry (Nat.le_of_ble_eq_true rfl) dX6_stands_24 rfl (kI ?_)
      refine v_if_eq (tgt := 34) C dX6_stands_27 (by decide) rfl (fun c27 => ?_) (fun c27 => ?_)
      · skip
        have c27 := bI_0 c27
        refine v_iconst (v := 0) C dX6_stands_34 (by decide) rfl ?_
        exact v_iret C dX6_stands_35 (by rw [hX]; exact fI_of (by simp [staA, cI, ← hn, bI, c5, c12, c27]) (by simp [staS, cI, ← hn, bI, c5, c12, c27]))
      · skip
        have c27 := bI_n c27
        refine v_iconst (v := 1) C dX6_stands_30 (by decide) rfl ?_
        refine v_goto (tgt := 35) C dX6_stands_31 (by decide) ?_
        exact v_iret C dX6_stands_35 (by rw [hX]; exact fI_of (by simp [staA, cI, ← hn, bI, c5, c12, c27]) (by simp [staS, cI, ← hn, bI, c5, c12, c27]))
    · skip
      have c12 := bI_0 c12
      refine v_aload_n C dX6_stands_15 rfl rfl rfl ?_
      refine v_iconst (v := -1) C dX6_stands_16 (by decide) rfl ?_
      refine v_callV C (Nat.le_of_ble_eq_true rfl) rfl rfl (As := [.int (-1)]) (rest := []) (kX6_no (-1) 1 σ (by decide) (by decide)) rfl (Nat.le_of_ble_eq_true rfl) (Nat.le_of_ble_eq_true rfl) ⟨mlX6_79, mfX6_no⟩ dkX6_no (Nat.le_of_ble_eq_true rfl) dX6_stands_17 rfl (kI ?_)
      exact v_iret C dX6_stands_20 (by rw [hX]; exact fI_of (by simp [staA, cI, ← hn, bI, c5, c12]) (by simp [staS, cI, ← hn, bI, c5, c12]))
theorem kX6_carry (p r : Int32) (n : Nat) (σ : St) (hn : σ 0 8 = nI n) (h7 : n ≤ 7) : Ct yX6_carry cX6_carry 5 (some .int) 2 [.ref 0, .int p, .int r] σ (fI (carA σ n p r) (carS σ n p r)) := by
  refine ct_of plX6 rfl (Nat.le_of_ble_eq_true rfl) (fun X hX C => ?_)
  show V X 0 [(0, .ref 0), (1, .int p), (2, .int r)] [] σ
  refine v_aload_n C dX6_carry_0 rfl rfl rfl ?_
  refine v_iload_n C dX6_carry_1 rfl rfl rfl ?_
  refine v_callV C (Nat.le_of_ble_eq_true rfl) rfl rfl (As := [.int p]) (rest := []) (kX6_isPiece p σ) rfl (Nat.le_of_ble_eq_true rfl) (Nat.le_of_ble_eq_true rfl) ⟨mlX6_116, mfX6_isPiece⟩ dkX6_isPiece (Nat.le_of_ble_eq_true rfl) dX6_carry_2 rfl (kI ?_)
  refine v_if_eq (tgt := 15) C dX6_carry_5 (by decide) rfl (fun c5 => ?_) (fun c5 => ?_)
  · skip
    have c5 := bI_0 c5
    refine v_iconst (v := -1) C dX6_carry_15 (by decide) rfl ?_
    refine v_goto (tgt := 34) C dX6_carry_16 (by decide) ?_
    refine v_istore_n (lv' := [(3, .int (-1)), (0, .ref 0), (1, .int p), (2, .int r)]) C dX6_carry_34 rfl (Nat.le_of_ble_eq_true rfl) rfl rfl ?_
    refine v_iload_n C dX6_carry_35 rfl rfl rfl ?_
    refine v_if_eq (tgt := 45) C dX6_carry_36 (by decide) rfl (fun q => absurd q (by decide)) (fun _ => ?_)
    refine v_aload_n C dX6_carry_39 rfl rfl rfl ?_
    refine v_iload_n C dX6_carry_40 rfl rfl rfl ?_
    refine v_callV C (Nat.le_of_ble_eq_true rfl) rfl rfl (As := [.int (-1)]) (rest := []) (kX6_no (-1) 1 σ (by decide) (by decide)) rfl (Nat.le_of_ble_eq_true rfl) (Nat.le_of_ble_eq_true rfl) ⟨mlX6_79, mfX6_no⟩ dkX6_no (Nat.le_of_ble_eq_true rfl) dX6_carry_41 rfl (kI ?_)
    exact v_iret C dX6_carry_44 (by rw [hX]; exact fI_of (by simp [carA, cI, ← hn, c5]) (by simp [carS, cI, ← hn, c5]))
  · skip
    have c5 := bI_n c5
    have hp1 : p = nI (tn p) := (piece_nat h7 (hn ▸ c5)).1
    have hp2 : tn p < n := (piece_nat h7 (hn ▸ c5)).2
    refine v_iload_n C dX6_carry_8 rfl rfl rfl ?_
    refine v_callS C (As := [.int r]) (rest := []) (kX6_isPlace r σ) rfl (Nat.le_of_ble_eq_true rfl) (Nat.le_of_ble_eq_true rfl) ⟨mlX6_119, mfX6_isPlace⟩ dkX6_isPlace (Nat.le_of_ble_eq_true rfl) dX6_carry_9 rfl (kI ?_)
    refine v_if_ne (tgt := 19) C dX6_carry_12 (by decide) rfl (fun c12 => ?_) (fun c12 => ?_)
    · skip
      have c12 := bI_n c12
      have hr : placeP r := c12
      refine v_aload_n C dX6_carry_19 rfl rfl rfl ?_
      refine v_iload_n C dX6_carry_20 rfl rfl rfl ?_
      refine V.tp hp1 ?_
      refine v_iload_n C dX6_carry_21 rfl rfl rfl ?_
      refine v_callV C (Nat.le_of_ble_eq_true rfl) rfl rfl (As := [.int (nI (tn p)), .int r]) (rest := []) (kX6_canCarry n (tn p) r σ hn h7 (by omega) hr) rfl (Nat.le_of_ble_eq_true rfl) (Nat.le_of_ble_eq_true rfl) ⟨mlX6_122, mfX6_canCarry⟩ dkX6_canCarry (Nat.le_of_ble_eq_true rfl) dX6_carry_22 rfl (kI ?_)
      refine v_if_ne (tgt := 33) C dX6_carry_25 (by decide) rfl (fun c25 => ?_) (fun c25 => ?_)
      · skip
        have c25 := bI_n c25
        refine v_iconst (v := 0) C dX6_carry_33 (by decide) rfl ?_
        refine v_istore_n (lv' := [(3, .int 0), (0, .ref 0), (1, .int p), (2, .int r)]) C dX6_carry_34 rfl (Nat.le_of_ble_eq_true rfl) rfl rfl ?_
        refine v_iload_n C dX6_carry_35 rfl rfl rfl ?_
        refine v_if_eq (tgt := 45) C dX6_carry_36 (by decide) rfl (fun _ => ?_) (fun q => absurd q (by decide))
        refine v_aload_n C dX6_carry_45 rfl rfl rfl ?_
        refine v_getR C (Nat.le_of_ble_eq_true rfl) rfl rfl hinX6 7 (Nat.le_of_ble_eq_true rfl) lkX6_31 rfl dX6_carry_46 rfl ?_
        refine v_iload_n C dX6_carry_49 rfl rfl rfl ?_
        refine V.tp hp1 ?_
        refine v_iald (i := tn p) C (Nat.le_of_ble_eq_true rfl) rfl rfl (by omega) (by decide) dX6_carry_50 rfl ?_
        refine V.top (fun v51_1 ev51_1 => ?_)
        refine v_istore (lv' := [(4, .int v51_1), (3, .int 0), (0, .ref 0), (1, .int p), (2, .int r)]) C dX6_carry_51 (Nat.le_of_ble_eq_true rfl) rfl rfl ?_
        refine v_aload_n C dX6_carry_53 rfl rfl rfl ?_
        refine v_getR C (Nat.le_of_ble_eq_true rfl) rfl rfl hinX6 7 (Nat.le_of_ble_eq_true rfl) lkX6_31 rfl dX6_carry_54 rfl ?_
        refine v_iload_n C dX6_carry_57 rfl rfl rfl ?_
        refine V.tp hp1 ?_
        refine v_iload_n C dX6_carry_58 rfl rfl rfl ?_
        refine v_iast (i := tn p) C (Nat.le_of_ble_eq_true rfl) rfl rfl (by omega) (by decide) dX6_carry_59 rfl ?_
        refine V.nm (fun τ59_2 eτ59_2 => ?_)
        refine v_iload C dX6_carry_60 rfl rfl ?_
        exact v_iret C dX6_carry_62 (by rw [hX]; exact fI_of (by simp [carA, cI, ← hn, c5, c12, c25, ev51_1, eτ59_2]) (by simp [carS, cI, ← hn, c5, c12, c25, ev51_1, eτ59_2]))
      · skip
        have c25 := bI_0 c25
        refine v_bipush (v := -3) C dX6_carry_28 (by decide) rfl ?_
        refine v_goto (tgt := 34) C dX6_carry_30 (by decide) ?_
        refine v_istore_n (lv' := [(3, .int (-3)), (0, .ref 0), (1, .int p), (2, .int r)]) C dX6_carry_34 rfl (Nat.le_of_ble_eq_true rfl) rfl rfl ?_
        refine v_iload_n C dX6_carry_35 rfl rfl rfl ?_
        refine v_if_eq (tgt := 45) C dX6_carry_36 (by decide) rfl (fun q => absurd q (by decide)) (fun _ => ?_)
        refine v_aload_n C dX6_carry_39 rfl rfl rfl ?_
        refine v_iload_n C dX6_carry_40 rfl rfl rfl ?_
        refine v_callV C (Nat.le_of_ble_eq_true rfl) rfl rfl (As := [.int (-3)]) (rest := []) (kX6_no (-3) 3 σ (by decide) (by decide)) rfl (Nat.le_of_ble_eq_true rfl) (Nat.le_of_ble_eq_true rfl) ⟨mlX6_79, mfX6_no⟩ dkX6_no (Nat.le_of_ble_eq_true rfl) dX6_carry_41 rfl (kI ?_)
        exact v_iret C dX6_carry_44 (by rw [hX]; exact fI_of (by simp [carA, cI, ← hn, c5, c12, c25]) (by simp [carS, cI, ← hn, c5, c12, c25]))
    · skip
      have c12 := bI_0 c12
      refine v_iconst (v := -1) C dX6_carry_15 (by decide) rfl ?_
      refine v_goto (tgt := 34) C dX6_carry_16 (by decide) ?_
      refine v_istore_n (lv' := [(3, .int (-1)), (0, .ref 0), (1, .int p), (2, .int r)]) C dX6_carry_34 rfl (Nat.le_of_ble_eq_true rfl) rfl rfl ?_
      refine v_iload_n C dX6_carry_35 rfl rfl rfl ?_
      refine v_if_eq (tgt := 45) C dX6_carry_36 (by decide) rfl (fun q => absurd q (by decide)) (fun _ => ?_)
      refine v_aload_n C dX6_carry_39 rfl rfl rfl ?_
      refine v_iload_n C dX6_carry_40 rfl rfl rfl ?_
      refine v_callV C (Nat.le_of_ble_eq_true rfl) rfl rfl (As := [.int (-1)]) (rest := []) (kX6_no (-1) 1 σ (by decide) (by decide)) rfl (Nat.le_of_ble_eq_true rfl) (Nat.le_of_ble_eq_true rfl) ⟨mlX6_79, mfX6_no⟩ dkX6_no (Nat.le_of_ble_eq_true rfl) dX6_carry_41 rfl (kI ?_)
      exact v_iret C dX6_carry_44 (by rw [hX]; exact fI_of (by simp [carA, cI, ← hn, c5, c12]) (by simp [carS, cI, ← hn, c5, c12]))
theorem kX6_polish (p : Int32) (n : Nat) (σ : St) (hn : σ 0 8 = nI n) (h7 : n ≤ 7) : Ct yX6_polish cX6_polish 3 (some .int) 1 [.ref 0, .int p] σ (fI (polA σ n p) (polS σ n p)) := by
  refine ct_of plX6 rfl (Nat.le_of_ble_eq_true rfl) (fun X hX C => ?_)
  show V X 0 [(0, .ref 0), (1, .int p)] [] σ
  refine v_aload_n C dX6_polish_0 rfl rfl rfl ?_
  refine v_iload_n C dX6_polish_1 rfl rfl rfl ?_
  refine v_callV C (Nat.le_of_ble_eq_true rfl) rfl rfl (As := [.int p]) (rest := []) (kX6_isPiece p σ) rfl (Nat.le_of_ble_eq_true rfl) (Nat.le_of_ble_eq_true rfl) ⟨mlX6_116, mfX6_isPiece⟩ dkX6_isPiece (Nat.le_of_ble_eq_true rfl) dX6_polish_2 rfl (kI ?_)
  refine v_if_ne (tgt := 12) C dX6_polish_5 (by decide) rfl (fun c5 => ?_) (fun c5 => ?_)
  · skip
    have c5 := bI_n c5
    have hp1 : p = nI (tn p) := (piece_nat h7 (hn ▸ c5)).1
    have hp2 : tn p < n := (piece_nat h7 (hn ▸ c5)).2
    refine v_aload_n C dX6_polish_12 rfl rfl rfl ?_
    refine v_getR C (Nat.le_of_ble_eq_true rfl) rfl rfl hinX6 5 (Nat.le_of_ble_eq_true rfl) lkX6_25 rfl dX6_polish_13 rfl ?_
    refine v_iload_n C dX6_polish_16 rfl rfl rfl ?_
    refine V.tp hp1 ?_
    refine v_iald (i := tn p) C (Nat.le_of_ble_eq_true rfl) rfl rfl (by omega) (by decide) dX6_polish_17 rfl ?_
    refine v_bipush (v := 9) C dX6_polish_18 (by decide) rfl ?_
    refine v_icmp_ne (tgt := 28) C dX6_polish_20 (by decide) rfl (fun c20 => ?_) (fun c20 => ?_)
    · skip
      refine v_iconst (v := 0) C dX6_polish_28 (by decide) rfl ?_
      refine v_istore_n (lv' := [(2, .int 0), (0, .ref 0), (1, .int p)]) C dX6_polish_29 rfl (Nat.le_of_ble_eq_true rfl) rfl rfl ?_
      refine v_iload_n C dX6_polish_30 rfl rfl rfl ?_
      refine v_if_eq (tgt := 40) C dX6_polish_31 (by decide) rfl (fun _ => ?_) (fun q => absurd q (by decide))
      refine v_aload_n C dX6_polish_40 rfl rfl rfl ?_
      refine v_getR C (Nat.le_of_ble_eq_true rfl) rfl rfl hinX6 5 (Nat.le_of_ble_eq_true rfl) lkX6_25 rfl dX6_polish_41 rfl ?_
      refine v_iload_n C dX6_polish_44 rfl rfl rfl ?_
      refine V.tp hp1 ?_
      refine v_dup2 C dX6_polish_45 rfl rfl rfl ?_
      refine v_iald (i := tn p) C (Nat.le_of_ble_eq_true rfl) rfl rfl (by omega) (by decide) dX6_polish_46 rfl ?_
      refine v_iconst (v := 1) C dX6_polish_47 (by decide) rfl ?_
      refine v_iadd C dX6_polish_48 rfl ?_
      refine v_iast (i := tn p) C (Nat.le_of_ble_eq_true rfl) rfl rfl (by omega) (by decide) dX6_polish_49 rfl ?_
      refine V.nm (fun τ49_1 eτ49_1 => ?_)
      refine v_aload_n C dX6_polish_50 rfl rfl rfl ?_
      refine v_getR C (Nat.le_of_ble_eq_true rfl) rfl rfl hinX6 5 (Nat.le_of_ble_eq_true rfl) lkX6_25 rfl dX6_polish_51 rfl ?_
      refine v_iload_n C dX6_polish_54 rfl rfl rfl ?_
      refine V.tp hp1 ?_
      refine v_iald (i := tn p) C (Nat.le_of_ble_eq_true rfl) rfl rfl (by omega) (by decide) dX6_polish_55 rfl ?_
      exact v_iret C dX6_polish_56 (by rw [hX]; exact fI_of (by simp [polA, cI, ← hn, s2_get, c5, c20, eτ49_1]) (by simp [polS, cI, ← hn, s2_get, c5, c20, eτ49_1]))
    · skip
      refine v_bipush (v := -3) C dX6_polish_23 (by decide) rfl ?_
      refine v_goto (tgt := 29) C dX6_polish_25 (by decide) ?_
      refine v_istore_n (lv' := [(2, .int (-3)), (0, .ref 0), (1, .int p)]) C dX6_polish_29 rfl (Nat.le_of_ble_eq_true rfl) rfl rfl ?_
      refine v_iload_n C dX6_polish_30 rfl rfl rfl ?_
      refine v_if_eq (tgt := 40) C dX6_polish_31 (by decide) rfl (fun q => absurd q (by decide)) (fun _ => ?_)
      refine v_aload_n C dX6_polish_34 rfl rfl rfl ?_
      refine v_iload_n C dX6_polish_35 rfl rfl rfl ?_
      refine v_callV C (Nat.le_of_ble_eq_true rfl) rfl rfl (As := [.int (-3)]) (rest := []) (kX6_no (-3) 3 σ (by decide) (by decide)) rfl (Nat.le_of_ble_eq_true rfl) (Nat.le_of_ble_eq_true rfl) ⟨mlX6_79, mfX6_no⟩ dkX6_no (Nat.le_of_ble_eq_true rfl) dX6_polish_36 rfl (kI ?_)
      exact v_iret C dX6_polish_39 (by rw [hX]; exact fI_of (by simp [polA, cI, ← hn, s2_get, c5, c20]) (by simp [polS, cI, ← hn, s2_get, c5, c20]))
  · skip
    have c5 := bI_0 c5
    refine v_iconst (v := -1) C dX6_polish_8 (by decide) rfl ?_
    refine v_goto (tgt := 29) C dX6_polish_9 (by decide) ?_
    refine v_istore_n (lv' := [(2, .int (-1)), (0, .ref 0), (1, .int p)]) C dX6_polish_29 rfl (Nat.le_of_ble_eq_true rfl) rfl rfl ?_
    refine v_iload_n C dX6_polish_30 rfl rfl rfl ?_
    refine v_if_eq (tgt := 40) C dX6_polish_31 (by decide) rfl (fun q => absurd q (by decide)) (fun _ => ?_)
    refine v_aload_n C dX6_polish_34 rfl rfl rfl ?_
    refine v_iload_n C dX6_polish_35 rfl rfl rfl ?_
    refine v_callV C (Nat.le_of_ble_eq_true rfl) rfl rfl (As := [.int (-1)]) (rest := []) (kX6_no (-1) 1 σ (by decide) (by decide)) rfl (Nat.le_of_ble_eq_true rfl) (Nat.le_of_ble_eq_true rfl) ⟨mlX6_79, mfX6_no⟩ dkX6_no (Nat.le_of_ble_eq_true rfl) dX6_polish_36 rfl (kI ?_)
    exact v_iret C dX6_polish_39 (by rw [hX]; exact fI_of (by simp [polA, cI, ← hn, s2_get, c5]) (by simp [polS, cI, ← hn, s2_get, c5]))
theorem kX6_size (r v : Int32) (n : Nat) (σ : St) (hn : σ 0 8 = nI n) (h7 : n ≤ 7) : Ct yX6_size cX6_size 5 (some .int) 1 [.ref 0, .int r, .int v] σ (fI (sizA σ n r v) (sizS σ n r v)) := by
  refine ct_of plX6 rfl (Nat.le_of_ble_eq_true rfl) (fun X hX C => ?_)
  show V X 0 [(0, .ref 0), (1, .int r), (2, .int v)] [] σ
  refine v_iload_n C dX6_size_0 rfl rfl rfl ?_
  refine v_callS C (As := [.int r]) (rest := []) (kX6_isRoom r σ) rfl (Nat.le_of_ble_eq_true rfl) (Nat.le_of_ble_eq_true rfl) ⟨mlX6_68, mfX6_isRoom⟩ dkX6_isRoom (Nat.le_of_ble_eq_true rfl) dX6_size_1 rfl (kI ?_)
  refine v_if_ne (tgt := 11) C dX6_size_4 (by decide) rfl (fun c4 => ?_) (fun c4 => ?_)
  · skip
    have c4 := bI_n c4
    have hrm : roomP r := c4
    refine v_iload_n C dX6_size_11 rfl rfl rfl ?_
    refine v_iconst (v := 0) C dX6_size_12 (by decide) rfl ?_
    refine v_bipush (v := 20) C dX6_size_13 (by decide) rfl ?_
    refine v_callS C (As := [.int v, .int 0, .int 20]) (rest := []) (kX6_bound v 0 20 σ) rfl (Nat.le_of_ble_eq_true rfl) (Nat.le_of_ble_eq_true rfl) ⟨mlX6_72, mfX6_bound⟩ dkX6_bound (Nat.le_of_ble_eq_true rfl) dX6_size_15 rfl (kI ?_)
    rcases bnd_cases v 0 20 with ⟨hb, q1⟩ | ⟨hb, q1, q2⟩ | ⟨hb, q1, q2⟩
    · refine V.tp hb ?_
      refine v_istore_n (lv' := [(3, .int (-4)), (0, .ref 0), (1, .int r), (2, .int v)]) C dX6_size_18 rfl (Nat.le_of_ble_eq_true rfl) rfl rfl ?_
      refine v_iload_n C dX6_size_19 rfl rfl rfl ?_
      refine v_if_ne (tgt := 35) C dX6_size_20 (by decide) rfl (fun _ => ?_) (fun q => absurd q (by decide))
      refine v_iload_n C dX6_size_35 rfl rfl rfl ?_
      refine v_if_eq (tgt := 45) C dX6_size_36 (by decide) rfl (fun q => absurd q (by decide)) (fun _ => ?_)
      refine v_aload_n C dX6_size_39 rfl rfl rfl ?_
      refine v_iload_n C dX6_size_40 rfl rfl rfl ?_
      refine v_callV C (Nat.le_of_ble_eq_true rfl) rfl rfl (As := [.int (-4)]) (rest := []) (kX6_no (-4) 4 σ (by decide) (by decide)) rfl (Nat.le_of_ble_eq_true rfl) (Nat.le_of_ble_eq_true rfl) ⟨mlX6_79, mfX6_no⟩ dkX6_no (Nat.le_of_ble_eq_true rfl) dX6_size_41 rfl (kI ?_)
      exact v_iret C dX6_size_44 (by rw [hX]; exact fI_of (by simp [sizA, cI, ← hn, c4, q1]) (by simp [sizS, cI, ← hn, c4, q1]))
    · refine V.tp hb ?_
      refine v_istore_n (lv' := [(3, .int (-6)), (0, .ref 0), (1, .int r), (2, .int v)]) C dX6_size_18 rfl (Nat.le_of_ble_eq_true rfl) rfl rfl ?_
      refine v_iload_n C dX6_size_19 rfl rfl rfl ?_
      refine v_if_ne (tgt := 35) C dX6_size_20 (by decide) rfl (fun _ => ?_) (fun q => absurd q (by decide))
      refine v_iload_n C dX6_size_35 rfl rfl rfl ?_
      refine v_if_eq (tgt := 45) C dX6_size_36 (by decide) rfl (fun q => absurd q (by decide)) (fun _ => ?_)
      refine v_aload_n C dX6_size_39 rfl rfl rfl ?_
      refine v_iload_n C dX6_size_40 rfl rfl rfl ?_
      refine v_callV C (Nat.le_of_ble_eq_true rfl) rfl rfl (As := [.int (-6)]) (rest := []) (kX6_no (-6) 6 σ (by decide) (by decide)) rfl (Nat.le_of_ble_eq_true rfl) (Nat.le_of_ble_eq_true rfl) ⟨mlX6_79, mfX6_no⟩ dkX6_no (Nat.le_of_ble_eq_true rfl) dX6_size_41 rfl (kI ?_)
      exact v_iret C dX6_size_44 (by rw [hX]; exact fI_of (by simp [sizA, cI, ← hn, c4, q1, q2]) (by simp [sizS, cI, ← hn, c4, q1, q2]))
    · refine V.tp hb ?_
      refine v_istore_n (lv' := [(3, .int 0), (0, .ref 0), (1, .int r), (2, .int v)]) C dX6_size_18 rfl (Nat.le_of_ble_eq_true rfl) rfl rfl ?_
      refine v_iload_n C dX6_size_19 rfl rfl rfl ?_
      refine v_if_ne (tgt := 35) C dX6_size_20 (by decide) rfl (fun q => absurd q (by decide)) (fun _ => ?_)
      refine v_iload_n C dX6_size_23 rfl rfl rfl ?_
      refine v_aload_n C dX6_size_24 rfl rfl rfl ?_
      refine v_iload_n C dX6_size_25 rfl rfl rfl ?_
      refine v_callV C (Nat.le_of_ble_eq_true rfl) rfl rfl (As := [.int r]) (rest := [.int v]) (kX6_bulkIn n r σ hn h7) rfl (Nat.le_of_ble_eq_true rfl) (Nat.le_of_ble_eq_true rfl) ⟨mlX6_125, mfX6_bulkIn⟩ dkX6_bulkIn (Nat.le_of_ble_eq_true rfl) dX6_size_26 rfl (kI ?_)
      refine v_icmp_ge (tgt := 35) C dX6_size_29 (by decide) rfl (fun c29 => ?_) (fun c29 => ?_)
      · skip
        refine v_iload_n C dX6_size_35 rfl rfl rfl ?_
        refine v_if_eq (tgt := 45) C dX6_size_36 (by decide) rfl (fun _ => ?_) (fun q => absurd q (by decide))
        refine v_aload_n C dX6_size_45 rfl rfl rfl ?_
        refine v_getR C (Nat.le_of_ble_eq_true rfl) rfl rfl hinX6 1 (Nat.le_of_ble_eq_true rfl) lkX6_13 rfl dX6_size_46 rfl ?_
        refine v_iload_n C dX6_size_49 rfl rfl rfl ?_
        refine v_iald (i := (tn r)) C (Nat.le_of_ble_eq_true rfl) rfl (room_nat hrm).1 (room_nat hrm).2 (by decide) dX6_size_50 rfl ?_
        refine V.top (fun v51_1 ev51_1 => ?_)
        refine v_istore (lv' := [(4, .int v51_1), (3, .int 0), (0, .ref 0), (1, .int r), (2, .int v)]) C dX6_size_51 (Nat.le_of_ble_eq_true rfl) rfl rfl ?_
        refine v_aload_n C dX6_size_53 rfl rfl rfl ?_
        refine v_getR C (Nat.le_of_ble_eq_true rfl) rfl rfl hinX6 1 (Nat.le_of_ble_eq_true rfl) lkX6_13 rfl dX6_size_54 rfl ?_
        refine v_iload_n C dX6_size_57 rfl rfl rfl ?_
        refine v_iload_n C dX6_size_58 rfl rfl rfl ?_
        refine v_iast (i := (tn r)) C (Nat.le_of_ble_eq_true rfl) rfl (room_nat hrm).1 (room_nat hrm).2 (by decide) dX6_size_59 rfl ?_
        refine V.nm (fun τ59_2 eτ59_2 => ?_)
        refine v_iload C dX6_size_60 rfl rfl ?_
        exact v_iret C dX6_size_62 (by rw [hX]; exact fI_of (by simp [sizA, cI, ← hn, c4, q1, q2, c29, ev51_1, eτ59_2]) (by simp [sizS, cI, ← hn, c4, q1, q2, c29, ev51_1, eτ59_2]))
      · skip
        refine v_bipush (v := -3) C dX6_size_32 (by decide) rfl ?_
        refine v_istore_n (lv' := [(3, .int (-3)), (0, .ref 0), (1, .int r), (2, .int v)]) C dX6_size_34 rfl (Nat.le_of_ble_eq_true rfl) rfl rfl ?_
        refine v_iload_n C dX6_size_35 rfl rfl rfl ?_
        refine v_if_eq (tgt := 45) C dX6_size_36 (by decide) rfl (fun q => absurd q (by decide)) (fun _ => ?_)
        refine v_aload_n C dX6_size_39 rfl rfl rfl ?_
        refine v_iload_n C dX6_size_40 rfl rfl rfl ?_
        refine v_callV C (Nat.le_of_ble_eq_true rfl) rfl rfl (As := [.int (-3)]) (rest := []) (kX6_no (-3) 3 σ (by decide) (by decide)) rfl (Nat.le_of_ble_eq_true rfl) (Nat.le_of_ble_eq_true rfl) ⟨mlX6_79, mfX6_no⟩ dkX6_no (Nat.le_of_ble_eq_true rfl) dX6_size_41 rfl (kI ?_)
        exact v_iret C dX6_size_44 (by rw [hX]; exact fI_of (by simp [sizA, cI, ← hn, c4, q1, q2, c29]) (by simp [sizS, cI, ← hn, c4, q1, q2, c29]))
  · skip
    have c4 := bI_0 c4
    refine v_iconst (v := -1) C dX6_size_7 (by decide) rfl ?_
    refine v_goto (tgt := 18) C dX6_size_8 (by decide) ?_
    refine v_istore_n (lv' := [(3, .int (-1)), (0, .ref 0), (1, .int r), (2, .int v)]) C dX6_size_18 rfl (Nat.le_of_ble_eq_true rfl) rfl rfl ?_
    refine v_iload_n C dX6_size_19 rfl rfl rfl ?_
    refine v_if_ne (tgt := 35) C dX6_size_20 (by decide) rfl (fun _ => ?_) (fun q => absurd q (by decide))
    refine v_iload_n C dX6_size_35 rfl rfl rfl ?_
    refine v_if_eq (tgt := 45) C dX6_size_36 (by decide) rfl (fun q => absurd q (by decide)) (fun _ => ?_)
    refine v_aload_n C dX6_size_39 rfl rfl rfl ?_
    refine v_iload_n C dX6_size_40 rfl rfl rfl ?_
    refine v_callV C (Nat.le_of_ble_eq_true rfl) rfl rfl (As := [.int (-1)]) (rest := []) (kX6_no (-1) 1 σ (by decide) (by decide)) rfl (Nat.le_of_ble_eq_true rfl) (Nat.le_of_ble_eq_true rfl) ⟨mlX6_79, mfX6_no⟩ dkX6_no (Nat.le_of_ble_eq_true rfl) dX6_size_41 rfl (kI ?_)
    exact v_iret C dX6_size_44 (by rw [hX]; exact fI_of (by simp [sizA, cI, ← hn, c4]) (by simp [sizS, cI, ← hn, c4]))
theorem kX6_wide (f v : Int32) (σ : St) : Ct yX6_wide cX6_wide 5 (some .int) 1 [.ref 0, .int f, .int v] σ (fI (widA σ f v) (widS σ f v)) := by
  refine ct_of plX6 rfl (Nat.le_of_ble_eq_true rfl) (fun X hX C => ?_)
  show V X 0 [(0, .ref 0), (1, .int f), (2, .int v)] [] σ
  refine v_iload_n C dX6_wide_0 rfl rfl rfl ?_
  refine v_callS C (As := [.int f]) (rest := []) (kX6_isFloor f σ) rfl (Nat.le_of_ble_eq_true rfl) (Nat.le_of_ble_eq_true rfl) ⟨mlX6_175, mfX6_isFloor⟩ dkX6_isFloor (Nat.le_of_ble_eq_true rfl) dX6_wide_1 rfl (kI ?_)
  refine v_if_ne (tgt := 11) C dX6_wide_4 (by decide) rfl (fun c4 => ?_) (fun c4 => ?_)
  · skip
    have c4 := bI_n c4
    have hfl : floorP f := c4
    refine v_iload_n C dX6_wide_11 rfl rfl rfl ?_
    refine v_iconst (v := 0) C dX6_wide_12 (by decide) rfl ?_
    refine v_bipush (v := 9) C dX6_wide_13 (by decide) rfl ?_
    refine v_callS C (As := [.int v, .int 0, .int 9]) (rest := []) (kX6_bound v 0 9 σ) rfl (Nat.le_of_ble_eq_true rfl) (Nat.le_of_ble_eq_true rfl) ⟨mlX6_72, mfX6_bound⟩ dkX6_bound (Nat.le_of_ble_eq_true rfl) dX6_wide_15 rfl (kI ?_)
    rcases bnd_cases v 0 9 with ⟨hb, q1⟩ | ⟨hb, q1, q2⟩ | ⟨hb, q1, q2⟩
    · refine V.tp hb ?_
      refine v_istore_n (lv' := [(3, .int (-4)), (0, .ref 0), (1, .int f), (2, .int v)]) C dX6_wide_18 rfl (Nat.le_of_ble_eq_true rfl) rfl rfl ?_
      refine v_iload_n C dX6_wide_19 rfl rfl rfl ?_
      refine v_if_eq (tgt := 29) C dX6_wide_20 (by decide) rfl (fun q => absurd q (by decide)) (fun _ => ?_)
      refine v_aload_n C dX6_wide_23 rfl rfl rfl ?_
      refine v_iload_n C dX6_wide_24 rfl rfl rfl ?_
      refine v_callV C (Nat.le_of_ble_eq_true rfl) rfl rfl (As := [.int (-4)]) (rest := []) (kX6_no (-4) 4 σ (by decide) (by decide)) rfl (Nat.le_of_ble_eq_true rfl) (Nat.le_of_ble_eq_true rfl) ⟨mlX6_79, mfX6_no⟩ dkX6_no (Nat.le_of_ble_eq_true rfl) dX6_wide_25 rfl (kI ?_)
      exact v_iret C dX6_wide_28 (by rw [hX]; exact fI_of (by simp [widA, cI, c4, q1]) (by simp [widS, cI, c4, q1]))
    · refine V.tp hb ?_
      refine v_istore_n (lv' := [(3, .int (-6)), (0, .ref 0), (1, .int f), (2, .int v)]) C dX6_wide_18 rfl (Nat.le_of_ble_eq_true rfl) rfl rfl ?_
      refine v_iload_n C dX6_wide_19 rfl rfl rfl ?_
      refine v_if_eq (tgt := 29) C dX6_wide_20 (by decide) rfl (fun q => absurd q (by decide)) (fun _ => ?_)
      refine v_aload_n C dX6_wide_23 rfl rfl rfl ?_
      refine v_iload_n C dX6_wide_24 rfl rfl rfl ?_
      refine v_callV C (Nat.le_of_ble_eq_true rfl) rfl rfl (As := [.int (-6)]) (rest := []) (kX6_no (-6) 6 σ (by decide) (by decide)) rfl (Nat.le_of_ble_eq_true rfl) (Nat.le_of_ble_eq_true rfl) ⟨mlX6_79, mfX6_no⟩ dkX6_no (Nat.le_of_ble_eq_true rfl) dX6_wide_25 rfl (kI ?_)
      exact v_iret C dX6_wide_28 (by rw [hX]; exact fI_of (by simp [widA, cI, c4, q1, q2]) (by simp [widS, cI, c4, q1, q2]))
    · refine V.tp hb ?_
      refine v_istore_n (lv' := [(3, .int 0), (0, .ref 0), (1, .int f), (2, .int v)]) C dX6_wide_18 rfl (Nat.le_of_ble_eq_true rfl) rfl rfl ?_
      refine v_iload_n C dX6_wide_19 rfl rfl rfl ?_
      refine v_if_eq (tgt := 29) C dX6_wide_20 (by decide) rfl (fun _ => ?_) (fun q => absurd q (by decide))
      refine v_aload_n C dX6_wide_29 rfl rfl rfl ?_
      refine v_getR C (Nat.le_of_ble_eq_true rfl) rfl rfl hinX6 2 (Nat.le_of_ble_eq_true rfl) lkX6_16 rfl dX6_wide_30 rfl ?_
      refine v_iload_n C dX6_wide_33 rfl rfl rfl ?_
      refine v_iald (i := (tn f)) C (Nat.le_of_ble_eq_true rfl) rfl (floor_nat hfl).1 (floor_nat hfl).2 (by decide) dX6_wide_34 rfl ?_
      refine V.top (fun v35_1 ev35_1 => ?_)
      refine v_istore (lv' := [(4, .int v35_1), (3, .int 0), (0, .ref 0), (1, .int f), (2, .int v)]) C dX6_wide_35 (Nat.le_of_ble_eq_true rfl) rfl rfl ?_
      refine v_aload_n C dX6_wide_37 rfl rfl rfl ?_
      refine v_getR C (Nat.le_of_ble_eq_true rfl) rfl rfl hinX6 2 (Nat.le_of_ble_eq_true rfl) lkX6_16 rfl dX6_wide_38 rfl ?_
      refine v_iload_n C dX6_wide_41 rfl rfl rfl ?_
      refine v_iload_n C dX6_wide_42 rfl rfl rfl ?_
      refine v_iast (i := (tn f)) C (Nat.le_of_ble_eq_true rfl) rfl (floor_nat hfl).1 (floor_nat hfl).2 (by decide) dX6_wide_43 rfl ?_
      refine V.nm (fun τ43_2 eτ43_2 => ?_)
      refine v_iload C dX6_wide_44 rfl rfl ?_
      exact v_iret C dX6_wide_46 (by rw [hX]; exact fI_of (by simp [widA, cI, c4, q1, q2, ev35_1, eτ43_2]) (by simp [widS, cI, c4, q1, q2, ev35_1, eτ43_2]))
  · skip
    have c4 := bI_0 c4
    refine v_iconst (v := -1) C dX6_wide_7 (by decide) rfl ?_
    refine v_goto (tgt := 18) C dX6_wide_8 (by decide) ?_
    refine v_istore_n (lv' := [(3, .int (-1)), (0, .ref 0), (1, .int f), (2, .int v)]) C dX6_wide_18 rfl (Nat.le_of_ble_eq_true rfl) rfl rfl ?_
    refine v_iload_n C dX6_wide_19 rfl rfl rfl ?_
    refine v_if_eq (tgt := 29) C dX6_wide_20 (by decide) rfl (fun q => absurd q (by decide)) (fun _ => ?_)
    refine v_aload_n C dX6_wide_23 rfl rfl rfl ?_
    refine v_iload_n C dX6_wide_24 rfl rfl rfl ?_
    refine v_callV C (Nat.le_of_ble_eq_true rfl) rfl rfl (As := [.int (-1)]) (rest := []) (kX6_no (-1) 1 σ (by decide) (by decide)) rfl (Nat.le_of_ble_eq_true rfl) (Nat.le_of_ble_eq_true rfl) ⟨mlX6_79, mfX6_no⟩ dkX6_no (Nat.le_of_ble_eq_true rfl) dX6_wide_25 rfl (kI ?_)
    exact v_iret C dX6_wide_28 (by rw [hX]; exact fI_of (by simp [widA, cI, c4]) (by simp [widS, cI, c4]))
theorem kX6_heirs (v : Int32) (σ : St) : Ct yX6_heirs cX6_heirs 4 (some .int) 1 [.ref 0, .int v] σ (fI (heiA σ v) (heiS σ v)) := by
  refine ct_of plX6 rfl (Nat.le_of_ble_eq_true rfl) (fun X hX C => ?_)
  show V X 0 [(0, .ref 0), (1, .int v)] [] σ
  refine v_iload_n C dX6_heirs_0 rfl rfl rfl ?_
  refine v_iconst (v := 2) C dX6_heirs_1 (by decide) rfl ?_
  refine v_iconst (v := 4) C dX6_heirs_2 (by decide) rfl ?_
  refine v_callS C (As := [.int v, .int 2, .int 4]) (rest := []) (kX6_bound v 2 4 σ) rfl (Nat.le_of_ble_eq_true rfl) (Nat.le_of_ble_eq_true rfl) ⟨mlX6_72, mfX6_bound⟩ dkX6_bound (Nat.le_of_ble_eq_true rfl) dX6_heirs_3 rfl (kI ?_)
  rcases bnd_cases v 2 4 with ⟨hb, q1⟩ | ⟨hb, q1, q2⟩ | ⟨hb, q1, q2⟩
  · refine V.tp hb ?_
    refine v_istore_n (lv' := [(2, .int (-4)), (0, .ref 0), (1, .int v)]) C dX6_heirs_6 rfl (Nat.le_of_ble_eq_true rfl) rfl rfl ?_
    refine v_iload_n C dX6_heirs_7 rfl rfl rfl ?_
    refine v_if_eq (tgt := 17) C dX6_heirs_8 (by decide) rfl (fun q => absurd q (by decide)) (fun _ => ?_)
    refine v_aload_n C dX6_heirs_11 rfl rfl rfl ?_
    refine v_iload_n C dX6_heirs_12 rfl rfl rfl ?_
    refine v_callV C (Nat.le_of_ble_eq_true rfl) rfl rfl (As := [.int (-4)]) (rest := []) (kX6_no (-4) 4 σ (by decide) (by decide)) rfl (Nat.le_of_ble_eq_true rfl) (Nat.le_of_ble_eq_true rfl) ⟨mlX6_79, mfX6_no⟩ dkX6_no (Nat.le_of_ble_eq_true rfl) dX6_heirs_13 rfl (kI ?_)
    exact v_iret C dX6_heirs_16 (by rw [hX]; exact fI_of (by simp [heiA, q1]) (by simp [heiS, q1]))
  · refine V.tp hb ?_
    refine v_istore_n (lv' := [(2, .int (-6)), (0, .ref 0), (1, .int v)]) C dX6_heirs_6 rfl (Nat.le_of_ble_eq_true rfl) rfl rfl ?_
    refine v_iload_n C dX6_heirs_7 rfl rfl rfl ?_
    refine v_if_eq (tgt := 17) C dX6_heirs_8 (by decide) rfl (fun q => absurd q (by decide)) (fun _ => ?_)
    refine v_aload_n C dX6_heirs_11 rfl rfl rfl ?_
    refine v_iload_n C dX6_heirs_12 rfl rfl rfl ?_
    refine v_callV C (Nat.le_of_ble_eq_true rfl) rfl rfl (As := [.int (-6)]) (rest := []) (kX6_no (-6) 6 σ (by decide) (by decide)) rfl (Nat.le_of_ble_eq_true rfl) (Nat.le_of_ble_eq_true rfl) ⟨mlX6_79, mfX6_no⟩ dkX6_no (Nat.le_of_ble_eq_true rfl) dX6_heirs_13 rfl (kI ?_)
    exact v_iret C dX6_heirs_16 (by rw [hX]; exact fI_of (by simp [heiA, q1, q2]) (by simp [heiS, q1, q2]))
  · refine V.tp hb ?_
    refine v_istore_n (lv' := [(2, .int 0), (0, .ref 0), (1, .int v)]) C dX6_heirs_6 rfl (Nat.le_of_ble_eq_true rfl) rfl rfl ?_
    refine v_iload_n C dX6_heirs_7 rfl rfl rfl ?_
    refine v_if_eq (tgt := 17) C dX6_heirs_8 (by decide) rfl (fun _ => ?_) (fun q => absurd q (by decide))
    refine v_aload_n C dX6_heirs_17 rfl rfl rfl ?_
    refine v_getI C (Nat.le_of_ble_eq_true rfl) rfl rfl hinX6 9 (Nat.le_of_ble_eq_true rfl) lkX6_61 rfl dX6_heirs_18 rfl ?_
    refine V.top (fun v21_1 ev21_1 => ?_)
    refine v_istore_n (lv' := [(3, .int v21_1), (2, .int 0), (0, .ref 0), (1, .int v)]) C dX6_heirs_21 rfl (Nat.le_of_ble_eq_true rfl) rfl rfl ?_
    refine v_aload_n C dX6_heirs_22 rfl rfl rfl ?_
    refine v_iload_n C dX6_heirs_23 rfl rfl rfl ?_
    refine v_put (ty := .int) C (Nat.le_of_ble_eq_true rfl) rfl rfl hinX6 tyX6_ok nmX6 9 (Nat.le_of_ble_eq_true rfl) lkX6_61 rfl (by decide +kernel) rfl rfl rfl dX6_heirs_24 rfl ?_
    refine V.nm (fun τ24_2 eτ24_2 => ?_)
    refine v_iload_n C dX6_heirs_27 rfl rfl rfl ?_
    exact v_iret C dX6_heirs_28 (by rw [hX]; exact fI_of (by simp [heiA, q1, q2, ev21_1, eτ24_2]) (by simp [heiS, q1, q2, ev21_1, eτ24_2]))
theorem kX6_years (v : Int32) (n y : Nat) (σ : St) (hn : σ 0 8 = nI n) (h7 : n ≤ 7) (hy : σ 0 10 = nI y) (hy9 : y ≤ 999) : Ct yX6_years cX6_years 3 (some .int) 1 [.ref 0, .int v] σ (fI (yeaA σ n y v) (yeaS σ n y v)) := by
  refine ct_of plX6 rfl (Nat.le_of_ble_eq_true rfl) (fun X hX C => ?_)
  show V X 0 [(0, .ref 0), (1, .int v)] [] σ
  refine v_iload_n C dX6_years_0 rfl rfl rfl ?_
  refine v_iconst (v := 1) C dX6_years_1 (by decide) rfl ?_
  refine v_bipush (v := 60) C dX6_years_2 (by decide) rfl ?_
  refine v_callS C (As := [.int v, .int 1, .int 60]) (rest := []) (kX6_bound v 1 60 σ) rfl (Nat.le_of_ble_eq_true rfl) (Nat.le_of_ble_eq_true rfl) ⟨mlX6_72, mfX6_bound⟩ dkX6_bound (Nat.le_of_ble_eq_true rfl) dX6_years_4 rfl (kI ?_)
  rcases bnd_cases v 1 60 with ⟨hb, q1⟩ | ⟨hb, q1, q2⟩ | ⟨hb, q1, q2⟩
  · refine V.tp hb ?_
    refine v_istore_n (lv' := [(2, .int (-4)), (0, .ref 0), (1, .int v)]) C dX6_years_7 rfl (Nat.le_of_ble_eq_true rfl) rfl rfl ?_
    refine v_iload_n C dX6_years_8 rfl rfl rfl ?_
    refine v_if_ne (tgt := 27) C dX6_years_9 (by decide) rfl (fun _ => ?_) (fun q => absurd q (by decide))
    refine v_iload_n C dX6_years_27 rfl rfl rfl ?_
    refine v_if_eq (tgt := 37) C dX6_years_28 (by decide) rfl (fun q => absurd q (by decide)) (fun _ => ?_)
    refine v_aload_n C dX6_years_31 rfl rfl rfl ?_
    refine v_iload_n C dX6_years_32 rfl rfl rfl ?_
    refine v_callV C (Nat.le_of_ble_eq_true rfl) rfl rfl (As := [.int (-4)]) (rest := []) (kX6_no (-4) 4 σ (by decide) (by decide)) rfl (Nat.le_of_ble_eq_true rfl) (Nat.le_of_ble_eq_true rfl) ⟨mlX6_79, mfX6_no⟩ dkX6_no (Nat.le_of_ble_eq_true rfl) dX6_years_33 rfl (kI ?_)
    exact v_iret C dX6_years_36 (by rw [hX]; exact fI_of (by simp [yeaA, q1]) (by simp [yeaS, q1]))
  · refine V.tp hb ?_
    refine v_istore_n (lv' := [(2, .int (-6)), (0, .ref 0), (1, .int v)]) C dX6_years_7 rfl (Nat.le_of_ble_eq_true rfl) rfl rfl ?_
    refine v_iload_n C dX6_years_8 rfl rfl rfl ?_
    refine v_if_ne (tgt := 27) C dX6_years_9 (by decide) rfl (fun _ => ?_) (fun q => absurd q (by decide))
    refine v_iload_n C dX6_years_27 rfl rfl rfl ?_
    refine v_if_eq (tgt := 37) C dX6_years_28 (by decide) rfl (fun q => absurd q (by decide)) (fun _ => ?_)
    refine v_aload_n C dX6_years_31 rfl rfl rfl ?_
    refine v_iload_n C dX6_years_32 rfl rfl rfl ?_
    refine v_callV C (Nat.le_of_ble_eq_true rfl) rfl rfl (As := [.int (-6)]) (rest := []) (kX6_no (-6) 6 σ (by decide) (by decide)) rfl (Nat.le_of_ble_eq_true rfl) (Nat.le_of_ble_eq_true rfl) ⟨mlX6_79, mfX6_no⟩ dkX6_no (Nat.le_of_ble_eq_true rfl) dX6_years_33 rfl (kI ?_)
    exact v_iret C dX6_years_36 (by rw [hX]; exact fI_of (by simp [yeaA, q1, q2]) (by simp [yeaS, q1, q2]))
  · refine V.tp hb ?_
    refine v_istore_n (lv' := [(2, .int 0), (0, .ref 0), (1, .int v)]) C dX6_years_7 rfl (Nat.le_of_ble_eq_true rfl) rfl rfl ?_
    refine v_iload_n C dX6_years_8 rfl rfl rfl ?_
    refine v_if_ne (tgt := 27) C dX6_years_9 (by decide) rfl (fun q => absurd q (by decide)) (fun _ => ?_)
    have hv1 := (nat_of (v := v) (a := 1) (b := 60) (by decide) (by decide) q1 q2)
    have hv2 := hv1.2
    refine v_aload_n C dX6_years_12 rfl rfl rfl ?_
    refine v_getI C (Nat.le_of_ble_eq_true rfl) rfl rfl hinX6 10 (Nat.le_of_ble_eq_true rfl) lkX6_128 rfl dX6_years_13 rfl ?_
    refine V.tp hy ?_
    refine v_iload_n C dX6_years_16 rfl rfl rfl ?_
    refine V.tp hv1.1 ?_
    refine v_iadd C dX6_years_17 rfl ?_
    refine V.tp (nI_add y (tn v)) ?_
    refine v_sipush (v := 999) C dX6_years_18 (by decide) rfl ?_
    refine v_icmp_le (tgt := 27) C dX6_years_21 (by decide) rfl (fun c21 => ?_) (fun c21 => ?_)
    · skip
      have c21 := mt (nI_ltI (a := 999) (b := (y + (tn v))) (by omega) (by omega)).mpr c21
      refine v_iload_n C dX6_years_27 rfl rfl rfl ?_
      refine v_if_eq (tgt := 37) C dX6_years_28 (by decide) rfl (fun _ => ?_) (fun q => absurd q (by decide))
      refine v_aload_n C dX6_years_37 rfl rfl rfl ?_
      refine v_iload_n C dX6_years_38 rfl rfl rfl ?_
      refine V.tp hv1.1 ?_
      refine v_callV C (Nat.le_of_ble_eq_true rfl) rfl rfl (As := [.int (nI (tn v))]) (rest := []) (kX6_goes n (tn v) σ hn h7 (by omega)) rfl (Nat.le_of_ble_eq_true rfl) (Nat.le_of_ble_eq_true rfl) ⟨mlX6_131, mfX6_goes⟩ dkX6_goes (Nat.le_of_ble_eq_true rfl) dX6_years_39 rfl (kV ?_)
      refine v_aload_n C dX6_years_42 rfl rfl rfl ?_
      refine v_getI C (Nat.le_of_ble_eq_true rfl) rfl rfl hinX6 10 (Nat.le_of_ble_eq_true rfl) lkX6_128 rfl dX6_years_43 rfl ?_
      exact v_iret C dX6_years_46 (by rw [hX]; exact fI_of (by simp [yeaA, q1, q2, c21]) (by simp [yeaS, q1, q2, c21]))
    · skip
      have c21 := (nI_ltI (a := 999) (b := (y + (tn v))) (by omega) (by omega)).mp c21
      refine v_bipush (v := -6) C dX6_years_24 (by decide) rfl ?_
      refine v_istore_n (lv' := [(2, .int (-6)), (0, .ref 0), (1, .int v)]) C dX6_years_26 rfl (Nat.le_of_ble_eq_true rfl) rfl rfl ?_
      refine v_iload_n C dX6_years_27 rfl rfl rfl ?_
      refine v_if_eq (tgt := 37) C dX6_years_28 (by decide) rfl (fun q => absurd q (by decide)) (fun _ => ?_)
      refine v_aload_n C dX6_years_31 rfl rfl rfl ?_
      refine v_iload_n C dX6_years_32 rfl rfl rfl ?_
      refine v_callV C (Nat.le_of_ble_eq_true rfl) rfl rfl (As := [.int (-6)]) (rest := []) (kX6_no (-6) 6 σ (by decide) (by decide)) rfl (Nat.le_of_ble_eq_true rfl) (Nat.le_of_ble_eq_true rfl) ⟨mlX6_79, mfX6_no⟩ dkX6_no (Nat.le_of_ble_eq_true rfl) dX6_years_33 rfl (kI ?_)
      exact v_iret C dX6_years_36 (by rw [hX]; exact fI_of (by simp [yeaA, q1, q2, c21]) (by simp [yeaS, q1, q2, c21]))
theorem kX6_blame (r : Int32) (n : Nat) (σ : St) (hn : σ 0 8 = nI n) (h7 : n ≤ 7) : Ct yX6_blame cX6_blame 2 (some .int) 3 [.ref 0, .int r] σ (fI (blaA σ n r) (blaS σ n r)) := by
  refine ct_of plX6 rfl (Nat.le_of_ble_eq_true rfl) (fun X hX C => ?_)
  show V X 0 [(0, .ref 0), (1, .int r)] [] σ
  refine v_iload_n C dX6_blame_0 rfl rfl rfl ?_
  refine v_callS C (As := [.int r]) (rest := []) (kX6_isPlace r σ) rfl (Nat.le_of_ble_eq_true rfl) (Nat.le_of_ble_eq_true rfl) ⟨mlX6_119, mfX6_isPlace⟩ dkX6_isPlace (Nat.le_of_ble_eq_true rfl) dX6_blame_1 rfl (kI ?_)
  refine v_if_ne (tgt := 13) C dX6_blame_4 (by decide) rfl (fun c4 => ?_) (fun c4 => ?_)
  · skip
    have c4 := bI_n c4
    refine v_aload_n C dX6_blame_13 rfl rfl rfl ?_
    refine v_iload_n C dX6_blame_14 rfl rfl rfl ?_
    refine v_callV C (Nat.le_of_ble_eq_true rfl) rfl rfl (As := [.int r]) (rest := []) (kX6_blameIn n r σ hn h7) rfl (Nat.le_of_ble_eq_true rfl) (Nat.le_of_ble_eq_true rfl) ⟨mlX6_178, mfX6_blameIn⟩ dkX6_blameIn (Nat.le_of_ble_eq_true rfl) dX6_blame_15 rfl (kI ?_)
    refine v_goto (tgt := 26) C dX6_blame_18 (by decide) ?_
    exact v_iret C dX6_blame_26 (by rw [hX]; exact fI_of (by simp [blaA, cI, c4]) (by simp [blaS, cI, c4]))
  · skip
    have c4 := bI_0 c4
    refine v_iload_n C dX6_blame_7 rfl rfl rfl ?_
    refine v_bipush (v := 10) C dX6_blame_8 (by decide) rfl ?_
    refine v_icmp_ne (tgt := 21) C dX6_blame_10 (by decide) rfl (fun c10 => ?_) (fun c10 => ?_)
    · skip
      refine v_aload_n C dX6_blame_21 rfl rfl rfl ?_
      refine v_iconst (v := -1) C dX6_blame_22 (by decide) rfl ?_
      refine v_callV C (Nat.le_of_ble_eq_true rfl) rfl rfl (As := [.int (-1)]) (rest := []) (kX6_no (-1) 1 σ (by decide) (by decide)) rfl (Nat.le_of_ble_eq_true rfl) (Nat.le_of_ble_eq_true rfl) ⟨mlX6_79, mfX6_no⟩ dkX6_no (Nat.le_of_ble_eq_true rfl) dX6_blame_23 rfl (kI ?_)
      exact v_iret C dX6_blame_26 (by rw [hX]; exact fI_of (by simp [blaA, cI, c4, c10]) (by simp [blaS, cI, c4, c10]))
    · skip
      refine v_aload_n C dX6_blame_13 rfl rfl rfl ?_
      refine v_iload_n C dX6_blame_14 rfl rfl rfl ?_
      refine v_callV C (Nat.le_of_ble_eq_true rfl) rfl rfl (As := [.int r]) (rest := []) (kX6_blameIn n r σ hn h7) rfl (Nat.le_of_ble_eq_true rfl) (Nat.le_of_ble_eq_true rfl) ⟨mlX6_178, mfX6_blameIn⟩ dkX6_blameIn (Nat.le_of_ble_eq_true rfl) dX6_blame_15 rfl (kI ?_)
      refine v_goto (tgt := 26) C dX6_blame_18 (by decide) ?_
      exact v_iret C dX6_blame_26 (by rw [hX]; exact fI_of (by simp [blaA, cI, c4, c10]) (by simp [blaS, cI, c4, c10]))
def worN (F : Int32 → Int32) : Nat → Int32
  | 0 => 0
  | i + 1 => if i = 0 then 0 else if F (worN F i) < F (nI i) then nI i else worN F i
def orN (f : Nat → Int32) : Nat → Int32
  | 0 => 0
  | i + 1 => orN f i ||| f i
def croG (bk pl sz : Nat → Int32) (n r : Nat) : Int32 := if sz r < bulF bk pl n (nI r) + 1 then (1 : Int32) <<< (nI r &&& 31) else 0
theorem kX6_worst (n : Nat) (σ : St) (hn : σ 0 8 = nI n) (h7 : n ≤ 7) : Ct yX6_worst cX6_worst 3 (some .int) 3 [.ref 0] σ (fI (worN (binF (σ 4) (σ 6) (σ 7) (σ 8) n) 6) σ) := by
  refine ct_of plX6 rfl (Nat.le_of_ble_eq_true rfl) (fun X hX C => ?_)
  show V X 0 [(0, .ref 0)] [] σ
  refine v_iconst (v := 0) C dX6_worst_0 (by decide) rfl ?_
  refine v_istore_n (lv' := [(1, .int 0), (0, .ref 0)]) C dX6_worst_1 rfl (Nat.le_of_ble_eq_true rfl) rfl rfl ?_
  refine v_iconst (v := 1) C dX6_worst_2 (by decide) rfl ?_
  refine v_istore_n (lv' := [(2, .int 1), (1, .int 0), (0, .ref 0)]) C dX6_worst_3 rfl (Nat.le_of_ble_eq_true rfl) rfl rfl ?_
  have lp4 : ∀ (k i : Nat) (x1 : Int32) , 6 < i + k → i ≤ 6 → x1 = worN (binF (σ 4) (σ 6) (σ 7) (σ 8) n) i → (1 ≤ i) → V X 4 [(2, .int (nI i)), (1, .int x1), (0, .ref 0)] [] σ := by
    intro k
    induction k with
    | zero => intro i x1 h1 h2; omega
    | succ k ih4 =>
      intro i x1 h1 h2 ex1 hi1
      refine v_iload_n C dX6_worst_4 rfl rfl rfl ?_
      refine v_bipush (v := 6) C dX6_worst_5 (by decide) rfl ?_
      refine v_icmp_ge (tgt := 35) C dX6_worst_7 (by decide) rfl (fun c7 => ?_) (fun c7 => ?_)
      · skip
        have c7 := mt (nI_ltI (a := i) (b := 6) (by omega) (by omega)).mpr c7
        refine v_iload_n C dX6_worst_35 rfl rfl rfl ?_
        exact v_iret C dX6_worst_36 (by rw [hX]; exact fI_of (by rw [ex1, show i = 6 by omega]) rfl)
      · skip
        have c7 := (nI_ltI (a := i) (b := 6) (by omega) (by omega)).mp c7
        refine v_aload_n C dX6_worst_10 rfl rfl rfl ?_
        refine v_iload_n C dX6_worst_11 rfl rfl rfl ?_
        refine v_callV C (Nat.le_of_ble_eq_true rfl) rfl rfl (As := [.int (nI i)]) (rest := []) (kX6_blameIn n (nI i) σ hn h7) rfl (Nat.le_of_ble_eq_true rfl) (Nat.le_of_ble_eq_true rfl) ⟨mlX6_178, mfX6_blameIn⟩ dkX6_blameIn (Nat.le_of_ble_eq_true rfl) dX6_worst_12 rfl (kI ?_)
        refine v_aload_n C dX6_worst_15 rfl rfl rfl ?_
        refine v_iload_n C dX6_worst_16 rfl rfl rfl ?_
        refine v_callV C (Nat.le_of_ble_eq_true rfl) rfl rfl (As := [.int x1]) (rest := [.int (binF (σ 4) (σ 6) (σ 7) (σ 8) n (nI i))]) (kX6_blameIn n x1 σ hn h7) rfl (Nat.le_of_ble_eq_true rfl) (Nat.le_of_ble_eq_true rfl) ⟨mlX6_178, mfX6_blameIn⟩ dkX6_blameIn (Nat.le_of_ble_eq_true rfl) dX6_worst_17 rfl (kI ?_)
        refine v_icmp_le (tgt := 27) C dX6_worst_20 (by decide) rfl (fun c20 => ?_) (fun c20 => ?_)
        · skip
          refine v_iload_n C dX6_worst_27 rfl rfl rfl ?_
          refine v_istore_n (lv' := [(1, .int x1), (2, .int (nI i)), (0, .ref 0)]) C dX6_worst_28 rfl (Nat.le_of_ble_eq_true rfl) rfl rfl ?_
          refine v_iinc (lv' := [(2, .int (nI (i + 1))), (1, .int x1), (0, .ref 0)]) C dX6_worst_29 rfl (nI_inc i) (Nat.le_of_ble_eq_true rfl) rfl rfl ?_
          refine v_goto (tgt := 4) C dX6_worst_32 (by decide) ?_
          exact V.sub [0, 1, 2] rfl (ih4 (i + 1) _ (by omega) (by omega) (by simp [worN, ← ex1, show ¬ i = 0 by omega, c20]) (by omega))
        · skip
          refine v_iload_n C dX6_worst_23 rfl rfl rfl ?_
          refine v_goto (tgt := 28) C dX6_worst_24 (by decide) ?_
          refine v_istore_n (lv' := [(1, .int (nI i)), (2, .int (nI i)), (0, .ref 0)]) C dX6_worst_28 rfl (Nat.le_of_ble_eq_true rfl) rfl rfl ?_
          refine v_iinc (lv' := [(2, .int (nI (i + 1))), (1, .int (nI i)), (0, .ref 0)]) C dX6_worst_29 rfl (nI_inc i) (Nat.le_of_ble_eq_true rfl) rfl rfl ?_
          refine v_goto (tgt := 4) C dX6_worst_32 (by decide) ?_
          exact V.sub [0, 1, 2] rfl (ih4 (i + 1) _ (by omega) (by omega) (by simp [worN, ← ex1, show ¬ i = 0 by omega, c20]) (by omega))
  exact V.sub [0, 1, 2] rfl (lp4 (6 + 1) 1 0 (by omega) (by omega) (by simp [worN]) (by omega))
theorem kX6_crowded (n : Nat) (σ : St) (hn : σ 0 8 = nI n) (h7 : n ≤ 7) : Ct yX6_crowded cX6_crowded 3 (some .int) 1 [.ref 0] σ (fI (orN (croG (σ 5) (σ 8) (σ 2) n) 6) σ) := by
  refine ct_of plX6 rfl (Nat.le_of_ble_eq_true rfl) (fun X hX C => ?_)
  show V X 0 [(0, .ref 0)] [] σ
  refine v_iconst (v := 0) C dX6_crowded_0 (by decide) rfl ?_
  refine v_istore_n (lv' := [(1, .int 0), (0, .ref 0)]) C dX6_crowded_1 rfl (Nat.le_of_ble_eq_true rfl) rfl rfl ?_
  refine v_iconst (v := 0) C dX6_crowded_2 (by decide) rfl ?_
  refine v_istore_n (lv' := [(2, .int 0), (1, .int 0), (0, .ref 0)]) C dX6_crowded_3 rfl (Nat.le_of_ble_eq_true rfl) rfl rfl ?_
  have lp4 : ∀ (k i : Nat) (x1 : Int32) , 6 < i + k → i ≤ 6 → x1 = orN (croG (σ 5) (σ 8) (σ 2) n) i → V X 4 [(2, .int (nI i)), (1, .int x1), (0, .ref 0)] [] σ := by
    intro k
    induction k with
    | zero => intro i x1 h1 h2; omega
    | succ k ih4 =>
      intro i x1 h1 h2 ex1
      refine v_iload_n C dX6_crowded_4 rfl rfl rfl ?_
      refine v_bipush (v := 6) C dX6_crowded_5 (by decide) rfl ?_
      refine v_icmp_ge (tgt := 42) C dX6_crowded_7 (by decide) rfl (fun c7 => ?_) (fun c7 => ?_)
      · skip
        have c7 := mt (nI_ltI (a := i) (b := 6) (by omega) (by omega)).mpr c7
        refine v_iload_n C dX6_crowded_42 rfl rfl rfl ?_
        exact v_iret C dX6_crowded_43 (by rw [hX]; exact fI_of (by rw [ex1, show i = 6 by omega]) rfl)
      · skip
        have c7 := (nI_ltI (a := i) (b := 6) (by omega) (by omega)).mp c7
        refine v_iload_n C dX6_crowded_10 rfl rfl rfl ?_
        refine v_aload_n C dX6_crowded_11 rfl rfl rfl ?_
        refine v_iload_n C dX6_crowded_12 rfl rfl rfl ?_
        refine v_callV C (Nat.le_of_ble_eq_true rfl) rfl rfl (As := [.int (nI i)]) (rest := [.int x1]) (kX6_bulkIn n (nI i) σ hn h7) rfl (Nat.le_of_ble_eq_true rfl) (Nat.le_of_ble_eq_true rfl) ⟨mlX6_125, mfX6_bulkIn⟩ dkX6_bulkIn (Nat.le_of_ble_eq_true rfl) dX6_crowded_13 rfl (kI ?_)
        refine v_iconst (v := 1) C dX6_crowded_16 (by decide) rfl ?_
        refine v_iadd C dX6_crowded_17 rfl ?_
        refine v_aload_n C dX6_crowded_18 rfl rfl rfl ?_
        refine v_getR C (Nat.le_of_ble_eq_true rfl) rfl rfl hinX6 1 (Nat.le_of_ble_eq_true rfl) lkX6_13 rfl dX6_crowded_19 rfl ?_
        refine v_iload_n C dX6_crowded_22 rfl rfl rfl ?_
        refine v_iald (i := i) C (Nat.le_of_ble_eq_true rfl) rfl rfl (by omega) (by decide) dX6_crowded_23 rfl ?_
        refine v_icmp_le (tgt := 33) C dX6_crowded_24 (by decide) rfl (fun c24 => ?_) (fun c24 => ?_)
        · skip
          refine v_iconst (v := 0) C dX6_crowded_33 (by decide) rfl ?_
          refine v_ior C dX6_crowded_34 rfl ?_
          refine V.top (fun v35_1 ev35_1 => ?_)
          refine v_istore_n (lv' := [(1, .int v35_1), (2, .int (nI i)), (0, .ref 0)]) C dX6_crowded_35 rfl (Nat.le_of_ble_eq_true rfl) rfl rfl ?_
          refine v_iinc (lv' := [(2, .int (nI (i + 1))), (1, .int v35_1), (0, .ref 0)]) C dX6_crowded_36 rfl (nI_inc i) (Nat.le_of_ble_eq_true rfl) rfl rfl ?_
          refine v_goto (tgt := 4) C dX6_crowded_39 (by decide) ?_
          exact V.sub [0, 1, 2] rfl (ih4 (i + 1) _ (by omega) (by omega) (by rw [ev35_1, ex1]; simp [orN, croG, c24]))
        · skip
          refine v_iconst (v := 1) C dX6_crowded_27 (by decide) rfl ?_
          refine v_iload_n C dX6_crowded_28 rfl rfl rfl ?_
          refine v_ishl C dX6_crowded_29 rfl ?_
          refine v_goto (tgt := 34) C dX6_crowded_30 (by decide) ?_
          refine v_ior C dX6_crowded_34 rfl ?_
          refine V.top (fun v35_2 ev35_2 => ?_)
          refine v_istore_n (lv' := [(1, .int v35_2), (2, .int (nI i)), (0, .ref 0)]) C dX6_crowded_35 rfl (Nat.le_of_ble_eq_true rfl) rfl rfl ?_
          refine v_iinc (lv' := [(2, .int (nI (i + 1))), (1, .int v35_2), (0, .ref 0)]) C dX6_crowded_36 rfl (nI_inc i) (Nat.le_of_ble_eq_true rfl) rfl rfl ?_
          refine v_goto (tgt := 4) C dX6_crowded_39 (by decide) ?_
          exact V.sub [0, 1, 2] rfl (ih4 (i + 1) _ (by omega) (by omega) (by rw [ev35_2, ex1]; simp [orN, croG, c24]))
  exact V.sub [0, 1, 2] rfl (lp4 (6 + 1) 0 0 (by omega) (by omega) (rfl))
