/-! the class: main, answers handed on -/
def ansS (σ : St) (v : Int32) : St := if ¬ v < -6 ∧ ¬ -1 < v then s2 σ 54 (tn (-v)) (σ 54 (tn (-v)) + 1) else σ
theorem neg_nat {v : Int32} (h1 : ¬ v < -6) (h2 : ¬ -1 < v) : -v = nI (tn (-v)) ∧ tn (-v) < 7 := by
  rw [i32_lt] at h1 h2
  have e6 : (-6 : Int32).toInt = -6 := rfl
  have e1 : (-1 : Int32).toInt = -1 := rfl
  rcases (by omega : v.toInt = -6 ∨ v.toInt = -5 ∨ v.toInt = -4 ∨ v.toInt = -3 ∨ v.toInt = -2 ∨ v.toInt = -1) with q | q | q | q | q | q
  · have : v = -6 := Int32.toInt_inj.mp (by rw [q]; rfl)
    subst this; exact ⟨rfl, by decide⟩
  · have : v = -5 := Int32.toInt_inj.mp (by rw [q]; rfl)
    subst this; exact ⟨rfl, by decide⟩
  · have : v = -4 := Int32.toInt_inj.mp (by rw [q]; rfl)
    subst this; exact ⟨rfl, by decide⟩
  · have : v = -3 := Int32.toInt_inj.mp (by rw [q]; rfl)
    subst this; exact ⟨rfl, by decide⟩
  · have : v = -2 := Int32.toInt_inj.mp (by rw [q]; rfl)
    subst this; exact ⟨rfl, by decide⟩
  · have : v = -1 := Int32.toInt_inj.mp (by rw [q]; rfl)
    subst this; exact ⟨rfl, by decide⟩
def rR (k : Nat) (post : St → Prop) : Option Value → St → Prop := fun r τ => r = some (.ref k) ∧ post τ
theorem krR {X : CxT} {pc : Nat} {lv : List (Nat × Value)} {rest : List Value} {k : Nat} {post : St → Prop} (kk : ∀ τ, post τ → V X pc lv (.ref k :: rest) τ) : ∀ r τ, rR k post r τ → V X pc lv (r.toList ++ rest) τ := by
  rintro r τ ⟨rfl, h⟩; exact kk τ h
theorem kX5_answer (v : Int32) (σ : St) : Ct yX5_answer cX5_answer 2 (some .int) 0 [.ref 18, .int v] σ (fI v (ansS σ v)) := by
  refine ct_of plX5 rfl (Nat.le_of_ble_eq_true rfl) (fun X hX C => ?_)
  show V X 0 [(0, .ref 18), (1, .int v)] [] σ
  refine v_iload_n C dX5_answer_0 rfl rfl rfl ?_
  refine v_bipush (v := -6) C dX5_answer_1 (by decide) rfl ?_
  refine v_icmp_lt (tgt := 22) C dX5_answer_3 (by decide) rfl (fun c3 => ?_) (fun c3 => ?_)
  · skip
    refine v_iload_n C dX5_answer_22 rfl rfl rfl ?_
    exact v_iret C dX5_answer_23 (by rw [hX]; exact fI_of rfl (by simp [ansS, c3]))
  · skip
    refine v_iload_n C dX5_answer_6 rfl rfl rfl ?_
    refine v_iconst (v := -1) C dX5_answer_7 (by decide) rfl ?_
    refine v_icmp_gt (tgt := 22) C dX5_answer_8 (by decide) rfl (fun c8 => ?_) (fun c8 => ?_)
    · skip
      refine v_iload_n C dX5_answer_22 rfl rfl rfl ?_
      exact v_iret C dX5_answer_23 (by rw [hX]; exact fI_of rfl (by simp [ansS, c3, c8]))
    · skip
      refine v_aload_n C dX5_answer_11 rfl rfl rfl ?_
      refine v_getR C (Nat.le_of_ble_eq_true rfl) rfl rfl hinX5 8 (Nat.le_of_ble_eq_true rfl) lkX5_56 rfl dX5_answer_12 rfl ?_
      refine v_iload_n C dX5_answer_15 rfl rfl rfl ?_
      refine v_ineg C dX5_answer_16 rfl ?_
      refine v_dup2 C dX5_answer_17 rfl rfl rfl ?_
      refine v_iald (i := (tn (-v))) C (Nat.le_of_ble_eq_true rfl) rfl (neg_nat c3 c8).1 (neg_nat c3 c8).2 (by decide) dX5_answer_18 rfl ?_
      refine v_iconst (v := 1) C dX5_answer_19 (by decide) rfl ?_
      refine v_iadd C dX5_answer_20 rfl ?_
      refine v_iast (i := (tn (-v))) C (Nat.le_of_ble_eq_true rfl) rfl (neg_nat c3 c8).1 (neg_nat c3 c8).2 (by decide) dX5_answer_21 rfl ?_
      refine V.nm (fun τ21_1 eτ21_1 => ?_)
      refine v_iload_n C dX5_answer_22 rfl rfl rfl ?_
      exact v_iret C dX5_answer_23 (by rw [hX]; exact fI_of rfl (by rw [eτ21_1, ansS, if_pos ⟨c3, c8⟩]))
theorem kX5_letter (v : Int32) (u : Nat) (σ : St) (hu : σ 43 1 = nI u) (h96 : u ≤ 96) : Ct yX5_letter cX5_letter 2 (some .int) 1 [.ref 18, .int v] σ (fI (tAddA v u) (ansS (tAddS σ v u) (tAddA v u))) := by
  refine ct_of plX5 rfl (Nat.le_of_ble_eq_true rfl) (fun X hX C => ?_)
  show V X 0 [(0, .ref 18), (1, .int v)] [] σ
  refine v_aload_n C dX5_letter_0 rfl rfl rfl ?_
  refine v_aload_n C dX5_letter_1 rfl rfl rfl ?_
  refine v_getR C (Nat.le_of_ble_eq_true rfl) rfl rfl hinX5 4 (Nat.le_of_ble_eq_true rfl) lkX5_29 rfl dX5_letter_2 rfl ?_
  refine v_iload_n C dX5_letter_5 rfl rfl rfl ?_
  refine v_callVN C (Nat.le_of_ble_eq_true rfl) rfl rfl (As := [.int v]) (rest := [.ref 18]) (kX4_add v u σ hu h96) rfl (Nat.le_of_ble_eq_true rfl) (Nat.le_of_ble_eq_true rfl) ⟨mlX5_60, mfX4_add⟩ dkX4_add (Nat.le_of_ble_eq_true rfl) dX5_letter_6 rfl (kI ?_)
  refine v_callV C (Nat.le_of_ble_eq_true rfl) rfl rfl (As := [.int (tAddA v u)]) (rest := []) (kX5_answer (tAddA v u) (tAddS σ v u)) rfl (Nat.le_of_ble_eq_true rfl) (Nat.le_of_ble_eq_true rfl) ⟨mlX5_64, mfX5_answer⟩ dkX5_answer (Nat.le_of_ble_eq_true rfl) dX5_letter_9 rfl (kI ?_)
  exact v_iret C dX5_letter_12 (by rw [hX]; exact fI_of rfl rfl)
theorem kX5_row (v : Int32) (u : Nat) (σ : St) (hu : σ 45 1 = nI u) (h12 : u ≤ 12) : Ct yX5_row cX5_row 2 (some .int) 1 [.ref 18, .int v] σ (fI (rAddA v u) (ansS (rAddS σ v u) (rAddA v u))) := by
  refine ct_of plX5 rfl (Nat.le_of_ble_eq_true rfl) (fun X hX C => ?_)
  show V X 0 [(0, .ref 18), (1, .int v)] [] σ
  refine v_aload_n C dX5_row_0 rfl rfl rfl ?_
  refine v_aload_n C dX5_row_1 rfl rfl rfl ?_
  refine v_getR C (Nat.le_of_ble_eq_true rfl) rfl rfl hinX5 5 (Nat.le_of_ble_eq_true rfl) lkX5_36 rfl dX5_row_2 rfl ?_
  refine v_iload_n C dX5_row_5 rfl rfl rfl ?_
  refine v_callVN C (Nat.le_of_ble_eq_true rfl) rfl rfl (As := [.int v]) (rest := [.ref 18]) (kX2_add v u σ hu h12) rfl (Nat.le_of_ble_eq_true rfl) (Nat.le_of_ble_eq_true rfl) ⟨mlX5_210, mfX2_add⟩ dkX2_add (Nat.le_of_ble_eq_true rfl) dX5_row_6 rfl (kI ?_)
  refine v_callV C (Nat.le_of_ble_eq_true rfl) rfl rfl (As := [.int (rAddA v u)]) (rest := []) (kX5_answer (rAddA v u) (rAddS σ v u)) rfl (Nat.le_of_ble_eq_true rfl) (Nat.le_of_ble_eq_true rfl) ⟨mlX5_64, mfX5_answer⟩ dkX5_answer (Nat.le_of_ble_eq_true rfl) dX5_row_9 rfl (kI ?_)
  exact v_iret C dX5_row_12 (by rw [hX]; exact fI_of rfl rfl)
theorem kX5_piece (p w : Int32) (n : Nat) (σ : St) (hn : σ 19 7 = nI n) (h7 : n ≤ 7) : Ct yX5_piece cX5_piece 3 (some .int) 4 [.ref 18, .int p, .int w] σ (fI (cI (pieceP p (nI n)) (tolF (σ (19 + 1)) (σ (19 + 2)) (σ (19 + 3)) (σ (19 + 4)) (σ (19 + 5)) n (tn p) w) (-1)) (ansS σ (cI (pieceP p (nI n)) (tolF (σ (19 + 1)) (σ (19 + 2)) (σ (19 + 3)) (σ (19 + 4)) (σ (19 + 5)) n (tn p) w) (-1)))) := by
  refine ct_of plX5 rfl (Nat.le_of_ble_eq_true rfl) (fun X hX C => ?_)
  show V X 0 [(0, .ref 18), (1, .int p), (2, .int w)] [] σ
  refine v_aload_n C dX5_piece_0 rfl rfl rfl ?_
  refine v_aload_n C dX5_piece_1 rfl rfl rfl ?_
  refine v_getR C (Nat.le_of_ble_eq_true rfl) rfl rfl hinX5 0 (Nat.le_of_ble_eq_true rfl) lkX5_10 rfl dX5_piece_2 rfl ?_
  refine v_iload_n C dX5_piece_5 rfl rfl rfl ?_
  refine v_iload_n C dX5_piece_6 rfl rfl rfl ?_
  refine v_callVN C hh19.l0 hh19.s0 rfl (As := [.int p, .int w]) (rest := [.ref 18]) (kX0_told p w 19 n hh19 σ hn h7) rfl (Nat.le_of_ble_eq_true rfl) (Nat.le_of_ble_eq_true rfl) ⟨mlX5_81, mfX0_told⟩ dkX0_told (Nat.le_of_ble_eq_true rfl) dX5_piece_7 rfl (kI ?_)
  refine v_callV C (Nat.le_of_ble_eq_true rfl) rfl rfl (As := [.int (cI (pieceP p (nI n)) (tolF (σ (19 + 1)) (σ (19 + 2)) (σ (19 + 3)) (σ (19 + 4)) (σ (19 + 5)) n (tn p) w) (-1))]) (rest := []) (kX5_answer (cI (pieceP p (nI n)) (tolF (σ (19 + 1)) (σ (19 + 2)) (σ (19 + 3)) (σ (19 + 4)) (σ (19 + 5)) n (tn p) w) (-1)) σ) rfl (Nat.le_of_ble_eq_true rfl) (Nat.le_of_ble_eq_true rfl) ⟨mlX5_64, mfX5_answer⟩ dkX5_answer (Nat.le_of_ble_eq_true rfl) dX5_piece_10 rfl (kI ?_)
  exact v_iret C dX5_piece_13 (by rw [hX]; exact fI_of rfl rfl)
theorem kX5_carry (p r : Int32) (n : Nat) (σ : St) (hn : σ 19 7 = nI n) (h7 : n ≤ 7) : Ct yX5_carry cX5_carry 3 (some .int) 5 [.ref 18, .int p, .int r] σ (fI (hCarA σ 19 n p r) (ansS (hCarS σ 19 n p r) (hCarA σ 19 n p r))) := by
  refine ct_of plX5 rfl (Nat.le_of_ble_eq_true rfl) (fun X hX C => ?_)
  show V X 0 [(0, .ref 18), (1, .int p), (2, .int r)] [] σ
  refine v_aload_n C dX5_carry_0 rfl rfl rfl ?_
  refine v_aload_n C dX5_carry_1 rfl rfl rfl ?_
  refine v_getR C (Nat.le_of_ble_eq_true rfl) rfl rfl hinX5 0 (Nat.le_of_ble_eq_true rfl) lkX5_10 rfl dX5_carry_2 rfl ?_
  refine v_iload_n C dX5_carry_5 rfl rfl rfl ?_
  refine v_iload_n C dX5_carry_6 rfl rfl rfl ?_
  refine v_callVN C hh19.l0 hh19.s0 rfl (As := [.int p, .int r]) (rest := [.ref 18]) (kX0_carryTo p r 19 n hh19 σ hn h7) rfl (Nat.le_of_ble_eq_true rfl) (Nat.le_of_ble_eq_true rfl) ⟨mlX5_84, mfX0_carryTo⟩ dkX0_carryTo (Nat.le_of_ble_eq_true rfl) dX5_carry_7 rfl (kI ?_)
  refine v_callV C (Nat.le_of_ble_eq_true rfl) rfl rfl (As := [.int (hCarA σ 19 n p r)]) (rest := []) (kX5_answer (hCarA σ 19 n p r) (hCarS σ 19 n p r)) rfl (Nat.le_of_ble_eq_true rfl) (Nat.le_of_ble_eq_true rfl) ⟨mlX5_64, mfX5_answer⟩ dkX5_answer (Nat.le_of_ble_eq_true rfl) dX5_carry_10 rfl (kI ?_)
  exact v_iret C dX5_carry_13 (by rw [hX]; exact fI_of rfl rfl)
theorem kX5_polish (p : Int32) (n : Nat) (σ : St) (hn : σ 19 7 = nI n) (h7 : n ≤ 7) : Ct yX5_polish cX5_polish 2 (some .int) 2 [.ref 18, .int p] σ (fI (hPolA σ 19 n p) (ansS (hPolS σ 19 n p) (hPolA σ 19 n p))) := by
  refine ct_of plX5 rfl (Nat.le_of_ble_eq_true rfl) (fun X hX C => ?_)
  show V X 0 [(0, .ref 18), (1, .int p)] [] σ
  refine v_aload_n C dX5_polish_0 rfl rfl rfl ?_
  refine v_aload_n C dX5_polish_1 rfl rfl rfl ?_
  refine v_getR C (Nat.le_of_ble_eq_true rfl) rfl rfl hinX5 0 (Nat.le_of_ble_eq_true rfl) lkX5_10 rfl dX5_polish_2 rfl ?_
  refine v_iload_n C dX5_polish_5 rfl rfl rfl ?_
  refine v_callVN C hh19.l0 hh19.s0 rfl (As := [.int p]) (rest := [.ref 18]) (kX0_polishPiece p 19 n hh19 σ hn h7) rfl (Nat.le_of_ble_eq_true rfl) (Nat.le_of_ble_eq_true rfl) ⟨mlX5_98, mfX0_polishPiece⟩ dkX0_polishPiece (Nat.le_of_ble_eq_true rfl) dX5_polish_6 rfl (kI ?_)
  refine v_callV C (Nat.le_of_ble_eq_true rfl) rfl rfl (As := [.int (hPolA σ 19 n p)]) (rest := []) (kX5_answer (hPolA σ 19 n p) (hPolS σ 19 n p)) rfl (Nat.le_of_ble_eq_true rfl) (Nat.le_of_ble_eq_true rfl) ⟨mlX5_64, mfX5_answer⟩ dkX5_answer (Nat.le_of_ble_eq_true rfl) dX5_polish_9 rfl (kI ?_)
  exact v_iret C dX5_polish_12 (by rw [hX]; exact fI_of rfl rfl)
theorem kX5_size (r v : Int32) (n : Nat) (σ : St) (hn : σ 19 7 = nI n) (h7 : n ≤ 7) : Ct yX5_size cX5_size 3 (some .int) 2 [.ref 18, .int r, .int v] σ (fI (hSizA σ 19 n r v) (ansS (hSizS σ 19 n r v) (hSizA σ 19 n r v))) := by
  refine ct_of plX5 rfl (Nat.le_of_ble_eq_true rfl) (fun X hX C => ?_)
  show V X 0 [(0, .ref 18), (1, .int r), (2, .int v)] [] σ
  refine v_aload_n C dX5_size_0 rfl rfl rfl ?_
  refine v_aload_n C dX5_size_1 rfl rfl rfl ?_
  refine v_getR C (Nat.le_of_ble_eq_true rfl) rfl rfl hinX5 0 (Nat.le_of_ble_eq_true rfl) lkX5_10 rfl dX5_size_2 rfl ?_
  refine v_iload_n C dX5_size_5 rfl rfl rfl ?_
  refine v_iload_n C dX5_size_6 rfl rfl rfl ?_
  refine v_callVN C hh19.l0 hh19.s0 rfl (As := [.int r, .int v]) (rest := [.ref 18]) (kX0_resize r v 19 n hh19 σ hn h7) rfl (Nat.le_of_ble_eq_true rfl) (Nat.le_of_ble_eq_true rfl) ⟨mlX5_101, mfX0_resize⟩ dkX0_resize (Nat.le_of_ble_eq_true rfl) dX5_size_7 rfl (kI ?_)
  refine v_callV C (Nat.le_of_ble_eq_true rfl) rfl rfl (As := [.int (hSizA σ 19 n r v)]) (rest := []) (kX5_answer (hSizA σ 19 n r v) (hSizS σ 19 n r v)) rfl (Nat.le_of_ble_eq_true rfl) (Nat.le_of_ble_eq_true rfl) ⟨mlX5_64, mfX5_answer⟩ dkX5_answer (Nat.le_of_ble_eq_true rfl) dX5_size_10 rfl (kI ?_)
  exact v_iret C dX5_size_13 (by rw [hX]; exact fI_of rfl rfl)
theorem kX5_wide (f v : Int32) (σ : St) : Ct yX5_wide cX5_wide 3 (some .int) 2 [.ref 18, .int f, .int v] σ (fI (hWidA σ 19 f v) (ansS (hWidS σ 19 f v) (hWidA σ 19 f v))) := by
  refine ct_of plX5 rfl (Nat.le_of_ble_eq_true rfl) (fun X hX C => ?_)
  show V X 0 [(0, .ref 18), (1, .int f), (2, .int v)] [] σ
  refine v_aload_n C dX5_wide_0 rfl rfl rfl ?_
  refine v_aload_n C dX5_wide_1 rfl rfl rfl ?_
  refine v_getR C (Nat.le_of_ble_eq_true rfl) rfl rfl hinX5 0 (Nat.le_of_ble_eq_true rfl) lkX5_10 rfl dX5_wide_2 rfl ?_
  refine v_iload_n C dX5_wide_5 rfl rfl rfl ?_
  refine v_iload_n C dX5_wide_6 rfl rfl rfl ?_
  refine v_callVN C hh19.l0 hh19.s0 rfl (As := [.int f, .int v]) (rest := [.ref 18]) (kX0_widen f v 19 hh19 σ) rfl (Nat.le_of_ble_eq_true rfl) (Nat.le_of_ble_eq_true rfl) ⟨mlX5_104, mfX0_widen⟩ dkX0_widen (Nat.le_of_ble_eq_true rfl) dX5_wide_7 rfl (kI ?_)
  refine v_callV C (Nat.le_of_ble_eq_true rfl) rfl rfl (As := [.int (hWidA σ 19 f v)]) (rest := []) (kX5_answer (hWidA σ 19 f v) (hWidS σ 19 f v)) rfl (Nat.le_of_ble_eq_true rfl) (Nat.le_of_ble_eq_true rfl) ⟨mlX5_64, mfX5_answer⟩ dkX5_answer (Nat.le_of_ble_eq_true rfl) dX5_wide_10 rfl (kI ?_)
  exact v_iret C dX5_wide_13 (by rw [hX]; exact fI_of rfl rfl)
theorem kX5_heirs (v : Int32) (σ : St) : Ct yX5_heirs cX5_heirs 2 (some .int) 2 [.ref 18, .int v] σ (fI (hHeiA σ 19 v) (ansS (hHeiS σ 19 v) (hHeiA σ 19 v))) := by
  refine ct_of plX5 rfl (Nat.le_of_ble_eq_true rfl) (fun X hX C => ?_)
  show V X 0 [(0, .ref 18), (1, .int v)] [] σ
  refine v_aload_n C dX5_heirs_0 rfl rfl rfl ?_
  refine v_aload_n C dX5_heirs_1 rfl rfl rfl ?_
  refine v_getR C (Nat.le_of_ble_eq_true rfl) rfl rfl hinX5 0 (Nat.le_of_ble_eq_true rfl) lkX5_10 rfl dX5_heirs_2 rfl ?_
  refine v_iload_n C dX5_heirs_5 rfl rfl rfl ?_
  refine v_callVN C hh19.l0 hh19.s0 rfl (As := [.int v]) (rest := [.ref 18]) (kX0_nameHeirs v 19 hh19 σ) rfl (Nat.le_of_ble_eq_true rfl) (Nat.le_of_ble_eq_true rfl) ⟨mlX5_107, mfX0_nameHeirs⟩ dkX0_nameHeirs (Nat.le_of_ble_eq_true rfl) dX5_heirs_6 rfl (kI ?_)
  refine v_callV C (Nat.le_of_ble_eq_true rfl) rfl rfl (As := [.int (hHeiA σ 19 v)]) (rest := []) (kX5_answer (hHeiA σ 19 v) (hHeiS σ 19 v)) rfl (Nat.le_of_ble_eq_true rfl) (Nat.le_of_ble_eq_true rfl) ⟨mlX5_64, mfX5_answer⟩ dkX5_answer (Nat.le_of_ble_eq_true rfl) dX5_heirs_9 rfl (kI ?_)
  exact v_iret C dX5_heirs_12 (by rw [hX]; exact fI_of rfl rfl)
theorem kX5_years (v : Int32) (y : Nat) (n : Nat) (σ : St) (hn : σ 19 7 = nI n) (h7 : n ≤ 7) (hy : σ 19 9 = nI y) (hy9 : y ≤ 999) : Ct yX5_years cX5_years 2 (some .int) 3 [.ref 18, .int v] σ (fI (hYeaA σ 19 n y v) (ansS (hYeaS σ 19 n y v) (hYeaA σ 19 n y v))) := by
  refine ct_of plX5 rfl (Nat.le_of_ble_eq_true rfl) (fun X hX C => ?_)
  show V X 0 [(0, .ref 18), (1, .int v)] [] σ
  refine v_aload_n C dX5_years_0 rfl rfl rfl ?_
  refine v_aload_n C dX5_years_1 rfl rfl rfl ?_
  refine v_getR C (Nat.le_of_ble_eq_true rfl) rfl rfl hinX5 0 (Nat.le_of_ble_eq_true rfl) lkX5_10 rfl dX5_years_2 rfl ?_
  refine v_iload_n C dX5_years_5 rfl rfl rfl ?_
  refine v_callVN C hh19.l0 hh19.s0 rfl (As := [.int v]) (rest := [.ref 18]) (kX0_letYearsGoBy v y 19 n hh19 σ hn h7 hy hy9) rfl (Nat.le_of_ble_eq_true rfl) (Nat.le_of_ble_eq_true rfl) ⟨mlX5_110, mfX0_letYearsGoBy⟩ dkX0_letYearsGoBy (Nat.le_of_ble_eq_true rfl) dX5_years_6 rfl (kI ?_)
  refine v_callV C (Nat.le_of_ble_eq_true rfl) rfl rfl (As := [.int (hYeaA σ 19 n y v)]) (rest := []) (kX5_answer (hYeaA σ 19 n y v) (hYeaS σ 19 n y v)) rfl (Nat.le_of_ble_eq_true rfl) (Nat.le_of_ble_eq_true rfl) ⟨mlX5_64, mfX5_answer⟩ dkX5_answer (Nat.le_of_ble_eq_true rfl) dX5_years_9 rfl (kI ?_)
  exact v_iret C dX5_years_12 (by rw [hX]; exact fI_of rfl rfl)
noncomputable def mStaA (σ : St) (n : Nat) (p r : Int32) : Int32 := cI (pieceP p (nI n) ∧ placeP r) (bI (carH σ 19 n (tn p) r)) (-1)
noncomputable def mStaS (σ : St) (n : Nat) (p r : Int32) : St := cI (pieceP p (nI n) ∧ placeP r) σ (ansS σ (-1))
noncomputable def mBlaA (σ : St) (n : Nat) (r : Int32) : Int32 := if r = 10 then binF (σ (19 + 1)) (σ (19 + 3)) (σ (19 + 4)) (σ (19 + 5)) n 10 else cI (placeP r) (inF (σ (19 + 1)) (σ (19 + 3)) (σ (19 + 4)) (σ (19 + 5)) n r) (-1)
noncomputable def mBlaS (σ : St) (r : Int32) : St := if r = 10 then σ else cI (placeP r) σ (ansS σ (-1))
def croH (bk pl sz : Nat → Int32) (n r : Nat) : Int32 := if sz r < bulF bk pl n (nI r) + 1 then (1 : Int32) <<< (nI r &&& 31) else 0
theorem kX5_stands (p r : Int32) (n : Nat) (σ : St) (hn : σ 19 7 = nI n) (h7 : n ≤ 7) : Ct yX5_stands cX5_stands 3 (some .int) 4 [.ref 18, .int p, .int r] σ (fI (mStaA σ n p r) (mStaS σ n p r)) := by
  refine ct_of plX5 rfl (Nat.le_of_ble_eq_true rfl) (fun X hX C => ?_)
  show V X 0 [(0, .ref 18), (1, .int p), (2, .int r)] [] σ
  refine v_aload_n C dX5_stands_0 rfl rfl rfl ?_
  refine v_getR C (Nat.le_of_ble_eq_true rfl) rfl rfl hinX5 0 (Nat.le_of_ble_eq_true rfl) lkX5_10 rfl dX5_stands_1 rfl ?_
  refine v_iload_n C dX5_stands_4 rfl rfl rfl ?_
  refine v_callVN C hh19.l0 hh19.s0 rfl (As := [.int p]) (rest := []) (kX0_hasPiece p 19 n hh19 σ hn h7) rfl (Nat.le_of_ble_eq_true rfl) (Nat.le_of_ble_eq_true rfl) ⟨mlX5_87, mfX0_hasPiece⟩ dkX0_hasPiece (Nat.le_of_ble_eq_true rfl) dX5_stands_5 rfl (kI ?_)
  refine v_if_eq (tgt := 18) C dX5_stands_8 (by decide) rfl (fun c8 => ?_) (fun c8 => ?_)
  · skip
    have c8 := bI_0 c8
    refine v_aload_n C dX5_stands_18 rfl rfl rfl ?_
    refine v_iconst (v := -1) C dX5_stands_19 (by decide) rfl ?_
    refine v_callV C (Nat.le_of_ble_eq_true rfl) rfl rfl (As := [.int (-1)]) (rest := []) (kX5_answer (-1) σ) rfl (Nat.le_of_ble_eq_true rfl) (Nat.le_of_ble_eq_true rfl) ⟨mlX5_64, mfX5_answer⟩ dkX5_answer (Nat.le_of_ble_eq_true rfl) dX5_stands_20 rfl (kI ?_)
    exact v_iret C dX5_stands_23 (by rw [hX]; exact fI_of (by rw [mStaA, cI_f (fun z => c8 z.1)]) (by rw [mStaS, cI_f (fun z => c8 z.1)]))
  · skip
    have c8 := bI_n c8
    refine v_iload_n C dX5_stands_11 rfl rfl rfl ?_
    refine v_callS C (As := [.int r]) (rest := []) (kX5_isPlace r σ) rfl (Nat.le_of_ble_eq_true rfl) (Nat.le_of_ble_eq_true rfl) ⟨mlX5_91, mfX5_isPlace⟩ dkX5_isPlace (Nat.le_of_ble_eq_true rfl) dX5_stands_12 rfl (kI ?_)
    refine v_if_ne (tgt := 24) C dX5_stands_15 (by decide) rfl (fun c15 => ?_) (fun c15 => ?_)
    · skip
      have c15 := bI_n c15
      have hp1 : p = nI (tn p) := (piece_nat h7 c8).1
      have hp2 : tn p < n := (piece_nat h7 c8).2
      have hr : placeP r := c15
      refine v_aload_n C dX5_stands_24 rfl rfl rfl ?_
      refine v_getR C (Nat.le_of_ble_eq_true rfl) rfl rfl hinX5 0 (Nat.le_of_ble_eq_true rfl) lkX5_10 rfl dX5_stands_25 rfl ?_
      refine v_iload_n C dX5_stands_28 rfl rfl rfl ?_
      refine V.tp hp1 ?_
      refine v_iload_n C dX5_stands_29 rfl rfl rfl ?_
      refine v_callVN C hh19.l0 hh19.s0 rfl (As := [.int (nI (tn p)), .int r]) (rest := []) (kX0_canBeCarried (tn p) r 19 n hh19 σ hn h7 (by omega) hr) rfl (Nat.le_of_ble_eq_true rfl) (Nat.le_of_ble_eq_true rfl) ⟨mlX5_94, mfX0_canBeCarried⟩ dkX0_canBeCarried (Nat.le_of_ble_eq_true rfl) dX5_stands_30 rfl (kI ?_)
      refine v_if_eq (tgt := 40) C dX5_stands_33 (by decide) rfl (fun c33 => ?_) (fun c33 => ?_)
      · skip
        have c33 := bI_0 c33
        refine v_iconst (v := 0) C dX5_stands_40 (by decide) rfl ?_
        exact v_iret C dX5_stands_41 (by rw [hX]; exact fI_of (by rw [mStaA, cI_t ⟨c8, c15⟩]; exact bI_f c33) (by rw [mStaS, cI_t ⟨c8, c15⟩]))
      · skip
        have c33 := bI_n c33
        refine v_iconst (v := 1) C dX5_stands_36 (by decide) rfl ?_
        refine v_goto (tgt := 41) C dX5_stands_37 (by decide) ?_
        exact v_iret C dX5_stands_41 (by rw [hX]; exact fI_of (by rw [mStaA, cI_t ⟨c8, c15⟩]; exact bI_t c33) (by rw [mStaS, cI_t ⟨c8, c15⟩]))
    · skip
      have c15 := bI_0 c15
      refine v_aload_n C dX5_stands_18 rfl rfl rfl ?_
      refine v_iconst (v := -1) C dX5_stands_19 (by decide) rfl ?_
      refine v_callV C (Nat.le_of_ble_eq_true rfl) rfl rfl (As := [.int (-1)]) (rest := []) (kX5_answer (-1) σ) rfl (Nat.le_of_ble_eq_true rfl) (Nat.le_of_ble_eq_true rfl) ⟨mlX5_64, mfX5_answer⟩ dkX5_answer (Nat.le_of_ble_eq_true rfl) dX5_stands_20 rfl (kI ?_)
      exact v_iret C dX5_stands_23 (by rw [hX]; exact fI_of (by rw [mStaA, cI_f (fun z => c15 z.2)]) (by rw [mStaS, cI_f (fun z => c15 z.2)]))
theorem kX5_blame (r : Int32) (n : Nat) (σ : St) (hn : σ 19 7 = nI n) (h7 : n ≤ 7) : Ct yX5_blame cX5_blame 2 (some .int) 4 [.ref 18, .int r] σ (fI (mBlaA σ n r) (mBlaS σ r)) := by
  refine ct_of plX5 rfl (Nat.le_of_ble_eq_true rfl) (fun X hX C => ?_)
  show V X 0 [(0, .ref 18), (1, .int r)] [] σ
  refine v_iload_n C dX5_blame_0 rfl rfl rfl ?_
  refine v_bipush (v := 10) C dX5_blame_1 (by decide) rfl ?_
  refine v_icmp_ne (tgt := 14) C dX5_blame_3 (by decide) rfl (fun c3 => ?_) (fun c3 => ?_)
  · skip
    refine v_iload_n C dX5_blame_14 rfl rfl rfl ?_
    refine v_callS C (As := [.int r]) (rest := []) (kX5_isPlace r σ) rfl (Nat.le_of_ble_eq_true rfl) (Nat.le_of_ble_eq_true rfl) ⟨mlX5_91, mfX5_isPlace⟩ dkX5_isPlace (Nat.le_of_ble_eq_true rfl) dX5_blame_15 rfl (kI ?_)
    refine v_if_eq (tgt := 32) C dX5_blame_18 (by decide) rfl (fun c18 => ?_) (fun c18 => ?_)
    · skip
      have c18 := bI_0 c18
      refine v_aload_n C dX5_blame_32 rfl rfl rfl ?_
      refine v_iconst (v := -1) C dX5_blame_33 (by decide) rfl ?_
      refine v_callV C (Nat.le_of_ble_eq_true rfl) rfl rfl (As := [.int (-1)]) (rest := []) (kX5_answer (-1) σ) rfl (Nat.le_of_ble_eq_true rfl) (Nat.le_of_ble_eq_true rfl) ⟨mlX5_64, mfX5_answer⟩ dkX5_answer (Nat.le_of_ble_eq_true rfl) dX5_blame_34 rfl (kI ?_)
      exact v_iret C dX5_blame_37 (by rw [hX]; exact fI_of (by rw [mBlaA, if_neg c3, cI_f c18]) (by rw [mBlaS, if_neg c3, cI_f c18]))
    · skip
      have c18 := bI_n c18
      refine v_aload_n C dX5_blame_21 rfl rfl rfl ?_
      refine v_getR C (Nat.le_of_ble_eq_true rfl) rfl rfl hinX5 0 (Nat.le_of_ble_eq_true rfl) lkX5_10 rfl dX5_blame_22 rfl ?_
      refine v_iload_n C dX5_blame_25 rfl rfl rfl ?_
      refine v_callVN C hh19.l0 hh19.s0 rfl (As := [.int r]) (rest := []) (kX0_blameIn r 19 n hh19 σ hn h7) rfl (Nat.le_of_ble_eq_true rfl) (Nat.le_of_ble_eq_true rfl) ⟨mlX5_117, mfX0_blameIn⟩ dkX0_blameIn (Nat.le_of_ble_eq_true rfl) dX5_blame_26 rfl (kI ?_)
      refine v_goto (tgt := 37) C dX5_blame_29 (by decide) ?_
      exact v_iret C dX5_blame_37 (by rw [hX]; exact fI_of (by rw [mBlaA, if_neg c3, cI_t c18]) (by rw [mBlaS, if_neg c3, cI_t c18]))
  · skip
    refine v_aload_n C dX5_blame_6 rfl rfl rfl ?_
    refine v_getR C (Nat.le_of_ble_eq_true rfl) rfl rfl hinX5 0 (Nat.le_of_ble_eq_true rfl) lkX5_10 rfl dX5_blame_7 rfl ?_
    refine v_callVN C hh19.l0 hh19.s0 rfl (As := []) (rest := []) (kX0_blameOfAll 19 n hh19 σ hn h7) rfl (Nat.le_of_ble_eq_true rfl) (Nat.le_of_ble_eq_true rfl) ⟨mlX5_113, mfX0_blameOfAll⟩ dkX0_blameOfAll (Nat.le_of_ble_eq_true rfl) dX5_blame_10 rfl (kI ?_)
    exact v_iret C dX5_blame_13 (by rw [hX]; exact fI_of (by rw [mBlaA, if_pos c3]) (by rw [mBlaS, if_pos c3]))
theorem kX5_worst (n : Nat) (σ : St) (hn : σ 19 7 = nI n) (h7 : n ≤ 7) : Ct yX5_worst cX5_worst 1 (some .int) 5 [.ref 18] σ (fI (worN (inF (σ (19 + 1)) (σ (19 + 3)) (σ (19 + 4)) (σ (19 + 5)) n) 6) (σ)) := by
  refine ct_of plX5 rfl (Nat.le_of_ble_eq_true rfl) (fun X hX C => ?_)
  show V X 0 [(0, .ref 18)] [] σ
  refine v_aload_n C dX5_worst_0 rfl rfl rfl ?_
  refine v_getR C (Nat.le_of_ble_eq_true rfl) rfl rfl hinX5 0 (Nat.le_of_ble_eq_true rfl) lkX5_10 rfl dX5_worst_1 rfl ?_
  refine v_callVN C hh19.l0 hh19.s0 rfl (As := []) (rest := []) (kX0_worstRoom 19 n hh19 σ hn h7) rfl (Nat.le_of_ble_eq_true rfl) (Nat.le_of_ble_eq_true rfl) ⟨mlX5_120, mfX0_worstRoom⟩ dkX0_worstRoom (Nat.le_of_ble_eq_true rfl) dX5_worst_4 rfl (kI ?_)
  exact v_iret C dX5_worst_7 (by rw [hX]; exact fI_of rfl rfl)
