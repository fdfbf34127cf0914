/-! the class: firstBadPlace -/
theorem hx_let {tx : Nat → Int32} {t a : Nat} (h : letP (hx tx t a)) : a < t ∧ hx tx t a = nx tx t a := by
  by_cases c : a < t
  · exact ⟨c, by rw [hx, nx, if_pos c, if_pos c]⟩
  · rw [hx, if_neg c] at h; exact absurd h (by unfold letP; decide)
theorem nx_let {tx : Nat → Int32} {t a : Nat} (h : letP (nx tx t a)) : a < t ∧ hx tx t a = nx tx t a := by
  by_cases c : a < t
  · exact ⟨c, by rw [hx, nx, if_pos c, if_pos c]⟩
  · rw [nx, if_neg c] at h; exact absurd h (by unfold letP; decide)
theorem hx_chk {tx : Nat → Int32} {t a f : Nat} : chk f (hx tx t a) ↔ chk f (nx tx t a) := by
  by_cases c : a < t
  · rw [hx, nx, if_pos c, if_pos c]
  · rw [hx, nx, if_neg c, if_neg c]
    unfold chk digP isInP
    split
    · exact ⟨fun z => absurd z (by decide), fun z => absurd z (by decide)⟩
    · split
      · exact ⟨fun z => absurd z (by decide), fun z => absurd z (by decide)⟩
      · exact ⟨fun z => absurd z (by decide), fun z => absurd z (by decide)⟩
theorem scn_bad {g : Nat → Int32} : ∀ (fs : List Nat) (a i : Nat), i < fs.length → (∀ j, j < i → chk (fs.getD j 0) (g (a + j))) → ¬ chk (fs.getD i 0) (g (a + i)) → scn g fs a = some (a + i)
  | [], _, _, h, _, _ => absurd h (Nat.not_lt_zero _)
  | f :: fs, a, 0, _, _, h => by rw [scn, cI_f (show ¬ chk f (g a) from h)]; rfl
  | f :: fs, a, i + 1, hi, hj, h => by
    rw [scn, cI_t (show chk f (g a) from hj 0 (Nat.succ_pos i)), scn_bad fs (a + 1) i (Nat.lt_of_succ_lt_succ hi) (fun j q => by
      have := hj (j + 1) (by omega)
      rw [show a + 1 + j = a + (j + 1) by omega]; exact this) (by rw [show a + 1 + i = a + (i + 1) by omega]; exact h)]
    rw [show a + 1 + i = a + (i + 1) by omega]
theorem scn_fine {g : Nat → Int32} : ∀ (fs : List Nat) (a : Nat), (∀ j, j < fs.length → chk (fs.getD j 0) (g (a + j))) → scn g fs a = none
  | [], _, _ => rfl
  | f :: fs, a, h => by
    rw [scn, cI_t (show chk f (g a) from h 0 (Nat.succ_pos _)), scn_fine fs (a + 1) (fun j q => by
      have := h (j + 1) (Nat.succ_lt_succ q)
      rw [show a + 1 + j = a + (j + 1) by omega]; exact this)]
theorem len_0 {b : Int32} (h : litN.getD (frmIx b) 0 = 0) : ¬ letP b := fun z => by
  obtain ⟨h1, h2⟩ := frm_lit z
  have := (lit_F (frmIx b) (by omega)).1
  rw [h2, h, List.length_append] at this
  simp at this
theorem len_n {b : Int32} (h : ¬ litN.getD (frmIx b) 0 = 0) : letP b := by
  by_cases z : letP b
  · exact z
  · rw [frm_no z] at h; exact absurd rfl h
/-- what is known of a form, where a statement may begin -/
theorem frm_all {b : Int32} (h : letP b) : litN.getD (frmIx b) 0 = (frmB b ++ [2]).length ∧ ∀ j, j < litN.getD (frmIx b) 0 → litCh (frmIx b) j = askC ((frmB b ++ [2]).getD j 0) ∧ (frmB b ++ [2]).getD j 0 < 3 := by
  obtain ⟨h1, h2⟩ := frm_lit h
  have := lit_F (frmIx b) (by omega)
  rw [h2] at this
  exact this
def FbR (σ : St) (t : Nat) (r : Int32) : Prop := (∃ m x, Chn (nx (σ 44) t) t m ∧ (0 < m → posS (nx (σ 44) t) m < t) ∧ bad1 (nx (σ 44) t) (posS (nx (σ 44) t) m) = some x ∧ x < 200 ∧ r = nI x) ∨ (∃ s, Told (nx (σ 44) t) t s ∧ r = -9)
theorem fb_none {σ : St} {t m : Nat} (h96 : t ≤ 96) (hC : Chn (nx (σ 44) t) t m) (hP : 0 < m → posS (nx (σ 44) t) m < t) (h : litN.getD (frmIx (hx (σ 44) t (posS (nx (σ 44) t) m))) 0 = 0) : FbR σ t (nI (posS (nx (σ 44) t) m)) :=
  Or.inl ⟨m, _, hC, hP, by
    rw [bad1, cI_f]
    intro z
    exact len_0 h ((nx_let z).2 ▸ z), by have := Chn_pos hC h96; omega, rfl⟩
theorem fb_bad {σ : St} {t m i : Nat} (h96 : t ≤ 96) (hC : Chn (nx (σ 44) t) t m) (hP : 0 < m → posS (nx (σ 44) t) m < t) (hl : letP (hx (σ 44) t (posS (nx (σ 44) t) m))) (hi : i < (frmB (hx (σ 44) t (posS (nx (σ 44) t) m)) ++ [2]).length)
    (hal : ∀ j, j < i → chk ((frmB (hx (σ 44) t (posS (nx (σ 44) t) m)) ++ [2]).getD j 0) (nx (σ 44) t (posS (nx (σ 44) t) m + 1 + j))) (hb : ¬ chk ((frmB (hx (σ 44) t (posS (nx (σ 44) t) m)) ++ [2]).getD i 0) (nx (σ 44) t (posS (nx (σ 44) t) m + 1 + i))) : FbR σ t (nI (posS (nx (σ 44) t) m + 1 + i)) := by
  have e := (hx_let hl).2
  rw [e] at hl hi hal hb
  refine Or.inl ⟨m, _, hC, hP, ?_, ?_, rfl⟩
  · rw [bad1, cI_t hl, stB]; exact scn_bad _ _ _ hi hal hb
  · have := Chn_pos hC h96
    have := frm_len (nx (σ 44) t (posS (nx (σ 44) t) m))
    rw [List.length_append] at hi
    have h1 : ([2] : List Nat).length = 1 := rfl
    omega
theorem fb_next {σ : St} {t m i : Nat} (hC : Chn (nx (σ 44) t) t m) (hP : 0 < m → posS (nx (σ 44) t) m < t) (hl : letP (hx (σ 44) t (posS (nx (σ 44) t) m))) (hi : i = (frmB (hx (σ 44) t (posS (nx (σ 44) t) m)) ++ [2]).length)
    (hal : ∀ j, j < i → chk ((frmB (hx (σ 44) t (posS (nx (σ 44) t) m)) ++ [2]).getD j 0) (nx (σ 44) t (posS (nx (σ 44) t) m + 1 + j))) : Chn (nx (σ 44) t) t (m + 1) ∧ posS (nx (σ 44) t) m + 1 + i = posS (nx (σ 44) t) (m + 1) := by
  have e := (hx_let hl).2
  rw [e] at hl hi hal
  refine ⟨fun j hj => ?_, ?_⟩
  · rcases Nat.lt_succ_iff_lt_or_eq.mp hj with q | q
    · exact hC j q
    · subst q
      exact ⟨by rw [bad1, cI_t hl, stB]; exact scn_fine _ _ (fun j hj => hal j (by omega)), hP⟩
  · rw [posS, stE, hi, List.length_append]
    have h1 : ([2] : List Nat).length = 1 := rfl
    omega
theorem kX4_firstBadPlace (t : Nat) (σ : St) (hT : σ 43 1 = nI t) (h96 : t ≤ 96) : Ct yX4_firstBadPlace cX4_firstBadPlace 4 (some .int) 7 [.ref 43] σ (rI (fun r τ => τ = σ ∧ FbR σ t r)) := by
  refine ct_of plX4 rfl (Nat.le_of_ble_eq_true rfl) (fun X hX C => ?_)
  show V X 0 [(0, .ref 43)] [] σ
  refine v_iconst (v := 0) C dX4_firstBadPlace_0 (by decide) rfl ?_
  refine v_istore_n (lv' := [(1, .int 0), (0, .ref 43)]) C dX4_firstBadPlace_1 rfl (Nat.le_of_ble_eq_true rfl) rfl rfl ?_
  have lp2 : ∀ (kf m : Nat), 40 < m + kf → Chn (nx (σ 44) t) t m → (0 < m → posS (nx (σ 44) t) m < t) → V X 2 [(1, .int (nI (posS (nx (σ 44) t) m))), (0, .ref 43)] [] σ := by
    intro kf
    induction kf with
    | zero => intro m h1 hC; have := Chn_lt hC h96; omega
    | succ kf ih2 =>
      intro m h1 hC hP
      have hpos : posS (nx (σ 44) t) m ≤ 104 := Chn_pos hC h96
      refine v_aload_n C dX4_firstBadPlace_2 rfl rfl rfl ?_
      refine v_iload_n C dX4_firstBadPlace_3 rfl rfl rfl ?_
      refine v_callV C (Nat.le_of_ble_eq_true rfl) rfl rfl (As := [.int (nI (posS (nx (σ 44) t) m))]) (rest := []) (kX4_letterAt (posS (nx (σ 44) t) m) t σ hT h96 (by omega)) rfl (Nat.le_of_ble_eq_true rfl) (Nat.le_of_ble_eq_true rfl) ⟨mlX4_27, mfX4_letterAt⟩ dkX4_letterAt (Nat.le_of_ble_eq_true rfl) dX4_firstBadPlace_4 rfl (kI ?_)
      refine v_callS C (As := [.int (hx (σ 44) t (posS (nx (σ 44) t) m))]) (rest := []) (kX4_formBehind (hx (σ 44) t (posS (nx (σ 44) t) m)) σ) rfl (Nat.le_of_ble_eq_true rfl) (Nat.le_of_ble_eq_true rfl) ⟨mlX4_31, mfX4_formBehind⟩ dkX4_formBehind (Nat.le_of_ble_eq_true rfl) dX4_firstBadPlace_7 rfl (kR ?_)
      refine v_astore_n (lv' := [(2, .ref (100 + (frmIx (hx (σ 44) t (posS (nx (σ 44) t) m))))), (1, .int (nI (posS (nx (σ 44) t) m))), (0, .ref 43)]) C dX4_firstBadPlace_10 rfl (Nat.le_of_ble_eq_true rfl) rfl rfl ?_
      refine v_aload_n C dX4_firstBadPlace_11 rfl rfl rfl ?_
      refine v_callT C (i := (frmIx (hx (σ 44) t (posS (nx (σ 44) t) m)))) (frmIx_lt (hx (σ 44) t (posS (nx (σ 44) t) m))) rfl (As := []) (rest := []) (kJ0_isEmpty (frmIx (hx (σ 44) t (posS (nx (σ 44) t) m))) (frmIx_lt (hx (σ 44) t (posS (nx (σ 44) t) m))) σ) rfl (Nat.le_of_ble_eq_true rfl) (Nat.le_of_ble_eq_true rfl) ⟨mlX4_39, mfJ0_isEmpty_aae02⟩ dkJ0_isEmpty_aae02 (Nat.le_of_ble_eq_true rfl) dX4_firstBadPlace_12 rfl (kI ?_)
      refine v_if_eq (tgt := 20) C dX4_firstBadPlace_15 (by decide) rfl (fun c15 => ?_) (fun c15 => ?_)
      · skip
        have c15 := bI_0 c15
        have hl : letP (hx (σ 44) t (posS (nx (σ 44) t) m)) := len_n c15
        have hln := (frm_all hl).1
        have hl6 : litN.getD (frmIx (hx (σ 44) t (posS (nx (σ 44) t) m))) 0 ≤ 6 := lit_n _ (frmIx_lt _)
        obtain ⟨v20_1, ev20_1⟩ : ∃ y : Int32, y = nI (posS (nx (σ 44) t) m) + 1 := ⟨_, rfl⟩
        refine v_iinc (lv' := [(1, .int v20_1), (2, .ref (100 + (frmIx (hx (σ 44) t (posS (nx (σ 44) t) m))))), (0, .ref 43)]) C dX4_firstBadPlace_20 rfl (by rw [ev20_1]; rfl) (Nat.le_of_ble_eq_true rfl) rfl rfl ?_
        refine v_iconst (v := 0) C dX4_firstBadPlace_23 (by decide) rfl ?_
        refine v_istore_n (lv' := [(3, .int 0), (1, .int v20_1), (2, .ref (100 + (frmIx (hx (σ 44) t (posS (nx (σ 44) t) m))))), (0, .ref 43)]) C dX4_firstBadPlace_24 rfl (Nat.le_of_ble_eq_true rfl) rfl rfl ?_
        have lp25 : ∀ (kf i : Nat) (x1 : Int32) , litN.getD (frmIx (hx (σ 44) t (posS (nx (σ 44) t) m))) 0 < i + kf → i ≤ litN.getD (frmIx (hx (σ 44) t (posS (nx (σ 44) t) m))) 0 → x1 = nI (posS (nx (σ 44) t) m + 1 + i) → (∀ j, j < i → chk ((frmB (hx (σ 44) t (posS (nx (σ 44) t) m)) ++ [2]).getD j 0) (nx (σ 44) t (posS (nx (σ 44) t) m + 1 + j))) → V X 25 [(3, .int (nI i)), (1, .int x1), (2, .ref (100 + (frmIx (hx (σ 44) t (posS (nx (σ 44) t) m))))), (0, .ref 43)] [] σ := by
          intro kf
          induction kf with
          | zero => intro i x1 h1 h2; omega
          | succ kf ih25 =>
            intro i x1 h1 h2 ex1 hal
            refine v_iload_n C dX4_firstBadPlace_25 rfl rfl rfl ?_
            refine v_aload_n C dX4_firstBadPlace_26 rfl rfl rfl ?_
            refine v_callT C (i := (frmIx (hx (σ 44) t (posS (nx (σ 44) t) m)))) (frmIx_lt (hx (σ 44) t (posS (nx (σ 44) t) m))) rfl (As := []) (rest := [.int (nI i)]) (kJ0_length (frmIx (hx (σ 44) t (posS (nx (σ 44) t) m))) (frmIx_lt (hx (σ 44) t (posS (nx (σ 44) t) m))) σ) rfl (Nat.le_of_ble_eq_true rfl) (Nat.le_of_ble_eq_true rfl) ⟨mlX4_35, mfJ0_length_8abf5⟩ dkJ0_length_8abf5 (Nat.le_of_ble_eq_true rfl) dX4_firstBadPlace_27 rfl (kI ?_)
            refine v_icmp_ge (tgt := 60) C dX4_firstBadPlace_30 (by decide) rfl (fun c30 => ?_) (fun c30 => ?_)
            · skip
              have c30 := mt (nI_ltI (a := i) (b := (litN.getD (frmIx (hx (σ 44) t (posS (nx (σ 44) t) m))) 0)) (by omega) (by omega)).mpr c30
              refine v_iload_n C dX4_firstBadPlace_60 rfl rfl rfl ?_
              refine V.tp ex1 ?_
              refine v_aload_n C dX4_firstBadPlace_61 rfl rfl rfl ?_
              refine v_getI C (Nat.le_of_ble_eq_true rfl) rfl rfl hinX4 1 (Nat.le_of_ble_eq_true rfl) lkX4_15 rfl dX4_firstBadPlace_62 rfl ?_
              refine V.tp hT ?_
              refine v_icmp_lt (tgt := 2) C dX4_firstBadPlace_65 (by decide) rfl (fun c65 => ?_) (fun c65 => ?_)
              · skip
                have c65 := (nI_ltI (a := (posS (nx (σ 44) t) m + 1 + i)) (b := t) (by omega) (by omega)).mp c65
                have hN := fb_next hC hP hl (hln ▸ (show i = litN.getD (frmIx (hx (σ 44) t (posS (nx (σ 44) t) m))) 0 from by omega)) hal
                subst ex1
                rw [hN.2]
                exact V.sub [1, 3] rfl (ih2 (m + 1) (by omega) hN.1 (fun _ => hN.2 ▸ c65))
              · skip
                have c65 := mt (nI_ltI (a := (posS (nx (σ 44) t) m + 1 + i)) (b := t) (by omega) (by omega)).mpr c65
                refine v_bipush (v := -9) C dX4_firstBadPlace_68 (by decide) rfl ?_
                exact v_iret C dX4_firstBadPlace_70 (by rw [hX]; have hN := fb_next hC hP hl (hln ▸ (show i = litN.getD (frmIx (hx (σ 44) t (posS (nx (σ 44) t) m))) 0 from by omega)) hal; exact ⟨_, rfl, rfl, Or.inr ⟨m + 1, ⟨Nat.succ_pos m, hN.1, by rw [← hN.2]; omega⟩, rfl⟩⟩)
            · skip
              have c30 := (nI_ltI (a := i) (b := (litN.getD (frmIx (hx (σ 44) t (posS (nx (σ 44) t) m))) 0)) (by omega) (by omega)).mp c30
              refine v_aload_n C dX4_firstBadPlace_33 rfl rfl rfl ?_
              refine v_iload_n C dX4_firstBadPlace_34 rfl rfl rfl ?_
              refine v_callT C (i := (frmIx (hx (σ 44) t (posS (nx (σ 44) t) m)))) (frmIx_lt (hx (σ 44) t (posS (nx (σ 44) t) m))) rfl (As := [.int (nI i)]) (rest := []) (kJ0_charAt (frmIx (hx (σ 44) t (posS (nx (σ 44) t) m))) i (frmIx_lt (hx (σ 44) t (posS (nx (σ 44) t) m))) c30 σ) rfl (Nat.le_of_ble_eq_true rfl) (Nat.le_of_ble_eq_true rfl) ⟨mlX4_43, mfJ0_charAt_5068e⟩ dkJ0_charAt_5068e (Nat.le_of_ble_eq_true rfl) dX4_firstBadPlace_35 rfl (kI ?_)
              refine V.tp ((frm_all hl).2 i c30).1 ?_
              refine v_aload_n C dX4_firstBadPlace_38 rfl rfl rfl ?_
              refine v_iload_n C dX4_firstBadPlace_39 rfl rfl rfl ?_
              refine V.tp ex1 ?_
              refine v_callV C (Nat.le_of_ble_eq_true rfl) rfl rfl (As := [.int (nI (posS (nx (σ 44) t) m + 1 + i))]) (rest := [.int (askC ((frmB (hx (σ 44) t (posS (nx (σ 44) t) m)) ++ [2]).getD i 0))]) (kX4_letterAt (posS (nx (σ 44) t) m + 1 + i) t σ hT h96 (by omega)) rfl (Nat.le_of_ble_eq_true rfl) (Nat.le_of_ble_eq_true rfl) ⟨mlX4_27, mfX4_letterAt⟩ dkX4_letterAt (Nat.le_of_ble_eq_true rfl) dX4_firstBadPlace_40 rfl (kI ?_)
              refine v_callS C (As := [.int (askC ((frmB (hx (σ 44) t (posS (nx (σ 44) t) m)) ++ [2]).getD i 0)), .int (hx (σ 44) t (posS (nx (σ 44) t) m + 1 + i))]) (rest := []) (kX4_isAsAsked ((frmB (hx (σ 44) t (posS (nx (σ 44) t) m)) ++ [2]).getD i 0) ((frm_all hl).2 i c30).2 (hx (σ 44) t (posS (nx (σ 44) t) m + 1 + i)) σ) rfl (Nat.le_of_ble_eq_true rfl) (Nat.le_of_ble_eq_true rfl) ⟨mlX4_47, mfX4_isAsAsked⟩ dkX4_isAsAsked (Nat.le_of_ble_eq_true rfl) dX4_firstBadPlace_43 rfl (kI ?_)
              refine v_if_ne (tgt := 51) C dX4_firstBadPlace_46 (by decide) rfl (fun c46 => ?_) (fun c46 => ?_)
              · skip
                have c46 := bI_n c46
                obtain ⟨v51_2, ev51_2⟩ : ∃ y : Int32, y = x1 + 1 := ⟨_, rfl⟩
                refine v_iinc (lv' := [(1, .int v51_2), (3, .int (nI i)), (2, .ref (100 + (frmIx (hx (σ 44) t (posS (nx (σ 44) t) m))))), (0, .ref 43)]) C dX4_firstBadPlace_51 rfl (by rw [ev51_2]; rfl) (Nat.le_of_ble_eq_true rfl) rfl rfl ?_
                refine v_iinc (lv' := [(3, .int (nI (i + 1))), (1, .int v51_2), (2, .ref (100 + (frmIx (hx (σ 44) t (posS (nx (σ 44) t) m))))), (0, .ref 43)]) C dX4_firstBadPlace_54 rfl (nI_inc i) (Nat.le_of_ble_eq_true rfl) rfl rfl ?_
                refine v_goto (tgt := 25) C dX4_firstBadPlace_57 (by decide) ?_
                exact V.sub [0, 1, 2, 3] rfl (ih25 (i + 1) _ (by omega) (by omega) (by rw [ev51_2, ex1]; exact nI_1 _) (fun j hj => (Nat.lt_succ_iff_lt_or_eq.mp hj).elim (hal j) (fun q => by rw [q]; exact hx_chk.mp c46)))
              · skip
                have c46 := bI_0 c46
                refine v_iload_n C dX4_firstBadPlace_49 rfl rfl rfl ?_
                refine V.tp ex1 ?_
                exact v_iret C dX4_firstBadPlace_50 (by rw [hX]; exact ⟨_, rfl, rfl, fb_bad h96 hC hP hl (hln ▸ c30) hal (fun z => c46 (hx_chk.mpr z))⟩)
        exact V.sub [0, 1, 2, 3] rfl (lp25 (litN.getD (frmIx (hx (σ 44) t (posS (nx (σ 44) t) m))) 0 + 1) 0 v20_1 (by omega) (by omega) (by rw [ev20_1]; exact nI_1 _) (fun j hj => absurd hj (Nat.not_lt_zero j)))
      · skip
        have c15 := bI_n c15
        refine v_iload_n C dX4_firstBadPlace_18 rfl rfl rfl ?_
        exact v_iret C dX4_firstBadPlace_19 (by rw [hX]; exact ⟨_, rfl, rfl, fb_none h96 hC hP c15⟩)
  exact V.sub [0, 1] rfl (lp2 41 0 (by omega) (fun j hj => absurd hj (Nat.not_lt_zero j)) (fun z => absurd z (Nat.lt_irrefl 0)))
