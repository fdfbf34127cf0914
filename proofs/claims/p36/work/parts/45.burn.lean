/-! the class: burn, fits -/
noncomputable def bQ (F : Nat → Nat → Int32) (a b : Nat) (o : Option (Nat × Nat)) : Option (Nat × Nat) := match o with
  | none => some (a, b)
  | some q => cI (F a b < F q.1 q.2) (some (a, b)) (some q)
noncomputable def bR (F : Nat → Nat → Int32) (a : Nat) (o : Option (Nat × Nat)) : Nat → Option (Nat × Nat)
  | 0 => o
  | b + 1 => if b ≤ a then o else bQ F a b (bR F a o b)
noncomputable def bM (F : Nat → Nat → Int32) (n : Nat) : Nat → Option (Nat × Nat)
  | 0 => none
  | a + 1 => bR F a (bM F n a) n
def oG (F : Nat → Nat → Int32) (o : Option (Nat × Nat)) : Int32 := match o with
  | none => -9
  | some q => F q.1 q.2
theorem bR_le (F : Nat → Nat → Int32) (a : Nat) (o : Option (Nat × Nat)) {b : Nat} (h : b ≤ a + 1) : bR F a o b = o := by
  cases b with
  | zero => rfl
  | succ b => rw [bR, if_pos (by omega)]
theorem bR_st (F : Nat → Nat → Int32) (a : Nat) (o : Option (Nat × Nat)) {b : Nat} (h : a < b) : bR F a o (b + 1) = bQ F a b (bR F a o b) := by
  rw [bR, if_neg (by omega)]
def les7 (o : Option (Nat × Nat)) : Prop := match o with
  | none => True
  | some q => q.1 < 7 ∧ q.2 < 7
theorem bQ_les {F : Nat → Nat → Int32} {a b : Nat} {o : Option (Nat × Nat)} (ha : a < 7) (hb : b < 7) (h : les7 o) : les7 (bQ F a b o) := by
  cases o with
  | none => exact ⟨ha, hb⟩
  | some q =>
    simp only [bQ]
    by_cases g : F a b < F q.1 q.2
    · rw [cI_t g]; exact ⟨ha, hb⟩
    · rw [cI_f g]; exact h
theorem bQ_new {F : Nat → Nat → Int32} {a b : Nat} {o : Option (Nat × Nat)} {x1 x2 v : Int32} (e1 : x1 = o2I o) (e2 : x2 = oG F o) (l : les7 o) (ev : v = F a b) (k : x1 = -9 ∨ v < x2) : bQ F a b o = some (a, b) := by
  cases o with
  | none => rfl
  | some q =>
    simp only [bQ]
    have hl : q.1 < 7 ∧ q.2 < 7 := l
    refine cI_t ?_
    rcases k with k | k
    · rw [e1] at k; exact absurd k (nI_n9 (show 10 * q.1 + q.2 < 2 ^ 31 by omega))
    · rw [ev, e2] at k; exact k
theorem bQ_old {F : Nat → Nat → Int32} {a b : Nat} {o : Option (Nat × Nat)} {x1 x2 v : Int32} (e1 : x1 = o2I o) (e2 : x2 = oG F o) (ev : v = F a b) (k : ¬ x1 = -9) (k2 : ¬ v < x2) : bQ F a b o = o := by
  cases o with
  | none => rw [e1] at k; exact absurd rfl k
  | some q =>
    simp only [bQ]
    refine cI_f (fun z => k2 ?_)
    rw [ev, e2]; exact z
theorem bw2_thk {σ τ : St} (h : Thk σ τ) (n a b : Nat) : bw2H τ n a b = bw2H σ n a b := by
  rw [bw2H, bw2H, h (19 + 1) (Or.inl (by decide)), h (19 + 3) (Or.inl (by decide)), h (19 + 4) (Or.inl (by decide)), h (19 + 5) (Or.inl (by decide))]
theorem kX5_burn (n : Nat) (σ : St) (hn : σ 19 7 = nI n) (h7 : n ≤ 7) : Ct yX5_burn cX5_burn 6 (some .int) 5 [.ref 18] σ (rI (fun r τ => r = o2I (bM (bw2H σ n) n n) ∧ Thk σ τ)) := by
  refine ct_of plX5 rfl (Nat.le_of_ble_eq_true rfl) (fun X hX C => ?_)
  show V X 0 [(0, .ref 18)] [] σ
  refine v_bipush (v := -9) C dX5_burn_0 (by decide) rfl ?_
  refine v_istore_n (lv' := [(1, .int (-9)), (0, .ref 18)]) C dX5_burn_2 rfl (Nat.le_of_ble_eq_true rfl) rfl rfl ?_
  refine v_bipush (v := -9) C dX5_burn_3 (by decide) rfl ?_
  refine v_istore_n (lv' := [(2, .int (-9)), (1, .int (-9)), (0, .ref 18)]) C dX5_burn_5 rfl (Nat.le_of_ble_eq_true rfl) rfl rfl ?_
  refine v_iconst (v := 0) C dX5_burn_6 (by decide) rfl ?_
  refine v_istore_n (lv' := [(3, .int 0), (2, .int (-9)), (1, .int (-9)), (0, .ref 18)]) C dX5_burn_7 rfl (Nat.le_of_ble_eq_true rfl) rfl rfl ?_
  have lp8 : ∀ (kf i : Nat) (x1 : Int32) (x2 : Int32) (τ : St), n < i + kf → i ≤ n → x1 = o2I (bM (bw2H σ n) n i) → x2 = oG (bw2H σ n) (bM (bw2H σ n) n i) → Thk σ τ → (les7 (bM (bw2H σ n) n i)) → V X 8 [(3, .int (nI i)), (2, .int x2), (1, .int x1), (0, .ref 18)] [] τ := by
    intro kf
    induction kf with
    | zero => intro i x1 x2 τ h1 h2; omega
    | succ kf ih8 =>
      intro i x1 x2 τ h1 h2 ex1 ex2 eτ hlo
      have hnτ : τ 19 7 = nI n := by rw [eτ 19 (Or.inl (by decide))]; exact hn
      refine v_iload_n C dX5_burn_8 rfl rfl rfl ?_
      refine v_aload_n C dX5_burn_9 rfl rfl rfl ?_
      refine v_getR C (Nat.le_of_ble_eq_true rfl) rfl rfl hinX5 0 (Nat.le_of_ble_eq_true rfl) lkX5_10 rfl dX5_burn_10 rfl ?_
      refine v_getNI C hh19.l0 hh19.s0 rfl hinX0 7 (Nat.le_of_ble_eq_true rfl) lkX5_126 rfl dX5_burn_13 rfl ?_
      refine V.tp hnτ ?_
      refine v_icmp_ge (tgt := 80) C dX5_burn_16 (by decide) rfl (fun c16 => ?_) (fun c16 => ?_)
      · skip
        have c16 := mt (nI_ltI (a := i) (b := n) (by omega) (by omega)).mpr c16
        refine v_iload_n C dX5_burn_80 rfl rfl rfl ?_
        exact v_iret C dX5_burn_81 (by rw [hX]; exact ⟨_, rfl, by rw [ex1, show i = n from by omega], eτ⟩)
      · skip
        have c16 := (nI_ltI (a := i) (b := n) (by omega) (by omega)).mp c16
        refine v_iload_n C dX5_burn_19 rfl rfl rfl ?_
        refine v_iconst (v := 1) C dX5_burn_20 (by decide) rfl ?_
        refine v_iadd C dX5_burn_21 rfl ?_
        refine V.tp (nI_add i 1) ?_
        refine v_istore (lv' := [(4, .int (nI (i + 1))), (3, .int (nI i)), (2, .int x2), (1, .int x1), (0, .ref 18)]) C dX5_burn_22 (Nat.le_of_ble_eq_true rfl) rfl rfl ?_
        have lp24 : ∀ (kf j : Nat) (y1 : Int32) (y2 : Int32) (ω : St), n < j + kf → j ≤ n → y1 = o2I (bR (bw2H σ n) i (bM (bw2H σ n) n i) j) → y2 = oG (bw2H σ n) (bR (bw2H σ n) i (bM (bw2H σ n) n i) j) → Thk σ ω → (i < j) → (les7 (bR (bw2H σ n) i (bM (bw2H σ n) n i) j)) → V X 24 [(4, .int (nI j)), (3, .int (nI i)), (2, .int y2), (1, .int y1), (0, .ref 18)] [] ω := by
          intro kf
          induction kf with
          | zero => intro j y1 y2 ω h1 h2; omega
          | succ kf ih24 =>
            intro j y1 y2 ω h1 h2 ey1 ey2 eω hij hls
            have hnω : ω 19 7 = nI n := by rw [eω 19 (Or.inl (by decide))]; exact hn
            refine v_iload C dX5_burn_24 rfl rfl ?_
            refine v_aload_n C dX5_burn_26 rfl rfl rfl ?_
            refine v_getR C (Nat.le_of_ble_eq_true rfl) rfl rfl hinX5 0 (Nat.le_of_ble_eq_true rfl) lkX5_10 rfl dX5_burn_27 rfl ?_
            refine v_getNI C hh19.l0 hh19.s0 rfl hinX0 7 (Nat.le_of_ble_eq_true rfl) lkX5_126 rfl dX5_burn_30 rfl ?_
            refine V.tp hnω ?_
            refine v_icmp_ge (tgt := 74) C dX5_burn_33 (by decide) rfl (fun c33 => ?_) (fun c33 => ?_)
            · skip
              have c33 := mt (nI_ltI (a := j) (b := n) (by omega) (by omega)).mpr c33
              refine v_iinc (lv' := [(3, .int (nI (i + 1))), (4, .int (nI j)), (2, .int y2), (1, .int y1), (0, .ref 18)]) C dX5_burn_74 rfl (nI_inc i) (Nat.le_of_ble_eq_true rfl) rfl rfl ?_
              refine v_goto (tgt := 8) C dX5_burn_77 (by decide) ?_
              exact V.sub [0, 2, 3, 4] rfl (ih8 (i + 1) _ _ _ (by omega) (by omega) (by rw [bM]; exact (show j = n from by omega) ▸ ey1) (by rw [bM]; exact (show j = n from by omega) ▸ ey2) (eω) (by rw [bM]; exact (show j = n from by omega) ▸ hls))
            · skip
              have c33 := (nI_ltI (a := j) (b := n) (by omega) (by omega)).mp c33
              refine v_aload_n C dX5_burn_36 rfl rfl rfl ?_
              refine v_iload_n C dX5_burn_37 rfl rfl rfl ?_
              refine v_iload C dX5_burn_38 rfl rfl ?_
              refine v_callV C (Nat.le_of_ble_eq_true rfl) rfl rfl (As := [.int (nI i), .int (nI j)]) (rest := []) (kX5_blameWithoutBoth i j n ω hnω h7 (by omega) (by omega)) rfl (Nat.le_of_ble_eq_true rfl) (Nat.le_of_ble_eq_true rfl) ⟨mlX5_170, mfX5_blameWithoutBoth⟩ dkX5_blameWithoutBoth (Nat.le_of_ble_eq_true rfl) dX5_burn_40 rfl (krI (fun r43_1 τ43_1 h43_1 => ?_))
              have hr : r43_1 = bw2H σ n i j := h43_1.1.trans (bw2_thk eω n i j)
              have hT : Thk σ τ43_1 := eω.tr h43_1.2
              refine v_istore (lv' := [(5, .int r43_1), (4, .int (nI j)), (3, .int (nI i)), (2, .int y2), (1, .int y1), (0, .ref 18)]) C dX5_burn_43 (Nat.le_of_ble_eq_true rfl) rfl rfl ?_
              refine v_iload_n C dX5_burn_45 rfl rfl rfl ?_
              refine v_bipush (v := -9) C dX5_burn_46 (by decide) rfl ?_
              refine v_icmp_eq (tgt := 57) C dX5_burn_48 (by decide) rfl (fun c48 => ?_) (fun c48 => ?_)
              · skip
                refine v_bipush (v := 10) C dX5_burn_57 (by decide) rfl ?_
                refine v_iload_n C dX5_burn_59 rfl rfl rfl ?_
                refine v_imul C dX5_burn_60 rfl ?_
                refine V.tp (pk_mul 10 i) ?_
                refine v_iload C dX5_burn_61 rfl rfl ?_
                refine v_iadd C dX5_burn_63 rfl ?_
                refine V.tp (nI_add (10 * i) j) ?_
                refine V.top (fun v64_2 ev64_2 => ?_)
                refine v_istore_n (lv' := [(1, .int v64_2), (5, .int r43_1), (4, .int (nI j)), (3, .int (nI i)), (2, .int y2), (0, .ref 18)]) C dX5_burn_64 rfl (Nat.le_of_ble_eq_true rfl) rfl rfl ?_
                refine v_iload C dX5_burn_65 rfl rfl ?_
                refine v_istore_n (lv' := [(2, .int r43_1), (1, .int v64_2), (5, .int r43_1), (4, .int (nI j)), (3, .int (nI i)), (0, .ref 18)]) C dX5_burn_67 rfl (Nat.le_of_ble_eq_true rfl) rfl rfl ?_
                refine v_iinc (lv' := [(4, .int (nI (j + 1))), (2, .int r43_1), (1, .int v64_2), (5, .int r43_1), (3, .int (nI i)), (0, .ref 18)]) C dX5_burn_68 rfl (nI_inc j) (Nat.le_of_ble_eq_true rfl) rfl rfl ?_
                refine v_goto (tgt := 24) C dX5_burn_71 (by decide) ?_
                exact V.sub [0, 4, 1, 2, 5] rfl (ih24 (j + 1) _ _ _ (by omega) (by omega) (by rw [bR_st _ _ _ (by omega), bQ_new (F := (bw2H σ n)) ey1 ey2 hls hr (Or.inl c48)]; exact ev64_2) (by rw [bR_st _ _ _ (by omega), bQ_new (F := (bw2H σ n)) ey1 ey2 hls hr (Or.inl c48)]; exact hr) (hT) (by omega) (by rw [bR_st _ _ _ (by omega)]; exact bQ_les (by omega) (by omega) hls))
              · skip
                refine v_iload C dX5_burn_51 rfl rfl ?_
                refine v_iload_n C dX5_burn_53 rfl rfl rfl ?_
                refine v_icmp_ge (tgt := 68) C dX5_burn_54 (by decide) rfl (fun c54 => ?_) (fun c54 => ?_)
                · skip
                  refine v_iinc (lv' := [(4, .int (nI (j + 1))), (5, .int r43_1), (3, .int (nI i)), (2, .int y2), (1, .int y1), (0, .ref 18)]) C dX5_burn_68 rfl (nI_inc j) (Nat.le_of_ble_eq_true rfl) rfl rfl ?_
                  refine v_goto (tgt := 24) C dX5_burn_71 (by decide) ?_
                  exact V.sub [0, 2, 3, 4, 5] rfl (ih24 (j + 1) _ _ _ (by omega) (by omega) (by rw [bR_st _ _ _ (by omega), bQ_old (F := (bw2H σ n)) ey1 ey2 hr c48 c54]; exact ey1) (by rw [bR_st _ _ _ (by omega), bQ_old (F := (bw2H σ n)) ey1 ey2 hr c48 c54]; exact ey2) (hT) (by omega) (by rw [bR_st _ _ _ (by omega)]; exact bQ_les (by omega) (by omega) hls))
                · skip
                  refine v_bipush (v := 10) C dX5_burn_57 (by decide) rfl ?_
                  refine v_iload_n C dX5_burn_59 rfl rfl rfl ?_
                  refine v_imul C dX5_burn_60 rfl ?_
                  refine V.tp (pk_mul 10 i) ?_
                  refine v_iload C dX5_burn_61 rfl rfl ?_
                  refine v_iadd C dX5_burn_63 rfl ?_
                  refine V.tp (nI_add (10 * i) j) ?_
                  refine V.top (fun v64_3 ev64_3 => ?_)
                  refine v_istore_n (lv' := [(1, .int v64_3), (5, .int r43_1), (4, .int (nI j)), (3, .int (nI i)), (2, .int y2), (0, .ref 18)]) C dX5_burn_64 rfl (Nat.le_of_ble_eq_true rfl) rfl rfl ?_
                  refine v_iload C dX5_burn_65 rfl rfl ?_
                  refine v_istore_n (lv' := [(2, .int r43_1), (1, .int v64_3), (5, .int r43_1), (4, .int (nI j)), (3, .int (nI i)), (0, .ref 18)]) C dX5_burn_67 rfl (Nat.le_of_ble_eq_true rfl) rfl rfl ?_
                  refine v_iinc (lv' := [(4, .int (nI (j + 1))), (2, .int r43_1), (1, .int v64_3), (5, .int r43_1), (3, .int (nI i)), (0, .ref 18)]) C dX5_burn_68 rfl (nI_inc j) (Nat.le_of_ble_eq_true rfl) rfl rfl ?_
                  refine v_goto (tgt := 24) C dX5_burn_71 (by decide) ?_
                  exact V.sub [0, 4, 1, 2, 5] rfl (ih24 (j + 1) _ _ _ (by omega) (by omega) (by rw [bR_st _ _ _ (by omega), bQ_new (F := (bw2H σ n)) ey1 ey2 hls hr (Or.inr c54)]; exact ev64_3) (by rw [bR_st _ _ _ (by omega), bQ_new (F := (bw2H σ n)) ey1 ey2 hls hr (Or.inr c54)]; exact hr) (hT) (by omega) (by rw [bR_st _ _ _ (by omega)]; exact bQ_les (by omega) (by omega) hls))
        exact V.sub [0, 1, 2, 3, 4] rfl (lp24 (n + 1) (i + 1) x1 x2 _ (by omega) (by omega) (by rw [bR_le _ _ _ (by omega)]; exact ex1) (by rw [bR_le _ _ _ (by omega)]; exact ex2) (eτ) (by omega) (by rw [bR_le _ _ _ (by omega)]; exact hlo))
  exact V.sub [0, 1, 2, 3] rfl (lp8 (n + 1) 0 _ _ _ (by omega) (by omega) (rfl) (rfl) (Thk.rf σ) (trivial))
