/-! the check's class: what would be, and all put back -/
def Sm (σ τ : St) : Prop := (∀ k, ((1 ≤ k ∧ k ≤ 9) ∨ k = 17 ∨ 18 ≤ k) → τ k = σ k) ∧ (∀ j, (j = 8 ∨ j = 9 ∨ j = 10 ∨ j = 15 ∨ j = 19 ∨ j = 27) → τ 0 j = σ 0 j) ∧ (∀ j, j < 50 → τ 13 j = σ 13 j)
theorem Sm.rf (σ : St) : Sm σ σ := ⟨fun _ _ => rfl, fun _ _ => rfl, fun _ _ => rfl⟩
theorem Sm.tr {σ τ υ : St} (h : Sm σ τ) (g : Sm τ υ) : Sm σ υ := ⟨fun k hk => (g.1 k hk).trans (h.1 k hk), fun j hj => (g.2.1 j hj).trans (h.2.1 j hj), fun j hj => (g.2.2 j hj).trans (h.2.2 j hj)⟩
def Bd (σ υ : St) : Prop := ∀ k, 2 ≤ k → k ≤ 8 → ∀ j, lenR k ≤ j → υ k j = σ k j
theorem lenR_7 {k : Nat} (h : 4 ≤ k) (h2 : k ≤ 8) : lenR k = 7 := by
  rcases (show k = 4 ∨ k = 5 ∨ k = 6 ∨ k = 7 ∨ k = 8 by omega) with rfl | rfl | rfl | rfl | rfl <;> rfl
theorem Bd_del {σ υ : St} (h : Bd σ υ) {m p i : Nat} (hi : i ≤ 7) : Bd σ (delS υ m p i) := by
  intro k h2 h8 j hj
  by_cases h4 : 4 ≤ k
  · rw [lenR_7 h4 h8] at hj
    rw [delS_r _ _ _ _ _ h4 h8, delR_at _ (by omega)]
    exact h k h2 h8 j (by rw [lenR_7 h4 h8]; exact hj)
  · rw [delS_o _ _ _ _ _ (by omega) (by omega)]; exact h k h2 h8 j hj
theorem Bd_yrs {σ υ : St} (h : Bd σ υ) {n : Nat} (hn : n ≤ 7) : ∀ m, Bd σ (yrs n υ m)
  | 0 => h
  | m + 1 => by
    intro k h2 h8 j hj
    have ih := Bd_yrs h hn m
    by_cases h6 : k = 6
    · subst h6
      have h7 : 7 ≤ j := hj
      rw [yrs, yrP_6, pre, if_neg (by omega)]; exact ih 6 h2 h8 j hj
    · by_cases h7 : k = 7
      · subst h7
        have h7 : 7 ≤ j := hj
        rw [yrs, yrP_7, pre, if_neg (by omega)]; exact ih 7 h2 h8 j hj
      · rw [yrs, yrP_o _ _ _ h6 h7 (by omega)]; exact ih k h2 h8 j hj
theorem Svp_Bd {σ τ : St} {c o : Nat} (h : Svp σ c o τ) : Bd σ τ := fun k h2 h8 j _ => by rw [h.1 k (by omega) (by omega)]
theorem KB {σ τ υ ω : St} (h1 : Svp σ 50 47 τ) (h2 : Rsp υ 50 47 ω) (h13 : υ 13 = τ 13) (hb : Bd σ υ) (ho : ∀ a, (a = 1 ∨ a = 9 ∨ a = 17 ∨ 18 ≤ a) → υ a = σ a) (hf : ∀ j, (j = 15 ∨ j = 19 ∨ j = 27) → υ 0 j = σ 0 j) : Sm σ ω := by
  obtain ⟨q1, q2, q3, q4, q5, q6⟩ := h1
  obtain ⟨p1, p2, p3, p4, p5, p6, p7, p8⟩ := h2
  have hk : ∀ j, j < 47 → υ 13 (50 + j) = blk σ j := fun j hj => by rw [h13]; exact q5 j hj
  have hrow : ∀ k, 2 ≤ k → k ≤ 8 → (∀ i, i < lenR k → blk σ (offR k + i) = σ k i) → offR k + lenR k ≤ 44 → ω k = σ k := by
    intro k k2 k8 hbk hle
    rw [p5 k k2 k8]
    funext j
    by_cases g : offR k < 47
    · rw [if_pos g]
      unfold pre
      by_cases g2 : j < lenR k
      · rw [if_pos g2]
        show υ 13 (50 + offR k + j) = σ k j
        rw [show 50 + offR k + j = 50 + (offR k + j) by omega, hk _ (by omega), hbk j g2]
      · rw [if_neg g2]; exact hb k k2 k8 j (by omega)
    · rw [if_neg g]
      by_cases g2 : j < lenR k
      · omega
      · exact hb k k2 k8 j (by omega)
  have hbl := blk_at σ
  refine ⟨fun k hk2 => ?_, fun j hj => ?_, fun j hj => ?_⟩
  · by_cases g : 2 ≤ k ∧ k ≤ 8
    · rcases (show k = 2 ∨ k = 3 ∨ k = 4 ∨ k = 5 ∨ k = 6 ∨ k = 7 ∨ k = 8 by omega) with rfl | rfl | rfl | rfl | rfl | rfl | rfl
      · exact hrow 2 (by decide) (by decide) hbl.1 (by decide)
      · exact hrow 3 (by decide) (by decide) hbl.2.1 (by decide)
      · exact hrow 4 (by decide) (by decide) hbl.2.2.1 (by decide)
      · exact hrow 5 (by decide) (by decide) hbl.2.2.2.1 (by decide)
      · exact hrow 6 (by decide) (by decide) hbl.2.2.2.2.1 (by decide)
      · exact hrow 7 (by decide) (by decide) hbl.2.2.2.2.2.1 (by decide)
      · exact hrow 8 (by decide) (by decide) hbl.2.2.2.2.2.2 (by decide)
    · rw [p1 k (by omega) (by omega)]; exact ho k (by omega)
  · rcases hj with rfl | rfl | rfl | rfl | rfl | rfl
    · rw [p6, if_pos (by decide)]; exact hk 44 (by decide)
    · rw [p7, if_pos (by decide)]; exact hk 45 (by decide)
    · rw [p8, if_pos (by decide)]; exact hk 46 (by decide)
    · rw [p2 15 (by decide) (by decide) (by decide) (by decide) (by decide)]; exact hf 15 (Or.inl rfl)
    · rw [p2 19 (by decide) (by decide) (by decide) (by decide) (by decide)]; exact hf 19 (Or.inr (Or.inl rfl))
    · rw [p2 27 (by decide) (by decide) (by decide) (by decide) (by decide)]; exact hf 27 (Or.inr (Or.inr rfl))
  · rw [p1 13 (by decide) (by decide), h13]; exact q6 j (by omega)
def bwoF (σ : St) (n a : Nat) : Int32 := binF (delR (n - 1) a (σ 4)) (delR (n - 1) a (σ 6)) (delR (n - 1) a (σ 7)) (delR (n - 1) a (σ 8)) (n - 1) 10
def bwo2 (σ : St) (n a b : Nat) : Int32 := binF (delR (n - 2) a (delR (n - 1) b (σ 4))) (delR (n - 2) a (delR (n - 1) b (σ 6))) (delR (n - 2) a (delR (n - 1) b (σ 7))) (delR (n - 2) a (delR (n - 1) b (σ 8))) (n - 2) 10
theorem kX6_blameWithout1 (n a : Nat) (σ : St) (hn : σ 0 8 = nI n) (h7 : n ≤ 7) (ha : a < n) : Ct yX6_blameWithout cX6_blameWithout 4 (some .int) 3 [.ref 0, .int (nI a), .int (-9)] σ (rI (fun v τ => v = bwoF σ n a ∧ Sm σ τ)) := by
  refine ct_of plX6 rfl (Nat.le_of_ble_eq_true rfl) (fun X hX C => ?_)
  show V X 0 [(0, .ref 0), (1, .int (nI a)), (2, .int (-9))] [] σ
  refine v_aload_n C dX6_blameWithout_0 rfl rfl rfl ?_
  refine v_iconst (v := 1) C dX6_blameWithout_1 (by decide) rfl ?_
  refine v_iconst (v := 1) C dX6_blameWithout_2 (by decide) rfl ?_
  refine v_callV C (Nat.le_of_ble_eq_true rfl) rfl rfl (As := [.int 1, .int 1]) (rest := []) (kX6_passesAllK1 σ) rfl (Nat.le_of_ble_eq_true rfl) (Nat.le_of_ble_eq_true rfl) ⟨mlX6_139, mfX6_passesAll⟩ dkX6_passesAll (Nat.le_of_ble_eq_true rfl) dX6_blameWithout_3 rfl (krV (fun τ6_1 h6_1 => ?_))
  have hnτ6_1 : τ6_1 0 8 = nI n := by rw [h6_1.2.1 8 (by decide) (by decide)]; exact hn
  refine v_iload_n C dX6_blameWithout_6 rfl rfl rfl ?_
  refine v_if_lt (tgt := 15) C dX6_blameWithout_7 (by decide) rfl (fun _ => ?_) (fun q => absurd q (by decide))
  refine v_aload_n C dX6_blameWithout_15 rfl rfl rfl ?_
  refine v_iload_n C dX6_blameWithout_16 rfl rfl rfl ?_
  refine v_callV C (Nat.le_of_ble_eq_true rfl) rfl rfl (As := [.int (nI a)]) (rest := []) (kX6_leaves n a τ6_1 hnτ6_1 (by omega) (by omega)) rfl (Nat.le_of_ble_eq_true rfl) (Nat.le_of_ble_eq_true rfl) ⟨mlX6_231, mfX6_leaves⟩ dkX6_leaves (Nat.le_of_ble_eq_true rfl) dX6_blameWithout_17 rfl (kV ?_)
  refine v_aload_n C dX6_blameWithout_20 rfl rfl rfl ?_
  refine v_bipush (v := 10) C dX6_blameWithout_21 (by decide) rfl ?_
  refine v_callV C (Nat.le_of_ble_eq_true rfl) rfl rfl (As := [.int 10]) (rest := []) (kX6_blameIn (n - 1) 10 (delS τ6_1 (n - 1) a (n - 1)) (delS_8 _ _ _ _) (by omega)) rfl (Nat.le_of_ble_eq_true rfl) (Nat.le_of_ble_eq_true rfl) ⟨mlX6_178, mfX6_blameIn⟩ dkX6_blameIn (Nat.le_of_ble_eq_true rfl) dX6_blameWithout_23 rfl (kI ?_)
  refine V.top (fun v26_2 ev26_2 => ?_)
  refine v_istore_n (lv' := [(3, .int v26_2), (0, .ref 0), (1, .int (nI a)), (2, .int (-9))]) C dX6_blameWithout_26 rfl (Nat.le_of_ble_eq_true rfl) rfl rfl ?_
  refine v_aload_n C dX6_blameWithout_27 rfl rfl rfl ?_
  refine v_iconst (v := 1) C dX6_blameWithout_28 (by decide) rfl ?_
  refine v_iconst (v := 0) C dX6_blameWithout_29 (by decide) rfl ?_
  refine v_callV C (Nat.le_of_ble_eq_true rfl) rfl rfl (As := [.int 1, .int 0]) (rest := []) (kX6_passesAllB1 (delS τ6_1 (n - 1) a (n - 1))) rfl (Nat.le_of_ble_eq_true rfl) (Nat.le_of_ble_eq_true rfl) ⟨mlX6_139, mfX6_passesAll⟩ dkX6_passesAll (Nat.le_of_ble_eq_true rfl) dX6_blameWithout_30 rfl (krV (fun τ33_3 h33_3 => ?_))
  refine v_iload_n C dX6_blameWithout_33 rfl rfl rfl ?_
  exact v_iret C dX6_blameWithout_34 (by rw [hX]; exact ⟨_, rfl, by rw [ev26_2, bwoF, delS_r _ _ _ _ 4 (by decide) (by decide), h6_1.1 4 (by decide) (by decide), delS_r _ _ _ _ 6 (by decide) (by decide), h6_1.1 6 (by decide) (by decide), delS_r _ _ _ _ 7 (by decide) (by decide), h6_1.1 7 (by decide) (by decide), delS_r _ _ _ _ 8 (by decide) (by decide), h6_1.1 8 (by decide) (by decide)], KB h6_1 h33_3 (delS_o _ _ _ _ _ (by decide) (by decide)) (Bd_del (Svp_Bd h6_1) (by omega)) (fun a ha => by rw [delS_o _ _ _ _ _ (by omega) (by omega)]; exact h6_1.1 a (by omega) (by omega)) (fun j hj => by rw [delS_z _ _ _ _ _ (by omega)]; exact h6_1.2.1 j (by omega) (by omega))⟩)
theorem kX6_blameWithout2 (n a b : Nat) (σ : St) (hn : σ 0 8 = nI n) (h7 : n ≤ 7) (ha : a < b) (hb : b < n) : Ct yX6_blameWithout cX6_blameWithout 4 (some .int) 3 [.ref 0, .int (nI a), .int (nI b)] σ (rI (fun v τ => v = bwo2 σ n a b ∧ Sm σ τ)) := by
  refine ct_of plX6 rfl (Nat.le_of_ble_eq_true rfl) (fun X hX C => ?_)
  show V X 0 [(0, .ref 0), (1, .int (nI a)), (2, .int (nI b))] [] σ
  refine v_aload_n C dX6_blameWithout_0 rfl rfl rfl ?_
  refine v_iconst (v := 1) C dX6_blameWithout_1 (by decide) rfl ?_
  refine v_iconst (v := 1) C dX6_blameWithout_2 (by decide) rfl ?_
  refine v_callV C (Nat.le_of_ble_eq_true rfl) rfl rfl (As := [.int 1, .int 1]) (rest := []) (kX6_passesAllK1 σ) rfl (Nat.le_of_ble_eq_true rfl) (Nat.le_of_ble_eq_true rfl) ⟨mlX6_139, mfX6_passesAll⟩ dkX6_passesAll (Nat.le_of_ble_eq_true rfl) dX6_blameWithout_3 rfl (krV (fun τ6_1 h6_1 => ?_))
  have hnτ6_1 : τ6_1 0 8 = nI n := by rw [h6_1.2.1 8 (by decide) (by decide)]; exact hn
  refine v_iload_n C dX6_blameWithout_6 rfl rfl rfl ?_
  refine v_if_lt (tgt := 15) C dX6_blameWithout_7 (by decide) rfl (fun q => absurd q (nI_pos (by omega))) (fun _ => ?_)
  refine v_aload_n C dX6_blameWithout_10 rfl rfl rfl ?_
  refine v_iload_n C dX6_blameWithout_11 rfl rfl rfl ?_
  refine v_callV C (Nat.le_of_ble_eq_true rfl) rfl rfl (As := [.int (nI b)]) (rest := []) (kX6_leaves n b τ6_1 hnτ6_1 (by omega) (by omega)) rfl (Nat.le_of_ble_eq_true rfl) (Nat.le_of_ble_eq_true rfl) ⟨mlX6_231, mfX6_leaves⟩ dkX6_leaves (Nat.le_of_ble_eq_true rfl) dX6_blameWithout_12 rfl (kV ?_)
  refine v_aload_n C dX6_blameWithout_15 rfl rfl rfl ?_
  refine v_iload_n C dX6_blameWithout_16 rfl rfl rfl ?_
  refine v_callV C (Nat.le_of_ble_eq_true rfl) rfl rfl (As := [.int (nI a)]) (rest := []) (kX6_leaves (n - 1) a (delS τ6_1 (n - 1) b (n - 1)) (delS_8 _ _ _ _) (by omega) (by omega)) rfl (Nat.le_of_ble_eq_true rfl) (Nat.le_of_ble_eq_true rfl) ⟨mlX6_231, mfX6_leaves⟩ dkX6_leaves (Nat.le_of_ble_eq_true rfl) dX6_blameWithout_17 rfl (kV ?_)
  refine v_aload_n C dX6_blameWithout_20 rfl rfl rfl ?_
  refine v_bipush (v := 10) C dX6_blameWithout_21 (by decide) rfl ?_
  refine v_callV C (Nat.le_of_ble_eq_true rfl) rfl rfl (As := [.int 10]) (rest := []) (kX6_blameIn (n - 1 - 1) 10 (delS (delS τ6_1 (n - 1) b (n - 1)) ((n - 1) - 1) a ((n - 1) - 1)) (delS_8 _ _ _ _) (by omega)) rfl (Nat.le_of_ble_eq_true rfl) (Nat.le_of_ble_eq_true rfl) ⟨mlX6_178, mfX6_blameIn⟩ dkX6_blameIn (Nat.le_of_ble_eq_true rfl) dX6_blameWithout_23 rfl (kI ?_)
  refine V.top (fun v26_2 ev26_2 => ?_)
  refine v_istore_n (lv' := [(3, .int v26_2), (0, .ref 0), (1, .int (nI a)), (2, .int (nI b))]) C dX6_blameWithout_26 rfl (Nat.le_of_ble_eq_true rfl) rfl rfl ?_
  refine v_aload_n C dX6_blameWithout_27 rfl rfl rfl ?_
  refine v_iconst (v := 1) C dX6_blameWithout_28 (by decide) rfl ?_
  refine v_iconst (v := 0) C dX6_blameWithout_29 (by decide) rfl ?_
  refine v_callV C (Nat.le_of_ble_eq_true rfl) rfl rfl (As := [.int 1, .int 0]) (rest := []) (kX6_passesAllB1 (delS (delS τ6_1 (n - 1) b (n - 1)) ((n - 1) - 1) a ((n - 1) - 1))) rfl (Nat.le_of_ble_eq_true rfl) (Nat.le_of_ble_eq_true rfl) ⟨mlX6_139, mfX6_passesAll⟩ dkX6_passesAll (Nat.le_of_ble_eq_true rfl) dX6_blameWithout_30 rfl (krV (fun τ33_3 h33_3 => ?_))
  refine v_iload_n C dX6_blameWithout_33 rfl rfl rfl ?_
  exact v_iret C dX6_blameWithout_34 (by rw [hX]; exact ⟨_, rfl, by rw [ev26_2, bwo2, delS_r _ _ _ _ 4 (by decide) (by decide), delS_r _ _ _ _ 4 (by decide) (by decide), h6_1.1 4 (by decide) (by decide), delS_r _ _ _ _ 6 (by decide) (by decide), delS_r _ _ _ _ 6 (by decide) (by decide), h6_1.1 6 (by decide) (by decide), delS_r _ _ _ _ 7 (by decide) (by decide), delS_r _ _ _ _ 7 (by decide) (by decide), h6_1.1 7 (by decide) (by decide), delS_r _ _ _ _ 8 (by decide) (by decide), delS_r _ _ _ _ 8 (by decide) (by decide), h6_1.1 8 (by decide) (by decide)]; rfl, KB h6_1 h33_3 ((delS_o _ _ _ _ _ (by decide) (by decide)).trans (delS_o _ _ _ _ _ (by decide) (by decide))) (Bd_del (Bd_del (Svp_Bd h6_1) (by omega)) (by omega)) (fun a ha => by rw [delS_o _ _ _ _ _ (by omega) (by omega), delS_o _ _ _ _ _ (by omega) (by omega)]; exact h6_1.1 a (by omega) (by omega)) (fun j hj => by rw [delS_z _ _ _ _ _ (by omega), delS_z _ _ _ _ _ (by omega)]; exact h6_1.2.1 j (by omega) (by omega))⟩)
theorem Sm_r {σ τ : St} (h : Sm σ τ) (k : Nat) (hk : (1 ≤ k ∧ k ≤ 9) ∨ k = 17 ∨ 18 ≤ k) : τ k = σ k := h.1 k hk
theorem Sm_n {σ τ : St} (h : Sm σ τ) {n : Nat} (hn : σ 0 8 = nI n) : τ 0 8 = nI n := (h.2.1 8 (Or.inl rfl)).trans hn
theorem bwo_sm {σ τ : St} (h : Sm σ τ) (n a : Nat) : bwoF τ n a = bwoF σ n a := by
  rw [bwoF, bwoF, Sm_r h 4 (by decide), Sm_r h 6 (by decide), Sm_r h 7 (by decide), Sm_r h 8 (by decide)]
theorem bwo2_sm {σ τ : St} (h : Sm σ τ) (n a b : Nat) : bwo2 τ n a b = bwo2 σ n a b := by
  rw [bwo2, bwo2, Sm_r h 4 (by decide), Sm_r h 6 (by decide), Sm_r h 7 (by decide), Sm_r h 8 (by decide)]
def ofO (f : Nat → Int32) (d : Int32) (o : Option Nat) : Int32 := match o with
  | none => d
  | some b => f b
noncomputable def selM (σ : St) (n : Nat) (i : Nat) : Option Nat := minN (fun _ => True) (bwoF σ n) i
noncomputable def selA (σ : St) (n : Nat) (w : Int32) : Int32 := if w = 0 then oI (selM σ n n) else if w = 1 then ofO (bwoF σ n) (-9) (selM σ n n) else -2
theorem isIn01 {w : Int32} : isInP w 0 1 ↔ (w = 0 ∨ w = 1) := by
  constructor
  · intro h
    have h1 := nat_of (v := w) (a := 0) (b := 1) (by decide) (by decide) h.1 h.2
    rcases (show tn w = 0 ∨ tn w = 1 by omega) with e | e
    · left; rw [h1.1, e]; rfl
    · right; rw [h1.1, e]; rfl
  · rintro (rfl | rfl) <;> exact ⟨by decide, by decide⟩
theorem kX6_sell (v : Int32) (n : Nat) (σ : St) (hn : σ 0 8 = nI n) (h7 : n ≤ 7) : Ct yX6_sell cX6_sell 6 (some .int) 4 [.ref 0, .int v] σ (rI (fun r τ => (¬ (v = 0 ∨ v = 1) ∧ r = -2 ∧ τ = noS σ 2) ∨ ((v = 0 ∨ v = 1) ∧ r = selA σ n v ∧ Sm σ τ))) := by
  refine ct_of plX6 rfl (Nat.le_of_ble_eq_true rfl) (fun X hX C => ?_)
  show V X 0 [(0, .ref 0), (1, .int v)] [] σ
  refine v_iload_n C dX6_sell_0 rfl rfl rfl ?_
  refine v_iconst (v := 0) C dX6_sell_1 (by decide) rfl ?_
  refine v_iconst (v := 1) C dX6_sell_2 (by decide) rfl ?_
  refine v_callS C (As := [.int v, .int 0, .int 1]) (rest := []) (kX6_isIn v 0 1 σ) rfl (Nat.le_of_ble_eq_true rfl) (Nat.le_of_ble_eq_true rfl) ⟨mlX6_90, mfX6_isIn⟩ dkX6_isIn (Nat.le_of_ble_eq_true rfl) dX6_sell_3 rfl (kI ?_)
  refine v_if_ne (tgt := 16) C dX6_sell_6 (by decide) rfl (fun c6 => ?_) (fun c6 => ?_)
  · skip
    have c6 := bI_n c6
    refine v_bipush (v := -9) C dX6_sell_16 (by decide) rfl ?_
    refine v_istore_n (lv' := [(2, .int (-9)), (0, .ref 0), (1, .int v)]) C dX6_sell_18 rfl (Nat.le_of_ble_eq_true rfl) rfl rfl ?_
    refine v_bipush (v := -9) C dX6_sell_19 (by decide) rfl ?_
    refine v_istore_n (lv' := [(3, .int (-9)), (2, .int (-9)), (0, .ref 0), (1, .int v)]) C dX6_sell_21 rfl (Nat.le_of_ble_eq_true rfl) rfl rfl ?_
    refine v_iconst (v := 0) C dX6_sell_22 (by decide) rfl ?_
    refine v_istore (lv' := [(4, .int 0), (3, .int (-9)), (2, .int (-9)), (0, .ref 0), (1, .int v)]) C dX6_sell_23 (Nat.le_of_ble_eq_true rfl) rfl rfl ?_
    have lp25 : ∀ (k i : Nat) (x2 : Int32) (x3 : Int32) (τ : St), n < i + k → i ≤ n → x2 = oI (selM σ n i) → x3 = ofO (bwoF σ n) (-9) (selM σ n i) → Sm σ τ → V X 25 [(4, .int (nI i)), (3, .int x3), (2, .int x2), (0, .ref 0), (1, .int v)] [] τ := by
      intro k
      induction k with
      | zero => intro i x2 x3 τ h1 h2; omega
      | succ k ih25 =>
        intro i x2 x3 τ h1 h2 ex2 ex3 eτ
        have hnt : τ 0 8 = nI n := Sm_n eτ hn
        rcases hq : selM σ n i with _ | b
        · have hx : x2 = -9 := by rw [ex2, hq]; rfl
          refine v_iload C dX6_sell_25 rfl rfl ?_
          refine v_aload_n C dX6_sell_27 rfl rfl rfl ?_
          refine v_getI C (Nat.le_of_ble_eq_true rfl) rfl rfl hinX6 8 (Nat.le_of_ble_eq_true rfl) lkX6_65 rfl dX6_sell_28 rfl ?_
          refine V.tp hnt ?_
          refine v_icmp_ge (tgt := 69) C dX6_sell_31 (by decide) rfl (fun c31 => ?_) (fun c31 => ?_)
          · skip
            have c31 := mt (nI_ltI (a := i) (b := n) (by omega) (by omega)).mpr c31
            refine v_iload_n C dX6_sell_69 rfl rfl rfl ?_
            refine v_if_ne (tgt := 77) C dX6_sell_70 (by decide) rfl (fun c70 => ?_) (fun c70 => ?_)
            · skip
              refine v_iload_n C dX6_sell_77 rfl rfl rfl ?_
              exact v_iret C dX6_sell_78 (by rw [hX]; exact ⟨_, rfl, Or.inr ⟨isIn01.mp c6, by rw [selA, if_neg c70, if_pos ((isIn01.mp c6).resolve_left c70), ex3, show i = n by omega], eτ⟩⟩)
            · skip
              refine v_iload_n C dX6_sell_73 rfl rfl rfl ?_
              refine V.tp hx ?_
              refine v_goto (tgt := 78) C dX6_sell_74 (by decide) ?_
              exact v_iret C dX6_sell_78 (by rw [hX]; exact ⟨_, rfl, Or.inr ⟨isIn01.mp c6, hx.symm.trans (by rw [selA, if_pos c70, ex2, show i = n by omega]), eτ⟩⟩)
          · skip
            have c31 := (nI_ltI (a := i) (b := n) (by omega) (by omega)).mp c31
            refine v_aload_n C dX6_sell_34 rfl rfl rfl ?_
            refine v_iload C dX6_sell_35 rfl rfl ?_
            refine v_bipush (v := -9) C dX6_sell_37 (by decide) rfl ?_
            refine v_callV C (Nat.le_of_ble_eq_true rfl) rfl rfl (As := [.int (nI i), .int (-9)]) (rest := []) (kX6_blameWithout1 n i τ hnt h7 (by omega)) rfl (Nat.le_of_ble_eq_true rfl) (Nat.le_of_ble_eq_true rfl) ⟨mlX6_234, mfX6_blameWithout⟩ dkX6_blameWithout (Nat.le_of_ble_eq_true rfl) dX6_sell_39 rfl (krI (fun r42_1 τ42_1 h42_1 => ?_))
            have hvr42_1 : r42_1 = bwoF σ n i := h42_1.1.trans (bwo_sm eτ _ _)
            have hsτ42_1 : Sm σ τ42_1 := eτ.tr h42_1.2
            refine v_istore (lv' := [(5, .int r42_1), (4, .int (nI i)), (3, .int x3), (2, .int x2), (0, .ref 0), (1, .int v)]) C dX6_sell_42 (Nat.le_of_ble_eq_true rfl) rfl rfl ?_
            refine v_iload_n C dX6_sell_44 rfl rfl rfl ?_
            refine V.tp hx ?_
            refine v_if_lt (tgt := 57) C dX6_sell_45 (by decide) rfl (fun _ => ?_) (fun q => absurd q (by decide))
            refine v_iload C dX6_sell_57 rfl rfl ?_
            refine v_istore_n (lv' := [(2, .int (nI i)), (5, .int r42_1), (4, .int (nI i)), (3, .int x3), (0, .ref 0), (1, .int v)]) C dX6_sell_59 rfl (Nat.le_of_ble_eq_true rfl) rfl rfl ?_
            refine v_iload C dX6_sell_60 rfl rfl ?_
            refine v_istore_n (lv' := [(3, .int r42_1), (2, .int (nI i)), (5, .int r42_1), (4, .int (nI i)), (0, .ref 0), (1, .int v)]) C dX6_sell_62 rfl (Nat.le_of_ble_eq_true rfl) rfl rfl ?_
            refine v_iinc (lv' := [(4, .int (nI (i + 1))), (3, .int r42_1), (2, .int (nI i)), (5, .int r42_1), (0, .ref 0), (1, .int v)]) C dX6_sell_63 rfl (nI_inc i) (Nat.le_of_ble_eq_true rfl) rfl rfl ?_
            refine v_goto (tgt := 25) C dX6_sell_66 (by decide) ?_
            exact V.sub [0, 1, 2, 4, 5] rfl (ih25 (i + 1) _ _ _ (by omega) (by omega) (by rw [show selM σ n (i + 1) = some i by unfold selM at hq ⊢; rw [minN, hq]; exact cI_t trivial]; exact rfl) (by rw [show selM σ n (i + 1) = some i by unfold selM at hq ⊢; rw [minN, hq]; exact cI_t trivial]; exact hvr42_1) (hsτ42_1))
        · have hx : x2 = nI b := by rw [ex2, hq]; rfl
          have hx3 : x3 = bwoF σ n b := by rw [ex3, hq]; rfl
          have hbl := minN_lt hq
          refine v_iload C dX6_sell_25 rfl rfl ?_
          refine v_aload_n C dX6_sell_27 rfl rfl rfl ?_
          refine v_getI C (Nat.le_of_ble_eq_true rfl) rfl rfl hinX6 8 (Nat.le_of_ble_eq_true rfl) lkX6_65 rfl dX6_sell_28 rfl ?_
          refine V.tp hnt ?_
          refine v_icmp_ge (tgt := 69) C dX6_sell_31 (by decide) rfl (fun c31 => ?_) (fun c31 => ?_)
          · skip
            have c31 := mt (nI_ltI (a := i) (b := n) (by omega) (by omega)).mpr c31
            refine v_iload_n C dX6_sell_69 rfl rfl rfl ?_
            refine v_if_ne (tgt := 77) C dX6_sell_70 (by decide) rfl (fun c70 => ?_) (fun c70 => ?_)
            · skip
              refine v_iload_n C dX6_sell_77 rfl rfl rfl ?_
              exact v_iret C dX6_sell_78 (by rw [hX]; exact ⟨_, rfl, Or.inr ⟨isIn01.mp c6, by rw [selA, if_neg c70, if_pos ((isIn01.mp c6).resolve_left c70), ex3, show i = n by omega], eτ⟩⟩)
            · skip
              refine v_iload_n C dX6_sell_73 rfl rfl rfl ?_
              refine V.tp hx ?_
              refine v_goto (tgt := 78) C dX6_sell_74 (by decide) ?_
              exact v_iret C dX6_sell_78 (by rw [hX]; exact ⟨_, rfl, Or.inr ⟨isIn01.mp c6, hx.symm.trans (by rw [selA, if_pos c70, ex2, show i = n by omega]), eτ⟩⟩)
          · skip
            have c31 := (nI_ltI (a := i) (b := n) (by omega) (by omega)).mp c31
            refine v_aload_n C dX6_sell_34 rfl rfl rfl ?_
            refine v_iload C dX6_sell_35 rfl rfl ?_
            refine v_bipush (v := -9) C dX6_sell_37 (by decide) rfl ?_
            refine v_callV C (Nat.le_of_ble_eq_true rfl) rfl rfl (As := [.int (nI i), .int (-9)]) (rest := []) (kX6_blameWithout1 n i τ hnt h7 (by omega)) rfl (Nat.le_of_ble_eq_true rfl) (Nat.le_of_ble_eq_true rfl) ⟨mlX6_234, mfX6_blameWithout⟩ dkX6_blameWithout (Nat.le_of_ble_eq_true rfl) dX6_sell_39 rfl (krI (fun r42_2 τ42_2 h42_2 => ?_))
            have hvr42_2 : r42_2 = bwoF σ n i := h42_2.1.trans (bwo_sm eτ _ _)
            have hsτ42_2 : Sm σ τ42_2 := eτ.tr h42_2.2
            refine v_istore (lv' := [(5, .int r42_2), (4, .int (nI i)), (3, .int x3), (2, .int x2), (0, .ref 0), (1, .int v)]) C dX6_sell_42 (Nat.le_of_ble_eq_true rfl) rfl rfl ?_
            refine v_iload_n C dX6_sell_44 rfl rfl rfl ?_
            refine V.tp hx ?_
            refine v_if_lt (tgt := 57) C dX6_sell_45 (by decide) rfl (fun q => absurd q (nI_pos (by omega))) (fun _ => ?_)
            refine v_iload C dX6_sell_48 rfl rfl ?_
            refine v_iload_n C dX6_sell_50 rfl rfl rfl ?_
            refine v_icmp_lt (tgt := 57) C dX6_sell_51 (by decide) rfl (fun c51 => ?_) (fun c51 => ?_)
            · skip
              refine v_iload C dX6_sell_57 rfl rfl ?_
              refine v_istore_n (lv' := [(2, .int (nI i)), (5, .int r42_2), (4, .int (nI i)), (3, .int x3), (0, .ref 0), (1, .int v)]) C dX6_sell_59 rfl (Nat.le_of_ble_eq_true rfl) rfl rfl ?_
              refine v_iload C dX6_sell_60 rfl rfl ?_
              refine v_istore_n (lv' := [(3, .int r42_2), (2, .int (nI i)), (5, .int r42_2), (4, .int (nI i)), (0, .ref 0), (1, .int v)]) C dX6_sell_62 rfl (Nat.le_of_ble_eq_true rfl) rfl rfl ?_
              refine v_iinc (lv' := [(4, .int (nI (i + 1))), (3, .int r42_2), (2, .int (nI i)), (5, .int r42_2), (0, .ref 0), (1, .int v)]) C dX6_sell_63 rfl (nI_inc i) (Nat.le_of_ble_eq_true rfl) rfl rfl ?_
              refine v_goto (tgt := 25) C dX6_sell_66 (by decide) ?_
              exact V.sub [0, 1, 2, 4, 5] rfl (ih25 (i + 1) _ _ _ (by omega) (by omega) (by rw [show selM σ n (i + 1) = some i by unfold selM at hq ⊢; rw [minN, hq]; exact cI_t ⟨trivial, by rw [← hvr42_2, ← hx3]; exact c51⟩]; exact rfl) (by rw [show selM σ n (i + 1) = some i by unfold selM at hq ⊢; rw [minN, hq]; exact cI_t ⟨trivial, by rw [← hvr42_2, ← hx3]; exact c51⟩]; exact hvr42_2) (hsτ42_2))
            · skip
              refine v_goto (tgt := 63) C dX6_sell_54 (by decide) ?_
              refine v_iinc (lv' := [(4, .int (nI (i + 1))), (5, .int r42_2), (3, .int x3), (2, .int x2), (0, .ref 0), (1, .int v)]) C dX6_sell_63 rfl (nI_inc i) (Nat.le_of_ble_eq_true rfl) rfl rfl ?_
              refine v_goto (tgt := 25) C dX6_sell_66 (by decide) ?_
              exact V.sub [0, 2, 3, 4, 5] rfl (ih25 (i + 1) _ _ _ (by omega) (by omega) (by rw [show selM σ n (i + 1) = selM σ n i by unfold selM at hq ⊢; rw [minN, hq]; exact cI_f (fun q => c51 (by rw [hvr42_2, hx3]; exact q.2))]; exact ex2) (by rw [show selM σ n (i + 1) = selM σ n i by unfold selM at hq ⊢; rw [minN, hq]; exact cI_f (fun q => c51 (by rw [hvr42_2, hx3]; exact q.2))]; exact ex3) (hsτ42_2))
    exact V.sub [0, 1, 2, 3, 4] rfl (lp25 (n + 1) 0 _ _ _ (by omega) (by omega) (rfl) (rfl) (Sm.rf σ))
  · skip
    have c6 := bI_0 c6
    refine v_aload_n C dX6_sell_9 rfl rfl rfl ?_
    refine v_bipush (v := -2) C dX6_sell_10 (by decide) rfl ?_
    refine v_callV C (Nat.le_of_ble_eq_true rfl) rfl rfl (As := [.int (-2)]) (rest := []) (kX6_no (-2) 2 σ (by decide) (by decide)) rfl (Nat.le_of_ble_eq_true rfl) (Nat.le_of_ble_eq_true rfl) ⟨mlX6_79, mfX6_no⟩ dkX6_no (Nat.le_of_ble_eq_true rfl) dX6_sell_12 rfl (kI ?_)
    exact v_iret C dX6_sell_15 (by rw [hX]; exact ⟨_, rfl, Or.inl ⟨fun q => c6 (isIn01.mpr q), rfl, rfl⟩⟩)
noncomputable def burQ (σ : St) (n a b : Nat) (o : Option (Nat × Nat)) : Option (Nat × Nat) := match o with
  | none => some (a, b)
  | some q => cI (bwo2 σ n a b < bwo2 σ n q.1 q.2) (some (a, b)) (some q)
noncomputable def burR (σ : St) (n a : Nat) (o : Option (Nat × Nat)) : Nat → Option (Nat × Nat)
  | 0 => o
  | t + 1 => burQ σ n a (a + 1 + t) (burR σ n a o t)
noncomputable def burM (σ : St) (n : Nat) : Nat → Option (Nat × Nat)
  | 0 => none
  | a + 1 => burR σ n a (burM σ n a) (n - (a + 1))
def o2I (o : Option (Nat × Nat)) : Int32 := match o with
  | none => -9
  | some q => nI (10 * q.1 + q.2)
def o2F (f : Nat → Nat → Int32) (o : Option (Nat × Nat)) : Int32 := match o with
  | none => 0
  | some q => f q.1 q.2
def lesF (o : Option (Nat × Nat)) (n : Nat) : Prop := match o with
  | none => True
  | some q => q.1 < n ∧ q.2 < n
theorem burQ_les {σ : St} {n a b : Nat} {o : Option (Nat × Nat)} (ha : a < n) (hb : b < n) (h : lesF o n) : lesF (burQ σ n a b o) n := by
  cases o with
  | none => exact ⟨ha, hb⟩
  | some q =>
    simp only [burQ]
    by_cases g : bwo2 σ n a b < bwo2 σ n q.1 q.2
    · rw [cI_t g]; exact ⟨ha, hb⟩
    · rw [cI_f g]; exact h
theorem kX6_burn (n : Nat) (σ : St) (hn : σ 0 8 = nI n) (h7 : n ≤ 7) : Ct yX6_burn cX6_burn 6 (some .int) 4 [.ref 0] σ (rI (fun r τ => r = o2I (burM σ n n) ∧ Sm σ τ)) := by
  refine ct_of plX6 rfl (Nat.le_of_ble_eq_true rfl) (fun X hX C => ?_)
  show V X 0 [(0, .ref 0)] [] σ
  refine v_bipush (v := -9) C dX6_burn_0 (by decide) rfl ?_
  refine v_istore_n (lv' := [(1, .int (-9)), (0, .ref 0)]) C dX6_burn_2 rfl (Nat.le_of_ble_eq_true rfl) rfl rfl ?_
  refine v_iconst (v := 0) C dX6_burn_3 (by decide) rfl ?_
  refine v_istore_n (lv' := [(2, .int 0), (1, .int (-9)), (0, .ref 0)]) C dX6_burn_4 rfl (Nat.le_of_ble_eq_true rfl) rfl rfl ?_
  refine v_iconst (v := 0) C dX6_burn_5 (by decide) rfl ?_
  refine v_istore_n (lv' := [(3, .int 0), (2, .int 0), (1, .int (-9)), (0, .ref 0)]) C dX6_burn_6 rfl (Nat.le_of_ble_eq_true rfl) rfl rfl ?_
  have lp7 : ∀ (k i : Nat) (x1 : Int32) (x2 : Int32) (τ : St), n < i + k → i ≤ n → x1 = o2I (burM σ n i) → x2 = o2F (bwo2 σ n) (burM σ n i) → Sm σ τ → (lesF (burM σ n i) n) → V X 7 [(3, .int (nI i)), (2, .int x2), (1, .int x1), (0, .ref 0)] [] τ := by
    intro k
    induction k with
    | zero => intro i x1 x2 τ h1 h2; omega
    | succ k ih7 =>
      intro i x1 x2 τ h1 h2 ex1 ex2 eτ hlm
      have hnτ : τ 0 8 = nI n := Sm_n eτ hn
      refine v_iload_n C dX6_burn_7 rfl rfl rfl ?_
      refine v_aload_n C dX6_burn_8 rfl rfl rfl ?_
      refine v_getI C (Nat.le_of_ble_eq_true rfl) rfl rfl hinX6 8 (Nat.le_of_ble_eq_true rfl) lkX6_65 rfl dX6_burn_9 rfl ?_
      refine V.tp hnτ ?_
      refine v_icmp_ge (tgt := 74) C dX6_burn_12 (by decide) rfl (fun c12 => ?_) (fun c12 => ?_)
      · skip
        have c12 := mt (nI_ltI (a := i) (b := n) (by omega) (by omega)).mpr c12
        refine v_iload_n C dX6_burn_74 rfl rfl rfl ?_
        exact v_iret C dX6_burn_75 (by rw [hX]; exact ⟨_, rfl, by rw [ex1, show i = n by omega], eτ⟩)
      · skip
        have c12 := (nI_ltI (a := i) (b := n) (by omega) (by omega)).mp c12
        refine v_iload_n C dX6_burn_15 rfl rfl rfl ?_
        refine v_iconst (v := 1) C dX6_burn_16 (by decide) rfl ?_
        refine v_iadd C dX6_burn_17 rfl ?_
        refine V.tp (nI_add i 1) ?_
        refine v_istore (lv' := [(4, .int (nI (i + 1))), (3, .int (nI i)), (2, .int x2), (1, .int x1), (0, .ref 0)]) C dX6_burn_18 (Nat.le_of_ble_eq_true rfl) rfl rfl ?_
        have lp20 : ∀ (k j : Nat) (y1 : Int32) (y2 : Int32) (υ : St), n < j + k → j ≤ n → y1 = o2I (burR σ n i (burM σ n i) (j - (i + 1))) → y2 = o2F (bwo2 σ n) (burR σ n i (burM σ n i) (j - (i + 1))) → Sm σ υ → (i + 1 ≤ j) → (lesF (burR σ n i (burM σ n i) (j - (i + 1))) n) → V X 20 [(4, .int (nI j)), (3, .int (nI i)), (2, .int y2), (1, .int y1), (0, .ref 0)] [] υ := by
          intro k
          induction k with
          | zero => intro j y1 y2 υ h1 h2; omega
          | succ k ih20 =>
            intro j y1 y2 υ h1 h2 ey1 ey2 eυ hij hles
            have hnυ : υ 0 8 = nI n := Sm_n eυ hn
            rcases hq : burR σ n i (burM σ n i) (j - (i + 1)) with _ | q
            · have hx : y1 = -9 := by rw [ey1, hq]; rfl
              refine v_iload C dX6_burn_20 rfl rfl ?_
              refine v_aload_n C dX6_burn_22 rfl rfl rfl ?_
              refine v_getI C (Nat.le_of_ble_eq_true rfl) rfl rfl hinX6 8 (Nat.le_of_ble_eq_true rfl) lkX6_65 rfl dX6_burn_23 rfl ?_
              refine V.tp hnυ ?_
              refine v_icmp_ge (tgt := 68) C dX6_burn_26 (by decide) rfl (fun c26 => ?_) (fun c26 => ?_)
              · skip
                have c26 := mt (nI_ltI (a := j) (b := n) (by omega) (by omega)).mpr c26
                refine v_iinc (lv' := [(3, .int (nI (i + 1))), (4, .int (nI j)), (2, .int y2), (1, .int y1), (0, .ref 0)]) C dX6_burn_68 rfl (nI_inc i) (Nat.le_of_ble_eq_true rfl) rfl rfl ?_
                refine v_goto (tgt := 7) C dX6_burn_71 (by decide) ?_
                exact V.sub [0, 2, 3, 4] rfl (ih7 (i + 1) _ _ _ (by omega) (by omega) (by rw [burM, show n - (i + 1) = j - (i + 1) by omega]; exact ey1) (by rw [burM, show n - (i + 1) = j - (i + 1) by omega]; exact ey2) (eυ) (by rw [burM, show n - (i + 1) = j - (i + 1) by omega]; exact hles))
              · skip
                have c26 := (nI_ltI (a := j) (b := n) (by omega) (by omega)).mp c26
                refine v_aload_n C dX6_burn_29 rfl rfl rfl ?_
                refine v_iload_n C dX6_burn_30 rfl rfl rfl ?_
                refine v_iload C dX6_burn_31 rfl rfl ?_
                refine v_callV C (Nat.le_of_ble_eq_true rfl) rfl rfl (As := [.int (nI i), .int (nI j)]) (rest := []) (kX6_blameWithout2 n i j υ hnυ h7 (by omega) (by omega)) rfl (Nat.le_of_ble_eq_true rfl) (Nat.le_of_ble_eq_true rfl) ⟨mlX6_234, mfX6_blameWithout⟩ dkX6_blameWithout (Nat.le_of_ble_eq_true rfl) dX6_burn_33 rfl (krI (fun r36_1 τ36_1 h36_1 => ?_))
                have hvr36_1 : r36_1 = bwo2 σ n i j := h36_1.1.trans (bwo2_sm eυ _ _ _)
                have hsτ36_1 : Sm σ τ36_1 := eυ.tr h36_1.2
                refine v_istore (lv' := [(5, .int r36_1), (4, .int (nI j)), (3, .int (nI i)), (2, .int y2), (1, .int y1), (0, .ref 0)]) C dX6_burn_36 (Nat.le_of_ble_eq_true rfl) rfl rfl ?_
                refine v_iload_n C dX6_burn_38 rfl rfl rfl ?_
                refine V.tp hx ?_
                refine v_if_lt (tgt := 51) C dX6_burn_39 (by decide) rfl (fun _ => ?_) (fun q => absurd q (by decide))
                refine v_bipush (v := 10) C dX6_burn_51 (by decide) rfl ?_
                refine v_iload_n C dX6_burn_53 rfl rfl rfl ?_
                refine v_imul C dX6_burn_54 rfl ?_
                refine V.tp (pk_mul 10 i) ?_
                refine v_iload C dX6_burn_55 rfl rfl ?_
                refine v_iadd C dX6_burn_57 rfl ?_
                refine V.tp (nI_add (10 * i) j) ?_
                refine V.top (fun v58_2 ev58_2 => ?_)
                refine v_istore_n (lv' := [(1, .int v58_2), (5, .int r36_1), (4, .int (nI j)), (3, .int (nI i)), (2, .int y2), (0, .ref 0)]) C dX6_burn_58 rfl (Nat.le_of_ble_eq_true rfl) rfl rfl ?_
                refine v_iload C dX6_burn_59 rfl rfl ?_
                refine v_istore_n (lv' := [(2, .int r36_1), (1, .int v58_2), (5, .int r36_1), (4, .int (nI j)), (3, .int (nI i)), (0, .ref 0)]) C dX6_burn_61 rfl (Nat.le_of_ble_eq_true rfl) rfl rfl ?_
                refine v_iinc (lv' := [(4, .int (nI (j + 1))), (2, .int r36_1), (1, .int v58_2), (5, .int r36_1), (3, .int (nI i)), (0, .ref 0)]) C dX6_burn_62 rfl (nI_inc j) (Nat.le_of_ble_eq_true rfl) rfl rfl ?_
                refine v_goto (tgt := 20) C dX6_burn_65 (by decide) ?_
                exact V.sub [0, 4, 1, 2, 5] rfl (ih20 (j + 1) _ _ _ (by omega) (by omega) (by rw [show burR σ n i (burM σ n i) (j + 1 - (i + 1)) = some (i, j) by rw [show j + 1 - (i + 1) = (j - (i + 1)) + 1 by omega, burR, show i + 1 + (j - (i + 1)) = j by omega, hq, burQ]]; exact ev58_2) (by rw [show burR σ n i (burM σ n i) (j + 1 - (i + 1)) = some (i, j) by rw [show j + 1 - (i + 1) = (j - (i + 1)) + 1 by omega, burR, show i + 1 + (j - (i + 1)) = j by omega, hq, burQ]]; exact hvr36_1) (hsτ36_1) (by omega) (by rw [show j + 1 - (i + 1) = (j - (i + 1)) + 1 by omega, burR, show i + 1 + (j - (i + 1)) = j by omega]; exact burQ_les (by omega) (by omega) hles))
            · have hx : y1 = nI (10 * q.1 + q.2) := by rw [ey1, hq]; rfl
              have hx3 : y2 = bwo2 σ n q.1 q.2 := by rw [ey2, hq]; rfl
              have hqb : q.1 < n ∧ q.2 < n := by rw [hq] at hles; exact hles
              refine v_iload C dX6_burn_20 rfl rfl ?_
              refine v_aload_n C dX6_burn_22 rfl rfl rfl ?_
              refine v_getI C (Nat.le_of_ble_eq_true rfl) rfl rfl hinX6 8 (Nat.le_of_ble_eq_true rfl) lkX6_65 rfl dX6_burn_23 rfl ?_
              refine V.tp hnυ ?_
              refine v_icmp_ge (tgt := 68) C dX6_burn_26 (by decide) rfl (fun c26 => ?_) (fun c26 => ?_)
              · skip
                have c26 := mt (nI_ltI (a := j) (b := n) (by omega) (by omega)).mpr c26
                refine v_iinc (lv' := [(3, .int (nI (i + 1))), (4, .int (nI j)), (2, .int y2), (1, .int y1), (0, .ref 0)]) C dX6_burn_68 rfl (nI_inc i) (Nat.le_of_ble_eq_true rfl) rfl rfl ?_
                refine v_goto (tgt := 7) C dX6_burn_71 (by decide) ?_
                exact V.sub [0, 2, 3, 4] rfl (ih7 (i + 1) _ _ _ (by omega) (by omega) (by rw [burM, show n - (i + 1) = j - (i + 1) by omega]; exact ey1) (by rw [burM, show n - (i + 1) = j - (i + 1) by omega]; exact ey2) (eυ) (by rw [burM, show n - (i + 1) = j - (i + 1) by omega]; exact hles))
              · skip
                have c26 := (nI_ltI (a := j) (b := n) (by omega) (by omega)).mp c26
                refine v_aload_n C dX6_burn_29 rfl rfl rfl ?_
                refine v_iload_n C dX6_burn_30 rfl rfl rfl ?_
                refine v_iload C dX6_burn_31 rfl rfl ?_
                refine v_callV C (Nat.le_of_ble_eq_true rfl) rfl rfl (As := [.int (nI i), .int (nI j)]) (rest := []) (kX6_blameWithout2 n i j υ hnυ h7 (by omega) (by omega)) rfl (Nat.le_of_ble_eq_true rfl) (Nat.le_of_ble_eq_true rfl) ⟨mlX6_234, mfX6_blameWithout⟩ dkX6_blameWithout (Nat.le_of_ble_eq_true rfl) dX6_burn_33 rfl (krI (fun r36_3 τ36_3 h36_3 => ?_))
                have hvr36_3 : r36_3 = bwo2 σ n i j := h36_3.1.trans (bwo2_sm eυ _ _ _)
                have hsτ36_3 : Sm σ τ36_3 := eυ.tr h36_3.2
                refine v_istore (lv' := [(5, .int r36_3), (4, .int (nI j)), (3, .int (nI i)), (2, .int y2), (1, .int y1), (0, .ref 0)]) C dX6_burn_36 (Nat.le_of_ble_eq_true rfl) rfl rfl ?_
                refine v_iload_n C dX6_burn_38 rfl rfl rfl ?_
                refine V.tp hx ?_
                refine v_if_lt (tgt := 51) C dX6_burn_39 (by decide) rfl (fun q => absurd q (nI_pos (by omega))) (fun _ => ?_)
                refine v_iload C dX6_burn_42 rfl rfl ?_
                refine v_iload_n C dX6_burn_44 rfl rfl rfl ?_
                refine v_icmp_lt (tgt := 51) C dX6_burn_45 (by decide) rfl (fun c45 => ?_) (fun c45 => ?_)
                · skip
                  refine v_bipush (v := 10) C dX6_burn_51 (by decide) rfl ?_
                  refine v_iload_n C dX6_burn_53 rfl rfl rfl ?_
                  refine v_imul C dX6_burn_54 rfl ?_
                  refine V.tp (pk_mul 10 i) ?_
                  refine v_iload C dX6_burn_55 rfl rfl ?_
                  refine v_iadd C dX6_burn_57 rfl ?_
                  refine V.tp (nI_add (10 * i) j) ?_
                  refine V.top (fun v58_4 ev58_4 => ?_)
                  refine v_istore_n (lv' := [(1, .int v58_4), (5, .int r36_3), (4, .int (nI j)), (3, .int (nI i)), (2, .int y2), (0, .ref 0)]) C dX6_burn_58 rfl (Nat.le_of_ble_eq_true rfl) rfl rfl ?_
                  refine v_iload C dX6_burn_59 rfl rfl ?_
                  refine v_istore_n (lv' := [(2, .int r36_3), (1, .int v58_4), (5, .int r36_3), (4, .int (nI j)), (3, .int (nI i)), (0, .ref 0)]) C dX6_burn_61 rfl (Nat.le_of_ble_eq_true rfl) rfl rfl ?_
                  refine v_iinc (lv' := [(4, .int (nI (j + 1))), (2, .int r36_3), (1, .int v58_4), (5, .int r36_3), (3, .int (nI i)), (0, .ref 0)]) C dX6_burn_62 rfl (nI_inc j) (Nat.le_of_ble_eq_true rfl) rfl rfl ?_
                  refine v_goto (tgt := 20) C dX6_burn_65 (by decide) ?_
                  exact V.sub [0, 4, 1, 2, 5] rfl (ih20 (j + 1) _ _ _ (by omega) (by omega) (by rw [show burR σ n i (burM σ n i) (j + 1 - (i + 1)) = some (i, j) by rw [show j + 1 - (i + 1) = (j - (i + 1)) + 1 by omega, burR, show i + 1 + (j - (i + 1)) = j by omega, hq, burQ]; exact cI_t (by rw [← hvr36_3, ← hx3]; exact c45)]; exact ev58_4) (by rw [show burR σ n i (burM σ n i) (j + 1 - (i + 1)) = some (i, j) by rw [show j + 1 - (i + 1) = (j - (i + 1)) + 1 by omega, burR, show i + 1 + (j - (i + 1)) = j by omega, hq, burQ]; exact cI_t (by rw [← hvr36_3, ← hx3]; exact c45)]; exact hvr36_3) (hsτ36_3) (by omega) (by rw [show j + 1 - (i + 1) = (j - (i + 1)) + 1 by omega, burR, show i + 1 + (j - (i + 1)) = j by omega]; exact burQ_les (by omega) (by omega) hles))
                · skip
                  refine v_goto (tgt := 62) C dX6_burn_48 (by decide) ?_
                  refine v_iinc (lv' := [(4, .int (nI (j + 1))), (5, .int r36_3), (3, .int (nI i)), (2, .int y2), (1, .int y1), (0, .ref 0)]) C dX6_burn_62 rfl (nI_inc j) (Nat.le_of_ble_eq_true rfl) rfl rfl ?_
                  refine v_goto (tgt := 20) C dX6_burn_65 (by decide) ?_
                  exact V.sub [0, 2, 3, 4, 5] rfl (ih20 (j + 1) _ _ _ (by omega) (by omega) (by rw [show burR σ n i (burM σ n i) (j + 1 - (i + 1)) = some q by rw [show j + 1 - (i + 1) = (j - (i + 1)) + 1 by omega, burR, show i + 1 + (j - (i + 1)) = j by omega, hq, burQ]; exact cI_f (fun z => c45 (by rw [hvr36_3, hx3]; exact z))]; exact hx) (by rw [show burR σ n i (burM σ n i) (j + 1 - (i + 1)) = some q by rw [show j + 1 - (i + 1) = (j - (i + 1)) + 1 by omega, burR, show i + 1 + (j - (i + 1)) = j by omega, hq, burQ]; exact cI_f (fun z => c45 (by rw [hvr36_3, hx3]; exact z))]; exact hx3) (hsτ36_3) (by omega) (by rw [show j + 1 - (i + 1) = (j - (i + 1)) + 1 by omega, burR, show i + 1 + (j - (i + 1)) = j by omega]; exact burQ_les (by omega) (by omega) hles))
        exact V.sub [0, 1, 2, 3, 4] rfl (lp20 (n + 1) (i + 1) x1 x2 _ (by omega) (by omega) (by rw [Nat.sub_self]; exact ex1) (by rw [Nat.sub_self]; exact ex2) (eτ) (by omega) (by rw [Nat.sub_self]; exact hlm))
  exact V.sub [0, 1, 2, 3] rfl (lp7 (n + 1) 0 _ 0 _ (by omega) (by omega) (rfl) (rfl) (Sm.rf σ) (trivial))
