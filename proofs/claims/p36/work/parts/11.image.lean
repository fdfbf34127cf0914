/-! the check's class: the whole state kept, and put back -/
def blk (σ : St) (j : Nat) : Int32 := if j < 6 then σ 2 j else if j < 9 then σ 3 (j - 6) else if j < 16 then σ 4 (j - 9) else if j < 23 then σ 5 (j - 16) else if j < 30 then σ 6 (j - 23) else if j < 37 then σ 7 (j - 30) else if j < 44 then σ 8 (j - 37) else if j = 44 then σ 0 8 else if j = 45 then σ 0 9 else σ 0 10
def Svp (σ : St) (c o : Nat) (τ : St) : Prop := (∀ a, a ≠ 0 → a ≠ 13 → τ a = σ a) ∧ (∀ j, j ≠ 20 → j ≠ 21 → τ 0 j = σ 0 j) ∧ τ 0 20 = 1 ∧ τ 0 21 = nI (c + o) ∧ (∀ j, j < o → τ 13 (c + j) = blk σ j) ∧ (∀ j, (j < c ∨ c + o ≤ j) → τ 13 j = σ 13 j)
theorem cpK_13 (σ : St) (c k i j : Nat) : cpK σ c k i 13 j = if c ≤ j ∧ j < c + i then σ k (j - c) else σ 13 j := by simp [cpK, s2, setR]
theorem Svp_pass {σ τ : St} {c o k N : Nat} (h : Svp σ c o τ) (h0 : k ≠ 0) (h13 : k ≠ 13) (hb : ∀ i, i < N → blk σ (o + i) = σ k i) : Svp σ c (o + N) (cpK τ (c + o) k N) := by
  obtain ⟨q1, q2, q3, q4, q5, q6⟩ := h
  refine ⟨fun a a0 a13 => by rw [cpK_o _ _ _ _ _ a0 a13]; exact q1 a a0 a13, fun j j1 j2 => by rw [cpK_z _ _ _ _ _ j2]; exact q2 j j1 j2, by rw [cpK_z _ _ _ _ _ (by decide)]; exact q3, by rw [cpK_21, Nat.add_assoc], fun j hj => ?_, fun j hj => ?_⟩
  · rw [cpK_13]
    by_cases g : c + o ≤ c + j ∧ c + j < c + o + N
    · rw [if_pos g, q1 k h0 h13, ← hb (c + j - (c + o)) (by omega)]
      congr 1; omega
    · rw [if_neg g]; exact q5 j (by omega)
  · rw [cpK_13, if_neg (by omega)]; exact q6 j (by omega)
theorem Svp_one {σ τ : St} {c o f : Nat} {v : Int32} (h : Svp σ c o τ) (hv : v = σ 0 f) (hb : blk σ o = σ 0 f) (h20 : f ≠ 20) (h21 : f ≠ 21) : Svp σ c (o + 1) (s2 (onK τ (c + o) v) 0 f v) := by
  obtain ⟨q1, q2, q3, q4, q5, q6⟩ := h
  subst hv
  refine ⟨fun a a0 a13 => by rw [s2_ne a0, onK, s2_ne a0, s2_ne a13]; exact q1 a a0 a13, fun j j1 j2 => ?_, ?_, ?_, fun j hj => ?_, fun j hj => ?_⟩
  · by_cases e : j = f
    · subst e; simp [s2, upd]
    · simp [s2, upd, e, onK, j2]; exact q2 j j1 j2
  · simp [s2, upd, Ne.symm h20, onK]; exact q3
  · simp [s2, upd, Ne.symm h21, onK, Nat.add_assoc]
  · by_cases e : j = o
    · subst e; simp [s2, upd, onK, hb]
    · simp [s2, upd, onK, e]; exact q5 j (by omega)
  · simp [s2, upd, onK, show ¬ j = c + o by omega]; exact q6 j (by omega)
def offR (k : Nat) : Nat := match k with | 2 => 0 | 3 => 6 | 4 => 9 | 5 => 16 | 6 => 23 | 7 => 30 | _ => 37
def lenR (k : Nat) : Nat := match k with | 2 => 6 | 3 => 3 | _ => 7
def Rsp (σ : St) (c o : Nat) (τ : St) : Prop := (∀ a, a ≠ 0 → (a < 2 ∨ 8 < a) → τ a = σ a) ∧ (∀ j, j ≠ 8 → j ≠ 9 → j ≠ 10 → j ≠ 20 → j ≠ 21 → τ 0 j = σ 0 j) ∧ τ 0 20 = 0 ∧ τ 0 21 = nI (c + o) ∧ (∀ k, 2 ≤ k → k ≤ 8 → τ k = if offR k < o then pre (lenR k) (fun j => σ 13 (c + offR k + j)) (σ k) else σ k) ∧
  τ 0 8 = (if 44 < o then σ 13 (c + 44) else σ 0 8) ∧ τ 0 9 = (if 45 < o then σ 13 (c + 45) else σ 0 9) ∧ τ 0 10 = (if 46 < o then σ 13 (c + 46) else σ 0 10)
theorem Rsp_pass {σ τ : St} {c o k N : Nat} (h : Rsp σ c o τ) (h2 : 2 ≤ k) (h8 : k ≤ 8) (ho : offR k = o) (hN : lenR k = N) (hm : ∀ q, 2 ≤ q → q ≤ 8 → q ≠ k → (offR q < o ↔ offR q < o + N)) (h44 : o + N ≤ 44) (hN0 : 0 < N) : Rsp σ c (o + N) (cpB τ (c + o) k N) := by
  obtain ⟨q1, q2, q3, q4, q5, q6, q7, q8⟩ := h
  have hk0 : k ≠ 0 := by omega
  refine ⟨fun a a0 ha => by rw [cpB_o _ _ _ _ _ a0 (by omega)]; exact q1 a a0 ha, fun j a b e f g => by rw [cpB_z _ _ _ _ _ hk0 g]; exact q2 j a b e f g, by rw [cpB_z _ _ _ _ _ hk0 (by decide)]; exact q3, by rw [cpB_21, Nat.add_assoc], fun q a b => ?_, ?_, ?_, ?_⟩
  · by_cases e : q = k
    · subst e
      rw [cpB_k _ _ _ _ hk0, q5 q a b, ho, hN, if_neg (by omega), if_pos (by omega), q1 13 (by decide) (by omega)]
    · rw [cpB_o _ _ _ _ _ (by omega) e, q5 q a b]
      by_cases g : offR q < o
      · rw [if_pos g, if_pos ((hm q a b e).mp g)]
      · rw [if_neg g, if_neg (fun z => g ((hm q a b e).mpr z))]
  · rw [cpB_z _ _ _ _ _ hk0 (by decide), q6, if_neg (by omega), if_neg (by omega)]
  · rw [cpB_z _ _ _ _ _ hk0 (by decide), q7, if_neg (by omega), if_neg (by omega)]
  · rw [cpB_z _ _ _ _ _ hk0 (by decide), q8, if_neg (by omega), if_neg (by omega)]
theorem Rsp_one {σ τ : St} {c o f : Nat} {v : Int32} (h : Rsp σ c o τ) (hv : v = σ 13 (c + o)) (hf : (o = 44 ∧ f = 8) ∨ (o = 45 ∧ f = 9) ∨ (o = 46 ∧ f = 10)) : Rsp σ c (o + 1) (s2 (s2 τ 0 21 (nI (c + o + 1))) 0 f v) := by
  obtain ⟨q1, q2, q3, q4, q5, q6, q7, q8⟩ := h
  subst hv
  refine ⟨fun a a0 ha => by rw [s2_ne a0, s2_ne a0]; exact q1 a a0 ha, fun j a b e f' g => ?_, ?_, ?_, fun q a b => ?_, ?_, ?_, ?_⟩
  · rw [s2_get, s2_get, if_neg (by omega), if_neg (by omega)]; exact q2 j a b e f' g
  · rw [s2_get, s2_get, if_neg (by omega), if_neg (by omega)]; exact q3
  · rw [s2_get, s2_get, if_neg (by omega), if_pos ⟨rfl, rfl⟩, Nat.add_assoc]
  · have hq : offR q < 44 := by unfold offR; split <;> omega
    rw [s2_ne (by omega), s2_ne (by omega), q5 q a b, if_pos (by omega), if_pos (by omega)]
  · rw [s2_get, s2_get]
    rcases hf with ⟨rfl, rfl⟩ | ⟨rfl, rfl⟩ | ⟨rfl, rfl⟩ <;> simp [q6]
  · rw [s2_get, s2_get]
    rcases hf with ⟨rfl, rfl⟩ | ⟨rfl, rfl⟩ | ⟨rfl, rfl⟩ <;> simp [q7]
  · rw [s2_get, s2_get]
    rcases hf with ⟨rfl, rfl⟩ | ⟨rfl, rfl⟩ | ⟨rfl, rfl⟩ <;> simp [q8]
theorem blk_at (σ : St) : (∀ i, i < 6 → blk σ (0 + i) = σ 2 i) ∧ (∀ i, i < 3 → blk σ (6 + i) = σ 3 i) ∧ (∀ i, i < 7 → blk σ (9 + i) = σ 4 i) ∧ (∀ i, i < 7 → blk σ (16 + i) = σ 5 i) ∧ (∀ i, i < 7 → blk σ (23 + i) = σ 6 i) ∧ (∀ i, i < 7 → blk σ (30 + i) = σ 7 i) ∧ (∀ i, i < 7 → blk σ (37 + i) = σ 8 i) := by
  refine ⟨?_, ?_, ?_, ?_, ?_, ?_, ?_⟩ <;> intro i hi <;> unfold blk
  · rw [if_pos (by omega), show 0 + i = i by omega]
  · rw [if_neg (by omega), if_pos (by omega), show 6 + i - 6 = i by omega]
  · rw [if_neg (by omega), if_neg (by omega), if_pos (by omega), show 9 + i - 9 = i by omega]
  · rw [if_neg (by omega), if_neg (by omega), if_neg (by omega), if_pos (by omega), show 16 + i - 16 = i by omega]
  · rw [if_neg (by omega), if_neg (by omega), if_neg (by omega), if_neg (by omega), if_pos (by omega), show 23 + i - 23 = i by omega]
  · rw [if_neg (by omega), if_neg (by omega), if_neg (by omega), if_neg (by omega), if_neg (by omega), if_pos (by omega), show 30 + i - 30 = i by omega]
  · rw [if_neg (by omega), if_neg (by omega), if_neg (by omega), if_neg (by omega), if_neg (by omega), if_neg (by omega), if_pos (by omega), show 37 + i - 37 = i by omega]
theorem kX6_passesAllK0 (σ : St) : Ct yX6_passesAll cX6_passesAll 3 none 1 [.ref 0, .int 0, .int 1] σ (rV (Svp σ 0 47)) := by
  refine ct_of plX6 rfl (Nat.le_of_ble_eq_true rfl) (fun X hX C => ?_)
  show V X 0 [(0, .ref 0), (1, .int 0), (2, .int 1)] [] σ
  refine v_aload_n C dX6_passesAll_0 rfl rfl rfl ?_
  refine v_bipush (v := 50) C dX6_passesAll_1 (by decide) rfl ?_
  refine v_iload_n C dX6_passesAll_3 rfl rfl rfl ?_
  refine v_imul C dX6_passesAll_4 rfl ?_
  refine V.tp (show (50 : Int32) * 0 = 0 by decide) ?_
  refine v_put (ty := .int) C (Nat.le_of_ble_eq_true rfl) rfl rfl hinX6 tyX6_ok nmX6 21 (Nat.le_of_ble_eq_true rfl) lkX6_150 rfl (by decide +kernel) rfl rfl rfl dX6_passesAll_5 rfl ?_
  refine V.nm (fun τ5_1 eτ5_1 => ?_)
  refine v_aload_n C dX6_passesAll_8 rfl rfl rfl ?_
  refine v_iload_n C dX6_passesAll_9 rfl rfl rfl ?_
  refine v_put (ty := .boolean) C (Nat.le_of_ble_eq_true rfl) rfl rfl hinX6 tyX6_ok nmX6 20 (Nat.le_of_ble_eq_true rfl) lkX6_146 rfl (by decide +kernel) rfl rfl rfl dX6_passesAll_10 rfl ?_
  refine V.nm (fun τ10_2 eτ10_2 => ?_)
  have g0 : Svp σ 0 0 τ10_2 := by rw [eτ10_2, eτ5_1]; exact ⟨fun a a0 a13 => by rw [s2_ne a0, s2_ne a0], fun j j1 j2 => by rw [s2_get, s2_get, if_neg (fun q => j1 q.2), if_neg (fun q => j2 q.2)], by simp [s2_get], by simp [s2_get]; rfl, fun j hj => by omega, fun j _ => by rw [s2_ne (by decide), s2_ne (by decide)]⟩
  refine v_aload_n C dX6_passesAll_13 rfl rfl rfl ?_
  refine v_aload_n C dX6_passesAll_14 rfl rfl rfl ?_
  refine v_getR C (Nat.le_of_ble_eq_true rfl) rfl rfl hinX6 1 (Nat.le_of_ble_eq_true rfl) lkX6_13 rfl dX6_passesAll_15 rfl ?_
  refine v_callV C (Nat.le_of_ble_eq_true rfl) rfl rfl (As := [.ref 2]) (rest := []) (kX6_passesK 2 6 0 τ10_2 (Nat.le_of_ble_eq_true rfl) rfl (by decide) (by decide) g0.2.2.1 g0.2.2.2.1 (by decide)) rfl (Nat.le_of_ble_eq_true rfl) (Nat.le_of_ble_eq_true rfl) ⟨mlX6_153, mfX6_passes⟩ dkX6_passes (Nat.le_of_ble_eq_true rfl) dX6_passesAll_18 rfl (kV ?_)
  refine V.nm (fun υ2 eυ2 => ?_)
  have g1 : Svp σ 0 6 υ2 := by rw [eυ2]; exact Svp_pass g0 (by decide) (by decide) (blk_at σ).1
  refine v_aload_n C dX6_passesAll_21 rfl rfl rfl ?_
  refine v_aload_n C dX6_passesAll_22 rfl rfl rfl ?_
  refine v_getR C (Nat.le_of_ble_eq_true rfl) rfl rfl hinX6 2 (Nat.le_of_ble_eq_true rfl) lkX6_16 rfl dX6_passesAll_23 rfl ?_
  refine v_callV C (Nat.le_of_ble_eq_true rfl) rfl rfl (As := [.ref 3]) (rest := []) (kX6_passesK 3 3 6 υ2 (Nat.le_of_ble_eq_true rfl) rfl (by decide) (by decide) g1.2.2.1 g1.2.2.2.1 (by decide)) rfl (Nat.le_of_ble_eq_true rfl) (Nat.le_of_ble_eq_true rfl) ⟨mlX6_153, mfX6_passes⟩ dkX6_passes (Nat.le_of_ble_eq_true rfl) dX6_passesAll_26 rfl (kV ?_)
  refine V.nm (fun υ3 eυ3 => ?_)
  have g2 : Svp σ 0 9 υ3 := by rw [eυ3]; exact Svp_pass g1 (by decide) (by decide) (blk_at σ).2.1
  refine v_aload_n C dX6_passesAll_29 rfl rfl rfl ?_
  refine v_aload_n C dX6_passesAll_30 rfl rfl rfl ?_
  refine v_getR C (Nat.le_of_ble_eq_true rfl) rfl rfl hinX6 3 (Nat.le_of_ble_eq_true rfl) lkX6_19 rfl dX6_passesAll_31 rfl ?_
  refine v_callV C (Nat.le_of_ble_eq_true rfl) rfl rfl (As := [.ref 4]) (rest := []) (kX6_passesK 4 7 9 υ3 (Nat.le_of_ble_eq_true rfl) rfl (by decide) (by decide) g2.2.2.1 g2.2.2.2.1 (by decide)) rfl (Nat.le_of_ble_eq_true rfl) (Nat.le_of_ble_eq_true rfl) ⟨mlX6_153, mfX6_passes⟩ dkX6_passes (Nat.le_of_ble_eq_true rfl) dX6_passesAll_34 rfl (kV ?_)
  refine V.nm (fun υ4 eυ4 => ?_)
  have g3 : Svp σ 0 16 υ4 := by rw [eυ4]; exact Svp_pass g2 (by decide) (by decide) (blk_at σ).2.2.1
  refine v_aload_n C dX6_passesAll_37 rfl rfl rfl ?_
  refine v_aload_n C dX6_passesAll_38 rfl rfl rfl ?_
  refine v_getR C (Nat.le_of_ble_eq_true rfl) rfl rfl hinX6 4 (Nat.le_of_ble_eq_true rfl) lkX6_22 rfl dX6_passesAll_39 rfl ?_
  refine v_callV C (Nat.le_of_ble_eq_true rfl) rfl rfl (As := [.ref 5]) (rest := []) (kX6_passesK 5 7 16 υ4 (Nat.le_of_ble_eq_true rfl) rfl (by decide) (by decide) g3.2.2.1 g3.2.2.2.1 (by decide)) rfl (Nat.le_of_ble_eq_true rfl) (Nat.le_of_ble_eq_true rfl) ⟨mlX6_153, mfX6_passes⟩ dkX6_passes (Nat.le_of_ble_eq_true rfl) dX6_passesAll_42 rfl (kV ?_)
  refine V.nm (fun υ5 eυ5 => ?_)
  have g4 : Svp σ 0 23 υ5 := by rw [eυ5]; exact Svp_pass g3 (by decide) (by decide) (blk_at σ).2.2.2.1
  refine v_aload_n C dX6_passesAll_45 rfl rfl rfl ?_
  refine v_aload_n C dX6_passesAll_46 rfl rfl rfl ?_
  refine v_getR C (Nat.le_of_ble_eq_true rfl) rfl rfl hinX6 5 (Nat.le_of_ble_eq_true rfl) lkX6_25 rfl dX6_passesAll_47 rfl ?_
  refine v_callV C (Nat.le_of_ble_eq_true rfl) rfl rfl (As := [.ref 6]) (rest := []) (kX6_passesK 6 7 23 υ5 (Nat.le_of_ble_eq_true rfl) rfl (by decide) (by decide) g4.2.2.1 g4.2.2.2.1 (by decide)) rfl (Nat.le_of_ble_eq_true rfl) (Nat.le_of_ble_eq_true rfl) ⟨mlX6_153, mfX6_passes⟩ dkX6_passes (Nat.le_of_ble_eq_true rfl) dX6_passesAll_50 rfl (kV ?_)
  refine V.nm (fun υ6 eυ6 => ?_)
  have g5 : Svp σ 0 30 υ6 := by rw [eυ6]; exact Svp_pass g4 (by decide) (by decide) (blk_at σ).2.2.2.2.1
  refine v_aload_n C dX6_passesAll_53 rfl rfl rfl ?_
  refine v_aload_n C dX6_passesAll_54 rfl rfl rfl ?_
  refine v_getR C (Nat.le_of_ble_eq_true rfl) rfl rfl hinX6 6 (Nat.le_of_ble_eq_true rfl) lkX6_28 rfl dX6_passesAll_55 rfl ?_
  refine v_callV C (Nat.le_of_ble_eq_true rfl) rfl rfl (As := [.ref 7]) (rest := []) (kX6_passesK 7 7 30 υ6 (Nat.le_of_ble_eq_true rfl) rfl (by decide) (by decide) g5.2.2.1 g5.2.2.2.1 (by decide)) rfl (Nat.le_of_ble_eq_true rfl) (Nat.le_of_ble_eq_true rfl) ⟨mlX6_153, mfX6_passes⟩ dkX6_passes (Nat.le_of_ble_eq_true rfl) dX6_passesAll_58 rfl (kV ?_)
  refine V.nm (fun υ7 eυ7 => ?_)
  have g6 : Svp σ 0 37 υ7 := by rw [eυ7]; exact Svp_pass g5 (by decide) (by decide) (blk_at σ).2.2.2.2.2.1
  refine v_aload_n C dX6_passesAll_61 rfl rfl rfl ?_
  refine v_aload_n C dX6_passesAll_62 rfl rfl rfl ?_
  refine v_getR C (Nat.le_of_ble_eq_true rfl) rfl rfl hinX6 7 (Nat.le_of_ble_eq_true rfl) lkX6_31 rfl dX6_passesAll_63 rfl ?_
  refine v_callV C (Nat.le_of_ble_eq_true rfl) rfl rfl (As := [.ref 8]) (rest := []) (kX6_passesK 8 7 37 υ7 (Nat.le_of_ble_eq_true rfl) rfl (by decide) (by decide) g6.2.2.1 g6.2.2.2.1 (by decide)) rfl (Nat.le_of_ble_eq_true rfl) (Nat.le_of_ble_eq_true rfl) ⟨mlX6_153, mfX6_passes⟩ dkX6_passes (Nat.le_of_ble_eq_true rfl) dX6_passesAll_66 rfl (kV ?_)
  refine V.nm (fun υ8 eυ8 => ?_)
  have g7 : Svp σ 0 44 υ8 := by rw [eυ8]; exact Svp_pass g6 (by decide) (by decide) (blk_at σ).2.2.2.2.2.2
  refine v_aload_n C dX6_passesAll_69 rfl rfl rfl ?_
  refine v_aload_n C dX6_passesAll_70 rfl rfl rfl ?_
  refine v_aload_n C dX6_passesAll_71 rfl rfl rfl ?_
  refine v_getI C (Nat.le_of_ble_eq_true rfl) rfl rfl hinX6 8 (Nat.le_of_ble_eq_true rfl) lkX6_65 rfl dX6_passesAll_72 rfl ?_
  refine v_callV C (Nat.le_of_ble_eq_true rfl) rfl rfl (As := [.int (υ8 0 8)]) (rest := [.ref 0]) (kX6_passOneK 44 (υ8 0 8) υ8 g7.2.2.1 g7.2.2.2.1 (by decide)) rfl (Nat.le_of_ble_eq_true rfl) (Nat.le_of_ble_eq_true rfl) ⟨mlX6_157, mfX6_passOne⟩ dkX6_passOne (Nat.le_of_ble_eq_true rfl) dX6_passesAll_75 rfl (kI ?_)
  refine v_put (ty := .int) C (Nat.le_of_ble_eq_true rfl) rfl rfl hinX6 tyX6_ok nmX6 8 (Nat.le_of_ble_eq_true rfl) lkX6_65 rfl (by decide +kernel) rfl rfl rfl dX6_passesAll_78 rfl ?_
  refine V.nm (fun τ78_3 eτ78_3 => ?_)
  have g8 : Svp σ 0 45 τ78_3 := by rw [eτ78_3]; exact Svp_one g7 (g7.2.1 8 (by decide) (by decide)) (by simp [blk]) (by decide) (by decide)
  refine v_aload_n C dX6_passesAll_81 rfl rfl rfl ?_
  refine v_aload_n C dX6_passesAll_82 rfl rfl rfl ?_
  refine v_aload_n C dX6_passesAll_83 rfl rfl rfl ?_
  refine v_getI C (Nat.le_of_ble_eq_true rfl) rfl rfl hinX6 9 (Nat.le_of_ble_eq_true rfl) lkX6_61 rfl dX6_passesAll_84 rfl ?_
  refine v_callV C (Nat.le_of_ble_eq_true rfl) rfl rfl (As := [.int (τ78_3 0 9)]) (rest := [.ref 0]) (kX6_passOneK 45 (τ78_3 0 9) τ78_3 g8.2.2.1 g8.2.2.2.1 (by decide)) rfl (Nat.le_of_ble_eq_true rfl) (Nat.le_of_ble_eq_true rfl) ⟨mlX6_157, mfX6_passOne⟩ dkX6_passOne (Nat.le_of_ble_eq_true rfl) dX6_passesAll_87 rfl (kI ?_)
  refine v_put (ty := .int) C (Nat.le_of_ble_eq_true rfl) rfl rfl hinX6 tyX6_ok nmX6 9 (Nat.le_of_ble_eq_true rfl) lkX6_61 rfl (by decide +kernel) rfl rfl rfl dX6_passesAll_90 rfl ?_
  refine V.nm (fun τ90_4 eτ90_4 => ?_)
  have g9 : Svp σ 0 46 τ90_4 := by rw [eτ90_4]; exact Svp_one g8 (g8.2.1 9 (by decide) (by decide)) (by simp [blk]) (by decide) (by decide)
  refine v_aload_n C dX6_passesAll_93 rfl rfl rfl ?_
  refine v_aload_n C dX6_passesAll_94 rfl rfl rfl ?_
  refine v_aload_n C dX6_passesAll_95 rfl rfl rfl ?_
  refine v_getI C (Nat.le_of_ble_eq_true rfl) rfl rfl hinX6 10 (Nat.le_of_ble_eq_true rfl) lkX6_128 rfl dX6_passesAll_96 rfl ?_
  refine v_callV C (Nat.le_of_ble_eq_true rfl) rfl rfl (As := [.int (τ90_4 0 10)]) (rest := [.ref 0]) (kX6_passOneK 46 (τ90_4 0 10) τ90_4 g9.2.2.1 g9.2.2.2.1 (by decide)) rfl (Nat.le_of_ble_eq_true rfl) (Nat.le_of_ble_eq_true rfl) ⟨mlX6_157, mfX6_passOne⟩ dkX6_passOne (Nat.le_of_ble_eq_true rfl) dX6_passesAll_99 rfl (kI ?_)
  refine v_put (ty := .int) C (Nat.le_of_ble_eq_true rfl) rfl rfl hinX6 tyX6_ok nmX6 10 (Nat.le_of_ble_eq_true rfl) lkX6_128 rfl (by decide +kernel) rfl rfl rfl dX6_passesAll_102 rfl ?_
  refine V.nm (fun τ102_5 eτ102_5 => ?_)
  have g10 : Svp σ 0 47 τ102_5 := by rw [eτ102_5]; exact Svp_one g9 (g9.2.1 10 (by decide) (by decide)) (by simp [blk]) (by decide) (by decide)
  exact v_vret C dX6_passesAll_105 (by rw [hX]; exact ⟨rfl, g10⟩)
theorem kX6_passesAllK1 (σ : St) : Ct yX6_passesAll cX6_passesAll 3 none 1 [.ref 0, .int 1, .int 1] σ (rV (Svp σ 50 47)) := by
  refine ct_of plX6 rfl (Nat.le_of_ble_eq_true rfl) (fun X hX C => ?_)
  show V X 0 [(0, .ref 0), (1, .int 1), (2, .int 1)] [] σ
  refine v_aload_n C dX6_passesAll_0 rfl rfl rfl ?_
  refine v_bipush (v := 50) C dX6_passesAll_1 (by decide) rfl ?_
  refine v_iload_n C dX6_passesAll_3 rfl rfl rfl ?_
  refine v_imul C dX6_passesAll_4 rfl ?_
  refine V.tp (show (50 : Int32) * 1 = 50 by decide) ?_
  refine v_put (ty := .int) C (Nat.le_of_ble_eq_true rfl) rfl rfl hinX6 tyX6_ok nmX6 21 (Nat.le_of_ble_eq_true rfl) lkX6_150 rfl (by decide +kernel) rfl rfl rfl dX6_passesAll_5 rfl ?_
  refine V.nm (fun τ5_1 eτ5_1 => ?_)
  refine v_aload_n C dX6_passesAll_8 rfl rfl rfl ?_
  refine v_iload_n C dX6_passesAll_9 rfl rfl rfl ?_
  refine v_put (ty := .boolean) C (Nat.le_of_ble_eq_true rfl) rfl rfl hinX6 tyX6_ok nmX6 20 (Nat.le_of_ble_eq_true rfl) lkX6_146 rfl (by decide +kernel) rfl rfl rfl dX6_passesAll_10 rfl ?_
  refine V.nm (fun τ10_2 eτ10_2 => ?_)
  have g0 : Svp σ 50 0 τ10_2 := by rw [eτ10_2, eτ5_1]; exact ⟨fun a a0 a13 => by rw [s2_ne a0, s2_ne a0], fun j j1 j2 => by rw [s2_get, s2_get, if_neg (fun q => j1 q.2), if_neg (fun q => j2 q.2)], by simp [s2_get], by simp [s2_get]; rfl, fun j hj => by omega, fun j _ => by rw [s2_ne (by decide), s2_ne (by decide)]⟩
  refine v_aload_n C dX6_passesAll_13 rfl rfl rfl ?_
  refine v_aload_n C dX6_passesAll_14 rfl rfl rfl ?_
  refine v_getR C (Nat.le_of_ble_eq_true rfl) rfl rfl hinX6 1 (Nat.le_of_ble_eq_true rfl) lkX6_13 rfl dX6_passesAll_15 rfl ?_
  refine v_callV C (Nat.le_of_ble_eq_true rfl) rfl rfl (As := [.ref 2]) (rest := []) (kX6_passesK 2 6 50 τ10_2 (Nat.le_of_ble_eq_true rfl) rfl (by decide) (by decide) g0.2.2.1 g0.2.2.2.1 (by decide)) rfl (Nat.le_of_ble_eq_true rfl) (Nat.le_of_ble_eq_true rfl) ⟨mlX6_153, mfX6_passes⟩ dkX6_passes (Nat.le_of_ble_eq_true rfl) dX6_passesAll_18 rfl (kV ?_)
  refine V.nm (fun υ2 eυ2 => ?_)
  have g1 : Svp σ 50 6 υ2 := by rw [eυ2]; exact Svp_pass g0 (by decide) (by decide) (blk_at σ).1
  refine v_aload_n C dX6_passesAll_21 rfl rfl rfl ?_
  refine v_aload_n C dX6_passesAll_22 rfl rfl rfl ?_
  refine v_getR C (Nat.le_of_ble_eq_true rfl) rfl rfl hinX6 2 (Nat.le_of_ble_eq_true rfl) lkX6_16 rfl dX6_passesAll_23 rfl ?_
  refine v_callV C (Nat.le_of_ble_eq_true rfl) rfl rfl (As := [.ref 3]) (rest := []) (kX6_passesK 3 3 56 υ2 (Nat.le_of_ble_eq_true rfl) rfl (by decide) (by decide) g1.2.2.1 g1.2.2.2.1 (by decide)) rfl (Nat.le_of_ble_eq_true rfl) (Nat.le_of_ble_eq_true rfl) ⟨mlX6_153, mfX6_passes⟩ dkX6_passes (Nat.le_of_ble_eq_true rfl) dX6_passesAll_26 rfl (kV ?_)
  refine V.nm (fun υ3 eυ3 => ?_)
  have g2 : Svp σ 50 9 υ3 := by rw [eυ3]; exact Svp_pass g1 (by decide) (by decide) (blk_at σ).2.1
  refine v_aload_n C dX6_passesAll_29 rfl rfl rfl ?_
  refine v_aload_n C dX6_passesAll_30 rfl rfl rfl ?_
  refine v_getR C (Nat.le_of_ble_eq_true rfl) rfl rfl hinX6 3 (Nat.le_of_ble_eq_true rfl) lkX6_19 rfl dX6_passesAll_31 rfl ?_
  refine v_callV C (Nat.le_of_ble_eq_true rfl) rfl rfl (As := [.ref 4]) (rest := []) (kX6_passesK 4 7 59 υ3 (Nat.le_of_ble_eq_true rfl) rfl (by decide) (by decide) g2.2.2.1 g2.2.2.2.1 (by decide)) rfl (Nat.le_of_ble_eq_true rfl) (Nat.le_of_ble_eq_true rfl) ⟨mlX6_153, mfX6_passes⟩ dkX6_passes (Nat.le_of_ble_eq_true rfl) dX6_passesAll_34 rfl (kV ?_)
  refine V.nm (fun υ4 eυ4 => ?_)
  have g3 : Svp σ 50 16 υ4 := by rw [eυ4]; exact Svp_pass g2 (by decide) (by decide) (blk_at σ).2.2.1
  refine v_aload_n C dX6_passesAll_37 rfl rfl rfl ?_
  refine v_aload_n C dX6_passesAll_38 rfl rfl rfl ?_
  refine v_getR C (Nat.le_of_ble_eq_true rfl) rfl rfl hinX6 4 (Nat.le_of_ble_eq_true rfl) lkX6_22 rfl dX6_passesAll_39 rfl ?_
  refine v_callV C (Nat.le_of_ble_eq_true rfl) rfl rfl (As := [.ref 5]) (rest := []) (kX6_passesK 5 7 66 υ4 (Nat.le_of_ble_eq_true rfl) rfl (by decide) (by decide) g3.2.2.1 g3.2.2.2.1 (by decide)) rfl (Nat.le_of_ble_eq_true rfl) (Nat.le_of_ble_eq_true rfl) ⟨mlX6_153, mfX6_passes⟩ dkX6_passes (Nat.le_of_ble_eq_true rfl) dX6_passesAll_42 rfl (kV ?_)
  refine V.nm (fun υ5 eυ5 => ?_)
  have g4 : Svp σ 50 23 υ5 := by rw [eυ5]; exact Svp_pass g3 (by decide) (by decide) (blk_at σ).2.2.2.1
  refine v_aload_n C dX6_passesAll_45 rfl rfl rfl ?_
  refine v_aload_n C dX6_passesAll_46 rfl rfl rfl ?_
  refine v_getR C (Nat.le_of_ble_eq_true rfl) rfl rfl hinX6 5 (Nat.le_of_ble_eq_true rfl) lkX6_25 rfl dX6_passesAll_47 rfl ?_
  refine v_callV C (Nat.le_of_ble_eq_true rfl) rfl rfl (As := [.ref 6]) (rest := []) (kX6_passesK 6 7 73 υ5 (Nat.le_of_ble_eq_true rfl) rfl (by decide) (by decide) g4.2.2.1 g4.2.2.2.1 (by decide)) rfl (Nat.le_of_ble_eq_true rfl) (Nat.le_of_ble_eq_true rfl) ⟨mlX6_153, mfX6_passes⟩ dkX6_passes (Nat.le_of_ble_eq_true rfl) dX6_passesAll_50 rfl (kV ?_)
  refine V.nm (fun υ6 eυ6 => ?_)
  have g5 : Svp σ 50 30 υ6 := by rw [eυ6]; exact Svp_pass g4 (by decide) (by decide) (blk_at σ).2.2.2.2.1
  refine v_aload_n C dX6_passesAll_53 rfl rfl rfl ?_
  refine v_aload_n C dX6_passesAll_54 rfl rfl rfl ?_
  refine v_getR C (Nat.le_of_ble_eq_true rfl) rfl rfl hinX6 6 (Nat.le_of_ble_eq_true rfl) lkX6_28 rfl dX6_passesAll_55 rfl ?_
  refine v_callV C (Nat.le_of_ble_eq_true rfl) rfl rfl (As := [.ref 7]) (rest := []) (kX6_passesK 7 7 80 υ6 (Nat.le_of_ble_eq_true rfl) rfl (by decide) (by decide) g5.2.2.1 g5.2.2.2.1 (by decide)) rfl (Nat.le_of_ble_eq_true rfl) (Nat.le_of_ble_eq_true rfl) ⟨mlX6_153, mfX6_passes⟩ dkX6_passes (Nat.le_of_ble_eq_true rfl) dX6_passesAll_58 rfl (kV ?_)
  refine V.nm (fun υ7 eυ7 => ?_)
  have g6 : Svp σ 50 37 υ7 := by rw [eυ7]; exact Svp_pass g5 (by decide) (by decide) (blk_at σ).2.2.2.2.2.1
  refine v_aload_n C dX6_passesAll_61 rfl rfl rfl ?_
  refine v_aload_n C dX6_passesAll_62 rfl rfl rfl ?_
  refine v_getR C (Nat.le_of_ble_eq_true rfl) rfl rfl hinX6 7 (Nat.le_of_ble_eq_true rfl) lkX6_31 rfl dX6_passesAll_63 rfl ?_
  refine v_callV C (Nat.le_of_ble_eq_true rfl) rfl rfl (As := [.ref 8]) (rest := []) (kX6_passesK 8 7 87 υ7 (Nat.le_of_ble_eq_true rfl) rfl (by decide) (by decide) g6.2.2.1 g6.2.2.2.1 (by decide)) rfl (Nat.le_of_ble_eq_true rfl) (Nat.le_of_ble_eq_true rfl) ⟨mlX6_153, mfX6_passes⟩ dkX6_passes (Nat.le_of_ble_eq_true rfl) dX6_passesAll_66 rfl (kV ?_)
  refine V.nm (fun υ8 eυ8 => ?_)
  have g7 : Svp σ 50 44 υ8 := by rw [eυ8]; exact Svp_pass g6 (by decide) (by decide) (blk_at σ).2.2.2.2.2.2
  refine v_aload_n C dX6_passesAll_69 rfl rfl rfl ?_
  refine v_aload_n C dX6_passesAll_70 rfl rfl rfl ?_
  refine v_aload_n C dX6_passesAll_71 rfl rfl rfl ?_
  refine v_getI C (Nat.le_of_ble_eq_true rfl) rfl rfl hinX6 8 (Nat.le_of_ble_eq_true rfl) lkX6_65 rfl dX6_passesAll_72 rfl ?_
  refine v_callV C (Nat.le_of_ble_eq_true rfl) rfl rfl (As := [.int (υ8 0 8)]) (rest := [.ref 0]) (kX6_passOneK 94 (υ8 0 8) υ8 g7.2.2.1 g7.2.2.2.1 (by decide)) rfl (Nat.le_of_ble_eq_true rfl) (Nat.le_of_ble_eq_true rfl) ⟨mlX6_157, mfX6_passOne⟩ dkX6_passOne (Nat.le_of_ble_eq_true rfl) dX6_passesAll_75 rfl (kI ?_)
  refine v_put (ty := .int) C (Nat.le_of_ble_eq_true rfl) rfl rfl hinX6 tyX6_ok nmX6 8 (Nat.le_of_ble_eq_true rfl) lkX6_65 rfl (by decide +kernel) rfl rfl rfl dX6_passesAll_78 rfl ?_
  refine V.nm (fun τ78_3 eτ78_3 => ?_)
  have g8 : Svp σ 50 45 τ78_3 := by rw [eτ78_3]; exact Svp_one g7 (g7.2.1 8 (by decide) (by decide)) (by simp [blk]) (by decide) (by decide)
  refine v_aload_n C dX6_passesAll_81 rfl rfl rfl ?_
  refine v_aload_n C dX6_passesAll_82 rfl rfl rfl ?_
  refine v_aload_n C dX6_passesAll_83 rfl rfl rfl ?_
  refine v_getI C (Nat.le_of_ble_eq_true rfl) rfl rfl hinX6 9 (Nat.le_of_ble_eq_true rfl) lkX6_61 rfl dX6_passesAll_84 rfl ?_
  refine v_callV C (Nat.le_of_ble_eq_true rfl) rfl rfl (As := [.int (τ78_3 0 9)]) (rest := [.ref 0]) (kX6_passOneK 95 (τ78_3 0 9) τ78_3 g8.2.2.1 g8.2.2.2.1 (by decide)) rfl (Nat.le_of_ble_eq_true rfl) (Nat.le_of_ble_eq_true rfl) ⟨mlX6_157, mfX6_passOne⟩ dkX6_passOne (Nat.le_of_ble_eq_true rfl) dX6_passesAll_87 rfl (kI ?_)
  refine v_put (ty := .int) C (Nat.le_of_ble_eq_true rfl) rfl rfl hinX6 tyX6_ok nmX6 9 (Nat.le_of_ble_eq_true rfl) lkX6_61 rfl (by decide +kernel) rfl rfl rfl dX6_passesAll_90 rfl ?_
  refine V.nm (fun τ90_4 eτ90_4 => ?_)
  have g9 : Svp σ 50 46 τ90_4 := by rw [eτ90_4]; exact Svp_one g8 (g8.2.1 9 (by decide) (by decide)) (by simp [blk]) (by decide) (by decide)
  refine v_aload_n C dX6_passesAll_93 rfl rfl rfl ?_
  refine v_aload_n C dX6_passesAll_94 rfl rfl rfl ?_
  refine v_aload_n C dX6_passesAll_95 rfl rfl rfl ?_
  refine v_getI C (Nat.le_of_ble_eq_true rfl) rfl rfl hinX6 10 (Nat.le_of_ble_eq_true rfl) lkX6_128 rfl dX6_passesAll_96 rfl ?_
  refine v_callV C (Nat.le_of_ble_eq_true rfl) rfl rfl (As := [.int (τ90_4 0 10)]) (rest := [.ref 0]) (kX6_passOneK 96 (τ90_4 0 10) τ90_4 g9.2.2.1 g9.2.2.2.1 (by decide)) rfl (Nat.le_of_ble_eq_true rfl) (Nat.le_of_ble_eq_true rfl) ⟨mlX6_157, mfX6_passOne⟩ dkX6_passOne (Nat.le_of_ble_eq_true rfl) dX6_passesAll_99 rfl (kI ?_)
  refine v_put (ty := .int) C (Nat.le_of_ble_eq_true rfl) rfl rfl hinX6 tyX6_ok nmX6 10 (Nat.le_of_ble_eq_true rfl) lkX6_128 rfl (by decide +kernel) rfl rfl rfl dX6_passesAll_102 rfl ?_
  refine V.nm (fun τ102_5 eτ102_5 => ?_)
  have g10 : Svp σ 50 47 τ102_5 := by rw [eτ102_5]; exact Svp_one g9 (g9.2.1 10 (by decide) (by decide)) (by simp [blk]) (by decide) (by decide)
  exact v_vret C dX6_passesAll_105 (by rw [hX]; exact ⟨rfl, g10⟩)
theorem kX6_passesAllB0 (σ : St) : Ct yX6_passesAll cX6_passesAll 3 none 1 [.ref 0, .int 0, .int 0] σ (rV (Rsp σ 0 47)) := by
  refine ct_of plX6 rfl (Nat.le_of_ble_eq_true rfl) (fun X hX C => ?_)
  show V X 0 [(0, .ref 0), (1, .int 0), (2, .int 0)] [] σ
  refine v_aload_n C dX6_passesAll_0 rfl rfl rfl ?_
  refine v_bipush (v := 50) C dX6_passesAll_1 (by decide) rfl ?_
  refine v_iload_n C dX6_passesAll_3 rfl rfl rfl ?_
  refine v_imul C dX6_passesAll_4 rfl ?_
  refine V.tp (show (50 : Int32) * 0 = 0 by decide) ?_
  refine v_put (ty := .int) C (Nat.le_of_ble_eq_true rfl) rfl rfl hinX6 tyX6_ok nmX6 21 (Nat.le_of_ble_eq_true rfl) lkX6_150 rfl (by decide +kernel) rfl rfl rfl dX6_passesAll_5 rfl ?_
  refine V.nm (fun τ5_1 eτ5_1 => ?_)
  refine v_aload_n C dX6_passesAll_8 rfl rfl rfl ?_
  refine v_iload_n C dX6_passesAll_9 rfl rfl rfl ?_
  refine v_put (ty := .boolean) C (Nat.le_of_ble_eq_true rfl) rfl rfl hinX6 tyX6_ok nmX6 20 (Nat.le_of_ble_eq_true rfl) lkX6_146 rfl (by decide +kernel) rfl rfl rfl dX6_passesAll_10 rfl ?_
  refine V.nm (fun τ10_2 eτ10_2 => ?_)
  have g0 : Rsp σ 0 0 τ10_2 := by rw [eτ10_2, eτ5_1]; exact ⟨fun a a0 _ => by rw [s2_ne a0, s2_ne a0], fun j _ _ _ j1 j2 => by rw [s2_get, s2_get, if_neg (fun q => j1 q.2), if_neg (fun q => j2 q.2)], by simp [s2_get], by simp [s2_get]; rfl, fun k _ _ => by rw [if_neg (by omega), s2_ne (by omega), s2_ne (by omega)], by simp [s2_get], by simp [s2_get], by simp [s2_get]⟩
  refine v_aload_n C dX6_passesAll_13 rfl rfl rfl ?_
  refine v_aload_n C dX6_passesAll_14 rfl rfl rfl ?_
  refine v_getR C (Nat.le_of_ble_eq_true rfl) rfl rfl hinX6 1 (Nat.le_of_ble_eq_true rfl) lkX6_13 rfl dX6_passesAll_15 rfl ?_
  refine v_callV C (Nat.le_of_ble_eq_true rfl) rfl rfl (As := [.ref 2]) (rest := []) (kX6_passesB 2 6 0 τ10_2 (Nat.le_of_ble_eq_true rfl) rfl (by decide) (by decide) g0.2.2.1 g0.2.2.2.1 (by decide)) rfl (Nat.le_of_ble_eq_true rfl) (Nat.le_of_ble_eq_true rfl) ⟨mlX6_153, mfX6_passes⟩ dkX6_passes (Nat.le_of_ble_eq_true rfl) dX6_passesAll_18 rfl (kV ?_)
  refine V.nm (fun υ2 eυ2 => ?_)
  have g1 : Rsp σ 0 6 υ2 := by rw [eυ2]; exact Rsp_pass (k := 2) (N := 6) g0 (by decide) (by decide) rfl rfl (by intro q a b e; have h : ∀ q, q < 9 → 2 ≤ q → q ≠ 2 → (offR q < 0 ↔ offR q < 0 + 6) := (by decide); exact h q (by omega) a e) (by decide) (by decide)
  refine v_aload_n C dX6_passesAll_21 rfl rfl rfl ?_
  refine v_aload_n C dX6_passesAll_22 rfl rfl rfl ?_
  refine v_getR C (Nat.le_of_ble_eq_true rfl) rfl rfl hinX6 2 (Nat.le_of_ble_eq_true rfl) lkX6_16 rfl dX6_passesAll_23 rfl ?_
  refine v_callV C (Nat.le_of_ble_eq_true rfl) rfl rfl (As := [.ref 3]) (rest := []) (kX6_passesB 3 3 6 υ2 (Nat.le_of_ble_eq_true rfl) rfl (by decide) (by decide) g1.2.2.1 g1.2.2.2.1 (by decide)) rfl (Nat.le_of_ble_eq_true rfl) (Nat.le_of_ble_eq_true rfl) ⟨mlX6_153, mfX6_passes⟩ dkX6_passes (Nat.le_of_ble_eq_true rfl) dX6_passesAll_26 rfl (kV ?_)
  refine V.nm (fun υ3 eυ3 => ?_)
  have g2 : Rsp σ 0 9 υ3 := by rw [eυ3]; exact Rsp_pass (k := 3) (N := 3) g1 (by decide) (by decide) rfl rfl (by intro q a b e; have h : ∀ q, q < 9 → 2 ≤ q → q ≠ 3 → (offR q < 6 ↔ offR q < 6 + 3) := (by decide); exact h q (by omega) a e) (by decide) (by decide)
  refine v_aload_n C dX6_passesAll_29 rfl rfl rfl ?_
  refine v_aload_n C dX6_passesAll_30 rfl rfl rfl ?_
  refine v_getR C (Nat.le_of_ble_eq_true rfl) rfl rfl hinX6 3 (Nat.le_of_ble_eq_true rfl) lkX6_19 rfl dX6_passesAll_31 rfl ?_
  refine v_callV C (Nat.le_of_ble_eq_true rfl) rfl rfl (As := [.ref 4]) (rest := []) (kX6_passesB 4 7 9 υ3 (Nat.le_of_ble_eq_true rfl) rfl (by decide) (by decide) g2.2.2.1 g2.2.2.2.1 (by decide)) rfl (Nat.le_of_ble_eq_true rfl) (Nat.le_of_ble_eq_true rfl) ⟨mlX6_153, mfX6_passes⟩ dkX6_passes (Nat.le_of_ble_eq_true rfl) dX6_passesAll_34 rfl (kV ?_)
  refine V.nm (fun υ4 eυ4 => ?_)
  have g3 : Rsp σ 0 16 υ4 := by rw [eυ4]; exact Rsp_pass (k := 4) (N := 7) g2 (by decide) (by decide) rfl rfl (by intro q a b e; have h : ∀ q, q < 9 → 2 ≤ q → q ≠ 4 → (offR q < 9 ↔ offR q < 9 + 7) := (by decide); exact h q (by omega) a e) (by decide) (by decide)
  refine v_aload_n C dX6_passesAll_37 rfl rfl rfl ?_
  refine v_aload_n C dX6_passesAll_38 rfl rfl rfl ?_
  refine v_getR C (Nat.le_of_ble_eq_true rfl) rfl rfl hinX6 4 (Nat.le_of_ble_eq_true rfl) lkX6_22 rfl dX6_passesAll_39 rfl ?_
  refine v_callV C (Nat.le_of_ble_eq_true rfl) rfl rfl (As := [.ref 5]) (rest := []) (kX6_passesB 5 7 16 υ4 (Nat.le_of_ble_eq_true rfl) rfl (by decide) (by decide) g3.2.2.1 g3.2.2.2.1 (by decide)) rfl (Nat.le_of_ble_eq_true rfl) (Nat.le_of_ble_eq_true rfl) ⟨mlX6_153, mfX6_passes⟩ dkX6_passes (Nat.le_of_ble_eq_true rfl) dX6_passesAll_42 rfl (kV ?_)
  refine V.nm (fun υ5 eυ5 => ?_)
  have g4 : Rsp σ 0 23 υ5 := by rw [eυ5]; exact Rsp_pass (k := 5) (N := 7) g3 (by decide) (by decide) rfl rfl (by intro q a b e; have h : ∀ q, q < 9 → 2 ≤ q → q ≠ 5 → (offR q < 16 ↔ offR q < 16 + 7) := (by decide); exact h q (by omega) a e) (by decide) (by decide)
  refine v_aload_n C dX6_passesAll_45 rfl rfl rfl ?_
  refine v_aload_n C dX6_passesAll_46 rfl rfl rfl ?_
  refine v_getR C (Nat.le_of_ble_eq_true rfl) rfl rfl hinX6 5 (Nat.le_of_ble_eq_true rfl) lkX6_25 rfl dX6_passesAll_47 rfl ?_
  refine v_callV C (Nat.le_of_ble_eq_true rfl) rfl rfl (As := [.ref 6]) (rest := []) (kX6_passesB 6 7 23 υ5 (Nat.le_of_ble_eq_true rfl) rfl (by decide) (by decide) g4.2.2.1 g4.2.2.2.1 (by decide)) rfl (Nat.le_of_ble_eq_true rfl) (Nat.le_of_ble_eq_true rfl) ⟨mlX6_153, mfX6_passes⟩ dkX6_passes (Nat.le_of_ble_eq_true rfl) dX6_passesAll_50 rfl (kV ?_)
  refine V.nm (fun υ6 eυ6 => ?_)
  have g5 : Rsp σ 0 30 υ6 := by rw [eυ6]; exact Rsp_pass (k := 6) (N := 7) g4 (by decide) (by decide) rfl rfl (by intro q a b e; have h : ∀ q, q < 9 → 2 ≤ q → q ≠ 6 → (offR q < 23 ↔ offR q < 23 + 7) := (by decide); exact h q (by omega) a e) (by decide) (by decide)
  refine v_aload_n C dX6_passesAll_53 rfl rfl rfl ?_
  refine v_aload_n C dX6_passesAll_54 rfl rfl rfl ?_
  refine v_getR C (Nat.le_of_ble_eq_true rfl) rfl rfl hinX6 6 (Nat.le_of_ble_eq_true rfl) lkX6_28 rfl dX6_passesAll_55 rfl ?_
  refine v_callV C (Nat.le_of_ble_eq_true rfl) rfl rfl (As := [.ref 7]) (rest := []) (kX6_passesB 7 7 30 υ6 (Nat.le_of_ble_eq_true rfl) rfl (by decide) (by decide) g5.2.2.1 g5.2.2.2.1 (by decide)) rfl (Nat.le_of_ble_eq_true rfl) (Nat.le_of_ble_eq_true rfl) ⟨mlX6_153, mfX6_passes⟩ dkX6_passes (Nat.le_of_ble_eq_true rfl) dX6_passesAll_58 rfl (kV ?_)
  refine V.nm (fun υ7 eυ7 => ?_)
  have g6 : Rsp σ 0 37 υ7 := by rw [eυ7]; exact Rsp_pass (k := 7) (N := 7) g5 (by decide) (by decide) rfl rfl (by intro q a b e; have h : ∀ q, q < 9 → 2 ≤ q → q ≠ 7 → (offR q < 30 ↔ offR q < 30 + 7) := (by decide); exact h q (by omega) a e) (by decide) (by decide)
  refine v_aload_n C dX6_passesAll_61 rfl rfl rfl ?_
  refine v_aload_n C dX6_passesAll_62 rfl rfl rfl ?_
  refine v_getR C (Nat.le_of_ble_eq_true rfl) rfl rfl hinX6 7 (Nat.le_of_ble_eq_true rfl) lkX6_31 rfl dX6_passesAll_63 rfl ?_
  refine v_callV C (Nat.le_of_ble_eq_true rfl) rfl rfl (As := [.ref 8]) (rest := []) (kX6_passesB 8 7 37 υ7 (Nat.le_of_ble_eq_true rfl) rfl (by decide) (by decide) g6.2.2.1 g6.2.2.2.1 (by decide)) rfl (Nat.le_of_ble_eq_true rfl) (Nat.le_of_ble_eq_true rfl) ⟨mlX6_153, mfX6_passes⟩ dkX6_passes (Nat.le_of_ble_eq_true rfl) dX6_passesAll_66 rfl (kV ?_)
  refine V.nm (fun υ8 eυ8 => ?_)
  have g7 : Rsp σ 0 44 υ8 := by rw [eυ8]; exact Rsp_pass (k := 8) (N := 7) g6 (by decide) (by decide) rfl rfl (by intro q a b e; have h : ∀ q, q < 9 → 2 ≤ q → q ≠ 8 → (offR q < 37 ↔ offR q < 37 + 7) := (by decide); exact h q (by omega) a e) (by decide) (by decide)
  refine v_aload_n C dX6_passesAll_69 rfl rfl rfl ?_
  refine v_aload_n C dX6_passesAll_70 rfl rfl rfl ?_
  refine v_aload_n C dX6_passesAll_71 rfl rfl rfl ?_
  refine v_getI C (Nat.le_of_ble_eq_true rfl) rfl rfl hinX6 8 (Nat.le_of_ble_eq_true rfl) lkX6_65 rfl dX6_passesAll_72 rfl ?_
  refine v_callV C (Nat.le_of_ble_eq_true rfl) rfl rfl (As := [.int (υ8 0 8)]) (rest := [.ref 0]) (kX6_passOneB 44 (υ8 0 8) υ8 g7.2.2.1 g7.2.2.2.1 (by decide)) rfl (Nat.le_of_ble_eq_true rfl) (Nat.le_of_ble_eq_true rfl) ⟨mlX6_157, mfX6_passOne⟩ dkX6_passOne (Nat.le_of_ble_eq_true rfl) dX6_passesAll_75 rfl (kI ?_)
  refine v_put (ty := .int) C (Nat.le_of_ble_eq_true rfl) rfl rfl hinX6 tyX6_ok nmX6 8 (Nat.le_of_ble_eq_true rfl) lkX6_65 rfl (by decide +kernel) rfl rfl rfl dX6_passesAll_78 rfl ?_
  refine V.nm (fun τ78_3 eτ78_3 => ?_)
  have g8 : Rsp σ 0 45 τ78_3 := by rw [eτ78_3]; exact Rsp_one g7 (by rw [g7.1 13 (by decide) (by decide)]) (by decide)
  refine v_aload_n C dX6_passesAll_81 rfl rfl rfl ?_
  refine v_aload_n C dX6_passesAll_82 rfl rfl rfl ?_
  refine v_aload_n C dX6_passesAll_83 rfl rfl rfl ?_
  refine v_getI C (Nat.le_of_ble_eq_true rfl) rfl rfl hinX6 9 (Nat.le_of_ble_eq_true rfl) lkX6_61 rfl dX6_passesAll_84 rfl ?_
  refine v_callV C (Nat.le_of_ble_eq_true rfl) rfl rfl (As := [.int (τ78_3 0 9)]) (rest := [.ref 0]) (kX6_passOneB 45 (τ78_3 0 9) τ78_3 g8.2.2.1 g8.2.2.2.1 (by decide)) rfl (Nat.le_of_ble_eq_true rfl) (Nat.le_of_ble_eq_true rfl) ⟨mlX6_157, mfX6_passOne⟩ dkX6_passOne (Nat.le_of_ble_eq_true rfl) dX6_passesAll_87 rfl (kI ?_)
  refine v_put (ty := .int) C (Nat.le_of_ble_eq_true rfl) rfl rfl hinX6 tyX6_ok nmX6 9 (Nat.le_of_ble_eq_true rfl) lkX6_61 rfl (by decide +kernel) rfl rfl rfl dX6_passesAll_90 rfl ?_
  refine V.nm (fun τ90_4 eτ90_4 => ?_)
  have g9 : Rsp σ 0 46 τ90_4 := by rw [eτ90_4]; exact Rsp_one g8 (by rw [g8.1 13 (by decide) (by decide)]) (by decide)
  refine v_aload_n C dX6_passesAll_93 rfl rfl rfl ?_
  refine v_aload_n C dX6_passesAll_94 rfl rfl rfl ?_
  refine v_aload_n C dX6_passesAll_95 rfl rfl rfl ?_
  refine v_getI C (Nat.le_of_ble_eq_true rfl) rfl rfl hinX6 10 (Nat.le_of_ble_eq_true rfl) lkX6_128 rfl dX6_passesAll_96 rfl ?_
  refine v_callV C (Nat.le_of_ble_eq_true rfl) rfl rfl (As := [.int (τ90_4 0 10)]) (rest := [.ref 0]) (kX6_passOneB 46 (τ90_4 0 10) τ90_4 g9.2.2.1 g9.2.2.2.1 (by decide)) rfl (Nat.le_of_ble_eq_true rfl) (Nat.le_of_ble_eq_true rfl) ⟨mlX6_157, mfX6_passOne⟩ dkX6_passOne (Nat.le_of_ble_eq_true rfl) dX6_passesAll_99 rfl (kI ?_)
  refine v_put (ty := .int) C (Nat.le_of_ble_eq_true rfl) rfl rfl hinX6 tyX6_ok nmX6 10 (Nat.le_of_ble_eq_true rfl) lkX6_128 rfl (by decide +kernel) rfl rfl rfl dX6_passesAll_102 rfl ?_
  refine V.nm (fun τ102_5 eτ102_5 => ?_)
  have g10 : Rsp σ 0 47 τ102_5 := by rw [eτ102_5]; exact Rsp_one g9 (by rw [g9.1 13 (by decide) (by decide)]) (by decide)
  exact v_vret C dX6_passesAll_105 (by rw [hX]; exact ⟨rfl, g10⟩)
theorem kX6_passesAllB1 (σ : St) : Ct yX6_passesAll cX6_passesAll 3 none 1 [.ref 0, .int 1, .int 0] σ (rV (Rsp σ 50 47)) := by
  refine ct_of plX6 rfl (Nat.le_of_ble_eq_true rfl) (fun X hX C => ?_)
  show V X 0 [(0, .ref 0), (1, .int 1), (2, .int 0)] [] σ
  refine v_aload_n C dX6_passesAll_0 rfl rfl rfl ?_
  refine v_bipush (v := 50) C dX6_passesAll_1 (by decide) rfl ?_
  refine v_iload_n C dX6_passesAll_3 rfl rfl rfl ?_
  refine v_imul C dX6_passesAll_4 rfl ?_
  refine V.tp (show (50 : Int32) * 1 = 50 by decide) ?_
  refine v_put (ty := .int) C (Nat.le_of_ble_eq_true rfl) rfl rfl hinX6 tyX6_ok nmX6 21 (Nat.le_of_ble_eq_true rfl) lkX6_150 rfl (by decide +kernel) rfl rfl rfl dX6_passesAll_5 rfl ?_
  refine V.nm (fun τ5_1 eτ5_1 => ?_)
  refine v_aload_n C dX6_passesAll_8 rfl rfl rfl ?_
  refine v_iload_n C dX6_passesAll_9 rfl rfl rfl ?_
  refine v_put (ty := .boolean) C (Nat.le_of_ble_eq_true rfl) rfl rfl hinX6 tyX6_ok nmX6 20 (Nat.le_of_ble_eq_true rfl) lkX6_146 rfl (by decide +kernel) rfl rfl rfl dX6_passesAll_10 rfl ?_
  refine V.nm (fun τ10_2 eτ10_2 => ?_)
  have g0 : Rsp σ 50 0 τ10_2 := by rw [eτ10_2, eτ5_1]; exact ⟨fun a a0 _ => by rw [s2_ne a0, s2_ne a0], fun j _ _ _ j1 j2 => by rw [s2_get, s2_get, if_neg (fun q => j1 q.2), if_neg (fun q => j2 q.2)], by simp [s2_get], by simp [s2_get]; rfl, fun k _ _ => by rw [if_neg (by omega), s2_ne (by omega), s2_ne (by omega)], by simp [s2_get], by simp [s2_get], by simp [s2_get]⟩
  refine v_aload_n C dX6_passesAll_13 rfl rfl rfl ?_
  refine v_aload_n C dX6_passesAll_14 rfl rfl rfl ?_
  refine v_getR C (Nat.le_of_ble_eq_true rfl) rfl rfl hinX6 1 (Nat.le_of_ble_eq_true rfl) lkX6_13 rfl dX6_passesAll_15 rfl ?_
  refine v_callV C (Nat.le_of_ble_eq_true rfl) rfl rfl (As := [.ref 2]) (rest := []) (kX6_passesB 2 6 50 τ10_2 (Nat.le_of_ble_eq_true rfl) rfl (by decide) (by decide) g0.2.2.1 g0.2.2.2.1 (by decide)) rfl (Nat.le_of_ble_eq_true rfl) (Nat.le_of_ble_eq_true rfl) ⟨mlX6_153, mfX6_passes⟩ dkX6_passes (Nat.le_of_ble_eq_true rfl) dX6_passesAll_18 rfl (kV ?_)
  refine V.nm (fun υ2 eυ2 => ?_)
  have g1 : Rsp σ 50 6 υ2 := by rw [eυ2]; exact Rsp_pass (k := 2) (N := 6) g0 (by decide) (by decide) rfl rfl (by intro q a b e; have h : ∀ q, q < 9 → 2 ≤ q → q ≠ 2 → (offR q < 0 ↔ offR q < 0 + 6) := (by decide); exact h q (by omega) a e) (by decide) (by decide)
  refine v_aload_n C dX6_passesAll_21 rfl rfl rfl ?_
  refine v_aload_n C dX6_passesAll_22 rfl rfl rfl ?_
  refine v_getR C (Nat.le_of_ble_eq_true rfl) rfl rfl hinX6 2 (Nat.le_of_ble_eq_true rfl) lkX6_16 rfl dX6_passesAll_23 rfl ?_
  refine v_callV C (Nat.le_of_ble_eq_true rfl) rfl rfl (As := [.ref 3]) (rest := []) (kX6_passesB 3 3 56 υ2 (Nat.le_of_ble_eq_true rfl) rfl (by decide) (by decide) g1.2.2.1 g1.2.2.2.1 (by decide)) rfl (Nat.le_of_ble_eq_true rfl) (Nat.le_of_ble_eq_true rfl) ⟨mlX6_153, mfX6_passes⟩ dkX6_passes (Nat.le_of_ble_eq_true rfl) dX6_passesAll_26 rfl (kV ?_)
  refine V.nm (fun υ3 eυ3 => ?_)
  have g2 : Rsp σ 50 9 υ3 := by rw [eυ3]; exact Rsp_pass (k := 3) (N := 3) g1 (by decide) (by decide) rfl rfl (by intro q a b e; have h : ∀ q, q < 9 → 2 ≤ q → q ≠ 3 → (offR q < 6 ↔ offR q < 6 + 3) := (by decide); exact h q (by omega) a e) (by decide) (by decide)
  refine v_aload_n C dX6_passesAll_29 rfl rfl rfl ?_
  refine v_aload_n C dX6_passesAll_30 rfl rfl rfl ?_
  refine v_getR C (Nat.le_of_ble_eq_true rfl) rfl rfl hinX6 3 (Nat.le_of_ble_eq_true rfl) lkX6_19 rfl dX6_passesAll_31 rfl ?_
  refine v_callV C (Nat.le_of_ble_eq_true rfl) rfl rfl (As := [.ref 4]) (rest := []) (kX6_passesB 4 7 59 υ3 (Nat.le_of_ble_eq_true rfl) rfl (by decide) (by decide) g2.2.2.1 g2.2.2.2.1 (by decide)) rfl (Nat.le_of_ble_eq_true rfl) (Nat.le_of_ble_eq_true rfl) ⟨mlX6_153, mfX6_passes⟩ dkX6_passes (Nat.le_of_ble_eq_true rfl) dX6_passesAll_34 rfl (kV ?_)
  refine V.nm (fun υ4 eυ4 => ?_)
  have g3 : Rsp σ 50 16 υ4 := by rw [eυ4]; exact Rsp_pass (k := 4) (N := 7) g2 (by decide) (by decide) rfl rfl (by intro q a b e; have h : ∀ q, q < 9 → 2 ≤ q → q ≠ 4 → (offR q < 9 ↔ offR q < 9 + 7) := (by decide); exact h q (by omega) a e) (by decide) (by decide)
  refine v_aload_n C dX6_passesAll_37 rfl rfl rfl ?_
  refine v_aload_n C dX6_passesAll_38 rfl rfl rfl ?_
  refine v_getR C (Nat.le_of_ble_eq_true rfl) rfl rfl hinX6 4 (Nat.le_of_ble_eq_true rfl) lkX6_22 rfl dX6_passesAll_39 rfl ?_
  refine v_callV C (Nat.le_of_ble_eq_true rfl) rfl rfl (As := [.ref 5]) (rest := []) (kX6_passesB 5 7 66 υ4 (Nat.le_of_ble_eq_true rfl) rfl (by decide) (by decide) g3.2.2.1 g3.2.2.2.1 (by decide)) rfl (Nat.le_of_ble_eq_true rfl) (Nat.le_of_ble_eq_true rfl) ⟨mlX6_153, mfX6_passes⟩ dkX6_passes (Nat.le_of_ble_eq_true rfl) dX6_passesAll_42 rfl (kV ?_)
  refine V.nm (fun υ5 eυ5 => ?_)
  have g4 : Rsp σ 50 23 υ5 := by rw [eυ5]; exact Rsp_pass (k := 5) (N := 7) g3 (by decide) (by decide) rfl rfl (by intro q a b e; have h : ∀ q, q < 9 → 2 ≤ q → q ≠ 5 → (offR q < 16 ↔ offR q < 16 + 7) := (by decide); exact h q (by omega) a e) (by decide) (by decide)
  refine v_aload_n C dX6_passesAll_45 rfl rfl rfl ?_
  refine v_aload_n C dX6_passesAll_46 rfl rfl rfl ?_
  refine v_getR C (Nat.le_of_ble_eq_true rfl) rfl rfl hinX6 5 (Nat.le_of_ble_eq_true rfl) lkX6_25 rfl dX6_passesAll_47 rfl ?_
  refine v_callV C (Nat.le_of_ble_eq_true rfl) rfl rfl (As := [.ref 6]) (rest := []) (kX6_passesB 6 7 73 υ5 (Nat.le_of_ble_eq_true rfl) rfl (by decide) (by decide) g4.2.2.1 g4.2.2.2.1 (by decide)) rfl (Nat.le_of_ble_eq_true rfl) (Nat.le_of_ble_eq_true rfl) ⟨mlX6_153, mfX6_passes⟩ dkX6_passes (Nat.le_of_ble_eq_true rfl) dX6_passesAll_50 rfl (kV ?_)
  refine V.nm (fun υ6 eυ6 => ?_)
  have g5 : Rsp σ 50 30 υ6 := by rw [eυ6]; exact Rsp_pass (k := 6) (N := 7) g4 (by decide) (by decide) rfl rfl (by intro q a b e; have h : ∀ q, q < 9 → 2 ≤ q → q ≠ 6 → (offR q < 23 ↔ offR q < 23 + 7) := (by decide); exact h q (by omega) a e) (by decide) (by decide)
  refine v_aload_n C dX6_passesAll_53 rfl rfl rfl ?_
  refine v_aload_n C dX6_passesAll_54 rfl rfl rfl ?_
  refine v_getR C (Nat.le_of_ble_eq_true rfl) rfl rfl hinX6 6 (Nat.le_of_ble_eq_true rfl) lkX6_28 rfl dX6_passesAll_55 rfl ?_
  refine v_callV C (Nat.le_of_ble_eq_true rfl) rfl rfl (As := [.ref 7]) (rest := []) (kX6_passesB 7 7 80 υ6 (Nat.le_of_ble_eq_true rfl) rfl (by decide) (by decide) g5.2.2.1 g5.2.2.2.1 (by decide)) rfl (Nat.le_of_ble_eq_true rfl) (Nat.le_of_ble_eq_true rfl) ⟨mlX6_153, mfX6_passes⟩ dkX6_passes (Nat.le_of_ble_eq_true rfl) dX6_passesAll_58 rfl (kV ?_)
  refine V.nm (fun υ7 eυ7 => ?_)
  have g6 : Rsp σ 50 37 υ7 := by rw [eυ7]; exact Rsp_pass (k := 7) (N := 7) g5 (by decide) (by decide) rfl rfl (by intro q a b e; have h : ∀ q, q < 9 → 2 ≤ q → q ≠ 7 → (offR q < 30 ↔ offR q < 30 + 7) := (by decide); exact h q (by omega) a e) (by decide) (by decide)
  refine v_aload_n C dX6_passesAll_61 rfl rfl rfl ?_
  refine v_aload_n C dX6_passesAll_62 rfl rfl rfl ?_
  refine v_getR C (Nat.le_of_ble_eq_true rfl) rfl rfl hinX6 7 (Nat.le_of_ble_eq_true rfl) lkX6_31 rfl dX6_passesAll_63 rfl ?_
  refine v_callV C (Nat.le_of_ble_eq_true rfl) rfl rfl (As := [.ref 8]) (rest := []) (kX6_passesB 8 7 87 υ7 (Nat.le_of_ble_eq_true rfl) rfl (by decide) (by decide) g6.2.2.1 g6.2.2.2.1 (by decide)) rfl (Nat.le_of_ble_eq_true rfl) (Nat.le_of_ble_eq_true rfl) ⟨mlX6_153, mfX6_passes⟩ dkX6_passes (Nat.le_of_ble_eq_true rfl) dX6_passesAll_66 rfl (kV ?_)
  refine V.nm (fun υ8 eυ8 => ?_)
  have g7 : Rsp σ 50 44 υ8 := by rw [eυ8]; exact Rsp_pass (k := 8) (N := 7) g6 (by decide) (by decide) rfl rfl (by intro q a b e; have h : ∀ q, q < 9 → 2 ≤ q → q ≠ 8 → (offR q < 37 ↔ offR q < 37 + 7) := (by decide); exact h q (by omega) a e) (by decide) (by decide)
  refine v_aload_n C dX6_passesAll_69 rfl rfl rfl ?_
  refine v_aload_n C dX6_passesAll_70 rfl rfl rfl ?_
  refine v_aload_n C dX6_passesAll_71 rfl rfl rfl ?_
  refine v_getI C (Nat.le_of_ble_eq_true rfl) rfl rfl hinX6 8 (Nat.le_of_ble_eq_true rfl) lkX6_65 rfl dX6_passesAll_72 rfl ?_
  refine v_callV C (Nat.le_of_ble_eq_true rfl) rfl rfl (As := [.int (υ8 0 8)]) (rest := [.ref 0]) (kX6_passOneB 94 (υ8 0 8) υ8 g7.2.2.1 g7.2.2.2.1 (by decide)) rfl (Nat.le_of_ble_eq_true rfl) (Nat.le_of_ble_eq_true rfl) ⟨mlX6_157, mfX6_passOne⟩ dkX6_passOne (Nat.le_of_ble_eq_true rfl) dX6_passesAll_75 rfl (kI ?_)
  refine v_put (ty := .int) C (Nat.le_of_ble_eq_true rfl) rfl rfl hinX6 tyX6_ok nmX6 8 (Nat.le_of_ble_eq_true rfl) lkX6_65 rfl (by decide +kernel) rfl rfl rfl dX6_passesAll_78 rfl ?_
  refine V.nm (fun τ78_3 eτ78_3 => ?_)
  have g8 : Rsp σ 50 45 τ78_3 := by rw [eτ78_3]; exact Rsp_one g7 (by rw [g7.1 13 (by decide) (by decide)]) (by decide)
  refine v_aload_n C dX6_passesAll_81 rfl rfl rfl ?_
  refine v_aload_n C dX6_passesAll_82 rfl rfl rfl ?_
  refine v_aload_n C dX6_passesAll_83 rfl rfl rfl ?_
  refine v_getI C (Nat.le_of_ble_eq_true rfl) rfl rfl hinX6 9 (Nat.le_of_ble_eq_true rfl) lkX6_61 rfl dX6_passesAll_84 rfl ?_
  refine v_callV C (Nat.le_of_ble_eq_true rfl) rfl rfl (As := [.int (τ78_3 0 9)]) (rest := [.ref 0]) (kX6_passOneB 95 (τ78_3 0 9) τ78_3 g8.2.2.1 g8.2.2.2.1 (by decide)) rfl (Nat.le_of_ble_eq_true rfl) (Nat.le_of_ble_eq_true rfl) ⟨mlX6_157, mfX6_passOne⟩ dkX6_passOne (Nat.le_of_ble_eq_true rfl) dX6_passesAll_87 rfl (kI ?_)
  refine v_put (ty := .int) C (Nat.le_of_ble_eq_true rfl) rfl rfl hinX6 tyX6_ok nmX6 9 (Nat.le_of_ble_eq_true rfl) lkX6_61 rfl (by decide +kernel) rfl rfl rfl dX6_passesAll_90 rfl ?_
  refine V.nm (fun τ90_4 eτ90_4 => ?_)
  have g9 : Rsp σ 50 46 τ90_4 := by rw [eτ90_4]; exact Rsp_one g8 (by rw [g8.1 13 (by decide) (by decide)]) (by decide)
  refine v_aload_n C dX6_passesAll_93 rfl rfl rfl ?_
  refine v_aload_n C dX6_passesAll_94 rfl rfl rfl ?_
  refine v_aload_n C dX6_passesAll_95 rfl rfl rfl ?_
  refine v_getI C (Nat.le_of_ble_eq_true rfl) rfl rfl hinX6 10 (Nat.le_of_ble_eq_true rfl) lkX6_128 rfl dX6_passesAll_96 rfl ?_
  refine v_callV C (Nat.le_of_ble_eq_true rfl) rfl rfl (As := [.int (τ90_4 0 10)]) (rest := [.ref 0]) (kX6_passOneB 96 (τ90_4 0 10) τ90_4 g9.2.2.1 g9.2.2.2.1 (by decide)) rfl (Nat.le_of_ble_eq_true rfl) (Nat.le_of_ble_eq_true rfl) ⟨mlX6_157, mfX6_passOne⟩ dkX6_passOne (Nat.le_of_ble_eq_true rfl) dX6_passesAll_99 rfl (kI ?_)
  refine v_put (ty := .int) C (Nat.le_of_ble_eq_true rfl) rfl rfl hinX6 tyX6_ok nmX6 10 (Nat.le_of_ble_eq_true rfl) lkX6_128 rfl (by decide +kernel) rfl rfl rfl dX6_passesAll_102 rfl ?_
  refine V.nm (fun τ102_5 eτ102_5 => ?_)
  have g10 : Rsp σ 50 47 τ102_5 := by rw [eτ102_5]; exact Rsp_one g9 (by rw [g9.1 13 (by decide) (by decide)]) (by decide)
  exact v_vret C dX6_passesAll_105 (by rw [hX]; exact ⟨rfl, g10⟩)
