/-! the class: choice, its call -/
theorem sho_ch {σ τ : St} {n q : Nat} {v : Int32} (h : chI σ τ n q n) (q4 : q ≤ 4) : shoA (τ 53) q v = cI (pieceP v (nI q)) (chS (fun _ => 0) (blH σ 19 n) n q n (tn v)) (-9) := by
  rw [shoA]
  by_cases p : pieceP v (nI q)
  · rw [cI_t p, cI_t p]; exact h.2.2.2.2.2.1 _ (by have := (piece_nat (by omega) p).2; omega)
  · rw [cI_f p, cI_f p]
theorem kX5_choice (v : Int32) (n : Nat) (σ : St) (hn : σ 19 7 = nI n) (h7 : n ≤ 7) (q : Nat) (hq : σ 19 8 = nI q) (q2 : 2 ≤ q) (q4 : q ≤ 4) : Ct yX5_choice cX5_choice 2 (some .int) 5 [.ref 18, .int v] σ (rI (fun r τ => r = choH σ n q v ∧ ((¬ alP v (nI q) ∧ τ = ansS σ (if v < -1 then -4 else -1)) ∨ (alP v (nI q) ∧ Shk σ τ)))) := by
  refine ct_of plX5 rfl (Nat.le_of_ble_eq_true rfl) (fun X hX C => ?_)
  show V X 0 [(0, .ref 18), (1, .int v)] [] σ
  refine v_iload_n C dX5_choice_0 rfl rfl rfl ?_
  refine v_aload_n C dX5_choice_1 rfl rfl rfl ?_
  refine v_getR C (Nat.le_of_ble_eq_true rfl) rfl rfl hinX5 0 (Nat.le_of_ble_eq_true rfl) lkX5_10 rfl dX5_choice_2 rfl ?_
  refine v_getNI C hh19.l0 hh19.s0 rfl hinX0 8 (Nat.le_of_ble_eq_true rfl) lkX5_155 rfl dX5_choice_5 rfl ?_
  refine V.tp hq ?_
  refine v_callS C (As := [.int v, .int (nI q)]) (rest := []) (kX5_isAllOrOneOf v (nI q) σ) rfl (Nat.le_of_ble_eq_true rfl) (Nat.le_of_ble_eq_true rfl) ⟨mlX5_137, mfX5_isAllOrOneOf⟩ dkX5_isAllOrOneOf (Nat.le_of_ble_eq_true rfl) dX5_choice_8 rfl (kI ?_)
  refine v_if_ne (tgt := 23) C dX5_choice_11 (by decide) rfl (fun c11 => ?_) (fun c11 => ?_)
  · skip
    have c11 := bI_n c11
    refine v_aload_n C dX5_choice_23 rfl rfl rfl ?_
    refine v_getR C (Nat.le_of_ble_eq_true rfl) rfl rfl hinX5 7 (Nat.le_of_ble_eq_true rfl) lkX5_52 rfl dX5_choice_24 rfl ?_
    refine v_aload_n C dX5_choice_27 rfl rfl rfl ?_
    refine v_getR C (Nat.le_of_ble_eq_true rfl) rfl rfl hinX5 0 (Nat.le_of_ble_eq_true rfl) lkX5_10 rfl dX5_choice_28 rfl ?_
    refine v_callVN C (Nat.le_of_ble_eq_true rfl) rfl rfl (As := [.ref 19]) (rest := []) (kX3_chooseInTurn n q σ hn h7 hq q2 q4) rfl (Nat.le_of_ble_eq_true rfl) (Nat.le_of_ble_eq_true rfl) ⟨mlX5_158, mfX3_chooseInTurn⟩ dkX3_chooseInTurn (Nat.le_of_ble_eq_true rfl) dX5_choice_31 rfl (krV (fun τ hD => ?_))
    refine v_iload_n C dX5_choice_34 rfl rfl rfl ?_
    refine v_iconst (v := -1) C dX5_choice_35 (by decide) rfl ?_
    refine v_icmp_ne (tgt := 49) C dX5_choice_36 (by decide) rfl (fun c36 => ?_) (fun c36 => ?_)
    · skip
      refine v_aload_n C dX5_choice_49 rfl rfl rfl ?_
      refine v_getR C (Nat.le_of_ble_eq_true rfl) rfl rfl hinX5 7 (Nat.le_of_ble_eq_true rfl) lkX5_52 rfl dX5_choice_50 rfl ?_
      refine v_iload_n C dX5_choice_53 rfl rfl rfl ?_
      refine v_callVN C (Nat.le_of_ble_eq_true rfl) rfl rfl (As := [.int v]) (rest := []) (kX3_shareOf v q τ hD.2.1 q2 q4) rfl (Nat.le_of_ble_eq_true rfl) (Nat.le_of_ble_eq_true rfl) ⟨mlX5_164, mfX3_shareOf⟩ dkX3_shareOf (Nat.le_of_ble_eq_true rfl) dX5_choice_54 rfl (kI ?_)
      exact v_iret C dX5_choice_57 (by rw [hX]; exact ⟨_, rfl, by rw [choH, cI_t c11, if_neg c36, sho_ch hD q4], Or.inr ⟨c11, hD.2.2.2.2.2.2⟩⟩)
    · skip
      refine v_aload_n C dX5_choice_39 rfl rfl rfl ?_
      refine v_getR C (Nat.le_of_ble_eq_true rfl) rfl rfl hinX5 7 (Nat.le_of_ble_eq_true rfl) lkX5_52 rfl dX5_choice_40 rfl ?_
      refine v_getNI C (Nat.le_of_ble_eq_true rfl) rfl rfl hinX3 8 (Nat.le_of_ble_eq_true rfl) lkX5_161 rfl dX5_choice_43 rfl ?_
      refine v_goto (tgt := 57) C dX5_choice_46 (by decide) ?_
      exact v_iret C dX5_choice_57 (by rw [hX]; exact ⟨_, rfl, by rw [choH, cI_t c11, if_pos c36]; exact hD.2.2.1, Or.inr ⟨c11, hD.2.2.2.2.2.2⟩⟩)
  · skip
    have c11 := bI_0 c11
    refine v_aload_n C dX5_choice_14 rfl rfl rfl ?_
    refine v_iload_n C dX5_choice_15 rfl rfl rfl ?_
    refine v_callS C (As := [.int v]) (rest := [.ref 18]) (kX5_refusalOf v σ) rfl (Nat.le_of_ble_eq_true rfl) (Nat.le_of_ble_eq_true rfl) ⟨mlX5_140, mfX5_refusalOf⟩ dkX5_refusalOf (Nat.le_of_ble_eq_true rfl) dX5_choice_16 rfl (kI ?_)
    refine v_callV C (Nat.le_of_ble_eq_true rfl) rfl rfl (As := [.int (if v < -1 then -4 else -1)]) (rest := []) (kX5_answer (if v < -1 then -4 else -1) σ) rfl (Nat.le_of_ble_eq_true rfl) (Nat.le_of_ble_eq_true rfl) ⟨mlX5_64, mfX5_answer⟩ dkX5_answer (Nat.le_of_ble_eq_true rfl) dX5_choice_19 rfl (kI ?_)
    exact v_iret C dX5_choice_22 (by rw [hX]; exact ⟨_, rfl, by rw [choH, cI_f c11], Or.inl ⟨c11, rfl⟩⟩)
