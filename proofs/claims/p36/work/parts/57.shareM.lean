/-! the class: shares, envy, their calls -/
noncomputable def shrH (σ : St) (n q : Nat) (v : Int32) : Int32 := cI (alP v (nI n)) (cI (pieceP v (nI n)) (nI (dig q n (fshN (shGF (blH σ 19 n) n q) (q ^ n)).1 (tn v))) (shGF (blH σ 19 n) n q (fshN (shGF (blH σ 19 n) n q) (q ^ n)).1)) (if v < -1 then -4 else -1)
def shSH (σ : St) (n q : Nat) : Nat → Int32 := shaN (fun _ => 0) (blH σ 19 n) (dig q n (fshN (shGF (blH σ 19 n) n q) (q ^ n)).1) n
def envH (σ : St) (n q : Nat) : Int32 := sumN (envG (shSH σ n q) (shSH σ n q (firN (shSH σ n q) q))) q
theorem soh_shr {σ τ : St} {n q : Nat} {v : Int32} (h : ShI σ τ n q (fshN (shGF (blH σ 19 n) n q) (q ^ n)).1 n) (h7 : n ≤ 7) (q2 : 2 ≤ q) (q4 : q ≤ 4) : sohA τ n q v = cI (pieceP v (nI n)) (nI (dig q n (fshN (shGF (blH σ 19 n) n q) (q ^ n)).1 (tn v))) (shGF (blH σ 19 n) n q (fshN (shGF (blH σ 19 n) n q) (q ^ n)).1) := by
  rw [sohA]
  by_cases p : pieceP v (nI n)
  · rw [cI_t p, cI_t p]; exact h.2.1 _ (piece_nat h7 p).2
  · rw [cI_f p, cI_f p]; exact aptF_cg (by omega) (fun j hj => h.2.2.1 j (by omega))
theorem env_eq {σ τ : St} {n q : Nat} (h : ShI σ τ n q (fshN (shGF (blH σ 19 n) n q) (q ^ n)).1 n) (q2 : 2 ≤ q) (q4 : q ≤ 4) : sumN (envG (τ 53) (τ 53 (firN (τ 53) q))) q = envH σ n q := by
  have hf : firN (τ 53) q = firN (shSH σ n q) q := firN_cg q (fun j hj => h.2.2.1 j (by omega))
  have hl := firN_lt (shSH σ n q) q (by omega)
  rw [envH, hf, h.2.2.1 _ (by omega)]
  exact sumN_congr (fun j hj => by rw [envG, envG, h.2.2.1 j (by omega)]; rfl)
theorem kX5_shares (v : Int32) (n : Nat) (σ : St) (hn : σ 19 7 = nI n) (h7 : n ≤ 7) (q : Nat) (hq : σ 19 8 = nI q) (q2 : 2 ≤ q) (q4 : q ≤ 4) (hb : Bls (blH σ 19 n) n) : Ct yX5_shares cX5_shares 2 (some .int) 12 [.ref 18, .int v] σ (rI (fun r τ => r = shrH σ n q v ∧ ((¬ alP v (nI n) ∧ τ = ansS σ (if v < -1 then -4 else -1)) ∨ (alP v (nI n) ∧ Shk σ τ)))) := by
  refine ct_of plX5 rfl (Nat.le_of_ble_eq_true rfl) (fun X hX C => ?_)
  show V X 0 [(0, .ref 18), (1, .int v)] [] σ
  refine v_iload_n C dX5_shares_0 rfl rfl rfl ?_
  refine v_aload_n C dX5_shares_1 rfl rfl rfl ?_
  refine v_getR C (Nat.le_of_ble_eq_true rfl) rfl rfl hinX5 0 (Nat.le_of_ble_eq_true rfl) lkX5_10 rfl dX5_shares_2 rfl ?_
  refine v_getNI C hh19.l0 hh19.s0 rfl hinX0 7 (Nat.le_of_ble_eq_true rfl) lkX5_126 rfl dX5_shares_5 rfl ?_
  refine V.tp hn ?_
  refine v_callS C (As := [.int v, .int (nI n)]) (rest := []) (kX5_isAllOrOneOf v (nI n) σ) rfl (Nat.le_of_ble_eq_true rfl) (Nat.le_of_ble_eq_true rfl) ⟨mlX5_137, mfX5_isAllOrOneOf⟩ dkX5_isAllOrOneOf (Nat.le_of_ble_eq_true rfl) dX5_shares_8 rfl (kI ?_)
  refine v_if_ne (tgt := 23) C dX5_shares_11 (by decide) rfl (fun c11 => ?_) (fun c11 => ?_)
  · skip
    have c11 := bI_n c11
    refine v_aload_n C dX5_shares_23 rfl rfl rfl ?_
    refine v_getR C (Nat.le_of_ble_eq_true rfl) rfl rfl hinX5 7 (Nat.le_of_ble_eq_true rfl) lkX5_52 rfl dX5_shares_24 rfl ?_
    refine v_aload_n C dX5_shares_27 rfl rfl rfl ?_
    refine v_getR C (Nat.le_of_ble_eq_true rfl) rfl rfl hinX5 0 (Nat.le_of_ble_eq_true rfl) lkX5_10 rfl dX5_shares_28 rfl ?_
    refine v_callVN C (Nat.le_of_ble_eq_true rfl) rfl rfl (As := [.ref 19]) (rest := []) (kX3_shareFairly n q σ hn h7 hq q2 q4 hb) rfl (Nat.le_of_ble_eq_true rfl) (Nat.le_of_ble_eq_true rfl) ⟨mlX5_143, mfX3_shareFairly⟩ dkX3_shareFairly (Nat.le_of_ble_eq_true rfl) dX5_shares_31 rfl (krV (fun τ hD => ?_))
    refine v_aload_n C dX5_shares_34 rfl rfl rfl ?_
    refine v_getR C (Nat.le_of_ble_eq_true rfl) rfl rfl hinX5 7 (Nat.le_of_ble_eq_true rfl) lkX5_52 rfl dX5_shares_35 rfl ?_
    refine v_iload_n C dX5_shares_38 rfl rfl rfl ?_
    refine v_callVN C (Nat.le_of_ble_eq_true rfl) rfl rfl (As := [.int v]) (rest := []) (kX3_spreadOrHeirOf v n q τ hD.1.2.1 q2 q4 hD.1.1 h7) rfl (Nat.le_of_ble_eq_true rfl) (Nat.le_of_ble_eq_true rfl) ⟨mlX5_146, mfX3_spreadOrHeirOf⟩ dkX3_spreadOrHeirOf (Nat.le_of_ble_eq_true rfl) dX5_shares_39 rfl (kI ?_)
    exact v_iret C dX5_shares_42 (by rw [hX]; exact ⟨_, rfl, by rw [shrH, cI_t c11, soh_shr hD h7 q2 q4], Or.inr ⟨c11, hD.2.2.2.2⟩⟩)
  · skip
    have c11 := bI_0 c11
    refine v_aload_n C dX5_shares_14 rfl rfl rfl ?_
    refine v_iload_n C dX5_shares_15 rfl rfl rfl ?_
    refine v_callS C (As := [.int v]) (rest := [.ref 18]) (kX5_refusalOf v σ) rfl (Nat.le_of_ble_eq_true rfl) (Nat.le_of_ble_eq_true rfl) ⟨mlX5_140, mfX5_refusalOf⟩ dkX5_refusalOf (Nat.le_of_ble_eq_true rfl) dX5_shares_16 rfl (kI ?_)
    refine v_callV C (Nat.le_of_ble_eq_true rfl) rfl rfl (As := [.int (if v < -1 then -4 else -1)]) (rest := []) (kX5_answer (if v < -1 then -4 else -1) σ) rfl (Nat.le_of_ble_eq_true rfl) (Nat.le_of_ble_eq_true rfl) ⟨mlX5_64, mfX5_answer⟩ dkX5_answer (Nat.le_of_ble_eq_true rfl) dX5_shares_19 rfl (kI ?_)
    exact v_iret C dX5_shares_22 (by rw [hX]; exact ⟨_, rfl, by rw [shrH, cI_f c11], Or.inl ⟨c11, rfl⟩⟩)
theorem kX5_envy (n : Nat) (σ : St) (hn : σ 19 7 = nI n) (h7 : n ≤ 7) (q : Nat) (hq : σ 19 8 = nI q) (q2 : 2 ≤ q) (q4 : q ≤ 4) (hb : Bls (blH σ 19 n) n) : Ct yX5_envy cX5_envy 1 (some .int) 12 [.ref 18] σ (rI (fun r τ => r = envH σ n q ∧ Shk σ τ)) := by
  refine ct_of plX5 rfl (Nat.le_of_ble_eq_true rfl) (fun X hX C => ?_)
  show V X 0 [(0, .ref 18)] [] σ
  refine v_aload_n C dX5_envy_0 rfl rfl rfl ?_
  refine v_getR C (Nat.le_of_ble_eq_true rfl) rfl rfl hinX5 7 (Nat.le_of_ble_eq_true rfl) lkX5_52 rfl dX5_envy_1 rfl ?_
  refine v_aload_n C dX5_envy_4 rfl rfl rfl ?_
  refine v_getR C (Nat.le_of_ble_eq_true rfl) rfl rfl hinX5 0 (Nat.le_of_ble_eq_true rfl) lkX5_10 rfl dX5_envy_5 rfl ?_
  refine v_callVN C (Nat.le_of_ble_eq_true rfl) rfl rfl (As := [.ref 19]) (rest := []) (kX3_shareFairly n q σ hn h7 hq q2 q4 hb) rfl (Nat.le_of_ble_eq_true rfl) (Nat.le_of_ble_eq_true rfl) ⟨mlX5_143, mfX3_shareFairly⟩ dkX3_shareFairly (Nat.le_of_ble_eq_true rfl) dX5_envy_8 rfl (krV (fun τ hD => ?_))
  refine v_aload_n C dX5_envy_11 rfl rfl rfl ?_
  refine v_getR C (Nat.le_of_ble_eq_true rfl) rfl rfl hinX5 7 (Nat.le_of_ble_eq_true rfl) lkX5_52 rfl dX5_envy_12 rfl ?_
  refine v_callVN C (Nat.le_of_ble_eq_true rfl) rfl rfl (As := []) (rest := []) (kX3_envied q τ hD.1.2.1 q2 q4) rfl (Nat.le_of_ble_eq_true rfl) (Nat.le_of_ble_eq_true rfl) ⟨mlX5_152, mfX3_envied⟩ dkX3_envied (Nat.le_of_ble_eq_true rfl) dX5_envy_15 rfl (kI ?_)
  exact v_iret C dX5_envy_18 (by rw [hX]; exact ⟨_, rfl, env_eq hD q2 q4, hD.2.2.2.2⟩)
