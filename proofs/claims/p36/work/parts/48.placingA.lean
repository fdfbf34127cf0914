/-! the class: dealt; Placing's plain ones -/
noncomputable def dltH (σ : St) (n q : Nat) (v : Int32) : Int32 := cI (alP v (nI n)) (cI (pieceP v (nI n)) (deaG (fun _ => 0) (blH σ 19 n) q (tn v)) (aptF (deaN (fun _ => 0) (blH σ 19 n) q n) q)) (if v < -1 then -4 else -1)
/-- only the sharing's own rows have changed -/
theorem soh_deal {σ τ : St} {n q : Nat} {v : Int32} (h : dealI σ τ n q n) (h7 : n ≤ 7) (q2 : 2 ≤ q) (q4 : q ≤ 4) : sohA τ n q v = cI (pieceP v (nI n)) (deaG (fun _ => 0) (blH σ 19 n) q (tn v)) (aptF (deaN (fun _ => 0) (blH σ 19 n) q n) q) := by
  rw [sohA]
  by_cases p : pieceP v (nI n)
  · rw [cI_t p, cI_t p]; exact h.2.2.2.2.1 _ (piece_nat h7 p).2
  · rw [cI_f p, cI_f p]; exact aptF_cg (by omega) (fun j hj => h.2.2.2.1 j (by omega))
def costH (σ : St) (n : Nat) (r c : Int32) : Int32 := if σ 47 3 = 0 then maxI c (inF (σ (27 + 1)) (σ (27 + 3)) (σ (27 + 4)) (σ (27 + 5)) n r) else if pinF (σ (27 + 5)) n r = 1 then c + 1 else c
theorem kX5_isAllOrOneOf (v m : Int32) (σ : St) : Ct yX5_isAllOrOneOf cX5_isAllOrOneOf 2 (some .boolean) 0 [.int v, .int m] σ (fI (bI (alP v m)) σ) := by
  refine ct_of plX5 rfl (Nat.le_of_ble_eq_true rfl) (fun X hX C => ?_)
  show V X 0 [(0, .int v), (1, .int m)] [] σ
  refine v_iload_n C dX5_isAllOrOneOf_0 rfl rfl rfl ?_
  refine v_iconst (v := -1) C dX5_isAllOrOneOf_1 (by decide) rfl ?_
  refine v_icmp_lt (tgt := 14) C dX5_isAllOrOneOf_2 (by decide) rfl (fun c2 => ?_) (fun c2 => ?_)
  · skip
    refine v_iconst (v := 0) C dX5_isAllOrOneOf_14 (by decide) rfl ?_
    exact v_zret C rfl dX5_isAllOrOneOf_15 (by rw [hX]; exact fI_of (by first | exact bI_t (by simp [alP, c2]; done) | exact bI_f (by simp [alP, c2]; done)) rfl)
  · skip
    refine v_iload_n C dX5_isAllOrOneOf_5 rfl rfl rfl ?_
    refine v_iload_n C dX5_isAllOrOneOf_6 rfl rfl rfl ?_
    refine v_icmp_ge (tgt := 14) C dX5_isAllOrOneOf_7 (by decide) rfl (fun c7 => ?_) (fun c7 => ?_)
    · skip
      refine v_iconst (v := 0) C dX5_isAllOrOneOf_14 (by decide) rfl ?_
      exact v_zret C rfl dX5_isAllOrOneOf_15 (by rw [hX]; exact fI_of (by first | exact bI_t (by simp [alP, c2, c7]; done) | exact bI_f (by simp [alP, c2, c7]; done)) rfl)
    · skip
      refine v_iconst (v := 1) C dX5_isAllOrOneOf_10 (by decide) rfl ?_
      refine v_goto (tgt := 15) C dX5_isAllOrOneOf_11 (by decide) ?_
      exact v_zret C rfl dX5_isAllOrOneOf_15 (by rw [hX]; exact fI_of (by first | exact bI_t (by simp [alP, c2, c7]; done) | exact bI_f (by simp [alP, c2, c7]; done)) rfl)
theorem kX5_refusalOf (v : Int32) (σ : St) : Ct yX5_refusalOf cX5_refusalOf 1 (some .int) 0 [.int v] σ (fI (if v < -1 then -4 else -1) σ) := by
  refine ct_of plX5 rfl (Nat.le_of_ble_eq_true rfl) (fun X hX C => ?_)
  show V X 0 [(0, .int v)] [] σ
  refine v_iload_n C dX5_refusalOf_0 rfl rfl rfl ?_
  refine v_iconst (v := -1) C dX5_refusalOf_1 (by decide) rfl ?_
  refine v_icmp_ge (tgt := 10) C dX5_refusalOf_2 (by decide) rfl (fun c2 => ?_) (fun c2 => ?_)
  · skip
    refine v_iconst (v := -1) C dX5_refusalOf_10 (by decide) rfl ?_
    exact v_iret C dX5_refusalOf_11 (by rw [hX]; exact fI_of (by first | rfl | (simp [c2]; done)) rfl)
  · skip
    refine v_bipush (v := -4) C dX5_refusalOf_5 (by decide) rfl ?_
    refine v_goto (tgt := 11) C dX5_refusalOf_7 (by decide) ?_
    exact v_iret C dX5_refusalOf_11 (by rw [hX]; exact fI_of (by first | rfl | (simp [c2]; done)) rfl)
theorem kX5_dealt (v : Int32) (n : Nat) (σ : St) (hn : σ 19 7 = nI n) (h7 : n ≤ 7) (q : Nat) (hq : σ 19 8 = nI q) (q2 : 2 ≤ q) (q4 : q ≤ 4) : Ct yX5_dealt cX5_dealt 2 (some .int) 5 [.ref 18, .int v] σ (rI (fun r τ => r = dltH σ n q v ∧ ((¬ alP v (nI n) ∧ τ = ansS σ (if v < -1 then -4 else -1)) ∨ (alP v (nI n) ∧ Shk σ τ)))) := by
  refine ct_of plX5 rfl (Nat.le_of_ble_eq_true rfl) (fun X hX C => ?_)
  show V X 0 [(0, .ref 18), (1, .int v)] [] σ
  refine v_iload_n C dX5_dealt_0 rfl rfl rfl ?_
  refine v_aload_n C dX5_dealt_1 rfl rfl rfl ?_
  refine v_getR C (Nat.le_of_ble_eq_true rfl) rfl rfl hinX5 0 (Nat.le_of_ble_eq_true rfl) lkX5_10 rfl dX5_dealt_2 rfl ?_
  refine v_getNI C hh19.l0 hh19.s0 rfl hinX0 7 (Nat.le_of_ble_eq_true rfl) lkX5_126 rfl dX5_dealt_5 rfl ?_
  refine V.tp hn ?_
  refine v_callS C (As := [.int v, .int (nI n)]) (rest := []) (kX5_isAllOrOneOf v (nI n) σ) rfl (Nat.le_of_ble_eq_true rfl) (Nat.le_of_ble_eq_true rfl) ⟨mlX5_137, mfX5_isAllOrOneOf⟩ dkX5_isAllOrOneOf (Nat.le_of_ble_eq_true rfl) dX5_dealt_8 rfl (kI ?_)
  refine v_if_ne (tgt := 23) C dX5_dealt_11 (by decide) rfl (fun c11 => ?_) (fun c11 => ?_)
  · skip
    have c11 := bI_n c11
    refine v_aload_n C dX5_dealt_23 rfl rfl rfl ?_
    refine v_getR C (Nat.le_of_ble_eq_true rfl) rfl rfl hinX5 7 (Nat.le_of_ble_eq_true rfl) lkX5_52 rfl dX5_dealt_24 rfl ?_
    refine v_aload_n C dX5_dealt_27 rfl rfl rfl ?_
    refine v_getR C (Nat.le_of_ble_eq_true rfl) rfl rfl hinX5 0 (Nat.le_of_ble_eq_true rfl) lkX5_10 rfl dX5_dealt_28 rfl ?_
    refine v_callVN C (Nat.le_of_ble_eq_true rfl) rfl rfl (As := [.ref 19]) (rest := []) (kX3_dealOut n q σ hn h7 hq q2 q4) rfl (Nat.le_of_ble_eq_true rfl) (Nat.le_of_ble_eq_true rfl) ⟨mlX5_149, mfX3_dealOut⟩ dkX3_dealOut (Nat.le_of_ble_eq_true rfl) dX5_dealt_31 rfl (krV (fun τ hD => ?_))
    refine v_aload_n C dX5_dealt_34 rfl rfl rfl ?_
    refine v_getR C (Nat.le_of_ble_eq_true rfl) rfl rfl hinX5 7 (Nat.le_of_ble_eq_true rfl) lkX5_52 rfl dX5_dealt_35 rfl ?_
    refine v_iload_n C dX5_dealt_38 rfl rfl rfl ?_
    refine v_callVN C (Nat.le_of_ble_eq_true rfl) rfl rfl (As := [.int v]) (rest := []) (kX3_spreadOrHeirOf v n q τ hD.2.1 q2 q4 hD.1 h7) rfl (Nat.le_of_ble_eq_true rfl) (Nat.le_of_ble_eq_true rfl) ⟨mlX5_146, mfX3_spreadOrHeirOf⟩ dkX3_spreadOrHeirOf (Nat.le_of_ble_eq_true rfl) dX5_dealt_39 rfl (kI ?_)
    exact v_iret C dX5_dealt_42 (by rw [hX]; exact ⟨_, rfl, by rw [dltH, cI_t c11, soh_deal hD h7 q2 q4], Or.inr ⟨c11, hD.2.2.2.2.2⟩⟩)
  · skip
    have c11 := bI_0 c11
    refine v_aload_n C dX5_dealt_14 rfl rfl rfl ?_
    refine v_iload_n C dX5_dealt_15 rfl rfl rfl ?_
    refine v_callS C (As := [.int v]) (rest := [.ref 18]) (kX5_refusalOf v σ) rfl (Nat.le_of_ble_eq_true rfl) (Nat.le_of_ble_eq_true rfl) ⟨mlX5_140, mfX5_refusalOf⟩ dkX5_refusalOf (Nat.le_of_ble_eq_true rfl) dX5_dealt_16 rfl (kI ?_)
    refine v_callV C (Nat.le_of_ble_eq_true rfl) rfl rfl (As := [.int (if v < -1 then -4 else -1)]) (rest := []) (kX5_answer (if v < -1 then -4 else -1) σ) rfl (Nat.le_of_ble_eq_true rfl) (Nat.le_of_ble_eq_true rfl) ⟨mlX5_64, mfX5_answer⟩ dkX5_answer (Nat.le_of_ble_eq_true rfl) dX5_dealt_19 rfl (kI ?_)
    exact v_iret C dX5_dealt_22 (by rw [hX]; exact ⟨_, rfl, by rw [dltH, cI_f c11], Or.inl ⟨c11, rfl⟩⟩)
theorem kX1_mayStand (p r : Nat) (n : Nat) (σ : St) (hn : σ 27 7 = nI n) (h7 : n ≤ 7) (hp : p < n) : Ct yX1_mayStand cX1_mayStand 3 (some .boolean) 2 [.ref 47, .int (nI p), .int (nI r)] σ (fI (bI (hasP (σ 47 2) (nI r) ∧ spaP (σ (27 + 2)) (σ (27 + 5)) (σ (27 + 6)) n (nI r) (σ (27 + 2) p))) σ) := by
  refine ct_of plX1 rfl (Nat.le_of_ble_eq_true rfl) (fun X hX C => ?_)
  show V X 0 [(0, .ref 47), (1, .int (nI p)), (2, .int (nI r))] [] σ
  refine v_aload_n C dX1_mayStand_0 rfl rfl rfl ?_
  refine v_getI C (Nat.le_of_ble_eq_true rfl) rfl rfl hinX1 2 (Nat.le_of_ble_eq_true rfl) lkX1_15 rfl dX1_mayStand_1 rfl ?_
  refine v_iload_n C dX1_mayStand_4 rfl rfl rfl ?_
  refine v_ishr C dX1_mayStand_5 rfl ?_
  refine v_iconst (v := 1) C dX1_mayStand_6 (by decide) rfl ?_
  refine v_iand C dX1_mayStand_7 rfl ?_
  refine v_iconst (v := 1) C dX1_mayStand_8 (by decide) rfl ?_
  refine v_icmp_ne (tgt := 36) C dX1_mayStand_9 (by decide) rfl (fun c9 => ?_) (fun c9 => ?_)
  · skip
    refine v_iconst (v := 0) C dX1_mayStand_36 (by decide) rfl ?_
    exact v_zret C rfl dX1_mayStand_37 (by rw [hX]; exact fI_of (bI_f (fun z => c9 z.1)) rfl)
  · skip
    refine v_aload_n C dX1_mayStand_12 rfl rfl rfl ?_
    refine v_getR C (Nat.le_of_ble_eq_true rfl) rfl rfl hinX1 0 (Nat.le_of_ble_eq_true rfl) lkX1_27 rfl dX1_mayStand_13 rfl ?_
    refine v_iload_n C dX1_mayStand_16 rfl rfl rfl ?_
    refine v_aload_n C dX1_mayStand_17 rfl rfl rfl ?_
    refine v_getR C (Nat.le_of_ble_eq_true rfl) rfl rfl hinX1 0 (Nat.le_of_ble_eq_true rfl) lkX1_27 rfl dX1_mayStand_18 rfl ?_
    refine v_getNR C hh27.l0 hh27.s0 rfl hinX0 1 (Nat.le_of_ble_eq_true rfl) lkX1_68 rfl dX1_mayStand_21 rfl ?_
    refine v_iload_n C dX1_mayStand_24 rfl rfl rfl ?_
    refine v_iald (i := p) C hh27.l2 hh27.s2 rfl (by omega) (by decide) dX1_mayStand_25 rfl ?_
    refine v_callVN C hh27.l0 hh27.s0 rfl (As := [.int (nI r), .int (σ (27 + 2) p)]) (rest := []) (kX0_hasSpace (nI r) (σ (27 + 2) p) 27 n hh27 σ hn h7) rfl (Nat.le_of_ble_eq_true rfl) (Nat.le_of_ble_eq_true rfl) ⟨mlX1_71, mfX0_hasSpace⟩ dkX0_hasSpace (Nat.le_of_ble_eq_true rfl) dX1_mayStand_26 rfl (kI ?_)
    refine v_if_eq (tgt := 36) C dX1_mayStand_29 (by decide) rfl (fun c29 => ?_) (fun c29 => ?_)
    · skip
      have c29 := bI_0 c29
      refine v_iconst (v := 0) C dX1_mayStand_36 (by decide) rfl ?_
      exact v_zret C rfl dX1_mayStand_37 (by rw [hX]; exact fI_of (bI_f (fun z => c29 z.2)) rfl)
    · skip
      have c29 := bI_n c29
      refine v_iconst (v := 1) C dX1_mayStand_32 (by decide) rfl ?_
      refine v_goto (tgt := 37) C dX1_mayStand_33 (by decide) ?_
      exact v_zret C rfl dX1_mayStand_37 (by rw [hX]; exact fI_of (bI_t ⟨c9, c29⟩) rfl)
theorem kX1_costWith (r c : Int32) (n : Nat) (σ : St) (hn : σ 27 7 = nI n) (h7 : n ≤ 7) : Ct yX1_costWith cX1_costWith 3 (some .int) 4 [.ref 47, .int r, .int c] σ (fI (costH σ n r c) σ) := by
  refine ct_of plX1 rfl (Nat.le_of_ble_eq_true rfl) (fun X hX C => ?_)
  show V X 0 [(0, .ref 47), (1, .int r), (2, .int c)] [] σ
  refine v_aload_n C dX1_costWith_0 rfl rfl rfl ?_
  refine v_getI C (Nat.le_of_ble_eq_true rfl) rfl rfl hinX1 3 (Nat.le_of_ble_eq_true rfl) lkX1_19 rfl dX1_costWith_1 rfl ?_
  refine v_if_eq (tgt := 27) C dX1_costWith_4 (by decide) rfl (fun c4 => ?_) (fun c4 => ?_)
  · skip
    refine v_iload_n C dX1_costWith_27 rfl rfl rfl ?_
    refine v_aload_n C dX1_costWith_28 rfl rfl rfl ?_
    refine v_getR C (Nat.le_of_ble_eq_true rfl) rfl rfl hinX1 0 (Nat.le_of_ble_eq_true rfl) lkX1_27 rfl dX1_costWith_29 rfl ?_
    refine v_iload_n C dX1_costWith_32 rfl rfl rfl ?_
    refine v_callVN C hh27.l0 hh27.s0 rfl (As := [.int r]) (rest := [.int c]) (kX0_blameIn r 27 n hh27 σ hn h7) rfl (Nat.le_of_ble_eq_true rfl) (Nat.le_of_ble_eq_true rfl) ⟨mlX1_78, mfX0_blameIn⟩ dkX0_blameIn (Nat.le_of_ble_eq_true rfl) dX1_costWith_33 rfl (kI ?_)
    refine v_mmax C (Nat.le_of_ble_eq_true rfl) maX1_81 (Nat.le_of_ble_eq_true rfl) dX1_costWith_36 rfl ?_
    exact v_iret C dX1_costWith_39 (by rw [hX]; exact fI_of (by simp [costH, c4]) rfl)
  · skip
    refine v_aload_n C dX1_costWith_7 rfl rfl rfl ?_
    refine v_getR C (Nat.le_of_ble_eq_true rfl) rfl rfl hinX1 0 (Nat.le_of_ble_eq_true rfl) lkX1_27 rfl dX1_costWith_8 rfl ?_
    refine v_iload_n C dX1_costWith_11 rfl rfl rfl ?_
    refine v_callVN C hh27.l0 hh27.s0 rfl (As := [.int r]) (rest := []) (kX0_piecesIn r 27 n hh27 σ hn h7) rfl (Nat.le_of_ble_eq_true rfl) (Nat.le_of_ble_eq_true rfl) ⟨mlX1_74, mfX0_piecesIn⟩ dkX0_piecesIn (Nat.le_of_ble_eq_true rfl) dX1_costWith_12 rfl (kI ?_)
    refine v_iconst (v := 1) C dX1_costWith_15 (by decide) rfl ?_
    refine v_icmp_ne (tgt := 25) C dX1_costWith_16 (by decide) rfl (fun c16 => ?_) (fun c16 => ?_)
    · skip
      refine v_iload_n C dX1_costWith_25 rfl rfl rfl ?_
      exact v_iret C dX1_costWith_26 (by rw [hX]; exact fI_of (by simp [costH, c4, c16]) rfl)
    · skip
      refine v_iload_n C dX1_costWith_19 rfl rfl rfl ?_
      refine v_iconst (v := 1) C dX1_costWith_20 (by decide) rfl ?_
      refine v_iadd C dX1_costWith_21 rfl ?_
      refine v_goto (tgt := 26) C dX1_costWith_22 (by decide) ?_
      exact v_iret C dX1_costWith_26 (by rw [hX]; exact fI_of (by simp [costH, c4, c16]) rfl)
theorem kX1_keep (c : Int32) (σ : St) : Ct yX1_keep cX1_keep 2 none 2 [.ref 47, .int c] σ (fV (setR (s2 σ 47 4 c) 48 (pre 7 (σ (27 + 5)) (σ 48)))) := by
  refine ct_of plX1 rfl (Nat.le_of_ble_eq_true rfl) (fun X hX C => ?_)
  show V X 0 [(0, .ref 47), (1, .int c)] [] σ
  refine v_aload_n C dX1_keep_0 rfl rfl rfl ?_
  refine v_iload_n C dX1_keep_1 rfl rfl rfl ?_
  refine v_put (ty := .int) C (Nat.le_of_ble_eq_true rfl) rfl rfl hinX1 tyX1_ok nmX1 4 (Nat.le_of_ble_eq_true rfl) lkX1_24 rfl (by decide +kernel) rfl rfl rfl dX1_keep_2 rfl ?_
  refine V.nm (fun τ2_1 eτ2_1 => ?_)
  refine v_aload_n C dX1_keep_5 rfl rfl rfl ?_
  refine v_getR C (Nat.le_of_ble_eq_true rfl) rfl rfl hinX1 0 (Nat.le_of_ble_eq_true rfl) lkX1_27 rfl dX1_keep_6 rfl ?_
  refine v_getNR C hh27.l0 hh27.s0 rfl hinX0 4 (Nat.le_of_ble_eq_true rfl) lkX1_55 rfl dX1_keep_9 rfl ?_
  refine v_iconst (v := 0) C dX1_keep_12 (by decide) rfl ?_
  refine v_aload_n C dX1_keep_13 rfl rfl rfl ?_
  refine v_getR C (Nat.le_of_ble_eq_true rfl) rfl rfl hinX1 1 (Nat.le_of_ble_eq_true rfl) lkX1_9 rfl dX1_keep_14 rfl ?_
  refine v_iconst (v := 0) C dX1_keep_17 (by decide) rfl ?_
  refine v_bipush (v := 7) C dX1_keep_18 (by decide) rfl ?_
  refine v_copy (c := 7) C hh27.l5 hh27.s5 (Nat.le_of_ble_eq_true rfl) rfl rfl (Nat.le_of_ble_eq_true rfl) (Nat.le_of_ble_eq_true rfl) (Nat.le_of_ble_eq_true rfl) (Nat.le_of_ble_eq_true rfl) acX1_62 dX1_keep_20 rfl ?_
  refine V.nm (fun τ20_2 eτ20_2 => ?_)
  exact v_vret C dX1_keep_23 (by rw [hX]; exact fV_of (by rw [eτ20_2, eτ2_1]; rfl))
theorem kX1_roomOf (p : Int32) (n : Nat) (σ : St) (hn : σ 27 7 = nI n) (h7 : n ≤ 7) : Ct yX1_roomOf cX1_roomOf 2 (some .int) 1 [.ref 47, .int p] σ (fI (cI (pieceP p (nI n)) (σ 48 (tn p)) (-9)) σ) := by
  refine ct_of plX1 rfl (Nat.le_of_ble_eq_true rfl) (fun X hX C => ?_)
  show V X 0 [(0, .ref 47), (1, .int p)] [] σ
  refine v_aload_n C dX1_roomOf_0 rfl rfl rfl ?_
  refine v_getR C (Nat.le_of_ble_eq_true rfl) rfl rfl hinX1 0 (Nat.le_of_ble_eq_true rfl) lkX1_27 rfl dX1_roomOf_1 rfl ?_
  refine v_iload_n C dX1_roomOf_4 rfl rfl rfl ?_
  refine v_callVN C hh27.l0 hh27.s0 rfl (As := [.int p]) (rest := []) (kX0_hasPiece p 27 n hh27 σ hn h7) rfl (Nat.le_of_ble_eq_true rfl) (Nat.le_of_ble_eq_true rfl) ⟨mlX1_40, mfX0_hasPiece⟩ dkX0_hasPiece (Nat.le_of_ble_eq_true rfl) dX1_roomOf_5 rfl (kI ?_)
  refine v_if_eq (tgt := 20) C dX1_roomOf_8 (by decide) rfl (fun c8 => ?_) (fun c8 => ?_)
  · skip
    have c8 := bI_0 c8
    refine v_bipush (v := -9) C dX1_roomOf_20 (by decide) rfl ?_
    exact v_iret C dX1_roomOf_22 (by rw [hX]; exact fI_of (cI_f c8).symm rfl)
  · skip
    have c8 := bI_n c8
    refine v_aload_n C dX1_roomOf_11 rfl rfl rfl ?_
    refine v_getR C (Nat.le_of_ble_eq_true rfl) rfl rfl hinX1 1 (Nat.le_of_ble_eq_true rfl) lkX1_9 rfl dX1_roomOf_12 rfl ?_
    refine v_iload_n C dX1_roomOf_15 rfl rfl rfl ?_
    refine v_iald (i := (tn p)) C (Nat.le_of_ble_eq_true rfl) rfl (piece_nat h7 c8).1 (by have := (piece_nat h7 c8).2; omega) (by decide) dX1_roomOf_16 rfl ?_
    refine v_goto (tgt := 22) C dX1_roomOf_17 (by decide) ?_
    exact v_iret C dX1_roomOf_22 (by rw [hX]; exact fI_of (cI_t c8).symm rfl)
