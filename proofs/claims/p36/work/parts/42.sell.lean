/-! the class: later, gone, sell -/
theorem bwo_thk {σ τ : St} (h : Thk σ τ) (n p : Nat) : bwoH τ n p = bwoH σ n p := by
  rw [bwoH, bwoH, h (19 + 1) (Or.inl (by decide)), h (19 + 3) (Or.inl (by decide)), h (19 + 4) (Or.inl (by decide)), h (19 + 5) (Or.inl (by decide))]
noncomputable def selH (σ : St) (n : Nat) (w : Int32) : Int32 := if w = 0 then oI (minN (fun _ => True) (bwoH σ n) n) else ofO (bwoH σ n) (-9) (minN (fun _ => True) (bwoH σ n) n)
/-- a call that only asks, with its bounds: refused below and above, else only the thought house has changed -/
def Asks (σ τ : St) (lo hi v : Int32) : Prop := (v < lo ∧ τ = ansS σ (-4)) ∨ (¬ v < lo ∧ hi < v ∧ τ = ansS σ (-6)) ∨ (¬ v < lo ∧ ¬ hi < v ∧ Thk σ τ)
theorem kX5_later (v : Int32) (n : Nat) (σ : St) (hn : σ 19 7 = nI n) (h7 : n ≤ 7) : Ct yX5_later cX5_later 5 (some .int) 4 [.ref 18, .int v] σ (rI (fun r τ => r = latH σ n v ∧ Asks σ τ 0 200 v)) := by
  refine ct_of plX5 rfl (Nat.le_of_ble_eq_true rfl) (fun X hX C => ?_)
  show V X 0 [(0, .ref 18), (1, .int v)] [] σ
  refine v_iload_n C dX5_later_0 rfl rfl rfl ?_
  refine v_iconst (v := 0) C dX5_later_1 (by decide) rfl ?_
  refine v_sipush (v := 200) C dX5_later_2 (by decide) rfl ?_
  refine v_callS C (As := [.int v, .int 0, .int 200]) (rest := []) (kX5_refusalOutside v 0 200 σ) rfl (Nat.le_of_ble_eq_true rfl) (Nat.le_of_ble_eq_true rfl) ⟨mlX5_179, mfX5_refusalOutside⟩ dkX5_refusalOutside (Nat.le_of_ble_eq_true rfl) dX5_later_5 rfl (kI ?_)
  rcases bnd_cases v 0 200 with ⟨hb, q1⟩ | ⟨hb, q1, q2⟩ | ⟨hb, q1, q2⟩
  · refine V.tp hb ?_
    refine v_istore_n (lv' := [(2, .int (-4)), (0, .ref 18), (1, .int v)]) C dX5_later_8 rfl (Nat.le_of_ble_eq_true rfl) rfl rfl ?_
    refine v_iload_n C dX5_later_9 rfl rfl rfl ?_
    refine v_if_eq (tgt := 19) C dX5_later_10 (by decide) rfl (fun q => absurd q (by decide)) (fun _ => ?_)
    refine v_aload_n C dX5_later_13 rfl rfl rfl ?_
    refine v_iload_n C dX5_later_14 rfl rfl rfl ?_
    refine v_callV C (Nat.le_of_ble_eq_true rfl) rfl rfl (As := [.int (-4)]) (rest := []) (kX5_answer (-4) σ) rfl (Nat.le_of_ble_eq_true rfl) (Nat.le_of_ble_eq_true rfl) ⟨mlX5_64, mfX5_answer⟩ dkX5_answer (Nat.le_of_ble_eq_true rfl) dX5_later_15 rfl (kI ?_)
    exact v_iret C dX5_later_18 (by rw [hX]; exact ⟨_, rfl, by simp [latH, q1], Or.inl ⟨q1, rfl⟩⟩)
  · refine V.tp hb ?_
    refine v_istore_n (lv' := [(2, .int (-6)), (0, .ref 18), (1, .int v)]) C dX5_later_8 rfl (Nat.le_of_ble_eq_true rfl) rfl rfl ?_
    refine v_iload_n C dX5_later_9 rfl rfl rfl ?_
    refine v_if_eq (tgt := 19) C dX5_later_10 (by decide) rfl (fun q => absurd q (by decide)) (fun _ => ?_)
    refine v_aload_n C dX5_later_13 rfl rfl rfl ?_
    refine v_iload_n C dX5_later_14 rfl rfl rfl ?_
    refine v_callV C (Nat.le_of_ble_eq_true rfl) rfl rfl (As := [.int (-6)]) (rest := []) (kX5_answer (-6) σ) rfl (Nat.le_of_ble_eq_true rfl) (Nat.le_of_ble_eq_true rfl) ⟨mlX5_64, mfX5_answer⟩ dkX5_answer (Nat.le_of_ble_eq_true rfl) dX5_later_15 rfl (kI ?_)
    exact v_iret C dX5_later_18 (by rw [hX]; exact ⟨_, rfl, by simp [latH, q1, q2], Or.inr (Or.inl ⟨q1, q2, rfl⟩)⟩)
  · refine V.tp hb ?_
    refine v_istore_n (lv' := [(2, .int 0), (0, .ref 18), (1, .int v)]) C dX5_later_8 rfl (Nat.le_of_ble_eq_true rfl) rfl rfl ?_
    refine v_iload_n C dX5_later_9 rfl rfl rfl ?_
    refine v_if_eq (tgt := 19) C dX5_later_10 (by decide) rfl (fun _ => ?_) (fun q => absurd q (by decide))
    have hv1 := nat_of (v := v) (a := 0) (b := 200) (by decide) (by decide) q1 q2
    have hv2 := hv1.2
    refine v_aload_n C dX5_later_19 rfl rfl rfl ?_
    refine v_callV C (Nat.le_of_ble_eq_true rfl) rfl rfl (As := []) (rest := []) (kX5_thoughtOfNow σ) rfl (Nat.le_of_ble_eq_true rfl) (Nat.le_of_ble_eq_true rfl) ⟨mlX5_67, mfX5_thoughtOfNow⟩ dkX5_thoughtOfNow (Nat.le_of_ble_eq_true rfl) dX5_later_20 rfl (krR (fun υ hC => ?_))
    have hnυ : υ 27 7 = nI n := hC.2.1.1.trans hn
    refine v_astore_n (lv' := [(3, .ref 27), (2, .int 0), (0, .ref 18), (1, .int v)]) C dX5_later_23 rfl (Nat.le_of_ble_eq_true rfl) rfl rfl ?_
    refine v_iconst (v := 0) C dX5_later_24 (by decide) rfl ?_
    refine v_istore (lv' := [(4, .int 0), (3, .ref 27), (2, .int 0), (0, .ref 18), (1, .int v)]) C dX5_later_25 (Nat.le_of_ble_eq_true rfl) rfl rfl ?_
    have lp27 : ∀ (kf i : Nat)  (τ : St), (tn v) < i + kf → i ≤ (tn v) → τ = hYrs υ 27 n i → V X 27 [(4, .int (nI i)), (3, .ref 27), (2, .int 0), (0, .ref 18), (1, .int v)] [] τ := by
      intro kf
      induction kf with
      | zero => intro i  τ h1 h2; omega
      | succ kf ih27 =>
        intro i  τ h1 h2  eτ
        have hnτ : τ 27 7 = nI n := by rw [eτ, hYrs_z _ _ _ _ (by decide)]; exact hnυ
        refine v_iload C dX5_later_27 rfl rfl ?_
        refine v_iload_n C dX5_later_29 rfl rfl rfl ?_
        refine V.tp hv1.1 ?_
        refine v_icmp_ge (tgt := 43) C dX5_later_30 (by decide) rfl (fun c30 => ?_) (fun c30 => ?_)
        · skip
          have c30 := mt (nI_ltI (a := i) (b := (tn v)) (by omega) (by omega)).mpr c30
          refine v_aload_n C dX5_later_43 rfl rfl rfl ?_
          refine v_callVN C hh27.l0 hh27.s0 rfl (As := []) (rest := []) (kX0_blameOfAll 27 n hh27 τ hnτ h7) rfl (Nat.le_of_ble_eq_true rfl) (Nat.le_of_ble_eq_true rfl) ⟨mlX5_113, mfX0_blameOfAll⟩ dkX0_blameOfAll (Nat.le_of_ble_eq_true rfl) dX5_later_44 rfl (kI ?_)
          exact v_iret C dX5_later_47 (by rw [hX]; exact ⟨_, rfl, by rw [latH, if_neg q1, if_neg q2, ← laH_cop hC h7, laH, eτ, show i = tn v from by omega], Or.inr (Or.inr ⟨q1, q2, by rw [eτ]; exact thk_yrs hC⟩)⟩)
        · skip
          have c30 := (nI_ltI (a := i) (b := (tn v)) (by omega) (by omega)).mp c30
          refine v_aload_n C dX5_later_33 rfl rfl rfl ?_
          refine v_callVN C hh27.l0 hh27.s0 rfl (As := []) (rest := []) (kX0_passYear 27 n hh27 τ hnτ h7) rfl (Nat.le_of_ble_eq_true rfl) (Nat.le_of_ble_eq_true rfl) ⟨mlX5_183, mfX0_passYear⟩ dkX0_passYear (Nat.le_of_ble_eq_true rfl) dX5_later_34 rfl (kV ?_)
          refine v_iinc (lv' := [(4, .int (nI (i + 1))), (3, .ref 27), (2, .int 0), (0, .ref 18), (1, .int v)]) C dX5_later_37 rfl (nI_inc i) (Nat.le_of_ble_eq_true rfl) rfl rfl ?_
          refine v_goto (tgt := 27) C dX5_later_40 (by decide) ?_
          exact V.sub [0, 1, 2, 3, 4] rfl (ih27 (i + 1)  _ (by omega) (by omega)  (by rw [eτ]; rfl))
    exact V.sub [0, 1, 2, 3, 4] rfl (lp27 ((tn v) + 1) 0  _ (by omega) (by omega)  (rfl))
theorem kX5_gone (v : Int32) (n : Nat) (σ : St) (hn : σ 19 7 = nI n) (h7 : n ≤ 7) : Ct yX5_gone cX5_gone 5 (some .int) 4 [.ref 18, .int v] σ (rI (fun r τ => r = gonH σ n v ∧ Asks σ τ 0 999 v)) := by
  refine ct_of plX5 rfl (Nat.le_of_ble_eq_true rfl) (fun X hX C => ?_)
  show V X 0 [(0, .ref 18), (1, .int v)] [] σ
  refine v_iload_n C dX5_gone_0 rfl rfl rfl ?_
  refine v_iconst (v := 0) C dX5_gone_1 (by decide) rfl ?_
  refine v_sipush (v := 999) C dX5_gone_2 (by decide) rfl ?_
  refine v_callS C (As := [.int v, .int 0, .int 999]) (rest := []) (kX5_refusalOutside v 0 999 σ) rfl (Nat.le_of_ble_eq_true rfl) (Nat.le_of_ble_eq_true rfl) ⟨mlX5_179, mfX5_refusalOutside⟩ dkX5_refusalOutside (Nat.le_of_ble_eq_true rfl) dX5_gone_5 rfl (kI ?_)
  rcases bnd_cases v 0 999 with ⟨hb, q1⟩ | ⟨hb, q1, q2⟩ | ⟨hb, q1, q2⟩
  · refine V.tp hb ?_
    refine v_istore_n (lv' := [(2, .int (-4)), (0, .ref 18), (1, .int v)]) C dX5_gone_8 rfl (Nat.le_of_ble_eq_true rfl) rfl rfl ?_
    refine v_iload_n C dX5_gone_9 rfl rfl rfl ?_
    refine v_if_eq (tgt := 19) C dX5_gone_10 (by decide) rfl (fun q => absurd q (by decide)) (fun _ => ?_)
    refine v_aload_n C dX5_gone_13 rfl rfl rfl ?_
    refine v_iload_n C dX5_gone_14 rfl rfl rfl ?_
    refine v_callV C (Nat.le_of_ble_eq_true rfl) rfl rfl (As := [.int (-4)]) (rest := []) (kX5_answer (-4) σ) rfl (Nat.le_of_ble_eq_true rfl) (Nat.le_of_ble_eq_true rfl) ⟨mlX5_64, mfX5_answer⟩ dkX5_answer (Nat.le_of_ble_eq_true rfl) dX5_gone_15 rfl (kI ?_)
    exact v_iret C dX5_gone_18 (by rw [hX]; exact ⟨_, rfl, by simp [gonH, q1], Or.inl ⟨q1, rfl⟩⟩)
  · refine V.tp hb ?_
    refine v_istore_n (lv' := [(2, .int (-6)), (0, .ref 18), (1, .int v)]) C dX5_gone_8 rfl (Nat.le_of_ble_eq_true rfl) rfl rfl ?_
    refine v_iload_n C dX5_gone_9 rfl rfl rfl ?_
    refine v_if_eq (tgt := 19) C dX5_gone_10 (by decide) rfl (fun q => absurd q (by decide)) (fun _ => ?_)
    refine v_aload_n C dX5_gone_13 rfl rfl rfl ?_
    refine v_iload_n C dX5_gone_14 rfl rfl rfl ?_
    refine v_callV C (Nat.le_of_ble_eq_true rfl) rfl rfl (As := [.int (-6)]) (rest := []) (kX5_answer (-6) σ) rfl (Nat.le_of_ble_eq_true rfl) (Nat.le_of_ble_eq_true rfl) ⟨mlX5_64, mfX5_answer⟩ dkX5_answer (Nat.le_of_ble_eq_true rfl) dX5_gone_15 rfl (kI ?_)
    exact v_iret C dX5_gone_18 (by rw [hX]; exact ⟨_, rfl, by simp [gonH, q1, q2], Or.inr (Or.inl ⟨q1, q2, rfl⟩)⟩)
  · refine V.tp hb ?_
    refine v_istore_n (lv' := [(2, .int 0), (0, .ref 18), (1, .int v)]) C dX5_gone_8 rfl (Nat.le_of_ble_eq_true rfl) rfl rfl ?_
    refine v_iload_n C dX5_gone_9 rfl rfl rfl ?_
    refine v_if_eq (tgt := 19) C dX5_gone_10 (by decide) rfl (fun _ => ?_) (fun q => absurd q (by decide))
    refine v_aload_n C dX5_gone_19 rfl rfl rfl ?_
    refine v_callV C (Nat.le_of_ble_eq_true rfl) rfl rfl (As := []) (rest := []) (kX5_thoughtOfNow σ) rfl (Nat.le_of_ble_eq_true rfl) (Nat.le_of_ble_eq_true rfl) ⟨mlX5_67, mfX5_thoughtOfNow⟩ dkX5_thoughtOfNow (Nat.le_of_ble_eq_true rfl) dX5_gone_20 rfl (krR (fun υ hC => ?_))
    have hnυ : υ 27 7 = nI n := hC.2.1.1.trans hn
    refine v_astore_n (lv' := [(3, .ref 27), (2, .int 0), (0, .ref 18), (1, .int v)]) C dX5_gone_23 rfl (Nat.le_of_ble_eq_true rfl) rfl rfl ?_
    refine v_iconst (v := 0) C dX5_gone_24 (by decide) rfl ?_
    refine v_istore (lv' := [(4, .int 0), (3, .ref 27), (2, .int 0), (0, .ref 18), (1, .int v)]) C dX5_gone_25 (Nat.le_of_ble_eq_true rfl) rfl rfl ?_
    have lp27 : ∀ (kf i : Nat)  (τ : St), 201 < i + kf → i ≤ 201 → τ = hYrs υ 27 n i → (∀ j, j < i → v < laH σ 19 n j) → V X 27 [(4, .int (nI i)), (3, .ref 27), (2, .int 0), (0, .ref 18), (1, .int v)] [] τ := by
      intro kf
      induction kf with
      | zero => intro i  τ h1 h2; omega
      | succ kf ih27 =>
        intro i  τ h1 h2  eτ hal
        have hnτ : τ 27 7 = nI n := by rw [eτ, hYrs_z _ _ _ _ (by decide)]; exact hnυ
        have hla : binF (τ (27 + 1)) (τ (27 + 3)) (τ (27 + 4)) (τ (27 + 5)) n 10 = laH σ 19 n i := by rw [← laH_cop hC h7, laH, eτ]
        refine v_iload C dX5_gone_27 rfl rfl ?_
        refine v_sipush (v := 200) C dX5_gone_29 (by decide) rfl ?_
        refine v_icmp_gt (tgt := 56) C dX5_gone_32 (by decide) rfl (fun c32 => ?_) (fun c32 => ?_)
        · skip
          have c32 := (nI_ltI (a := 200) (b := i) (by omega) (by omega)).mp c32
          refine v_bipush (v := -9) C dX5_gone_56 (by decide) rfl ?_
          exact v_iret C dX5_gone_58 (by rw [hX]; exact ⟨_, rfl, by rw [gonH, if_neg q1, if_neg q2]; exact fst_none (fun j hj z => z (hal j (by omega))), Or.inr (Or.inr ⟨q1, q2, by rw [eτ]; exact thk_yrs hC⟩)⟩)
        · skip
          have c32 := mt (nI_ltI (a := 200) (b := i) (by omega) (by omega)).mpr c32
          refine v_aload_n C dX5_gone_35 rfl rfl rfl ?_
          refine v_callVN C hh27.l0 hh27.s0 rfl (As := []) (rest := []) (kX0_blameOfAll 27 n hh27 τ hnτ h7) rfl (Nat.le_of_ble_eq_true rfl) (Nat.le_of_ble_eq_true rfl) ⟨mlX5_113, mfX0_blameOfAll⟩ dkX0_blameOfAll (Nat.le_of_ble_eq_true rfl) dX5_gone_36 rfl (kI ?_)
          refine v_iload_n C dX5_gone_39 rfl rfl rfl ?_
          refine v_icmp_gt (tgt := 46) C dX5_gone_40 (by decide) rfl (fun c40 => ?_) (fun c40 => ?_)
          · skip
            refine v_aload_n C dX5_gone_46 rfl rfl rfl ?_
            refine v_callVN C hh27.l0 hh27.s0 rfl (As := []) (rest := []) (kX0_passYear 27 n hh27 τ hnτ h7) rfl (Nat.le_of_ble_eq_true rfl) (Nat.le_of_ble_eq_true rfl) ⟨mlX5_183, mfX0_passYear⟩ dkX0_passYear (Nat.le_of_ble_eq_true rfl) dX5_gone_47 rfl (kV ?_)
            refine v_iinc (lv' := [(4, .int (nI (i + 1))), (3, .ref 27), (2, .int 0), (0, .ref 18), (1, .int v)]) C dX5_gone_50 rfl (nI_inc i) (Nat.le_of_ble_eq_true rfl) rfl rfl ?_
            refine v_goto (tgt := 27) C dX5_gone_53 (by decide) ?_
            exact V.sub [0, 1, 2, 3, 4] rfl (ih27 (i + 1)  _ (by omega) (by omega)  (by rw [eτ]; rfl) (fun j hj => (Nat.lt_succ_iff_lt_or_eq.mp hj).elim (hal j) (fun q => by rw [q, ← hla]; exact c40)))
          · skip
            refine v_iload C dX5_gone_43 rfl rfl ?_
            exact v_iret C dX5_gone_45 (by rw [hX]; exact ⟨_, rfl, by rw [gonH, if_neg q1, if_neg q2]; exact fst_some (fun j hj z => z (hal j hj)) (fun z => c40 (by rw [hla]; exact z)) (by omega), Or.inr (Or.inr ⟨q1, q2, by rw [eτ]; exact thk_yrs hC⟩)⟩)
    exact V.sub [0, 1, 2, 3, 4] rfl (lp27 (201 + 1) 0  _ (by omega) (by omega)  (rfl) (fun j hj => absurd hj (Nat.not_lt_zero j)))
theorem kX5_sell (v : Int32) (n : Nat) (σ : St) (hn : σ 19 7 = nI n) (h7 : n ≤ 7) : Ct yX5_sell cX5_sell 6 (some .int) 5 [.ref 18, .int v] σ (rI (fun r τ => (¬ (v = 0 ∨ v = 1) ∧ r = -2 ∧ τ = ansS σ (-2)) ∨ ((v = 0 ∨ v = 1) ∧ r = selH σ n v ∧ Thk σ τ))) := by
  refine ct_of plX5 rfl (Nat.le_of_ble_eq_true rfl) (fun X hX C => ?_)
  show V X 0 [(0, .ref 18), (1, .int v)] [] σ
  refine v_iload_n C dX5_sell_0 rfl rfl rfl ?_
  refine v_if_eq (tgt := 16) C dX5_sell_1 (by decide) rfl (fun c1 => ?_) (fun c1 => ?_)
  · skip
    refine v_bipush (v := -9) C dX5_sell_16 (by decide) rfl ?_
    refine v_istore_n (lv' := [(2, .int (-9)), (0, .ref 18), (1, .int v)]) C dX5_sell_18 rfl (Nat.le_of_ble_eq_true rfl) rfl rfl ?_
    refine v_bipush (v := -9) C dX5_sell_19 (by decide) rfl ?_
    refine v_istore_n (lv' := [(3, .int (-9)), (2, .int (-9)), (0, .ref 18), (1, .int v)]) C dX5_sell_21 rfl (Nat.le_of_ble_eq_true rfl) rfl rfl ?_
    refine v_iconst (v := 0) C dX5_sell_22 (by decide) rfl ?_
    refine v_istore (lv' := [(4, .int 0), (3, .int (-9)), (2, .int (-9)), (0, .ref 18), (1, .int v)]) C dX5_sell_23 (Nat.le_of_ble_eq_true rfl) rfl rfl ?_
    have lp25 : ∀ (kf i : Nat) (x2 : Int32) (x3 : Int32) (τ : St), n < i + kf → i ≤ n → x2 = oI (minN (fun _ => True) (bwoH σ n) i) → x3 = ofO (bwoH σ n) (-9) (minN (fun _ => True) (bwoH σ n) i) → Thk σ τ → V X 25 [(4, .int (nI i)), (3, .int x3), (2, .int x2), (0, .ref 18), (1, .int v)] [] τ := by
      intro kf
      induction kf with
      | zero => intro i x2 x3 τ h1 h2; omega
      | succ kf ih25 =>
        intro i x2 x3 τ h1 h2 ex2 ex3 eτ
        have hnτ : τ 19 7 = nI n := by rw [eτ 19 (Or.inl (by decide))]; exact hn
        refine v_iload C dX5_sell_25 rfl rfl ?_
        refine v_aload_n C dX5_sell_27 rfl rfl rfl ?_
        refine v_getR C (Nat.le_of_ble_eq_true rfl) rfl rfl hinX5 0 (Nat.le_of_ble_eq_true rfl) lkX5_10 rfl dX5_sell_28 rfl ?_
        refine v_getNI C hh19.l0 hh19.s0 rfl hinX0 7 (Nat.le_of_ble_eq_true rfl) lkX5_126 rfl dX5_sell_31 rfl ?_
        refine V.tp hnτ ?_
        refine v_icmp_ge (tgt := 69) C dX5_sell_34 (by decide) rfl (fun c34 => ?_) (fun c34 => ?_)
        · skip
          have c34 := mt (nI_ltI (a := i) (b := n) (by omega) (by omega)).mpr c34
          refine v_iload_n C dX5_sell_69 rfl rfl rfl ?_
          refine v_if_ne (tgt := 77) C dX5_sell_70 (by decide) rfl (fun c70 => ?_) (fun c70 => ?_)
          · skip
            refine v_iload_n C dX5_sell_77 rfl rfl rfl ?_
            exact v_iret C dX5_sell_78 (by rw [hX]; exact ⟨_, rfl, Or.inr ⟨Or.inl c1, by rw [selH, if_neg c70, ex3, show i = n from by omega], eτ⟩⟩)
          · skip
            refine v_iload_n C dX5_sell_73 rfl rfl rfl ?_
            refine v_goto (tgt := 78) C dX5_sell_74 (by decide) ?_
            exact v_iret C dX5_sell_78 (by rw [hX]; exact ⟨_, rfl, Or.inr ⟨Or.inl c1, by rw [selH, if_pos c70, ex2, show i = n from by omega], eτ⟩⟩)
        · skip
          have c34 := (nI_ltI (a := i) (b := n) (by omega) (by omega)).mp c34
          refine v_aload_n C dX5_sell_37 rfl rfl rfl ?_
          refine v_iload C dX5_sell_38 rfl rfl ?_
          refine v_callV C (Nat.le_of_ble_eq_true rfl) rfl rfl (As := [.int (nI i)]) (rest := []) (kX5_blameWithout i n τ hnτ h7 (by omega)) rfl (Nat.le_of_ble_eq_true rfl) (Nat.le_of_ble_eq_true rfl) ⟨mlX5_167, mfX5_blameWithout⟩ dkX5_blameWithout (Nat.le_of_ble_eq_true rfl) dX5_sell_40 rfl (krI (fun r43_1 τ43_1 h43_1 => ?_))
          have hr : r43_1 = bwoH σ n i := h43_1.1.trans (bwo_thk eτ n i)
          have hT : Thk σ τ43_1 := eτ.tr h43_1.2
          refine v_istore (lv' := [(5, .int r43_1), (4, .int (nI i)), (3, .int x3), (2, .int x2), (0, .ref 18), (1, .int v)]) C dX5_sell_43 (Nat.le_of_ble_eq_true rfl) rfl rfl ?_
          refine v_iload_n C dX5_sell_45 rfl rfl rfl ?_
          refine v_bipush (v := -9) C dX5_sell_46 (by decide) rfl ?_
          refine v_icmp_eq (tgt := 57) C dX5_sell_48 (by decide) rfl (fun c48 => ?_) (fun c48 => ?_)
          · skip
            refine v_iload C dX5_sell_57 rfl rfl ?_
            refine v_istore_n (lv' := [(2, .int (nI i)), (5, .int r43_1), (4, .int (nI i)), (3, .int x3), (0, .ref 18), (1, .int v)]) C dX5_sell_59 rfl (Nat.le_of_ble_eq_true rfl) rfl rfl ?_
            refine v_iload C dX5_sell_60 rfl rfl ?_
            refine v_istore_n (lv' := [(3, .int r43_1), (2, .int (nI i)), (5, .int r43_1), (4, .int (nI i)), (0, .ref 18), (1, .int v)]) C dX5_sell_62 rfl (Nat.le_of_ble_eq_true rfl) rfl rfl ?_
            refine v_iinc (lv' := [(4, .int (nI (i + 1))), (3, .int r43_1), (2, .int (nI i)), (5, .int r43_1), (0, .ref 18), (1, .int v)]) C dX5_sell_63 rfl (nI_inc i) (Nat.le_of_ble_eq_true rfl) rfl rfl ?_
            refine v_goto (tgt := 25) C dX5_sell_66 (by decide) ?_
            exact V.sub [0, 1, 2, 4, 5] rfl (ih25 (i + 1) _ _ _ (by omega) (by omega) ((gue_new (P := fun _ => True) ex2 ex3 (by omega) hr trivial (Or.inl c48)).1) ((gue_new (P := fun _ => True) ex2 ex3 (by omega) hr trivial (Or.inl c48)).2) (hT))
          · skip
            refine v_iload C dX5_sell_51 rfl rfl ?_
            refine v_iload_n C dX5_sell_53 rfl rfl rfl ?_
            refine v_icmp_ge (tgt := 63) C dX5_sell_54 (by decide) rfl (fun c54 => ?_) (fun c54 => ?_)
            · skip
              refine v_iinc (lv' := [(4, .int (nI (i + 1))), (5, .int r43_1), (3, .int x3), (2, .int x2), (0, .ref 18), (1, .int v)]) C dX5_sell_63 rfl (nI_inc i) (Nat.le_of_ble_eq_true rfl) rfl rfl ?_
              refine v_goto (tgt := 25) C dX5_sell_66 (by decide) ?_
              exact V.sub [0, 2, 3, 4, 5] rfl (ih25 (i + 1) _ _ _ (by omega) (by omega) ((gue_old (P := fun _ => True) ex2 ex3 hr c48 c54).1) ((gue_old (P := fun _ => True) ex2 ex3 hr c48 c54).2) (hT))
            · skip
              refine v_iload C dX5_sell_57 rfl rfl ?_
              refine v_istore_n (lv' := [(2, .int (nI i)), (5, .int r43_1), (4, .int (nI i)), (3, .int x3), (0, .ref 18), (1, .int v)]) C dX5_sell_59 rfl (Nat.le_of_ble_eq_true rfl) rfl rfl ?_
              refine v_iload C dX5_sell_60 rfl rfl ?_
              refine v_istore_n (lv' := [(3, .int r43_1), (2, .int (nI i)), (5, .int r43_1), (4, .int (nI i)), (0, .ref 18), (1, .int v)]) C dX5_sell_62 rfl (Nat.le_of_ble_eq_true rfl) rfl rfl ?_
              refine v_iinc (lv' := [(4, .int (nI (i + 1))), (3, .int r43_1), (2, .int (nI i)), (5, .int r43_1), (0, .ref 18), (1, .int v)]) C dX5_sell_63 rfl (nI_inc i) (Nat.le_of_ble_eq_true rfl) rfl rfl ?_
              refine v_goto (tgt := 25) C dX5_sell_66 (by decide) ?_
              exact V.sub [0, 1, 2, 4, 5] rfl (ih25 (i + 1) _ _ _ (by omega) (by omega) ((gue_new (P := fun _ => True) ex2 ex3 (by omega) hr trivial (Or.inr c54)).1) ((gue_new (P := fun _ => True) ex2 ex3 (by omega) hr trivial (Or.inr c54)).2) (hT))
    exact V.sub [0, 1, 2, 3, 4] rfl (lp25 (n + 1) 0 _ _ _ (by omega) (by omega) (rfl) (rfl) (Thk.rf σ))
  · skip
    refine v_iload_n C dX5_sell_4 rfl rfl rfl ?_
    refine v_iconst (v := 1) C dX5_sell_5 (by decide) rfl ?_
    refine v_icmp_eq (tgt := 16) C dX5_sell_6 (by decide) rfl (fun c6 => ?_) (fun c6 => ?_)
    · skip
      refine v_bipush (v := -9) C dX5_sell_16 (by decide) rfl ?_
      refine v_istore_n (lv' := [(2, .int (-9)), (0, .ref 18), (1, .int v)]) C dX5_sell_18 rfl (Nat.le_of_ble_eq_true rfl) rfl rfl ?_
      refine v_bipush (v := -9) C dX5_sell_19 (by decide) rfl ?_
      refine v_istore_n (lv' := [(3, .int (-9)), (2, .int (-9)), (0, .ref 18), (1, .int v)]) C dX5_sell_21 rfl (Nat.le_of_ble_eq_true rfl) rfl rfl ?_
      refine v_iconst (v := 0) C dX5_sell_22 (by decide) rfl ?_
      refine v_istore (lv' := [(4, .int 0), (3, .int (-9)), (2, .int (-9)), (0, .ref 18), (1, .int v)]) C dX5_sell_23 (Nat.le_of_ble_eq_true rfl) rfl rfl ?_
      have lp25 : ∀ (kf i : Nat) (x2 : Int32) (x3 : Int32) (τ : St), n < i + kf → i ≤ n → x2 = oI (minN (fun _ => True) (bwoH σ n) i) → x3 = ofO (bwoH σ n) (-9) (minN (fun _ => True) (bwoH σ n) i) → Thk σ τ → V X 25 [(4, .int (nI i)), (3, .int x3), (2, .int x2), (0, .ref 18), (1, .int v)] [] τ := by
        intro kf
        induction kf with
        | zero => intro i x2 x3 τ h1 h2; omega
        | succ kf ih25 =>
          intro i x2 x3 τ h1 h2 ex2 ex3 eτ
          have hnτ : τ 19 7 = nI n := by rw [eτ 19 (Or.inl (by decide))]; exact hn
          refine v_iload C dX5_sell_25 rfl rfl ?_
          refine v_aload_n C dX5_sell_27 rfl rfl rfl ?_
          refine v_getR C (Nat.le_of_ble_eq_true rfl) rfl rfl hinX5 0 (Nat.le_of_ble_eq_true rfl) lkX5_10 rfl dX5_sell_28 rfl ?_
          refine v_getNI C hh19.l0 hh19.s0 rfl hinX0 7 (Nat.le_of_ble_eq_true rfl) lkX5_126 rfl dX5_sell_31 rfl ?_
          refine V.tp hnτ ?_
          refine v_icmp_ge (tgt := 69) C dX5_sell_34 (by decide) rfl (fun c34 => ?_) (fun c34 => ?_)
          · skip
            have c34 := mt (nI_ltI (a := i) (b := n) (by omega) (by omega)).mpr c34
            refine v_iload_n C dX5_sell_69 rfl rfl rfl ?_
            refine v_if_ne (tgt := 77) C dX5_sell_70 (by decide) rfl (fun c70 => ?_) (fun c70 => ?_)
            · skip
              refine v_iload_n C dX5_sell_77 rfl rfl rfl ?_
              exact v_iret C dX5_sell_78 (by rw [hX]; exact ⟨_, rfl, Or.inr ⟨Or.inr c6, by rw [selH, if_neg c70, ex3, show i = n from by omega], eτ⟩⟩)
            · skip
              refine v_iload_n C dX5_sell_73 rfl rfl rfl ?_
              refine v_goto (tgt := 78) C dX5_sell_74 (by decide) ?_
              exact v_iret C dX5_sell_78 (by rw [hX]; exact ⟨_, rfl, Or.inr ⟨Or.inr c6, by rw [selH, if_pos c70, ex2, show i = n from by omega], eτ⟩⟩)
          · skip
            have c34 := (nI_ltI (a := i) (b := n) (by omega) (by omega)).mp c34
            refine v_aload_n C dX5_sell_37 rfl rfl rfl ?_
            refine v_iload C dX5_sell_38 rfl rfl ?_
            refine v_callV C (Nat.le_of_ble_eq_true rfl) rfl rfl (As := [.int (nI i)]) (rest := []) (kX5_blameWithout i n τ hnτ h7 (by omega)) rfl (Nat.le_of_ble_eq_true rfl) (Nat.le_of_ble_eq_true rfl) ⟨mlX5_167, mfX5_blameWithout⟩ dkX5_blameWithout (Nat.le_of_ble_eq_true rfl) dX5_sell_40 rfl (krI (fun r43_2 τ43_2 h43_2 => ?_))
            have hr : r43_2 = bwoH σ n i := h43_2.1.trans (bwo_thk eτ n i)
            have hT : Thk σ τ43_2 := eτ.tr h43_2.2
            refine v_istore (lv' := [(5, .int r43_2), (4, .int (nI i)), (3, .int x3), (2, .int x2), (0, .ref 18), (1, .int v)]) C dX5_sell_43 (Nat.le_of_ble_eq_true rfl) rfl rfl ?_
            refine v_iload_n C dX5_sell_45 rfl rfl rfl ?_
            refine v_bipush (v := -9) C dX5_sell_46 (by decide) rfl ?_
            refine v_icmp_eq (tgt := 57) C dX5_sell_48 (by decide) rfl (fun c48 => ?_) (fun c48 => ?_)
            · skip
              refine v_iload C dX5_sell_57 rfl rfl ?_
              refine v_istore_n (lv' := [(2, .int (nI i)), (5, .int r43_2), (4, .int (nI i)), (3, .int x3), (0, .ref 18), (1, .int v)]) C dX5_sell_59 rfl (Nat.le_of_ble_eq_true rfl) rfl rfl ?_
              refine v_iload C dX5_sell_60 rfl rfl ?_
              refine v_istore_n (lv' := [(3, .int r43_2), (2, .int (nI i)), (5, .int r43_2), (4, .int (nI i)), (0, .ref 18), (1, .int v)]) C dX5_sell_62 rfl (Nat.le_of_ble_eq_true rfl) rfl rfl ?_
              refine v_iinc (lv' := [(4, .int (nI (i + 1))), (3, .int r43_2), (2, .int (nI i)), (5, .int r43_2), (0, .ref 18), (1, .int v)]) C dX5_sell_63 rfl (nI_inc i) (Nat.le_of_ble_eq_true rfl) rfl rfl ?_
              refine v_goto (tgt := 25) C dX5_sell_66 (by decide) ?_
              exact V.sub [0, 1, 2, 4, 5] rfl (ih25 (i + 1) _ _ _ (by omega) (by omega) ((gue_new (P := fun _ => True) ex2 ex3 (by omega) hr trivial (Or.inl c48)).1) ((gue_new (P := fun _ => True) ex2 ex3 (by omega) hr trivial (Or.inl c48)).2) (hT))
            · skip
              refine v_iload C dX5_sell_51 rfl rfl ?_
              refine v_iload_n C dX5_sell_53 rfl rfl rfl ?_
              refine v_icmp_ge (tgt := 63) C dX5_sell_54 (by decide) rfl (fun c54 => ?_) (fun c54 => ?_)
              · skip
                refine v_iinc (lv' := [(4, .int (nI (i + 1))), (5, .int r43_2), (3, .int x3), (2, .int x2), (0, .ref 18), (1, .int v)]) C dX5_sell_63 rfl (nI_inc i) (Nat.le_of_ble_eq_true rfl) rfl rfl ?_
                refine v_goto (tgt := 25) C dX5_sell_66 (by decide) ?_
                exact V.sub [0, 2, 3, 4, 5] rfl (ih25 (i + 1) _ _ _ (by omega) (by omega) ((gue_old (P := fun _ => True) ex2 ex3 hr c48 c54).1) ((gue_old (P := fun _ => True) ex2 ex3 hr c48 c54).2) (hT))
              · skip
                refine v_iload C dX5_sell_57 rfl rfl ?_
                refine v_istore_n (lv' := [(2, .int (nI i)), (5, .int r43_2), (4, .int (nI i)), (3, .int x3), (0, .ref 18), (1, .int v)]) C dX5_sell_59 rfl (Nat.le_of_ble_eq_true rfl) rfl rfl ?_
                refine v_iload C dX5_sell_60 rfl rfl ?_
                refine v_istore_n (lv' := [(3, .int r43_2), (2, .int (nI i)), (5, .int r43_2), (4, .int (nI i)), (0, .ref 18), (1, .int v)]) C dX5_sell_62 rfl (Nat.le_of_ble_eq_true rfl) rfl rfl ?_
                refine v_iinc (lv' := [(4, .int (nI (i + 1))), (3, .int r43_2), (2, .int (nI i)), (5, .int r43_2), (0, .ref 18), (1, .int v)]) C dX5_sell_63 rfl (nI_inc i) (Nat.le_of_ble_eq_true rfl) rfl rfl ?_
                refine v_goto (tgt := 25) C dX5_sell_66 (by decide) ?_
                exact V.sub [0, 1, 2, 4, 5] rfl (ih25 (i + 1) _ _ _ (by omega) (by omega) ((gue_new (P := fun _ => True) ex2 ex3 (by omega) hr trivial (Or.inr c54)).1) ((gue_new (P := fun _ => True) ex2 ex3 (by omega) hr trivial (Or.inr c54)).2) (hT))
      exact V.sub [0, 1, 2, 3, 4] rfl (lp25 (n + 1) 0 _ _ _ (by omega) (by omega) (rfl) (rfl) (Thk.rf σ))
    · skip
      refine v_aload_n C dX5_sell_9 rfl rfl rfl ?_
      refine v_bipush (v := -2) C dX5_sell_10 (by decide) rfl ?_
      refine v_callV C (Nat.le_of_ble_eq_true rfl) rfl rfl (As := [.int (-2)]) (rest := []) (kX5_answer (-2) σ) rfl (Nat.le_of_ble_eq_true rfl) (Nat.le_of_ble_eq_true rfl) ⟨mlX5_64, mfX5_answer⟩ dkX5_answer (Nat.le_of_ble_eq_true rfl) dX5_sell_12 rfl (kI ?_)
      exact v_iret C dX5_sell_15 (by rw [hX]; exact ⟨_, rfl, Or.inl ⟨fun z => z.elim c1 c6, rfl, rfl⟩⟩)
