/-! the class: lots; dealt; Placing's plain ones -/
def plS (υ : St) (f : Nat → Int32) : St := setR υ (27 + 5) f
theorem plS_st (υ : St) (f : Nat → Int32) (j : Nat) (v : Int32) : s2 (plS υ f) (27 + 5) j v = plS υ (upd f j v) := by
  funext a
  by_cases h : a = 27 + 5
  · subst h; rw [s2_eq]; simp [plS, setR]
  · rw [s2_ne h]; simp [plS, setR, h]
theorem plS_o (υ : St) (f : Nat → Int32) {a : Nat} (h : a ≠ 27 + 5) : plS υ f a = υ a := by simp [plS, setR, h]
theorem plS_r (υ : St) (f : Nat → Int32) : plS υ f (27 + 5) = f := by simp [plS, setR]
theorem lo_in {σ υ : St} {n i : Nat} {z : Int32} {f : Nat → Int32} (c : Cop σ 27 19 υ) (h7 : n ≤ 7) (hf : ∀ p, p < n → f p = lpl z n i p) : inF (plS υ f (27 + 1)) (plS υ f (27 + 3)) (plS υ f (27 + 4)) (plS υ f (27 + 5)) n = inF (σ (19 + 1)) (σ (19 + 3)) (σ (19 + 4)) (lpl z n i) n := by
  rw [plS_o _ _ (by decide), plS_o _ _ (by decide), plS_o _ _ (by decide), plS_r]
  exact inF_cg4 (fun q hq => ⟨c.r1 (by omega), c.r3 (by omega), c.r4 (by omega), hf q hq⟩)
theorem zN_s (z : Int32) (k : Nat) : zN z (k + 1) = zN z k * 1664525 + 1013904223 := rfl
def alP (v m : Int32) : Prop := ¬ v < -1 ∧ v < m
theorem kX5_lots (v z : Int32) (n : Nat) (σ : St) (hn : σ 19 7 = nI n) (h7 : n ≤ 7) : Ct yX5_lots cX5_lots 9 (some .int) 5 [.ref 18, .int v, .int z] σ (rI (fun r τ => r = lotH σ n v z ∧ Asks σ τ 1 20 v)) := by
  refine ct_of plX5 rfl (Nat.le_of_ble_eq_true rfl) (fun X hX C => ?_)
  show V X 0 [(0, .ref 18), (1, .int v), (2, .int z)] [] σ
  refine v_iload_n C dX5_lots_0 rfl rfl rfl ?_
  refine v_iconst (v := 1) C dX5_lots_1 (by decide) rfl ?_
  refine v_bipush (v := 20) C dX5_lots_2 (by decide) rfl ?_
  refine v_callS C (As := [.int v, .int 1, .int 20]) (rest := []) (kX5_refusalOutside v 1 20 σ) rfl (Nat.le_of_ble_eq_true rfl) (Nat.le_of_ble_eq_true rfl) ⟨mlX5_179, mfX5_refusalOutside⟩ dkX5_refusalOutside (Nat.le_of_ble_eq_true rfl) dX5_lots_4 rfl (kI ?_)
  rcases bnd_cases v 1 20 with ⟨hb, q1⟩ | ⟨hb, q1, q2⟩ | ⟨hb, q1, q2⟩
  · refine V.tp hb ?_
    refine v_istore_n (lv' := [(3, .int (-4)), (0, .ref 18), (1, .int v), (2, .int z)]) C dX5_lots_7 rfl (Nat.le_of_ble_eq_true rfl) rfl rfl ?_
    refine v_iload_n C dX5_lots_8 rfl rfl rfl ?_
    refine v_if_eq (tgt := 18) C dX5_lots_9 (by decide) rfl (fun q => absurd q (by decide)) (fun _ => ?_)
    refine v_aload_n C dX5_lots_12 rfl rfl rfl ?_
    refine v_iload_n C dX5_lots_13 rfl rfl rfl ?_
    refine v_callV C (Nat.le_of_ble_eq_true rfl) rfl rfl (As := [.int (-4)]) (rest := []) (kX5_answer (-4) σ) rfl (Nat.le_of_ble_eq_true rfl) (Nat.le_of_ble_eq_true rfl) ⟨mlX5_64, mfX5_answer⟩ dkX5_answer (Nat.le_of_ble_eq_true rfl) dX5_lots_14 rfl (kI ?_)
    exact v_iret C dX5_lots_17 (by rw [hX]; exact ⟨_, rfl, by simp [lotH, q1], Or.inl ⟨q1, rfl⟩⟩)
  · refine V.tp hb ?_
    refine v_istore_n (lv' := [(3, .int (-6)), (0, .ref 18), (1, .int v), (2, .int z)]) C dX5_lots_7 rfl (Nat.le_of_ble_eq_true rfl) rfl rfl ?_
    refine v_iload_n C dX5_lots_8 rfl rfl rfl ?_
    refine v_if_eq (tgt := 18) C dX5_lots_9 (by decide) rfl (fun q => absurd q (by decide)) (fun _ => ?_)
    refine v_aload_n C dX5_lots_12 rfl rfl rfl ?_
    refine v_iload_n C dX5_lots_13 rfl rfl rfl ?_
    refine v_callV C (Nat.le_of_ble_eq_true rfl) rfl rfl (As := [.int (-6)]) (rest := []) (kX5_answer (-6) σ) rfl (Nat.le_of_ble_eq_true rfl) (Nat.le_of_ble_eq_true rfl) ⟨mlX5_64, mfX5_answer⟩ dkX5_answer (Nat.le_of_ble_eq_true rfl) dX5_lots_14 rfl (kI ?_)
    exact v_iret C dX5_lots_17 (by rw [hX]; exact ⟨_, rfl, by simp [lotH, q1, q2], Or.inr (Or.inl ⟨q1, q2, rfl⟩)⟩)
  · refine V.tp hb ?_
    refine v_istore_n (lv' := [(3, .int 0), (0, .ref 18), (1, .int v), (2, .int z)]) C dX5_lots_7 rfl (Nat.le_of_ble_eq_true rfl) rfl rfl ?_
    refine v_iload_n C dX5_lots_8 rfl rfl rfl ?_
    refine v_if_eq (tgt := 18) C dX5_lots_9 (by decide) rfl (fun _ => ?_) (fun q => absurd q (by decide))
    have hv1 := nat_of (v := v) (a := 1) (b := 20) (by decide) (by decide) q1 q2
    have hv2 := hv1.2
    refine v_aload_n C dX5_lots_18 rfl rfl rfl ?_
    refine v_callV C (Nat.le_of_ble_eq_true rfl) rfl rfl (As := []) (rest := []) (kX5_thoughtOfNow σ) rfl (Nat.le_of_ble_eq_true rfl) (Nat.le_of_ble_eq_true rfl) ⟨mlX5_67, mfX5_thoughtOfNow⟩ dkX5_thoughtOfNow (Nat.le_of_ble_eq_true rfl) dX5_lots_19 rfl (krR (fun υ hC => ?_))
    have hnυ : υ 27 7 = nI n := hC.2.1.1.trans hn
    refine v_astore (lv' := [(4, .ref 27), (3, .int 0), (0, .ref 18), (1, .int v), (2, .int z)]) C dX5_lots_22 (Nat.le_of_ble_eq_true rfl) rfl rfl ?_
    refine v_iload_n C dX5_lots_24 rfl rfl rfl ?_
    refine v_istore (lv' := [(5, .int z), (4, .ref 27), (3, .int 0), (0, .ref 18), (1, .int v), (2, .int z)]) C dX5_lots_25 (Nat.le_of_ble_eq_true rfl) rfl rfl ?_
    refine v_iconst (v := 0) C dX5_lots_27 (by decide) rfl ?_
    refine v_istore (lv' := [(6, .int 0), (5, .int z), (4, .ref 27), (3, .int 0), (0, .ref 18), (1, .int v), (2, .int z)]) C dX5_lots_28 (Nat.le_of_ble_eq_true rfl) rfl rfl ?_
    refine v_iconst (v := 0) C dX5_lots_30 (by decide) rfl ?_
    refine v_istore (lv' := [(7, .int 0), (6, .int 0), (5, .int z), (4, .ref 27), (3, .int 0), (0, .ref 18), (1, .int v), (2, .int z)]) C dX5_lots_31 (Nat.le_of_ble_eq_true rfl) rfl rfl ?_
    have lp33 : ∀ (kf i : Nat) (x5 : Int32) (x6 : Int32) (τ : St), (tn v) < i + kf → i ≤ (tn v) → x5 = zN z (i * n) → x6 = sumN (loH σ n z) i → (∃ f, τ = plS υ f) → V X 33 [(7, .int (nI i)), (6, .int x6), (5, .int x5), (4, .ref 27), (3, .int 0), (0, .ref 18), (1, .int v), (2, .int z)] [] τ := by
      intro kf
      induction kf with
      | zero => intro i x5 x6 τ h1 h2; omega
      | succ kf ih33 =>
        intro i x5 x6 τ h1 h2 ex5 ex6 eτ
        refine v_iload C dX5_lots_33 rfl rfl ?_
        refine v_iload_n C dX5_lots_35 rfl rfl rfl ?_
        refine V.tp hv1.1 ?_
        refine v_icmp_ge (tgt := 101) C dX5_lots_36 (by decide) rfl (fun c36 => ?_) (fun c36 => ?_)
        · skip
          have c36 := mt (nI_ltI (a := i) (b := (tn v)) (by omega) (by omega)).mpr c36
          refine v_iload C dX5_lots_101 rfl rfl ?_
          exact v_iret C dX5_lots_103 (by rw [hX]; exact ⟨_, rfl, by rw [lotH, if_neg q1, if_neg q2, ex6, show i = tn v from by omega], Or.inr (Or.inr ⟨q1, q2, fun a ha => by obtain ⟨f, e⟩ := eτ; rw [e, plS_o _ _ (by omega)]; exact hC.thk a ha⟩)⟩)
        · skip
          have c36 := (nI_ltI (a := i) (b := (tn v)) (by omega) (by omega)).mp c36
          refine v_iconst (v := 0) C dX5_lots_39 (by decide) rfl ?_
          refine v_istore (lv' := [(8, .int 0), (7, .int (nI i)), (6, .int x6), (5, .int x5), (4, .ref 27), (3, .int 0), (0, .ref 18), (1, .int v), (2, .int z)]) C dX5_lots_40 (Nat.le_of_ble_eq_true rfl) rfl rfl ?_
          have lp42 : ∀ (kf j : Nat) (y5 : Int32) (ω : St), n < j + kf → j ≤ n → y5 = zN z (i * n + j) → (∃ f, ω = plS υ f ∧ ∀ p, p < j → f p = lpl z n i p) → V X 42 [(8, .int (nI j)), (7, .int (nI i)), (6, .int x6), (5, .int y5), (4, .ref 27), (3, .int 0), (0, .ref 18), (1, .int v), (2, .int z)] [] ω := by
            intro kf
            induction kf with
            | zero => intro j y5 ω h1 h2; omega
            | succ kf ih42 =>
              intro j y5 ω h1 h2 ey5 eω
              have hnω : ω 27 7 = nI n := by obtain ⟨f, e, _⟩ := eω; rw [e, plS_o _ _ (by decide)]; exact hnυ
              refine v_iload C dX5_lots_42 rfl rfl ?_
              refine v_aload C dX5_lots_44 rfl rfl ?_
              refine v_getNI C hh27.l0 hh27.s0 rfl hinX0 7 (Nat.le_of_ble_eq_true rfl) lkX5_126 rfl dX5_lots_46 rfl ?_
              refine V.tp hnω ?_
              refine v_icmp_ge (tgt := 80) C dX5_lots_49 (by decide) rfl (fun c49 => ?_) (fun c49 => ?_)
              · skip
                have c49 := mt (nI_ltI (a := j) (b := n) (by omega) (by omega)).mpr c49
                refine v_iload C dX5_lots_80 rfl rfl ?_
                refine v_aload C dX5_lots_82 rfl rfl ?_
                refine v_aload C dX5_lots_84 rfl rfl ?_
                refine v_callVN C hh27.l0 hh27.s0 rfl (As := []) (rest := [.ref 27, .int x6]) (kX0_worstRoom 27 n hh27 ω hnω h7) rfl (Nat.le_of_ble_eq_true rfl) (Nat.le_of_ble_eq_true rfl) ⟨mlX5_120, mfX0_worstRoom⟩ dkX0_worstRoom (Nat.le_of_ble_eq_true rfl) dX5_lots_86 rfl (kI ?_)
                have hin : inF (ω (27 + 1)) (ω (27 + 3)) (ω (27 + 4)) (ω (27 + 5)) n = inF (σ (19 + 1)) (σ (19 + 3)) (σ (19 + 4)) (lpl z n i) n := by obtain ⟨f, e, hf⟩ := eω; rw [e]; exact lo_in hC h7 (fun p hp => hf p (by omega))
                have hTω : Thk σ ω := by obtain ⟨f, e, hf⟩ := eω; intro a ha; rw [e, plS_o _ _ (by omega)]; exact hC.thk a ha
                refine v_callVN C hh27.l0 hh27.s0 rfl (As := [.int (worN (inF (ω (27 + 1)) (ω (27 + 3)) (ω (27 + 4)) (ω (27 + 5)) n) 6)]) (rest := [.int x6]) (kX0_blameIn (worN (inF (ω (27 + 1)) (ω (27 + 3)) (ω (27 + 4)) (ω (27 + 5)) n) 6) 27 n hh27 ω hnω h7) rfl (Nat.le_of_ble_eq_true rfl) (Nat.le_of_ble_eq_true rfl) ⟨mlX5_117, mfX0_blameIn⟩ dkX0_blameIn (Nat.le_of_ble_eq_true rfl) dX5_lots_89 rfl (kI ?_)
                refine V.tp (show inF (ω (27 + 1)) (ω (27 + 3)) (ω (27 + 4)) (ω (27 + 5)) n (worN (inF (ω (27 + 1)) (ω (27 + 3)) (ω (27 + 4)) (ω (27 + 5)) n) 6) = loH σ n z i from by rw [hin]; rfl) ?_
                refine v_iadd C dX5_lots_92 rfl ?_
                refine V.top (fun v93_1 ev93_1 => ?_)
                refine v_istore (lv' := [(6, .int v93_1), (8, .int (nI j)), (7, .int (nI i)), (5, .int y5), (4, .ref 27), (3, .int 0), (0, .ref 18), (1, .int v), (2, .int z)]) C dX5_lots_93 (Nat.le_of_ble_eq_true rfl) rfl rfl ?_
                refine v_iinc (lv' := [(7, .int (nI (i + 1))), (6, .int v93_1), (8, .int (nI j)), (5, .int y5), (4, .ref 27), (3, .int 0), (0, .ref 18), (1, .int v), (2, .int z)]) C dX5_lots_95 rfl (nI_inc i) (Nat.le_of_ble_eq_true rfl) rfl rfl ?_
                refine v_goto (tgt := 33) C dX5_lots_98 (by decide) ?_
                exact V.sub [0, 1, 3, 4, 5, 6, 7, 8] rfl (ih33 (i + 1) _ _ _ (by omega) (by omega) (by rw [ey5, Nat.succ_mul, show j = n from by omega]) (by rw [ev93_1, ex6]; rfl) (eω.elim (fun f e => ⟨f, e.1⟩)))
              · skip
                have c49 := (nI_ltI (a := j) (b := n) (by omega) (by omega)).mp c49
                refine v_iload C dX5_lots_52 rfl rfl ?_
                refine v_callS C (As := [.int y5]) (rest := []) (kX5_nextSeed y5 ω) rfl (Nat.le_of_ble_eq_true rfl) (Nat.le_of_ble_eq_true rfl) ⟨mlX5_218, mfX5_nextSeed⟩ dkX5_nextSeed (Nat.le_of_ble_eq_true rfl) dX5_lots_54 rfl (kI ?_)
                refine V.top (fun v57_2 ev57_2 => ?_)
                refine v_istore (lv' := [(5, .int v57_2), (8, .int (nI j)), (7, .int (nI i)), (6, .int x6), (4, .ref 27), (3, .int 0), (0, .ref 18), (1, .int v), (2, .int z)]) C dX5_lots_57 (Nat.le_of_ble_eq_true rfl) rfl rfl ?_
                have hst : ∀ ψ, ψ = s2 ω (27 + 5) j (drw v57_2) → ∃ f, ψ = plS υ f ∧ ∀ p, p < j + 1 → f p = lpl z n i p := fun ψ eψ => by
                  obtain ⟨f, e, hf⟩ := eω
                  refine ⟨upd f j (drw v57_2), by rw [eψ, e, plS_st], fun p hp => ?_⟩
                  unfold upd
                  by_cases q : p = j
                  · rw [if_pos q, q, lpl, ev57_2, ey5]; rfl
                  · rw [if_neg q]; exact hf p (by omega)
                refine v_aload C dX5_lots_59 rfl rfl ?_
                refine v_getNR C hh27.l0 hh27.s0 rfl hinX0 4 (Nat.le_of_ble_eq_true rfl) lkX5_204 rfl dX5_lots_61 rfl ?_
                refine v_iload C dX5_lots_64 rfl rfl ?_
                refine v_bipush (v := 6) C dX5_lots_66 (by decide) rfl ?_
                refine v_iload C dX5_lots_68 rfl rfl ?_
                refine v_callS C (As := [.int 6, .int v57_2]) (rest := [.int (nI j), .ref (27 + 5)]) (kX5_drawnBelow v57_2 ω) rfl (Nat.le_of_ble_eq_true rfl) (Nat.le_of_ble_eq_true rfl) ⟨mlX5_221, mfX5_drawnBelow⟩ dkX5_drawnBelow (Nat.le_of_ble_eq_true rfl) dX5_lots_70 rfl (kI ?_)
                refine v_iast (i := j) C hh27.l5 hh27.s5 rfl (by omega) (by decide) dX5_lots_73 rfl ?_
                refine V.nm (fun τ73_3 eτ73_3 => ?_)
                refine v_iinc (lv' := [(8, .int (nI (j + 1))), (5, .int v57_2), (7, .int (nI i)), (6, .int x6), (4, .ref 27), (3, .int 0), (0, .ref 18), (1, .int v), (2, .int z)]) C dX5_lots_74 rfl (nI_inc j) (Nat.le_of_ble_eq_true rfl) rfl rfl ?_
                refine v_goto (tgt := 42) C dX5_lots_77 (by decide) ?_
                exact V.sub [0, 2, 3, 1, 4, 5, 6, 7, 8] rfl (ih42 (j + 1) _ _ (by omega) (by omega) (by rw [ev57_2, ey5]; rfl) (hst _ eτ73_3))
          exact V.sub [0, 1, 2, 3, 4, 5, 6, 7, 8] rfl (lp42 (n + 1) 0 x5 _ (by omega) (by omega) (ex5) (eτ.elim (fun f e => ⟨f, e, fun p hp => absurd hp (Nat.not_lt_zero p)⟩)))
    exact V.sub [0, 1, 2, 3, 4, 5, 6, 7] rfl (lp33 ((tn v) + 1) 0 z 0 _ (by omega) (by omega) (by rw [Nat.zero_mul]; rfl) (rfl) (⟨υ (27 + 5), (setR_id υ (27 + 5)).symm⟩))
