/-! the class: fits, lots -/
/-- two houses with the same blame, from now on -/
def Hsm (σ : St) (g : Nat) (υ : St) (h : Nat) : Prop := (∀ q, q < 7 → υ (h + 1) q = σ (g + 1) q ∧ υ (h + 3) q = σ (g + 3) q ∧ υ (h + 4) q = σ (g + 4) q ∧ υ (h + 5) q = σ (g + 5) q) ∧ υ h 9 = σ g 9
theorem yrs_hsm {σ υ : St} {g h n : Nat} (c : Hsm σ g υ h) : ∀ k, Hsm (hYrs σ g n k) g (hYrs υ h n k) h
  | 0 => c
  | k + 1 => by
    have ih := yrs_hsm c (n := n) k
    refine ⟨fun q hq => ⟨?_, ?_, ?_, ?_⟩, ?_⟩
    · rw [hYrs, hYrs, hYrP_o _ _ _ _ (by omega) (by omega) (by omega), hYrP_o _ _ _ _ (by omega) (by omega) (by omega)]; exact (ih.1 q hq).1
    · rw [hYrs, hYrs, hYrP_3, hYrP_3]
      simp only [pre, fauC, ih.2, (ih.1 q hq).1, (ih.1 q hq).2.1]
    · rw [hYrs, hYrs, hYrP_4, hYrP_4]
      simp only [pre, ageC, (ih.1 q hq).2.2.1]
    · rw [hYrs, hYrs, hYrP_o _ _ _ _ (by omega) (by omega) (by omega), hYrP_o _ _ _ _ (by omega) (by omega) (by omega)]; exact (ih.1 q hq).2.2.2
    · rw [hYrs, hYrs, hYrP_y, hYrP_y, ih.2]
theorem laH_hsm {σ υ : St} {g h n k : Nat} (c : Hsm σ g υ h) (h7 : n ≤ 7) : laH υ h n k = laH σ g n k := by
  rw [laH, laH]
  exact binF_cg4 (fun q hq => ⟨((yrs_hsm c k).1 q (by omega)).1, ((yrs_hsm c k).1 q (by omega)).2.1, ((yrs_hsm c k).1 q (by omega)).2.2.1, ((yrs_hsm c k).1 q (by omega)).2.2.2⟩) 10
def fitB (σ : St) (n u p : Nat) : Nat → Prop := fun k => fstN (othH (s2 σ (19 + 1) p (nI k)) n u) u = -9
noncomputable def fitT (σ : St) (n u p k : Nat) : Int32 := cI (fitB σ n u p k) ((1 : Int32) <<< (nI k &&& 31)) 0
noncomputable def fitH (σ : St) (n u : Nat) (p : Int32) : Int32 := cI (pieceP p (nI n)) (orN (fitT σ n u (tn p)) 6) (-1)
theorem fit_ok {σ τ υ ω : St} {n u p k : Nat} (t : Thk σ τ) (c : Cop τ 27 19 υ) (e : ω = s2 υ (27 + 1) p (nI k)) (h7 : n ≤ 7) (hp : p < n) : fstN (rwP ω n) u = fstN (othH (s2 σ (19 + 1) p (nI k)) n u) u := by
  have hs : Hsm (s2 σ (19 + 1) p (nI k)) 19 ω 27 := by
    subst e
    refine ⟨fun q hq => ⟨?_, ?_, ?_, ?_⟩, ?_⟩
    · rw [s2_eq, s2_eq]
      unfold upd
      split
      · rfl
      · rw [c.r1 hq, t (19 + 1) (Or.inl (by decide))]
    · rw [s2_ne (by decide), s2_ne (by decide), c.r3 hq, t (19 + 3) (Or.inl (by decide))]
    · rw [s2_ne (by decide), s2_ne (by decide), c.r4 hq, t (19 + 4) (Or.inl (by decide))]
    · rw [s2_ne (by decide), s2_ne (by decide), c.r5 hq, t (19 + 5) (Or.inl (by decide))]
    · rw [s2_ne (by decide), s2_ne (by decide), c.2.1.2.2, t 19 (Or.inl (by decide))]
  have : rwP ω n = othH (s2 σ (19 + 1) p (nI k)) n u := funext (fun j => by
    rw [rwP, othH, laH_hsm hs h7, e, s2_ne (by decide), s2_ne (by decide), c.2.2 46 (Or.inr (by decide)), t 46 (Or.inr (by decide))])
  rw [this]
theorem inF_cg4 {kd ft ag pl kd' ft' ag' pl' : Nat → Int32} {n : Nat} (h : ∀ q, q < n → kd q = kd' q ∧ ft q = ft' q ∧ ag q = ag' q ∧ pl q = pl' q) : inF kd ft ag pl n = inF kd' ft' ag' pl' n :=
  funext (fun r => sumN_congr (fun p hp => by rw [binC, binC, blaF_cg4 hp h, (h p hp).2.2.2]))
def loH (σ : St) (n : Nat) (z : Int32) (i : Nat) : Int32 := inF (σ (19 + 1)) (σ (19 + 3)) (σ (19 + 4)) (lpl z n i) n (worN (inF (σ (19 + 1)) (σ (19 + 3)) (σ (19 + 4)) (lpl z n i) n) 6)
def lotH (σ : St) (n : Nat) (v z : Int32) : Int32 := if v < 1 then -4 else if 20 < v then -6 else sumN (loH σ n z) (tn v)
theorem kX5_fits (p : Int32) (u : Nat) (n : Nat) (σ : St) (hn : σ 19 7 = nI n) (h7 : n ≤ 7) (hu : σ 45 1 = nI u) (h12 : u ≤ 12) : Ct yX5_fits cX5_fits 5 (some .int) 5 [.ref 18, .int p] σ (rI (fun z τ => z = fitH σ n u p ∧ ((¬ pieceP p (nI n) ∧ τ = ansS σ (-1)) ∨ (pieceP p (nI n) ∧ Thk σ τ)))) := by
  refine ct_of plX5 rfl (Nat.le_of_ble_eq_true rfl) (fun X hX C => ?_)
  show V X 0 [(0, .ref 18), (1, .int p)] [] σ
  refine v_aload_n C dX5_fits_0 rfl rfl rfl ?_
  refine v_getR C (Nat.le_of_ble_eq_true rfl) rfl rfl hinX5 0 (Nat.le_of_ble_eq_true rfl) lkX5_10 rfl dX5_fits_1 rfl ?_
  refine v_iload_n C dX5_fits_4 rfl rfl rfl ?_
  refine v_callVN C hh19.l0 hh19.s0 rfl (As := [.int p]) (rest := []) (kX0_hasPiece p 19 n hh19 σ hn h7) rfl (Nat.le_of_ble_eq_true rfl) (Nat.le_of_ble_eq_true rfl) ⟨mlX5_87, mfX0_hasPiece⟩ dkX0_hasPiece (Nat.le_of_ble_eq_true rfl) dX5_fits_5 rfl (kI ?_)
  refine v_if_ne (tgt := 17) C dX5_fits_8 (by decide) rfl (fun c8 => ?_) (fun c8 => ?_)
  · skip
    have c8 := bI_n c8
    have hp1 : p = nI (tn p) := (piece_nat h7 c8).1
    have hp2 : tn p < n := (piece_nat h7 c8).2
    refine v_iconst (v := 0) C dX5_fits_17 (by decide) rfl ?_
    refine v_istore_n (lv' := [(2, .int 0), (0, .ref 18), (1, .int p)]) C dX5_fits_18 rfl (Nat.le_of_ble_eq_true rfl) rfl rfl ?_
    refine v_iconst (v := 0) C dX5_fits_19 (by decide) rfl ?_
    refine v_istore_n (lv' := [(3, .int 0), (2, .int 0), (0, .ref 18), (1, .int p)]) C dX5_fits_20 rfl (Nat.le_of_ble_eq_true rfl) rfl rfl ?_
    have lp21 : ∀ (kf i : Nat) (x2 : Int32) (τ : St), 6 < i + kf → i ≤ 6 → x2 = orN (fitT σ n u (tn p)) i → Thk σ τ → V X 21 [(3, .int (nI i)), (2, .int x2), (0, .ref 18), (1, .int p)] [] τ := by
      intro kf
      induction kf with
      | zero => intro i x2 τ h1 h2; omega
      | succ kf ih21 =>
        intro i x2 τ h1 h2 ex2 eτ
        have hnτ : τ 19 7 = nI n := by rw [eτ 19 (Or.inl (by decide))]; exact hn
        refine v_iload_n C dX5_fits_21 rfl rfl rfl ?_
        refine v_bipush (v := 6) C dX5_fits_22 (by decide) rfl ?_
        refine v_icmp_ge (tgt := 67) C dX5_fits_24 (by decide) rfl (fun c24 => ?_) (fun c24 => ?_)
        · skip
          have c24 := mt (nI_ltI (a := i) (b := 6) (by omega) (by omega)).mpr c24
          refine v_iload_n C dX5_fits_67 rfl rfl rfl ?_
          exact v_iret C dX5_fits_68 (by rw [hX]; exact ⟨_, rfl, by rw [fitH, cI_t c8, ex2, show i = 6 from by omega], Or.inr ⟨c8, eτ⟩⟩)
        · skip
          have c24 := (nI_ltI (a := i) (b := 6) (by omega) (by omega)).mp c24
          refine v_aload_n C dX5_fits_27 rfl rfl rfl ?_
          refine v_callV C (Nat.le_of_ble_eq_true rfl) rfl rfl (As := []) (rest := []) (kX5_thoughtOfNow τ) rfl (Nat.le_of_ble_eq_true rfl) (Nat.le_of_ble_eq_true rfl) ⟨mlX5_67, mfX5_thoughtOfNow⟩ dkX5_thoughtOfNow (Nat.le_of_ble_eq_true rfl) dX5_fits_28 rfl (krR (fun υ hC => ?_))
          have hnυ : υ 27 7 = nI n := hC.2.1.1.trans hnτ
          have huυ : υ 45 1 = nI u := (congrFun (hC.2.2 45 (Or.inr (by decide))) 1).trans ((congrFun (eτ 45 (Or.inr (by decide))) 1).trans hu)
          refine v_astore (lv' := [(4, .ref 27), (3, .int (nI i)), (2, .int x2), (0, .ref 18), (1, .int p)]) C dX5_fits_31 (Nat.le_of_ble_eq_true rfl) rfl rfl ?_
          refine v_aload C dX5_fits_33 rfl rfl ?_
          refine v_getNR C hh27.l0 hh27.s0 rfl hinX0 0 (Nat.le_of_ble_eq_true rfl) lkX5_211 rfl dX5_fits_35 rfl ?_
          refine v_iload_n C dX5_fits_38 rfl rfl rfl ?_
          refine V.tp hp1 ?_
          refine v_iload_n C dX5_fits_39 rfl rfl rfl ?_
          refine v_iast (i := tn p) C hh27.l1 hh27.s1 rfl (by omega) (by decide) dX5_fits_40 rfl ?_
          refine V.nm (fun τ40_1 eτ40_1 => ?_)
          have eω : τ40_1 = s2 υ (27 + 1) (tn p) (nI i) := eτ40_1
          refine v_aload_n C dX5_fits_41 rfl rfl rfl ?_
          refine v_getR C (Nat.le_of_ble_eq_true rfl) rfl rfl hinX5 5 (Nat.le_of_ble_eq_true rfl) lkX5_36 rfl dX5_fits_42 rfl ?_
          refine v_aload C dX5_fits_45 rfl rfl ?_
          refine v_callVN C (Nat.le_of_ble_eq_true rfl) rfl rfl (As := [.ref 27]) (rest := []) (kX2_firstWrong n u τ40_1 (by rw [eω, s2_ne (by decide)]; exact hnυ) h7 (by rw [eω, s2_ne (by decide)]; exact huυ) h12) rfl (Nat.le_of_ble_eq_true rfl) (Nat.le_of_ble_eq_true rfl) ⟨mlX5_214, mfX2_firstWrong⟩ dkX2_firstWrong (Nat.le_of_ble_eq_true rfl) dX5_fits_47 rfl (krI (fun r ψ hψ => ?_))
          have hr : r = fstN (othH (s2 σ (19 + 1) (tn p) (nI i)) n u) u := hψ.1.trans (fit_ok eτ hC eω h7 hp2)
          have hT : Thk σ ψ := by
            obtain ⟨k, e⟩ := hψ.2
            intro a ha
            rw [e, hYrs_o _ _ _ _ (by omega) (by omega) (by omega), eω, s2_ne (by omega), hC.2.2 a ha]; exact eτ a ha
          refine v_bipush (v := -9) C dX5_fits_50 (by decide) rfl ?_
          refine v_icmp_ne (tgt := 61) C dX5_fits_52 (by decide) rfl (fun c52 => ?_) (fun c52 => ?_)
          · skip
            refine v_iinc (lv' := [(3, .int (nI (i + 1))), (4, .ref 27), (2, .int x2), (0, .ref 18), (1, .int p)]) C dX5_fits_61 rfl (nI_inc i) (Nat.le_of_ble_eq_true rfl) rfl rfl ?_
            refine v_goto (tgt := 21) C dX5_fits_64 (by decide) ?_
            exact V.sub [0, 2, 3, 4] rfl (ih21 (i + 1) _ _ (by omega) (by omega) (by rw [ex2, orN, fitT, cI_f (P := fitB σ n u (tn p) i) (fun z => c52 (hr.trans z))]; simp) (hT))
          · skip
            refine v_iload_n C dX5_fits_55 rfl rfl rfl ?_
            refine v_iconst (v := 1) C dX5_fits_56 (by decide) rfl ?_
            refine v_iload_n C dX5_fits_57 rfl rfl rfl ?_
            refine v_ishl C dX5_fits_58 rfl ?_
            refine v_ior C dX5_fits_59 rfl ?_
            refine V.top (fun v60_2 ev60_2 => ?_)
            refine v_istore_n (lv' := [(2, .int v60_2), (4, .ref 27), (3, .int (nI i)), (0, .ref 18), (1, .int p)]) C dX5_fits_60 rfl (Nat.le_of_ble_eq_true rfl) rfl rfl ?_
            refine v_iinc (lv' := [(3, .int (nI (i + 1))), (2, .int v60_2), (4, .ref 27), (0, .ref 18), (1, .int p)]) C dX5_fits_61 rfl (nI_inc i) (Nat.le_of_ble_eq_true rfl) rfl rfl ?_
            refine v_goto (tgt := 21) C dX5_fits_64 (by decide) ?_
            exact V.sub [0, 1, 3, 4] rfl (ih21 (i + 1) _ _ (by omega) (by omega) (by rw [ev60_2, ex2, orN, fitT, cI_t (P := fitB σ n u (tn p) i) (hr.symm.trans c52)]) (hT))
    exact V.sub [0, 1, 2, 3] rfl (lp21 (6 + 1) 0 0 _ (by omega) (by omega) (rfl) (Thk.rf σ))
  · skip
    have c8 := bI_0 c8
    refine v_aload_n C dX5_fits_11 rfl rfl rfl ?_
    refine v_iconst (v := -1) C dX5_fits_12 (by decide) rfl ?_
    refine v_callV C (Nat.le_of_ble_eq_true rfl) rfl rfl (As := [.int (-1)]) (rest := []) (kX5_answer (-1) σ) rfl (Nat.le_of_ble_eq_true rfl) (Nat.le_of_ble_eq_true rfl) ⟨mlX5_64, mfX5_answer⟩ dkX5_answer (Nat.le_of_ble_eq_true rfl) dX5_fits_13 rfl (kI ?_)
    exact v_iret C dX5_fits_16 (by rw [hX]; exact ⟨_, rfl, by rw [fitH, cI_f c8], Or.inl ⟨c8, rfl⟩⟩)
theorem kX5_nextSeed (x : Int32) (σ : St) : Ct yX5_nextSeed cX5_nextSeed 1 (some .int) 0 [.int x] σ (fI (x * 1664525 + 1013904223) σ) := by
  refine ct_of plX5 rfl (Nat.le_of_ble_eq_true rfl) (fun X hX C => ?_)
  show V X 0 [(0, .int x)] [] σ
  refine v_iload_n C dX5_nextSeed_0 rfl rfl rfl ?_
  refine v_ldc C kcX5_250 dX5_nextSeed_1 rfl ?_
  refine v_imul C dX5_nextSeed_3 rfl ?_
  refine v_ldc C kcX5_251 dX5_nextSeed_4 rfl ?_
  refine v_iadd C dX5_nextSeed_6 rfl ?_
  exact v_iret C dX5_nextSeed_7 (by rw [hX]; exact fI_of (by first | rfl | (simp []; done)) rfl)
theorem kX5_drawnBelow (x : Int32) (σ : St) : Ct yX5_drawnBelow cX5_drawnBelow 2 (some .int) 0 [.int 6, .int x] σ (fI (drw x) σ) := by
  refine ct_of plX5 rfl (Nat.le_of_ble_eq_true rfl) (fun X hX C => ?_)
  show V X 0 [(0, .int 6), (1, .int x)] [] σ
  refine v_iload_n C dX5_drawnBelow_0 rfl rfl rfl ?_
  refine v_if_le (tgt := 17) C dX5_drawnBelow_1 (by decide) rfl (fun q => absurd q (by decide)) (fun _ => ?_)
  refine v_iload_n C dX5_drawnBelow_4 rfl rfl rfl ?_
  refine v_ldc C kcX5_252 dX5_drawnBelow_5 rfl ?_
  refine v_iand C dX5_drawnBelow_7 rfl ?_
  refine v_sipush (v := 256) C dX5_drawnBelow_8 (by decide) rfl ?_
  refine v_idiv C dX5_drawnBelow_11 (by decide) rfl ?_
  refine v_iload_n C dX5_drawnBelow_12 rfl rfl rfl ?_
  refine v_irem C dX5_drawnBelow_13 (by decide) rfl ?_
  refine v_goto (tgt := 18) C dX5_drawnBelow_14 (by decide) ?_
  exact v_iret C dX5_drawnBelow_18 (by rw [hX]; exact fI_of (by first | rfl | (simp []; done)) rfl)
