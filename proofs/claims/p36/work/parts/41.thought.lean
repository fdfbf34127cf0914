/-! the class: what is thought of; image and on -/
/-- only the thought house has changed -/
def Thk (σ τ : St) : Prop := ∀ a, (a < 27 ∨ 34 < a) → τ a = σ a
theorem Thk.rf (σ : St) : Thk σ σ := fun _ _ => rfl
theorem Thk.tr {σ τ υ : St} (h : Thk σ τ) (g : Thk τ υ) : Thk σ υ := fun a q => (g a q).trans (h a q)
theorem blaF_cg4 {kd ft ag pl kd' ft' ag' pl' : Nat → Int32} {n p : Nat} (hp : p < n) (h : ∀ q, q < n → kd q = kd' q ∧ ft q = ft' q ∧ ag q = ag' q ∧ pl q = pl' q) : blaF kd ft ag pl n p = blaF kd' ft' ag' pl' n p := by
  have hs : suiF kd ft pl n p = suiF kd' ft' pl' n p := by
    rw [suiF, suiF, (h p hp).2.1]
    congr 1
    exact sumN_congr (fun q hq => by rw [suiG, suiG, (h q hq).1, (h q hq).2.2.2, (h p hp).2.2.2])
  have hv : venF ft n p = venF ft' n p := by
    rw [venF, venF, (h p hp).2.1, (h ((p + 1) % n) (Nat.mod_lt _ (by omega))).2.1]
  rw [blaF, blaF, hs, hv, (h p hp).1, (h p hp).2.1, (h p hp).2.2.1]
theorem binF_cg4 {kd ft ag pl kd' ft' ag' pl' : Nat → Int32} {n : Nat} (h : ∀ q, q < n → kd q = kd' q ∧ ft q = ft' q ∧ ag q = ag' q ∧ pl q = pl' q) (r : Int32) : binF kd ft ag pl n r = binF kd' ft' ag' pl' n r :=
  sumN_congr (fun p hp => by rw [binG, binG, blaF_cg4 hp h, (h p hp).2.2.2])
theorem Cop.thk {σ τ : St} (h : Cop σ 27 19 τ) : Thk σ τ := fun a q => h.2.2 a q
theorem Cop.row {σ τ : St} {h g : Nat} (c : Cop σ h g τ) {j q : Nat} (h1 : 1 ≤ j) (h7 : j ≤ 7) (hq : q < lenH j) : τ (h + j) q = σ (g + j) q := by
  rw [c.1 j h1 h7]; simp [pre, hq]
theorem Cop.r1 {σ τ : St} {h g : Nat} (c : Cop σ h g τ) {q : Nat} (hq : q < 7) : τ (h + 1) q = σ (g + 1) q := c.row (j := 1) (by decide) (by decide) hq
theorem Cop.r2 {σ τ : St} {h g : Nat} (c : Cop σ h g τ) {q : Nat} (hq : q < 7) : τ (h + 2) q = σ (g + 2) q := c.row (j := 2) (by decide) (by decide) hq
theorem Cop.r3 {σ τ : St} {h g : Nat} (c : Cop σ h g τ) {q : Nat} (hq : q < 7) : τ (h + 3) q = σ (g + 3) q := c.row (j := 3) (by decide) (by decide) hq
theorem Cop.r4 {σ τ : St} {h g : Nat} (c : Cop σ h g τ) {q : Nat} (hq : q < 7) : τ (h + 4) q = σ (g + 4) q := c.row (j := 4) (by decide) (by decide) hq
theorem Cop.r5 {σ τ : St} {h g : Nat} (c : Cop σ h g τ) {q : Nat} (hq : q < 7) : τ (h + 5) q = σ (g + 5) q := c.row (j := 5) (by decide) (by decide) hq
theorem Cop.r6 {σ τ : St} {h g : Nat} (c : Cop σ h g τ) {q : Nat} (hq : q < 6) : τ (h + 6) q = σ (g + 6) q := c.row (j := 6) (by decide) (by decide) hq
theorem Cop.r7 {σ τ : St} {h g : Nat} (c : Cop σ h g τ) {q : Nat} (hq : q < 3) : τ (h + 7) q = σ (g + 7) q := c.row (j := 7) (by decide) (by decide) hq
def bwoH (σ : St) (n p : Nat) : Int32 := binF (delR (n - 1) p (σ (19 + 1))) (delR (n - 1) p (σ (19 + 3))) (delR (n - 1) p (σ (19 + 4))) (delR (n - 1) p (σ (19 + 5))) (n - 1) 10
def bw2H (σ : St) (n a b : Nat) : Int32 := binF (delR (n - 2) a (delR (n - 1) b (σ (19 + 1)))) (delR (n - 2) a (delR (n - 1) b (σ (19 + 3)))) (delR (n - 2) a (delR (n - 1) b (σ (19 + 4)))) (delR (n - 2) a (delR (n - 1) b (σ (19 + 5)))) (n - 2) 10
def bwfH (σ : St) (n p : Nat) (f : Int32) : Int32 := binF (σ (19 + 1)) (upd (σ (19 + 3)) p f) (σ (19 + 4)) (σ (19 + 5)) n 10
theorem delR_cg {f g : Nat → Int32} {m p q : Nat} (h : ∀ k, k < 7 → f k = g k) (hq : q < m) (hm : m < 7) : delR m p f q = delR m p g q := by
  unfold delR
  split
  · exact h _ (by omega)
  · exact h _ (by omega)
theorem delR_cg2 {f g : Nat → Int32} {m l p b q : Nat} (h : ∀ k, k < 7 → f k = g k) (hq : q < m) (hm : m < l) (hl : l < 7) : delR m p (delR l b f) q = delR m p (delR l b g) q := by
  have e : ∀ k, k < l → delR l b f k = delR l b g k := fun k hk => delR_cg h hk hl
  show (if p ≤ q ∧ q < m then delR l b f (q + 1) else delR l b f q) = (if p ≤ q ∧ q < m then delR l b g (q + 1) else delR l b g q)
  split
  · exact e _ (by omega)
  · exact e _ (by omega)
theorem bwo_ok {σ υ ω : St} {n p : Nat} (c : Cop σ 27 19 υ) (e : ω = s2 (hDel υ 27 p (n - 1)) 27 7 (nI (n - 1))) (h7 : n ≤ 7) (hp : p < n) : binF (ω (27 + 1)) (ω (27 + 3)) (ω (27 + 4)) (ω (27 + 5)) (n - 1) 10 = bwoH σ n p ∧ Thk σ ω := by
  subst e
  refine ⟨?_, fun a ha => by rw [s2_ne (by omega), hDel_o _ _ _ _ _ (by omega)]; exact c.thk a ha⟩
  rw [s2_ne (by decide), s2_ne (by decide), s2_ne (by decide), s2_ne (by decide), hDel_r _ _ _ _ _ (by decide) (by decide), hDel_r _ _ _ _ _ (by decide) (by decide), hDel_r _ _ _ _ _ (by decide) (by decide), hDel_r _ _ _ _ _ (by decide) (by decide)]
  exact binF_cg4 (fun q hq => ⟨delR_cg (fun k hk => c.r1 hk) hq (by omega), delR_cg (fun k hk => c.r3 hk) hq (by omega), delR_cg (fun k hk => c.r4 hk) hq (by omega), delR_cg (fun k hk => c.r5 hk) hq (by omega)⟩) 10
theorem bw2_ok {σ υ ω ψ : St} {n a b : Nat} (c : Cop σ 27 19 υ) (e : ω = s2 (hDel υ 27 b (n - 1)) 27 7 (nI (n - 1))) (e2 : ψ = s2 (hDel ω 27 a (n - 1 - 1)) 27 7 (nI (n - 1 - 1))) (h7 : n ≤ 7) (ha : a < b) (hb : b < n) : binF (ψ (27 + 1)) (ψ (27 + 3)) (ψ (27 + 4)) (ψ (27 + 5)) (n - 1 - 1) 10 = bw2H σ n a b ∧ Thk σ ψ := by
  subst e2; subst e
  refine ⟨?_, fun a ha => by rw [s2_ne (by omega), hDel_o _ _ _ _ _ (by omega), s2_ne (by omega), hDel_o _ _ _ _ _ (by omega)]; exact c.thk a ha⟩
  rw [s2_ne (by decide), s2_ne (by decide), s2_ne (by decide), s2_ne (by decide), hDel_r _ _ _ _ _ (by decide) (by decide), hDel_r _ _ _ _ _ (by decide) (by decide), hDel_r _ _ _ _ _ (by decide) (by decide), hDel_r _ _ _ _ _ (by decide) (by decide)]
  rw [s2_ne (by decide), s2_ne (by decide), s2_ne (by decide), s2_ne (by decide), hDel_r _ _ _ _ _ (by decide) (by decide), hDel_r _ _ _ _ _ (by decide) (by decide), hDel_r _ _ _ _ _ (by decide) (by decide), hDel_r _ _ _ _ _ (by decide) (by decide)]
  exact binF_cg4 (fun q hq => ⟨delR_cg2 (fun k hk => c.r1 hk) hq (by omega) (by omega), delR_cg2 (fun k hk => c.r3 hk) hq (by omega) (by omega), delR_cg2 (fun k hk => c.r4 hk) hq (by omega) (by omega), delR_cg2 (fun k hk => c.r5 hk) hq (by omega) (by omega)⟩) 10
theorem bwf_ok {σ υ ω : St} {n p : Nat} {f : Int32} (c : Cop σ 27 19 υ) (e : ω = s2 υ (27 + 3) p f) (h7 : n ≤ 7) : binF (ω (27 + 1)) (ω (27 + 3)) (ω (27 + 4)) (ω (27 + 5)) n 10 = bwfH σ n p f ∧ Thk σ ω := by
  subst e
  refine ⟨?_, fun a ha => by rw [s2_ne (by omega)]; exact c.thk a ha⟩
  rw [s2_ne (by decide), s2_eq, s2_ne (by decide), s2_ne (by decide)]
  refine binF_cg4 (fun q hq => ⟨c.r1 (by omega), ?_, c.r4 (by omega), c.r5 (by omega)⟩) 10
  unfold upd
  split
  · rfl
  · exact c.r3 (by omega)
theorem yrs_cop {σ υ : St} {n : Nat} (c : Cop σ 27 19 υ) : ∀ k, (∀ q, q < 7 → hYrs υ 27 n k (27 + 3) q = hYrs σ 19 n k (19 + 3) q ∧ hYrs υ 27 n k (27 + 4) q = hYrs σ 19 n k (19 + 4) q) ∧ hYrs υ 27 n k 27 9 = hYrs σ 19 n k 19 9
  | 0 => ⟨fun q hq => ⟨c.r3 hq, c.r4 hq⟩, c.2.1.2.2⟩
  | k + 1 => by
    have ih := yrs_cop c (n := n) k
    have hk : ∀ q, q < 7 → hYrs υ 27 n k (27 + 1) q = hYrs σ 19 n k (19 + 1) q := fun q hq => by
      rw [hYrs_o _ _ _ _ (by decide) (by decide) (by decide), hYrs_o _ _ _ _ (by decide) (by decide) (by decide)]; exact c.r1 hq
    refine ⟨fun q hq => ⟨?_, ?_⟩, ?_⟩
    · rw [hYrs, hYrs, hYrP_3, hYrP_3]
      simp only [pre, fauC, ih.2, hk q hq, (ih.1 q hq).1]
    · rw [hYrs, hYrs, hYrP_4, hYrP_4]
      simp only [pre, ageC, (ih.1 q hq).2]
    · rw [hYrs, hYrs, hYrP_y, hYrP_y, ih.2]
theorem laH_cop {σ υ : St} {n k : Nat} (c : Cop σ 27 19 υ) (h7 : n ≤ 7) : laH υ 27 n k = laH σ 19 n k := by
  rw [laH, laH]
  refine binF_cg4 (fun q hq => ⟨?_, ((yrs_cop c k).1 q (by omega)).1, ((yrs_cop c k).1 q (by omega)).2, ?_⟩) 10
  · rw [hYrs_o _ _ _ _ (by decide) (by decide) (by decide), hYrs_o _ _ _ _ (by decide) (by decide) (by decide)]; exact c.r1 (by omega)
  · rw [hYrs_o _ _ _ _ (by decide) (by decide) (by decide), hYrs_o _ _ _ _ (by decide) (by decide) (by decide)]; exact c.r5 (by omega)
theorem thk_yrs {σ υ : St} {n k : Nat} (c : Cop σ 27 19 υ) : Thk σ (hYrs υ 27 n k) := fun a ha => by
  rw [hYrs_o _ _ _ _ (by omega) (by omega) (by omega)]; exact c.thk a ha
def latH (σ : St) (n : Nat) (v : Int32) : Int32 := if v < 0 then -4 else if 200 < v then -6 else laH σ 19 n (tn v)
noncomputable def gonH (σ : St) (n : Nat) (v : Int32) : Int32 := if v < 0 then -4 else if 999 < v then -6 else fstN (fun k => ¬ v < laH σ 19 n k) 201
theorem kX5_thoughtOfNow (σ : St) : Ct yX5_thoughtOfNow cX5_thoughtOfNow 1 (some (.object "BlameIsFurniture$House")) 3 [.ref 18] σ (rR 27 (Cop σ 27 19)) := by
  refine ct_of plX5 rfl (Nat.le_of_ble_eq_true rfl) (fun X hX C => ?_)
  show V X 0 [(0, .ref 18)] [] σ
  refine v_aload_n C dX5_thoughtOfNow_0 rfl rfl rfl ?_
  refine v_getR C (Nat.le_of_ble_eq_true rfl) rfl rfl hinX5 1 (Nat.le_of_ble_eq_true rfl) lkX5_16 rfl dX5_thoughtOfNow_1 rfl ?_
  refine v_aload_n C dX5_thoughtOfNow_4 rfl rfl rfl ?_
  refine v_getR C (Nat.le_of_ble_eq_true rfl) rfl rfl hinX5 0 (Nat.le_of_ble_eq_true rfl) lkX5_10 rfl dX5_thoughtOfNow_5 rfl ?_
  refine v_callVN C hh27.l0 hh27.s0 rfl (As := [.ref 19]) (rest := []) (kX0_copyFrom 27 19 hh27 hh19 (by decide) σ) rfl (Nat.le_of_ble_eq_true rfl) (Nat.le_of_ble_eq_true rfl) ⟨mlX5_78, mfX0_copyFrom⟩ dkX0_copyFrom (Nat.le_of_ble_eq_true rfl) dX5_thoughtOfNow_8 rfl (krV (fun τ11_1 h11_1 => ?_))
  refine v_aload_n C dX5_thoughtOfNow_11 rfl rfl rfl ?_
  refine v_getR C (Nat.le_of_ble_eq_true rfl) rfl rfl hinX5 1 (Nat.le_of_ble_eq_true rfl) lkX5_16 rfl dX5_thoughtOfNow_12 rfl ?_
  exact v_aret C dX5_thoughtOfNow_15 (by rw [hX]; exact ⟨rfl, h11_1⟩)
theorem kX5_image (σ : St) : Ct yX5_image cX5_image 1 (some .int) 3 [.ref 18] σ (rI (fun r τ => r = σ 19 9 ∧ ∃ υ, Cop σ 35 19 υ ∧ τ = s2 υ 18 3 1)) := by
  refine ct_of plX5 rfl (Nat.le_of_ble_eq_true rfl) (fun X hX C => ?_)
  show V X 0 [(0, .ref 18)] [] σ
  refine v_aload_n C dX5_image_0 rfl rfl rfl ?_
  refine v_getR C (Nat.le_of_ble_eq_true rfl) rfl rfl hinX5 2 (Nat.le_of_ble_eq_true rfl) lkX5_19 rfl dX5_image_1 rfl ?_
  refine v_aload_n C dX5_image_4 rfl rfl rfl ?_
  refine v_getR C (Nat.le_of_ble_eq_true rfl) rfl rfl hinX5 0 (Nat.le_of_ble_eq_true rfl) lkX5_10 rfl dX5_image_5 rfl ?_
  refine v_callVN C hh35.l0 hh35.s0 rfl (As := [.ref 19]) (rest := []) (kX0_copyFrom 35 19 hh35 hh19 (by decide) σ) rfl (Nat.le_of_ble_eq_true rfl) (Nat.le_of_ble_eq_true rfl) ⟨mlX5_78, mfX0_copyFrom⟩ dkX0_copyFrom (Nat.le_of_ble_eq_true rfl) dX5_image_8 rfl (krV (fun τ11_1 h11_1 => ?_))
  refine v_aload_n C dX5_image_11 rfl rfl rfl ?_
  refine v_iconst (v := 1) C dX5_image_12 (by decide) rfl ?_
  refine v_put (ty := .boolean) C (Nat.le_of_ble_eq_true rfl) rfl rfl hinX5 tyX5_ok nmX5 3 (Nat.le_of_ble_eq_true rfl) lkX5_22 rfl (by decide +kernel) rfl rfl rfl dX5_image_13 rfl ?_
  refine V.nm (fun τ13_2 eτ13_2 => ?_)
  refine v_aload_n C dX5_image_16 rfl rfl rfl ?_
  refine v_getR C (Nat.le_of_ble_eq_true rfl) rfl rfl hinX5 0 (Nat.le_of_ble_eq_true rfl) lkX5_10 rfl dX5_image_17 rfl ?_
  refine v_getNI C hh19.l0 hh19.s0 rfl hinX0 9 (Nat.le_of_ble_eq_true rfl) lkX5_224 rfl dX5_image_20 rfl ?_
  exact v_iret C dX5_image_23 (by rw [hX]; exact ⟨_, rfl, by rw [eτ13_2, s2_ne (by decide), h11_1.2.2 19 (Or.inl (by decide))], _, h11_1, eτ13_2⟩)
theorem kX5_on0 (σ : St) (hk : σ 18 3 = 0) : Ct yX5_on cX5_on 1 (some .int) 3 [.ref 18] σ (fI (-3) (ansS σ (-3))) := by
  refine ct_of plX5 rfl (Nat.le_of_ble_eq_true rfl) (fun X hX C => ?_)
  show V X 0 [(0, .ref 18)] [] σ
  refine v_aload_n C dX5_on_0 rfl rfl rfl ?_
  refine v_getI C (Nat.le_of_ble_eq_true rfl) rfl rfl hinX5 3 (Nat.le_of_ble_eq_true rfl) lkX5_22 rfl dX5_on_1 rfl ?_
  refine V.tp hk ?_
  refine v_if_ne (tgt := 14) C dX5_on_4 (by decide) rfl (fun q => absurd q (by decide)) (fun _ => ?_)
  refine v_aload_n C dX5_on_7 rfl rfl rfl ?_
  refine v_bipush (v := -3) C dX5_on_8 (by decide) rfl ?_
  refine v_callV C (Nat.le_of_ble_eq_true rfl) rfl rfl (As := [.int (-3)]) (rest := []) (kX5_answer (-3) σ) rfl (Nat.le_of_ble_eq_true rfl) (Nat.le_of_ble_eq_true rfl) ⟨mlX5_64, mfX5_answer⟩ dkX5_answer (Nat.le_of_ble_eq_true rfl) dX5_on_10 rfl (kI ?_)
  exact v_iret C dX5_on_13 (by rw [hX]; exact fI_of rfl rfl)
theorem kX5_on1 (σ : St) (hk : σ 18 3 = 1) : Ct yX5_on cX5_on 1 (some .int) 3 [.ref 18] σ (rI (fun r τ => r = τ 19 9 ∧ Cop σ 19 35 τ)) := by
  refine ct_of plX5 rfl (Nat.le_of_ble_eq_true rfl) (fun X hX C => ?_)
  show V X 0 [(0, .ref 18)] [] σ
  refine v_aload_n C dX5_on_0 rfl rfl rfl ?_
  refine v_getI C (Nat.le_of_ble_eq_true rfl) rfl rfl hinX5 3 (Nat.le_of_ble_eq_true rfl) lkX5_22 rfl dX5_on_1 rfl ?_
  refine V.tp hk ?_
  refine v_if_ne (tgt := 14) C dX5_on_4 (by decide) rfl (fun _ => ?_) (fun q => absurd q (by decide))
  refine v_aload_n C dX5_on_14 rfl rfl rfl ?_
  refine v_getR C (Nat.le_of_ble_eq_true rfl) rfl rfl hinX5 0 (Nat.le_of_ble_eq_true rfl) lkX5_10 rfl dX5_on_15 rfl ?_
  refine v_aload_n C dX5_on_18 rfl rfl rfl ?_
  refine v_getR C (Nat.le_of_ble_eq_true rfl) rfl rfl hinX5 2 (Nat.le_of_ble_eq_true rfl) lkX5_19 rfl dX5_on_19 rfl ?_
  refine v_callVN C hh19.l0 hh19.s0 rfl (As := [.ref 35]) (rest := []) (kX0_copyFrom 19 35 hh19 hh35 (by decide) σ) rfl (Nat.le_of_ble_eq_true rfl) (Nat.le_of_ble_eq_true rfl) ⟨mlX5_78, mfX0_copyFrom⟩ dkX0_copyFrom (Nat.le_of_ble_eq_true rfl) dX5_on_22 rfl (krV (fun τ25_1 h25_1 => ?_))
  refine v_aload_n C dX5_on_25 rfl rfl rfl ?_
  refine v_getR C (Nat.le_of_ble_eq_true rfl) rfl rfl hinX5 0 (Nat.le_of_ble_eq_true rfl) lkX5_10 rfl dX5_on_26 rfl ?_
  refine v_getNI C hh19.l0 hh19.s0 rfl hinX0 9 (Nat.le_of_ble_eq_true rfl) lkX5_224 rfl dX5_on_29 rfl ?_
  exact v_iret C dX5_on_32 (by rw [hX]; exact ⟨_, rfl, rfl, h25_1⟩)
theorem kX5_blameWithout (p : Nat) (n : Nat) (σ : St) (hn : σ 19 7 = nI n) (h7 : n ≤ 7) (hp : p < n) : Ct yX5_blameWithout cX5_blameWithout 3 (some .int) 4 [.ref 18, .int (nI p)] σ (rI (fun v τ => v = bwoH σ n p ∧ Thk σ τ)) := by
  refine ct_of plX5 rfl (Nat.le_of_ble_eq_true rfl) (fun X hX C => ?_)
  show V X 0 [(0, .ref 18), (1, .int (nI p))] [] σ
  refine v_aload_n C dX5_blameWithout_0 rfl rfl rfl ?_
  refine v_callV C (Nat.le_of_ble_eq_true rfl) rfl rfl (As := []) (rest := []) (kX5_thoughtOfNow σ) rfl (Nat.le_of_ble_eq_true rfl) (Nat.le_of_ble_eq_true rfl) ⟨mlX5_67, mfX5_thoughtOfNow⟩ dkX5_thoughtOfNow (Nat.le_of_ble_eq_true rfl) dX5_blameWithout_1 rfl (krR (fun υ4_1 hC => ?_))
  have hnυ : υ4_1 27 7 = nI n := hC.2.1.1.trans hn
  refine v_astore_n (lv' := [(2, .ref 27), (0, .ref 18), (1, .int (nI p))]) C dX5_blameWithout_4 rfl (Nat.le_of_ble_eq_true rfl) rfl rfl ?_
  refine v_aload_n C dX5_blameWithout_5 rfl rfl rfl ?_
  refine v_iload_n C dX5_blameWithout_6 rfl rfl rfl ?_
  refine v_callVN C hh27.l0 hh27.s0 rfl (As := [.int (nI p)]) (rest := []) (kX0_removePiece p 27 n hh27 υ4_1 hnυ (by omega) (by omega)) rfl (Nat.le_of_ble_eq_true rfl) (Nat.le_of_ble_eq_true rfl) ⟨mlX5_241, mfX0_removePiece⟩ dkX0_removePiece (Nat.le_of_ble_eq_true rfl) dX5_blameWithout_7 rfl (kV ?_)
  refine V.nm (fun ω eω => ?_)
  have hnω : ω 27 7 = nI (n - 1) := by rw [eω, s2_get, if_pos ⟨rfl, rfl⟩]
  refine v_aload_n C dX5_blameWithout_10 rfl rfl rfl ?_
  refine v_callVN C hh27.l0 hh27.s0 rfl (As := []) (rest := []) (kX0_blameOfAll 27 (n - 1) hh27 ω hnω (by omega)) rfl (Nat.le_of_ble_eq_true rfl) (Nat.le_of_ble_eq_true rfl) ⟨mlX5_113, mfX0_blameOfAll⟩ dkX0_blameOfAll (Nat.le_of_ble_eq_true rfl) dX5_blameWithout_11 rfl (kI ?_)
  exact v_iret C dX5_blameWithout_14 (by rw [hX]; exact ⟨_, rfl, bwo_ok hC eω h7 hp⟩)
theorem kX5_blameWithoutBoth (a b : Nat) (n : Nat) (σ : St) (hn : σ 19 7 = nI n) (h7 : n ≤ 7) (ha : a < b) (hb : b < n) : Ct yX5_blameWithoutBoth cX5_blameWithoutBoth 4 (some .int) 4 [.ref 18, .int (nI a), .int (nI b)] σ (rI (fun v τ => v = bw2H σ n a b ∧ Thk σ τ)) := by
  refine ct_of plX5 rfl (Nat.le_of_ble_eq_true rfl) (fun X hX C => ?_)
  show V X 0 [(0, .ref 18), (1, .int (nI a)), (2, .int (nI b))] [] σ
  refine v_aload_n C dX5_blameWithoutBoth_0 rfl rfl rfl ?_
  refine v_callV C (Nat.le_of_ble_eq_true rfl) rfl rfl (As := []) (rest := []) (kX5_thoughtOfNow σ) rfl (Nat.le_of_ble_eq_true rfl) (Nat.le_of_ble_eq_true rfl) ⟨mlX5_67, mfX5_thoughtOfNow⟩ dkX5_thoughtOfNow (Nat.le_of_ble_eq_true rfl) dX5_blameWithoutBoth_1 rfl (krR (fun υ4_1 hC => ?_))
  have hnυ : υ4_1 27 7 = nI n := hC.2.1.1.trans hn
  refine v_astore_n (lv' := [(3, .ref 27), (0, .ref 18), (1, .int (nI a)), (2, .int (nI b))]) C dX5_blameWithoutBoth_4 rfl (Nat.le_of_ble_eq_true rfl) rfl rfl ?_
  refine v_aload_n C dX5_blameWithoutBoth_5 rfl rfl rfl ?_
  refine v_iload_n C dX5_blameWithoutBoth_6 rfl rfl rfl ?_
  refine v_callVN C hh27.l0 hh27.s0 rfl (As := [.int (nI b)]) (rest := []) (kX0_removePiece b 27 n hh27 υ4_1 hnυ (by omega) (by omega)) rfl (Nat.le_of_ble_eq_true rfl) (Nat.le_of_ble_eq_true rfl) ⟨mlX5_241, mfX0_removePiece⟩ dkX0_removePiece (Nat.le_of_ble_eq_true rfl) dX5_blameWithoutBoth_7 rfl (kV ?_)
  refine V.nm (fun ω eω => ?_)
  have hnω : ω 27 7 = nI (n - 1) := by rw [eω, s2_get, if_pos ⟨rfl, rfl⟩]
  refine v_aload_n C dX5_blameWithoutBoth_10 rfl rfl rfl ?_
  refine v_iload_n C dX5_blameWithoutBoth_11 rfl rfl rfl ?_
  refine v_callVN C hh27.l0 hh27.s0 rfl (As := [.int (nI a)]) (rest := []) (kX0_removePiece a 27 (n - 1) hh27 ω hnω (by omega) (by omega)) rfl (Nat.le_of_ble_eq_true rfl) (Nat.le_of_ble_eq_true rfl) ⟨mlX5_241, mfX0_removePiece⟩ dkX0_removePiece (Nat.le_of_ble_eq_true rfl) dX5_blameWithoutBoth_12 rfl (kV ?_)
  refine V.nm (fun ψ eψ => ?_)
  have hnψ : ψ 27 7 = nI ((n - 1) - 1) := by rw [eψ, s2_get, if_pos ⟨rfl, rfl⟩]
  refine v_aload_n C dX5_blameWithoutBoth_15 rfl rfl rfl ?_
  refine v_callVN C hh27.l0 hh27.s0 rfl (As := []) (rest := []) (kX0_blameOfAll 27 (n - 1 - 1) hh27 ψ hnψ (by omega)) rfl (Nat.le_of_ble_eq_true rfl) (Nat.le_of_ble_eq_true rfl) ⟨mlX5_113, mfX0_blameOfAll⟩ dkX0_blameOfAll (Nat.le_of_ble_eq_true rfl) dX5_blameWithoutBoth_16 rfl (kI ?_)
  exact v_iret C dX5_blameWithoutBoth_19 (by rw [hX]; exact ⟨_, rfl, bw2_ok hC eω eψ h7 ha hb⟩)
theorem kX5_blameWithFault (p : Nat) (f : Int32) (n : Nat) (σ : St) (hn : σ 19 7 = nI n) (h7 : n ≤ 7) (hp : p < n) : Ct yX5_blameWithFault cX5_blameWithFault 4 (some .int) 4 [.ref 18, .int (nI p), .int f] σ (rI (fun v τ => v = bwfH σ n p f ∧ Thk σ τ)) := by
  refine ct_of plX5 rfl (Nat.le_of_ble_eq_true rfl) (fun X hX C => ?_)
  show V X 0 [(0, .ref 18), (1, .int (nI p)), (2, .int f)] [] σ
  refine v_aload_n C dX5_blameWithFault_0 rfl rfl rfl ?_
  refine v_callV C (Nat.le_of_ble_eq_true rfl) rfl rfl (As := []) (rest := []) (kX5_thoughtOfNow σ) rfl (Nat.le_of_ble_eq_true rfl) (Nat.le_of_ble_eq_true rfl) ⟨mlX5_67, mfX5_thoughtOfNow⟩ dkX5_thoughtOfNow (Nat.le_of_ble_eq_true rfl) dX5_blameWithFault_1 rfl (krR (fun υ4_1 hC => ?_))
  have hnυ : υ4_1 27 7 = nI n := hC.2.1.1.trans hn
  refine v_astore_n (lv' := [(3, .ref 27), (0, .ref 18), (1, .int (nI p)), (2, .int f)]) C dX5_blameWithFault_4 rfl (Nat.le_of_ble_eq_true rfl) rfl rfl ?_
  refine v_aload_n C dX5_blameWithFault_5 rfl rfl rfl ?_
  refine v_iload_n C dX5_blameWithFault_6 rfl rfl rfl ?_
  refine v_callVN C hh27.l0 hh27.s0 rfl (As := [.int (nI p)]) (rest := []) (kX0_hasPiece (nI p) 27 n hh27 υ4_1 hnυ h7) rfl (Nat.le_of_ble_eq_true rfl) (Nat.le_of_ble_eq_true rfl) ⟨mlX5_87, mfX0_hasPiece⟩ dkX0_hasPiece (Nat.le_of_ble_eq_true rfl) dX5_blameWithFault_7 rfl (kI ?_)
  refine V.tp (show bI (pieceP (nI p) (nI n)) = 1 from (bI_t (pie_nI (by omega) h7)).symm) ?_
  refine v_if_eq (tgt := 20) C dX5_blameWithFault_10 (by decide) rfl (fun q => absurd q (by decide)) (fun _ => ?_)
  refine v_aload_n C dX5_blameWithFault_13 rfl rfl rfl ?_
  refine v_getNR C hh27.l0 hh27.s0 rfl hinX0 2 (Nat.le_of_ble_eq_true rfl) lkX5_173 rfl dX5_blameWithFault_14 rfl ?_
  refine v_iload_n C dX5_blameWithFault_17 rfl rfl rfl ?_
  refine v_iload_n C dX5_blameWithFault_18 rfl rfl rfl ?_
  refine v_iast (i := p) C hh27.l3 hh27.s3 rfl (by omega) (by decide) dX5_blameWithFault_19 rfl ?_
  refine V.nm (fun τ19_2 eτ19_2 => ?_)
  have hnω : τ19_2 27 7 = nI n := by rw [eτ19_2, s2_ne (by decide)]; exact hnυ
  refine v_aload_n C dX5_blameWithFault_20 rfl rfl rfl ?_
  refine v_callVN C hh27.l0 hh27.s0 rfl (As := []) (rest := []) (kX0_blameOfAll 27 n hh27 τ19_2 hnω h7) rfl (Nat.le_of_ble_eq_true rfl) (Nat.le_of_ble_eq_true rfl) ⟨mlX5_113, mfX0_blameOfAll⟩ dkX0_blameOfAll (Nat.le_of_ble_eq_true rfl) dX5_blameWithFault_21 rfl (kI ?_)
  exact v_iret C dX5_blameWithFault_24 (by rw [hX]; exact ⟨_, rfl, bwf_ok hC eτ19_2 h7⟩)
