/-! years: tied -/
theorem i1 : (1 : Int32).toInt = 1 := rfl
theorem fauC_eq {kd ft : Nat → Int32} {y : Int32} {p : Nat} (h0 : 0 ≤ (ft p).toInt) (h9 : (ft p).toInt ≤ 9) : fauC kd y ft p = fauS kd y ft p ∧ 0 ≤ (fauS kd y ft p).toInt ∧ (fauS kd y ft p).toInt ≤ 9 := by
  have z0 : (0 : Int32).toInt = 0 := rfl
  have em : (ft p - 1).toInt = (ft p).toInt - 1 := by rw [i32_sub (by rw [i1]; omega) (by rw [i1]; omega), i1]
  unfold fauC fauS
  by_cases c : y - y / 10 * 10 = 0 ∧ ¬ kd p = 3
  · rw [if_pos c]
    by_cases d : 0 < ft p
    · rw [if_pos ⟨c.1, c.2, d⟩]
      rw [i32_lt, z0] at d
      have e : maxI (ft p - 1) 0 = ft p - 1 := by
        unfold maxI
        rw [if_neg (by rw [i32_lt, em, z0]; omega)]
      rw [e, em]; exact ⟨rfl, by omega, by omega⟩
    · rw [if_neg (fun z => d z.2.2)]
      rw [i32_lt, z0] at d
      have e0 : ft p = 0 := Int32.toInt_inj.mp (by rw [z0]; omega)
      rw [e0]; decide
  · rw [if_neg c, if_neg (fun z => c ⟨z.1, z.2.1⟩), Int32.sub_zero]; exact ⟨rfl, h0, h9⟩
theorem ageC_eq {ag : Nat → Int32} {p : Nat} (h0 : 0 ≤ (ag p).toInt) (h9 : (ag p).toInt ≤ 99) : ageC ag p = ageS ag p ∧ 0 ≤ (ageS ag p).toInt ∧ (ageS ag p).toInt ≤ 99 := by
  have e9 : (99 : Int32).toInt = 99 := rfl
  have em : (ag p + 1).toInt = (ag p).toInt + 1 := p1_int h0 (by omega)
  unfold ageC ageS
  by_cases c : ag p < 99
  · rw [if_pos c]
    rw [i32_lt, e9] at c
    have e : minI (ag p + 1) 99 = ag p + 1 := by
      unfold minI
      rw [if_neg (by rw [i32_lt, em, e9]; omega)]
    rw [e, em]; exact ⟨rfl, by omega, by omega⟩
  · rw [if_neg c, Int32.add_zero]
    rw [i32_lt, e9] at c
    have e0 : ag p = 99 := Int32.toInt_inj.mp (by rw [e9]; omega)
    rw [e0]; decide
theorem pre_eq {n : Nat} {f g a : Nat → Int32} (h : ∀ p, p < n → f p = g p) : pre n f a = pre n g a := by
  funext p
  unfold pre
  by_cases c : p < n
  · rw [if_pos c, if_pos c, h p c]
  · rw [if_neg c, if_neg c]
theorem yr_tie {σ τ : St} {h n : Nat} {bk sz : Nat → Int32} (hS : Sml (τ 4) bk (τ 6) (τ 7) sz n) (e1 : σ (h + 1) = τ 4) (e3 : σ (h + 3) = τ 6) (e4 : σ (h + 4) = τ 7) (e9 : σ h 9 = τ 0 10) : ∀ m, (hYrs σ h n m (h + 3) = yrs n τ m 6 ∧ hYrs σ h n m (h + 4) = yrs n τ m 7 ∧ hYrs σ h n m h 9 = yrs n τ m 0 10) ∧ Sml (τ 4) bk (yrs n τ m 6) (yrs n τ m 7) sz n
  | 0 => ⟨⟨e3, e4, e9⟩, hS⟩
  | m + 1 => by
    obtain ⟨⟨i1, i2, i3⟩, iS⟩ := yr_tie hS e1 e3 e4 e9 m
    have q1 : hYrs σ h n m (h + 1) = τ 4 := (hYrs_o σ h n (h + 1) (by omega) (by omega) (by omega) m).trans e1
    have q4 : yrs n τ m 4 = τ 4 := yrs_o n τ 4 (by decide) (by decide) (by decide) m
    have f6 : yrs n τ (m + 1) 6 = pre n (fauS (τ 4) (yrs n τ m 0 10 + 1) (yrs n τ m 6)) (yrs n τ m 6) := by rw [yrs, yrP_6, q4]
    have f7 : yrs n τ (m + 1) 7 = pre n (ageS (yrs n τ m 7)) (yrs n τ m 7) := by rw [yrs, yrP_7]
    refine ⟨⟨?_, ?_, ?_⟩, ?_⟩
    · rw [hYrs, hYrP_3, f6, q1, i1, i3]
      exact pre_eq (fun p hp => (fauC_eq (iS.1 p hp).2.2.1 (iS.1 p hp).2.2.2.1).1)
    · rw [hYrs, hYrP_4, f7, i2]
      exact pre_eq (fun p hp => (ageC_eq (iS.1 p hp).2.2.2.2.1 (iS.1 p hp).2.2.2.2.2).1)
    · rw [hYrs, hYrP_y, yrs, yrP_y, i3]
    · refine ⟨fun p hp => ?_, iS.2⟩
      have g := iS.1 p hp
      rw [f6, f7]
      unfold pre
      rw [if_pos hp, if_pos hp]
      have a := fauC_eq (kd := τ 4) (y := yrs n τ m 0 10 + 1) g.2.2.1 g.2.2.2.1
      have b := ageC_eq g.2.2.2.2.1 g.2.2.2.2.2
      exact ⟨g.1, g.2.1, a.2.1, a.2.2, b.2.1, b.2.2⟩
/-- the blame of all in some years: the same on both sides -/
theorem la_tie {σ τ : St} {n q y t u : Nat} (R : RelE σ n q y t u) (hl : ∀ k, k ≤ 17 → τ k = σ k) (m : Nat) : laH σ 19 n m = laF τ n m := by
  obtain ⟨⟨⟨a1, a2, a3, a4, a5, a6, a7, a8, a9, a10, a11⟩, b1, b2, b3, b4, b5⟩, ⟨r1, r2, r3, r4, r5, r6, r7, r8, r9⟩, S, K⟩ := R
  have T := yr_tie (σ := σ) (τ := τ) (h := 19) (n := n) (bk := τ 5) (sz := τ 2) (by rw [hl 4 (by decide), hl 5 (by decide), hl 6 (by decide), hl 7 (by decide), hl 2 (by decide)]; exact S) (by rw [hl 4 (by decide)]; exact r1) (by rw [hl 6 (by decide)]; exact r3) (by rw [hl 7 (by decide)]; exact r4) (by rw [hl 0 (by decide), b3, a6]) m
  rw [laH, laF, T.1.1, T.1.2.1, hYrs_o σ 19 n (19 + 1) (by decide) (by decide) (by decide), hYrs_o σ 19 n (19 + 5) (by decide) (by decide) (by decide), hl 4 (by decide), hl 8 (by decide)]
  rw [show σ (19 + 1) = σ 4 from r1, show σ (19 + 5) = σ 8 from r5]
theorem yea_le {y k : Nat} (hy : y ≤ 999) (hk : k ≤ 60) (h : y + k ≤ 999) : ¬ minI 60 (nI (999 - y)) < nI k := by
  unfold minI
  split
  · exact fun z => absurd ((nI_ltI (a := 999 - y) (b := k) (by omega) (by omega)).mp z) (by omega)
  · exact fun z => absurd ((nI_ltI (a := 60) (b := k) (by decide) (by omega)).mp z) (by omega)
theorem min_y {y : Nat} {v : Int32} (hy : y ≤ 999) (h1 : ¬ v < 1) : minI 60 (nI (999 - y)) < v ↔ (60 < v ∨ 999 < y + tn v) := by
  by_cases c : 60 < v
  · refine ⟨fun _ => Or.inl c, fun _ => ?_⟩
    unfold minI
    split
    · next d => rw [i32_lt] at c d ⊢; omega
    · exact c
  · have hv := nat_of (v := v) (a := 1) (b := 60) (by decide) (by decide) h1 c
    constructor
    · intro h
      refine Or.inr ?_
      refine Nat.lt_of_not_le (fun z => ?_)
      have := yea_le (y := y) (k := tn v) hy hv.2.2 z
      rw [hv.1] at h
      exact this h
    · rintro (h | h)
      · exact absurd h c
      · unfold minI
        rw [if_pos (show nI (999 - y) < (60 : Int32) from (nI_ltI (a := 999 - y) (b := 60) (by omega) (by decide)).mpr (by omega)), hv.1]
        exact (nI_ltI (by omega) (by omega)).mpr (by omega)
theorem lx_years {σ : St} {v : Int32} {n yy : Nat} : Lmx σ (fI (hYeaA σ 19 n yy v) (ansS (hYeaS σ 19 n yy v) (hYeaA σ 19 n yy v))) := by
  rintro r τ ⟨rfl, rfl⟩
  refine ⟨⟨_, rfl⟩, low_ans _ (fun k hk => ?_)⟩
  unfold hYeaS
  split
  · rfl
  · split
    · rfl
    · exact hYrs_o σ 19 n k (by omega) (by omega) (by omega) _
theorem lm_years {σ τ : St} {wv : Int32} {q y t u : Nat} {v : Int32} {n yy : Nat} (R : RelE σ n q y t u) (ey : yy = y) (h : fI (hYeaA σ 19 n yy v) (ansS (hYeaS σ 19 n yy v) (hYeaA σ 19 n yy v)) (some (.int wv)) τ) (hl : ∀ k, k ≤ 17 → τ k = σ k) : Lmm wv (fI (yeaA τ n yy v) (yeaS τ n yy v)) := by
  obtain ⟨⟨⟨a1, a2, a3, a4, a5, a6, a7, a8, a9, a10, a11⟩, b1, b2, b3, b4, b5, b6⟩, ⟨r1, r2, r3, r4, r5, r6, r7, r8, r9⟩, S, K⟩ := id R
  obtain ⟨e1, e2⟩ := h
  have e1 : wv = hYeaA σ 19 n yy v := by injection e1 with e1; injection e1
  rintro r υ ⟨rfl, rfl⟩
  subst ey
  unfold yeaA yeaS
  unfold hYeaA at e1
  unfold hYeaS hYeaA at e2
  by_cases d1 : v < 1
  · rw [if_pos d1] at e1
    rw [if_pos d1, if_pos d1] at e2
    rw [if_pos d1, if_pos d1]
    exact ⟨by rw [e1], by rw [e2]; exact rel_no R _ _⟩
  rw [if_neg d1] at e1
  rw [if_neg d1, if_neg d1] at e2
  rw [if_neg d1, if_neg d1]
  have hm := min_y (v := v) a7 d1
  by_cases d2 : minI 60 (nI (999 - yy)) < v
  · rw [if_pos d2] at e1
    rw [if_pos d2, if_pos d2] at e2
    have hr : (if 60 < v then (-6 : Int32) else if 999 < yy + tn v then -6 else yrs n τ (tn v) 0 10) = -6 ∧ (if 60 < v then noS τ 6 else if 999 < yy + tn v then noS τ 6 else yrs n τ (tn v)) = noS τ 6 := by
      by_cases c : 60 < v
      · rw [if_pos c, if_pos c]; exact ⟨rfl, rfl⟩
      · rw [if_neg c, if_neg c, if_pos ((hm.mp d2).resolve_left c), if_pos ((hm.mp d2).resolve_left c)]; exact ⟨rfl, rfl⟩
    rw [hr.1, hr.2]
    exact ⟨by rw [e1], by rw [e2]; exact rel_no R _ _⟩
  rw [if_neg d2] at e1
  rw [if_neg d2, if_neg d2] at e2
  have c1 : ¬ 60 < v := fun z => d2 (hm.mpr (Or.inl z))
  have c2 : ¬ 999 < yy + tn v := fun z => d2 (hm.mpr (Or.inr z))
  rw [if_neg c1, if_neg c2, if_neg c1, if_neg c2]
  have T := yr_tie (σ := σ) (τ := τ) (h := 19) (n := n) (bk := τ 5) (sz := τ 2) (by rw [hl 4 (by decide), hl 5 (by decide), hl 6 (by decide), hl 7 (by decide), hl 2 (by decide)]; exact S) (by rw [hl 4 (by decide)]; exact r1) (by rw [hl 6 (by decide)]; exact r3) (by rw [hl 7 (by decide)]; exact r4) (by rw [hl 0 (by decide), b3, a6]) (tn v)
  refine ⟨by rw [e1, T.1.2.2], ?_⟩
  have hy2 : hYrs σ 19 n (tn v) 19 9 = nI (yy + tn v) := hYrs_9 b3 _
  have ho : ∀ k, k ≠ 54 ∧ k ≠ 19 ∧ k ≠ 22 ∧ k ≠ 23 → τ k = σ k := fun k hk => by rw [e2, ans_o _ _ hk.1, hYrs_o σ 19 n k (by omega) (by omega) (by omega)]
  have t22 : τ 22 = hYrs σ 19 n (tn v) (19 + 3) := by rw [e2, ans_o _ _ (by decide)]
  have t23 : τ 23 = hYrs σ 19 n (tn v) (19 + 4) := by rw [e2, ans_o _ _ (by decide)]
  have t19 : τ 19 = hYrs σ 19 n (tn v) 19 := by rw [e2, ans_o _ _ (by decide)]
  generalize eυ : yrs n τ (tn v) = υ at T
  have hυ : ∀ k, k ≠ 6 → k ≠ 7 → k ≠ 0 → υ k = τ k := fun k h1 h2 h3 => by rw [← eυ]; exact yrs_o n τ k h1 h2 h3 _
  have h0' : ∀ j, j ≠ 10 → υ 0 j = σ 0 j := fun j hj => by rw [← eυ, yrs_z n τ j hj, hl 0 (by decide)]
  have hc : ∀ k, k ≠ 54 ∧ k ≠ 19 ∧ k ≠ 22 ∧ k ≠ 23 ∧ k ≠ 6 ∧ k ≠ 7 ∧ k ≠ 0 → υ k = σ k := fun k hk => by rw [hυ k (by omega) (by omega) (by omega), ho k (by omega)]
  exact ⟨n, q, (yy + tn v), t, u, ⟨⟨by rw [h0' 8 (by decide)]; exact a1, a2, by rw [h0' 9 (by decide)]; exact a3, a4, a5, by rw [← T.1.2.2, hy2], by omega, by rw [h0' 15 (by decide)]; exact a8, a9, by rw [h0' 27 (by decide)]; exact a10, a11⟩, by rw [hυ 19 (by decide) (by decide) (by decide), t19, hYrs_z σ 19 n 7 (by decide)]; exact b1, by rw [hυ 19 (by decide) (by decide) (by decide), t19, hYrs_z σ 19 n 8 (by decide)]; exact b2, by rw [hυ 19 (by decide) (by decide) (by decide), t19]; exact hy2, by rw [hc 43 (by decide)]; exact b4, by rw [hc 45 (by decide)]; exact b5, by rw [hc 8 (by decide), hc 3 (by decide)]; exact b6⟩, ⟨row1 r1 (hc 20 (by decide)) (hc 4 (by decide)) 7, row1 r2 (hc 21 (by decide)) (hc 5 (by decide)) 7, fun j _ => by rw [hυ 22 (by decide) (by decide) (by decide), t22, T.1.1], fun j _ => by rw [hυ 23 (by decide) (by decide) (by decide), t23, T.1.2.1], row1 r5 (hc 24 (by decide)) (hc 8 (by decide)) 7, row1 r6 (hc 25 (by decide)) (hc 2 (by decide)) 6, by rw [hc 26 (by decide), hc 3 (by decide)]; exact r7, row1 r8 (hc 44 (by decide)) (hc 9 (by decide)) 96, row1 r9 (hc 46 (by decide)) (hc 17 (by decide)) 12⟩, (by have z := T.2; rw [hl 4 (by decide), hl 5 (by decide), hl 2 (by decide)] at z; rw [SmB, hc 4 (by decide), hc 5 (by decide), hc 2 (by decide)]; exact z), kept_cg (fun k hk => hc k (by omega)) (fun j _ => by rw [hc 13 (by decide)]) (by rw [hc 18 (by decide)]) (h0' 19 (by decide)) K⟩
