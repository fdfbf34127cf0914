/-! polish, size, wide, heirs: tied -/
theorem f9 {x : Int32} (h : x.toInt ≤ 9) : x < 9 ↔ ¬ x = 9 := by
  have e : (9 : Int32).toInt = 9 := rfl
  rw [i32_lt, e]
  constructor
  · intro h1 h2; rw [h2, e] at h1; omega
  · intro h1
    have : ¬ x.toInt = 9 := fun z => h1 (Int32.toInt_inj.mp (by rw [z, e]))
    omega
theorem p1_int {x : Int32} (h0 : 0 ≤ x.toInt) (h : x.toInt < 1000) : (x + 1).toInt = x.toInt + 1 := by
  have e : (1 : Int32).toInt = 1 := rfl
  rw [i32_add (by rw [e]; omega) (by rw [e]; omega), e]
theorem sml_ft {kd bk ft ag sz : Nat → Int32} {n i : Nat} {v : Int32} (h : Sml kd bk ft ag sz n) (hv : 0 ≤ v.toInt ∧ v.toInt ≤ 9) : Sml kd bk (upd ft i v) ag sz n :=
  ⟨fun p hp => by
    have g := h.1 p hp
    unfold upd
    by_cases c : p = i
    · rw [if_pos c]; exact ⟨g.1, g.2.1, hv.1, hv.2, g.2.2.2.2⟩
    · rw [if_neg c]; exact g, h.2⟩
theorem sml_sz {kd bk ft ag sz : Nat → Int32} {n i : Nat} {v : Int32} (h : Sml kd bk ft ag sz n) (hv : 0 ≤ v.toInt ∧ v.toInt ≤ 20) : Sml kd bk ft ag (upd sz i v) n :=
  ⟨h.1, fun r hr => by
    unfold upd
    by_cases c : r = i
    · rw [if_pos c]; exact hv
    · rw [if_neg c]; exact h.2 r hr⟩
theorem bnd_int {v : Int32} {m : Nat} (hm : m < 2 ^ 31) (h1 : ¬ v < 0) (h2 : ¬ nI m < v) : 0 ≤ v.toInt ∧ v.toInt ≤ (m : Int) := by
  rw [i32_z] at h1
  rw [i32_lt, nI_toInt hm] at h2
  omega
theorem lx_polish {σ : St} {p : Int32} {n : Nat} : Lmx σ (fI (hPolA σ 19 n p) (ansS (hPolS σ 19 n p) (hPolA σ 19 n p))) := by
  rintro r τ ⟨rfl, rfl⟩
  refine ⟨⟨_, rfl⟩, low_ans _ (fun k hk => ?_)⟩
  unfold hPolS
  by_cases c : pieceP p (nI n)
  · rw [cI_t c]
    split
    · rw [s2_ne (by omega)]
    · rfl
  · rw [cI_f c]
theorem lm_polish {σ τ : St} {wv : Int32} {q y t u : Nat} {p : Int32} {n : Nat} (R : RelE σ n q y t u) (h : fI (hPolA σ 19 n p) (ansS (hPolS σ 19 n p) (hPolA σ 19 n p)) (some (.int wv)) τ) (hl : ∀ k, k ≤ 17 → τ k = σ k) : Lmm wv (fI (polA τ n p) (polS τ n p)) := by
  obtain ⟨⟨⟨a1, a2, a3, a4, a5, a6, a7, a8, a9, a10, a11⟩, b1, b2, b3, b4, b5, b6⟩, ⟨r1, r2, r3, r4, r5, r6, r7, r8, r9⟩, S, K⟩ := id R
  obtain ⟨e1, e2⟩ := h
  have e1 : wv = hPolA σ 19 n p := by injection e1 with e1; injection e1
  rintro r υ ⟨rfl, rfl⟩
  unfold polA polS
  unfold hPolA at e1
  unfold hPolS hPolA at e2
  have e22 : σ (19 + 3) = σ 6 := r3
  have l6 : τ 6 = σ 6 := hl 6 (by decide)
  by_cases c : pieceP p (nI n)
  · have hp := (piece_nat a2 c).2
    have hb := S.1 (tn p) hp
    have h9 := f9 hb.2.2.2.1
    rw [cI_t c, e22] at e1
    rw [cI_t c, cI_t c, e22] at e2
    rw [cI_t c, cI_t c, l6]
    by_cases d : σ 6 (tn p) = 9
    · have d' : ¬ σ 6 (tn p) < 9 := fun z => h9.mp z d
      rw [if_neg d'] at e1
      rw [if_neg d', if_neg d'] at e2
      rw [if_pos d, if_pos d]
      exact ⟨by rw [e1], by rw [e2]; exact rel_no R _ _⟩
    · have d' : σ 6 (tn p) < 9 := h9.mpr d
      rw [if_pos d'] at e1
      rw [if_pos d', if_pos d'] at e2
      rw [if_neg d, if_neg d]
      refine ⟨by rw [e1], ?_⟩
      subst e2
      generalize eυ : s2 (ansS (s2 σ (19 + 3) (tn p) (σ 6 (tn p) + 1)) (σ 6 (tn p) + 1)) 6 (tn p) (σ 6 (tn p) + 1) = υ
      have hc : ∀ k, k ≠ 54 ∧ k ≠ (19 + 3) ∧ k ≠ 6 → υ k = σ k := fun k hk => by rw [← eυ, s2_ne hk.2.2, ans_o _ _ hk.1, s2_ne hk.2.1]
      have hl1 : υ 6 = upd (σ 6) (tn p) (σ 6 (tn p) + 1) := by rw [← eυ, s2_eq, ans_o _ _ (by decide), s2_ne (by decide)]
      have hh1 : υ (19 + 3) = upd (σ (19 + 3)) (tn p) (σ 6 (tn p) + 1) := by rw [← eυ, s2_ne (by decide), ans_o _ _ (by decide), s2_eq]
      have hv : 0 ≤ (σ 6 (tn p) + 1).toInt ∧ (σ 6 (tn p) + 1).toInt ≤ 9 := by
        have e9 : (9 : Int32).toInt = 9 := rfl
        rw [i32_lt, e9] at d'
        rw [p1_int hb.2.2.1 (by omega)]; omega
      exact ⟨n, q, y, t, u, ⟨⟨by rw [hc 0 (by decide)]; exact a1, a2, by rw [hc 0 (by decide)]; exact a3, a4, a5, by rw [hc 0 (by decide)]; exact a6, a7, by rw [hc 0 (by decide)]; exact a8, a9, by rw [hc 0 (by decide)]; exact a10, a11⟩, by rw [hc 19 (by decide)]; exact b1, by rw [hc 19 (by decide)]; exact b2, by rw [hc 19 (by decide)]; exact b3, by rw [hc 43 (by decide)]; exact b4, by rw [hc 45 (by decide)]; exact b5, by rw [hc 8 (by decide), hc 3 (by decide)]; exact b6⟩, ⟨row1 r1 (hc 20 (by decide)) (hc 4 (by decide)) 7, row1 r2 (hc 21 (by decide)) (hc 5 (by decide)) 7, fun j _ => by rw [show (22 : Nat) = 19 + 3 from rfl, hh1, hl1, show σ (19 + 3) = σ 6 from r3], row1 r4 (hc 23 (by decide)) (hc 7 (by decide)) 7, row1 r5 (hc 24 (by decide)) (hc 8 (by decide)) 7, row1 r6 (hc 25 (by decide)) (hc 2 (by decide)) 6, by rw [hc 26 (by decide), hc 3 (by decide)]; exact r7, row1 r8 (hc 44 (by decide)) (hc 9 (by decide)) 96, row1 r9 (hc 46 (by decide)) (hc 17 (by decide)) 12⟩, (by rw [SmB, hc 4 (by decide), hc 5 (by decide), hl1, hc 7 (by decide), hc 2 (by decide)]; exact sml_ft S hv), kept_cg (fun k hk => hc k (by omega)) (fun j _ => by rw [hc 13 (by decide)]) (by rw [hc 18 (by decide)]) (by rw [hc 0 (by decide)]) K⟩
  · rw [cI_f c] at e1
    rw [cI_f c, cI_f c] at e2
    rw [cI_f c, cI_f c]
    exact ⟨by rw [e1], by rw [e2]; exact rel_no R _ _⟩
theorem lx_size {σ : St} {r v : Int32} {n : Nat} : Lmx σ (fI (hSizA σ 19 n r v) (ansS (hSizS σ 19 n r v) (hSizA σ 19 n r v))) := by
  rintro r τ ⟨rfl, rfl⟩
  refine ⟨⟨_, rfl⟩, low_ans _ (fun k hk => ?_)⟩
  unfold hSizS
  by_cases c : roomP r
  · rw [cI_t c]
    split
    · rfl
    · split
      · rfl
      · split
        · rfl
        · rw [s2_ne (by omega)]
  · rw [cI_f c]
theorem lm_size {σ τ : St} {wv : Int32} {q y t u : Nat} {r v : Int32} {n : Nat} (R : RelE σ n q y t u) (h : fI (hSizA σ 19 n r v) (ansS (hSizS σ 19 n r v) (hSizA σ 19 n r v)) (some (.int wv)) τ) (hl : ∀ k, k ≤ 17 → τ k = σ k) : Lmm wv (fI (sizA τ n r v) (sizS τ n r v)) := by
  obtain ⟨⟨⟨a1, a2, a3, a4, a5, a6, a7, a8, a9, a10, a11⟩, b1, b2, b3, b4, b5, b6⟩, ⟨r1, r2, r3, r4, r5, r6, r7, r8, r9⟩, S, K⟩ := id R
  obtain ⟨e1, e2⟩ := h
  have e1 : wv = hSizA σ 19 n r v := by injection e1 with e1; injection e1
  rintro r υ ⟨rfl, rfl⟩
  unfold sizA sizS
  unfold hSizA at e1
  unfold hSizS hSizA at e2
  have e21 : σ (19 + 2) = σ 5 := r2
  have e24 : σ (19 + 5) = σ 8 := r5
  have e25 : σ (19 + 6) = σ 2 := r6
  rw [e21, e24, e25] at e1
  rw [e21, e24, e25] at e2
  rw [hl 5 (by decide), hl 8 (by decide), hl 2 (by decide)]
  by_cases c : roomP r
  · rw [cI_t c] at e1
    rw [cI_t c, cI_t c] at e2
    rw [cI_t c, cI_t c]
    by_cases d1 : v < 0
    · rw [if_pos d1] at e1
      rw [if_pos d1, if_pos d1] at e2
      rw [if_pos d1, if_pos d1]
      exact ⟨by rw [e1], by rw [e2]; exact rel_no R _ _⟩
    rw [if_neg d1] at e1
    rw [if_neg d1, if_neg d1] at e2
    rw [if_neg d1, if_neg d1]
    by_cases d2 : 20 < v
    · rw [if_pos d2] at e1
      rw [if_pos d2, if_pos d2] at e2
      rw [if_pos d2, if_pos d2]
      exact ⟨by rw [e1], by rw [e2]; exact rel_no R _ _⟩
    rw [if_neg d2] at e1
    rw [if_neg d2, if_neg d2] at e2
    rw [if_neg d2, if_neg d2]
    by_cases d3 : v < bulF (σ 5) (σ 8) n r
    · rw [if_pos d3] at e1
      rw [if_pos d3, if_pos d3] at e2
      rw [if_pos d3, if_pos d3]
      exact ⟨by rw [e1], by rw [e2]; exact rel_no R _ _⟩
    rw [if_neg d3] at e1
    rw [if_neg d3, if_neg d3] at e2
    rw [if_neg d3, if_neg d3]
    refine ⟨by rw [e1], ?_⟩
    subst e2
    generalize eυ : s2 (ansS (s2 σ (19 + 6) (tn r) v) (σ 2 (tn r))) 2 (tn r) v = υ
    have hc : ∀ k, k ≠ 54 ∧ k ≠ (19 + 6) ∧ k ≠ 2 → υ k = σ k := fun k hk => by rw [← eυ, s2_ne hk.2.2, ans_o _ _ hk.1, s2_ne hk.2.1]
    have hl1 : υ 2 = upd (σ 2) (tn r) v := by rw [← eυ, s2_eq, ans_o _ _ (by decide), s2_ne (by decide)]
    have hh1 : υ (19 + 6) = upd (σ (19 + 6)) (tn r) v := by rw [← eυ, s2_ne (by decide), ans_o _ _ (by decide), s2_eq]
    exact ⟨n, q, y, t, u, ⟨⟨by rw [hc 0 (by decide)]; exact a1, a2, by rw [hc 0 (by decide)]; exact a3, a4, a5, by rw [hc 0 (by decide)]; exact a6, a7, by rw [hc 0 (by decide)]; exact a8, a9, by rw [hc 0 (by decide)]; exact a10, a11⟩, by rw [hc 19 (by decide)]; exact b1, by rw [hc 19 (by decide)]; exact b2, by rw [hc 19 (by decide)]; exact b3, by rw [hc 43 (by decide)]; exact b4, by rw [hc 45 (by decide)]; exact b5, by rw [hc 8 (by decide), hc 3 (by decide)]; exact b6⟩, ⟨row1 r1 (hc 20 (by decide)) (hc 4 (by decide)) 7, row1 r2 (hc 21 (by decide)) (hc 5 (by decide)) 7, row1 r3 (hc 22 (by decide)) (hc 6 (by decide)) 7, row1 r4 (hc 23 (by decide)) (hc 7 (by decide)) 7, row1 r5 (hc 24 (by decide)) (hc 8 (by decide)) 7, fun j _ => by rw [show (25 : Nat) = 19 + 6 from rfl, hh1, hl1, show σ (19 + 6) = σ 2 from r6], by rw [hc 26 (by decide), hc 3 (by decide)]; exact r7, row1 r8 (hc 44 (by decide)) (hc 9 (by decide)) 96, row1 r9 (hc 46 (by decide)) (hc 17 (by decide)) 12⟩, (by rw [SmB, hc 4 (by decide), hc 5 (by decide), hc 6 (by decide), hc 7 (by decide), hl1]; exact sml_sz S (bnd_int (m := 20) (by decide) d1 d2)), kept_cg (fun k hk => hc k (by omega)) (fun j _ => by rw [hc 13 (by decide)]) (by rw [hc 18 (by decide)]) (by rw [hc 0 (by decide)]) K⟩
  · rw [cI_f c] at e1
    rw [cI_f c, cI_f c] at e2
    rw [cI_f c, cI_f c]
    exact ⟨by rw [e1], by rw [e2]; exact rel_no R _ _⟩
theorem lx_wide {σ : St} {f v : Int32} {n : Nat} : Lmx σ (fI (hWidA σ 19 f v) (ansS (hWidS σ 19 f v) (hWidA σ 19 f v))) := by
  rintro r τ ⟨rfl, rfl⟩
  refine ⟨⟨_, rfl⟩, low_ans _ (fun k hk => ?_)⟩
  unfold hWidS
  by_cases c : floorP f
  · rw [cI_t c]
    split
    · rfl
    · split
      · rfl
      · rw [s2_ne (by omega)]
  · rw [cI_f c]
theorem lm_wide {σ τ : St} {wv : Int32} {q y t u : Nat} {f v : Int32} {n : Nat} (R : RelE σ n q y t u) (h : fI (hWidA σ 19 f v) (ansS (hWidS σ 19 f v) (hWidA σ 19 f v)) (some (.int wv)) τ) (hl : ∀ k, k ≤ 17 → τ k = σ k) : Lmm wv (fI (widA τ f v) (widS τ f v)) := by
  obtain ⟨⟨⟨a1, a2, a3, a4, a5, a6, a7, a8, a9, a10, a11⟩, b1, b2, b3, b4, b5, b6⟩, ⟨r1, r2, r3, r4, r5, r6, r7, r8, r9⟩, S, K⟩ := id R
  obtain ⟨e1, e2⟩ := h
  have e1 : wv = hWidA σ 19 f v := by injection e1 with e1; injection e1
  rintro r υ ⟨rfl, rfl⟩
  unfold widA widS
  unfold hWidA at e1
  unfold hWidS hWidA at e2
  rw [hl 3 (by decide)]
  by_cases c : floorP f
  · have hf : σ (19 + 7) (tn f) = σ 3 (tn f) ∧ (tn f = 1 ∨ tn f = 2) := by
      rcases c with rfl | rfl
      · exact ⟨r7.1, Or.inl rfl⟩
      · exact ⟨r7.2, Or.inr rfl⟩
    rw [cI_t c, hf.1] at e1
    rw [cI_t c, cI_t c, hf.1] at e2
    rw [cI_t c, cI_t c]
    by_cases d1 : v < 0
    · rw [if_pos d1] at e1
      rw [if_pos d1, if_pos d1] at e2
      rw [if_pos d1, if_pos d1]
      exact ⟨by rw [e1], by rw [e2]; exact rel_no R _ _⟩
    rw [if_neg d1] at e1
    rw [if_neg d1, if_neg d1] at e2
    rw [if_neg d1, if_neg d1]
    by_cases d2 : 9 < v
    · rw [if_pos d2] at e1
      rw [if_pos d2, if_pos d2] at e2
      rw [if_pos d2, if_pos d2]
      exact ⟨by rw [e1], by rw [e2]; exact rel_no R _ _⟩
    rw [if_neg d2] at e1
    rw [if_neg d2, if_neg d2] at e2
    rw [if_neg d2, if_neg d2]
    refine ⟨by rw [e1], ?_⟩
    subst e2
    generalize eυ : s2 (ansS (s2 σ (19 + 7) (tn f) v) (σ 3 (tn f))) 3 (tn f) v = υ
    have hc : ∀ k, k ≠ 54 ∧ k ≠ (19 + 7) ∧ k ≠ 3 → υ k = σ k := fun k hk => by rw [← eυ, s2_ne hk.2.2, ans_o _ _ hk.1, s2_ne hk.2.1]
    have hl1 : υ 3 = upd (σ 3) (tn f) v := by rw [← eυ, s2_eq, ans_o _ _ (by decide), s2_ne (by decide)]
    have hh1 : υ (19 + 7) = upd (σ (19 + 7)) (tn f) v := by rw [← eυ, s2_ne (by decide), ans_o _ _ (by decide), s2_eq]
    have h7 : υ 26 1 = υ 3 1 ∧ υ 26 2 = υ 3 2 := by
      rw [show (26 : Nat) = 19 + 7 from rfl, hh1, hl1]
      unfold upd
      exact ⟨by split; rfl; exact r7.1, by split; rfl; exact r7.2⟩
    exact ⟨n, q, y, t, u, ⟨⟨by rw [hc 0 (by decide)]; exact a1, a2, by rw [hc 0 (by decide)]; exact a3, a4, a5, by rw [hc 0 (by decide)]; exact a6, a7, by rw [hc 0 (by decide)]; exact a8, a9, by rw [hc 0 (by decide)]; exact a10, a11⟩, by rw [hc 19 (by decide)]; exact b1, by rw [hc 19 (by decide)]; exact b2, by rw [hc 19 (by decide)]; exact b3, by rw [hc 43 (by decide)]; exact b4, by rw [hc 45 (by decide)]; exact b5, by rw [hl1, hc 8 (by decide)]; exact pos_sr b6 d1⟩, ⟨row1 r1 (hc 20 (by decide)) (hc 4 (by decide)) 7, row1 r2 (hc 21 (by decide)) (hc 5 (by decide)) 7, row1 r3 (hc 22 (by decide)) (hc 6 (by decide)) 7, row1 r4 (hc 23 (by decide)) (hc 7 (by decide)) 7, row1 r5 (hc 24 (by decide)) (hc 8 (by decide)) 7, row1 r6 (hc 25 (by decide)) (hc 2 (by decide)) 6, h7, row1 r8 (hc 44 (by decide)) (hc 9 (by decide)) 96, row1 r9 (hc 46 (by decide)) (hc 17 (by decide)) 12⟩, (by rw [SmB, hc 4 (by decide), hc 5 (by decide), hc 6 (by decide), hc 7 (by decide), hc 2 (by decide)]; exact S), kept_cg (fun k hk => hc k (by omega)) (fun j _ => by rw [hc 13 (by decide)]) (by rw [hc 18 (by decide)]) (by rw [hc 0 (by decide)]) K⟩
  · rw [cI_f c] at e1
    rw [cI_f c, cI_f c] at e2
    rw [cI_f c, cI_f c]
    exact ⟨by rw [e1], by rw [e2]; exact rel_no R _ _⟩
theorem lx_heirs {σ : St} {v : Int32} {n : Nat} : Lmx σ (fI (hHeiA σ 19 v) (ansS (hHeiS σ 19 v) (hHeiA σ 19 v))) := by
  rintro r τ ⟨rfl, rfl⟩
  refine ⟨⟨_, rfl⟩, low_ans _ (fun k hk => ?_)⟩
  unfold hHeiS
  split
  · rfl
  · split
    · rfl
    · rw [s2_ne (by omega)]
theorem lm_heirs {σ τ : St} {wv : Int32} {q y t u : Nat} {v : Int32} {n : Nat} (R : RelE σ n q y t u) (h : fI (hHeiA σ 19 v) (ansS (hHeiS σ 19 v) (hHeiA σ 19 v)) (some (.int wv)) τ) (hl : ∀ k, k ≤ 17 → τ k = σ k) : Lmm wv (fI (heiA τ v) (heiS τ v)) := by
  obtain ⟨⟨⟨a1, a2, a3, a4, a5, a6, a7, a8, a9, a10, a11⟩, b1, b2, b3, b4, b5, b6⟩, ⟨r1, r2, r3, r4, r5, r6, r7, r8, r9⟩, S, K⟩ := id R
  obtain ⟨e1, e2⟩ := h
  have e1 : wv = hHeiA σ 19 v := by injection e1 with e1; injection e1
  rintro r υ ⟨rfl, rfl⟩
  unfold heiA heiS
  unfold hHeiA at e1
  unfold hHeiS hHeiA at e2
  rw [hl 0 (by decide)]
  by_cases d1 : v < 2
  · rw [if_pos d1] at e1
    rw [if_pos d1, if_pos d1] at e2
    rw [if_pos d1, if_pos d1]
    exact ⟨by rw [e1], by rw [e2]; exact rel_no R _ _⟩
  rw [if_neg d1] at e1
  rw [if_neg d1, if_neg d1] at e2
  rw [if_neg d1, if_neg d1]
  by_cases d2 : 4 < v
  · rw [if_pos d2] at e1
    rw [if_pos d2, if_pos d2] at e2
    rw [if_pos d2, if_pos d2]
    exact ⟨by rw [e1], by rw [e2]; exact rel_no R _ _⟩
  rw [if_neg d2] at e1
  rw [if_neg d2, if_neg d2] at e2
  rw [if_neg d2, if_neg d2]
  refine ⟨by rw [e1, b2, a3], ?_⟩
  subst e2
  have hv := nat_of (v := v) (a := 2) (b := 4) (by decide) (by decide) d1 d2
  generalize eυ : s2 (ansS (s2 σ 19 8 v) (σ 19 8)) 0 9 v = υ
  have hc : ∀ k, k ≠ 54 ∧ k ≠ 19 ∧ k ≠ 0 → υ k = σ k := fun k hk => by rw [← eυ, s2_ne hk.2.2, ans_o _ _ hk.1, s2_ne hk.2.1]
  have h0 : ∀ j, j ≠ 9 → υ 0 j = σ 0 j := fun j hj => by rw [← eυ, s2_get, if_neg (fun z => hj z.2), ans_o _ _ (by decide), s2_ne (by decide)]
  have h19 : ∀ j, j ≠ 8 → υ 19 j = σ 19 j := fun j hj => by rw [← eυ, s2_ne (by decide), ans_o _ _ (by decide), s2_get, if_neg (fun z => hj z.2)]
  have hq1 : υ 0 9 = v := by rw [← eυ, s2_get, if_pos ⟨rfl, rfl⟩]
  have hq2 : υ 19 8 = v := by rw [← eυ, s2_ne (by decide), ans_o _ _ (by decide), s2_get, if_pos ⟨rfl, rfl⟩]
  exact ⟨n, tn v, y, t, u, ⟨⟨by rw [h0 8 (by decide)]; exact a1, a2, hq1.trans hv.1, hv.2.1, hv.2.2, by rw [h0 10 (by decide)]; exact a6, a7, by rw [h0 15 (by decide)]; exact a8, a9, by rw [h0 27 (by decide)]; exact a10, a11⟩, by rw [h19 7 (by decide)]; exact b1, hq2.trans hv.1, by rw [h19 9 (by decide)]; exact b3, by rw [hc 43 (by decide)]; exact b4, by rw [hc 45 (by decide)]; exact b5, by rw [hc 8 (by decide), hc 3 (by decide)]; exact b6⟩, ⟨row1 r1 (hc 20 (by decide)) (hc 4 (by decide)) 7, row1 r2 (hc 21 (by decide)) (hc 5 (by decide)) 7, row1 r3 (hc 22 (by decide)) (hc 6 (by decide)) 7, row1 r4 (hc 23 (by decide)) (hc 7 (by decide)) 7, row1 r5 (hc 24 (by decide)) (hc 8 (by decide)) 7, row1 r6 (hc 25 (by decide)) (hc 2 (by decide)) 6, by rw [hc 26 (by decide), hc 3 (by decide)]; exact r7, row1 r8 (hc 44 (by decide)) (hc 9 (by decide)) 96, row1 r9 (hc 46 (by decide)) (hc 17 (by decide)) 12⟩, (by rw [SmB, hc 4 (by decide), hc 5 (by decide), hc 6 (by decide), hc 7 (by decide), hc 2 (by decide)]; exact S), kept_cg (fun k hk => hc k (by omega)) (fun j _ => by rw [hc 13 (by decide)]) (by rw [hc 18 (by decide)]) (h0 19 (by decide)) K⟩
