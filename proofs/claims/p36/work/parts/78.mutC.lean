/-! judge, image, on: tied -/
theorem oth_tie {σ τ : St} {n q y t u : Nat} (R : RelE σ n q y t u) (hl : ∀ k, k ≤ 17 → τ k = σ k) : fstN (othH σ n u) u = othA τ n u := by
  have e : othH σ n u = rowP τ n := funext (fun k => by rw [othH, rowP, minI, la_tie R hl k, hl 17 (by decide), show σ 46 = σ 17 from R.2.1.2.2.2.2.2.2.2.2])
  rw [e, othA]
theorem lx_judge {σ : St} {n u : Nat} : Lmx σ (rI (fun z τ => z = fstN (othH σ n u) u ∧ ∃ υ, Thk σ υ ∧ τ = s2 υ 45 1 0)) := by
  rintro r τ ⟨z, rfl, _, υ, h, rfl⟩
  exact ⟨⟨_, rfl⟩, fun k hk => (s2_ne (by omega)).trans (h k (by omega))⟩
theorem lm_judge {σ τ : St} {w : Int32} {n q y t u : Nat} (R : RelE σ n q y t u) (h : rI (fun z τ => z = fstN (othH σ n u) u ∧ ∃ υ, Thk σ υ ∧ τ = s2 υ 45 1 0) (some (.int w)) τ) (hl : ∀ k, k ≤ 17 → τ k = σ k) : Lmm w (rI (fun r ω => r = othA τ n u ∧ ∃ υ, Sm τ υ ∧ ω = s2 υ 0 27 0)) := by
  obtain ⟨⟨⟨a1, a2, a3, a4, a5, a6, a7, a8, a9, a10, a11⟩, b1, b2, b3, b4, b5, b6⟩, ⟨r1, r2, r3, r4, r5, r6, r7, r8, r9⟩, S, K⟩ := id R
  obtain ⟨w', e1, hw, υ, hT, e2⟩ := h
  have e1 : w = w' := by injection e1 with e1; injection e1
  rintro r ω ⟨r', rfl, hr, ψ, hS, e3⟩
  refine ⟨by rw [hr, e1, hw, oth_tie R hl], ?_⟩
  have hc : ∀ k, ((2 ≤ k ∧ k ≤ 9) ∨ k = 17 ∨ (18 ≤ k ∧ (k < 27 ∨ 34 < k) ∧ k ≠ 45)) → ω k = σ k := fun k hk => by
    rw [e3, s2_ne (by omega), hS.1 k (by omega)]
    rcases hk with hk | hk | hk
    · exact hl k (by omega)
    · exact hl k (by omega)
    · rw [e2, s2_ne (by omega), hT k (by omega)]
  have h0 : ∀ j, (j = 8 ∨ j = 9 ∨ j = 10 ∨ j = 15 ∨ j = 19) → ω 0 j = σ 0 j := fun j hj => by
    rw [e3, s2_get, if_neg (by omega), hS.2.1 j (by omega), hl 0 (by decide)]
  have h27 : ω 0 27 = nI 0 := by rw [e3, s2_get, if_pos ⟨rfl, rfl⟩]; rfl
  have h45 : ω 45 1 = nI 0 := by rw [e3, s2_ne (by decide), hS.1 45 (by decide), e2, s2_get, if_pos ⟨rfl, rfl⟩]; rfl
  have h13 : ∀ j, j < 47 → ω 13 j = σ 13 j := fun j hj => by rw [e3, s2_ne (by decide), hS.2.2 j (by omega), hl 13 (by decide)]
  exact ⟨n, q, y, t, 0, ⟨⟨by rw [h0 8 (by decide)]; exact a1, a2, by rw [h0 9 (by decide)]; exact a3, a4, a5, by rw [h0 10 (by decide)]; exact a6, a7, by rw [h0 15 (by decide)]; exact a8, a9, h27, by omega⟩, by rw [hc 19 (by decide)]; exact b1, by rw [hc 19 (by decide)]; exact b2, by rw [hc 19 (by decide)]; exact b3, by rw [hc 43 (by decide)]; exact b4, h45, by rw [hc 8 (by decide), hc 3 (by decide)]; exact b6⟩, ⟨row1 r1 (hc 20 (by decide)) (hc 4 (by decide)) 7, row1 r2 (hc 21 (by decide)) (hc 5 (by decide)) 7, row1 r3 (hc 22 (by decide)) (hc 6 (by decide)) 7, row1 r4 (hc 23 (by decide)) (hc 7 (by decide)) 7, row1 r5 (hc 24 (by decide)) (hc 8 (by decide)) 7, row1 r6 (hc 25 (by decide)) (hc 2 (by decide)) 6, by rw [hc 26 (by decide), hc 3 (by decide)]; exact r7, row1 r8 (hc 44 (by decide)) (hc 9 (by decide)) 96, row1 r9 (hc 46 (by decide)) (hc 17 (by decide)) 12⟩, (by rw [SmB, hc 4 (by decide), hc 5 (by decide), hc 6 (by decide), hc 7 (by decide), hc 2 (by decide)]; exact S), kept_cg (fun k hk => hc k (by omega)) h13 (by rw [hc 18 (by decide)]) (h0 19 (by decide)) K⟩
theorem blk_low {σ τ : St} (v : Int32) (hl : ∀ k, k ≤ 17 → τ k = σ k) (j : Nat) : blk (s2 τ 0 19 v) j = blk σ j := by
  unfold blk
  rw [s2_ne (by decide), s2_ne (by decide), s2_ne (by decide), s2_ne (by decide), s2_ne (by decide), s2_ne (by decide), s2_ne (by decide), s2_get, s2_get, s2_get, if_neg (show ¬ ((0 : Nat) = 0 ∧ 8 = 19) by decide), if_neg (show ¬ ((0 : Nat) = 0 ∧ 9 = 19) by decide), if_neg (show ¬ ((0 : Nat) = 0 ∧ 10 = 19) by decide), hl 0 (by decide), hl 2 (by decide), hl 3 (by decide), hl 4 (by decide), hl 5 (by decide), hl 6 (by decide), hl 7 (by decide), hl 8 (by decide)]
theorem lx_image {σ : St} : Lmx σ (rI (fun r τ => r = σ 19 9 ∧ ∃ υ, Cop σ 35 19 υ ∧ τ = s2 υ 18 3 1)) := by
  rintro r τ ⟨z, rfl, _, υ, h, rfl⟩
  exact ⟨⟨_, rfl⟩, fun k hk => (s2_ne (by omega)).trans (h.2.2 k (by omega))⟩
theorem lm_image {σ τ : St} {w : Int32} {n q y t u : Nat} (R : RelE σ n q y t u) (h : rI (fun r τ => r = σ 19 9 ∧ ∃ υ, Cop σ 35 19 υ ∧ τ = s2 υ 18 3 1) (some (.int w)) τ) (hl : ∀ k, k ≤ 17 → τ k = σ k) : Lmm w (rI (fun r ω => r = τ 0 10 ∧ Svp (s2 τ 0 19 1) 0 47 ω)) := by
  obtain ⟨⟨⟨a1, a2, a3, a4, a5, a6, a7, a8, a9, a10, a11⟩, b1, b2, b3, b4, b5, b6⟩, ⟨r1, r2, r3, r4, r5, r6, r7, r8, r9⟩, S, K⟩ := id R
  obtain ⟨w', e1, hw, υ, c, e2⟩ := h
  have e1 : w = w' := by injection e1 with e1; injection e1
  rintro r ω ⟨r', rfl, hr, s⟩
  refine ⟨by rw [hr, e1, hw, hl 0 (by decide), b3, a6], ?_⟩
  have hc : ∀ k, k ≠ 0 ∧ k ≠ 13 ∧ k ≠ 18 ∧ (k < 35 ∨ 42 < k) → ω k = σ k := fun k hk => by
    rw [s.1 k hk.1 hk.2.1, s2_ne hk.1, e2, s2_ne hk.2.2.1, c.2.2 k (by omega)]
  have h0 : ∀ j, j ≠ 20 ∧ j ≠ 21 ∧ j ≠ 19 → ω 0 j = σ 0 j := fun j hj => by
    rw [s.2.1 j hj.1 hj.2.1, s2_get, if_neg (fun z => hj.2.2 z.2), hl 0 (by decide)]
  have h19 : ω 0 19 = 1 := by rw [s.2.1 19 (by decide) (by decide), s2_get, if_pos ⟨rfl, rfl⟩]
  have h18 : ω 18 3 = 1 := by rw [s.1 18 (by decide) (by decide), s2_ne (by decide), e2, s2_get, if_pos ⟨rfl, rfl⟩]
  have h13 : ∀ j, j < 47 → ω 13 j = blk σ j := fun j hj => by have := s.2.2.2.2.1 j hj; rw [Nat.zero_add, blk_low 1 hl] at this; exact this
  have hx : ∀ k, 19 ≤ k → ω k = υ k ∨ k = 18 := fun k hk => Or.inl (by rw [s.1 k (by omega) (by omega), s2_ne (by omega), e2, s2_ne (by omega)])
  have hx : ∀ k, 19 ≤ k → ω k = υ k := fun k hk => by rw [s.1 k (by omega) (by omega), s2_ne (by omega), e2, s2_ne (by omega)]
  have x36 : ∀ j, j < 7 → υ 36 j = σ 20 j := fun j hj => by
    rw [show υ 36 = pre 7 (σ 20) (σ 36) from c.1 1 (by decide) (by decide)]
    show (if j < 7 then σ 20 j else σ 36 j) = _
    rw [if_pos hj]
  have x37 : ∀ j, j < 7 → υ 37 j = σ 21 j := fun j hj => by
    rw [show υ 37 = pre 7 (σ 21) (σ 37) from c.1 2 (by decide) (by decide)]
    show (if j < 7 then σ 21 j else σ 37 j) = _
    rw [if_pos hj]
  have x38 : ∀ j, j < 7 → υ 38 j = σ 22 j := fun j hj => by
    rw [show υ 38 = pre 7 (σ 22) (σ 38) from c.1 3 (by decide) (by decide)]
    show (if j < 7 then σ 22 j else σ 38 j) = _
    rw [if_pos hj]
  have x39 : ∀ j, j < 7 → υ 39 j = σ 23 j := fun j hj => by
    rw [show υ 39 = pre 7 (σ 23) (σ 39) from c.1 4 (by decide) (by decide)]
    show (if j < 7 then σ 23 j else σ 39 j) = _
    rw [if_pos hj]
  have x40 : ∀ j, j < 7 → υ 40 j = σ 24 j := fun j hj => by
    rw [show υ 40 = pre 7 (σ 24) (σ 40) from c.1 5 (by decide) (by decide)]
    show (if j < 7 then σ 24 j else σ 40 j) = _
    rw [if_pos hj]
  have x41 : ∀ j, j < 6 → υ 41 j = σ 25 j := fun j hj => by
    rw [show υ 41 = pre 6 (σ 25) (σ 41) from c.1 6 (by decide) (by decide)]
    show (if j < 6 then σ 25 j else σ 41 j) = _
    rw [if_pos hj]
  have x42 : ∀ j, j < 3 → υ 42 j = σ 26 j := fun j hj => by
    rw [show υ 42 = pre 3 (σ 26) (σ 42) from c.1 7 (by decide) (by decide)]
    show (if j < 3 then σ 26 j else σ 42 j) = _
    rw [if_pos hj]
  have B := blk_at σ
  have i2 : ∀ j, j < 6 → ω 13 j = σ 2 j := fun j hj => by have := B.1 j hj; rw [Nat.zero_add] at this; rw [h13 _ (by omega), this]
  have i3 : ∀ j, j < 3 → ω 13 (6 + j) = σ 3 j := fun j hj => by rw [h13 _ (by omega), B.2.1 j hj]
  have i4 : ∀ j, j < 7 → ω 13 (9 + j) = σ 4 j := fun j hj => by rw [h13 _ (by omega), B.2.2.1 j hj]
  have i5 : ∀ j, j < 7 → ω 13 (16 + j) = σ 5 j := fun j hj => by rw [h13 _ (by omega), B.2.2.2.1 j hj]
  have i6 : ∀ j, j < 7 → ω 13 (23 + j) = σ 6 j := fun j hj => by rw [h13 _ (by omega), B.2.2.2.2.1 j hj]
  have i7 : ∀ j, j < 7 → ω 13 (30 + j) = σ 7 j := fun j hj => by rw [h13 _ (by omega), B.2.2.2.2.2.1 j hj]
  have i8 : ∀ j, j < 7 → ω 13 (37 + j) = σ 8 j := fun j hj => by rw [h13 _ (by omega), B.2.2.2.2.2.2 j hj]
  have im : Img ω n q y := by
    refine ⟨⟨a2, a4, a5, a7⟩, ⟨by rw [hx 35 (by decide), c.2.1.1]; exact b1, by rw [hx 35 (by decide), c.2.1.2.1]; exact b2, by rw [hx 35 (by decide), c.2.1.2.2]; exact b3, by rw [h13 44 (by decide)]; exact a1, by rw [h13 45 (by decide)]; exact a3, by rw [h13 46 (by decide)]; exact a6⟩, ⟨?_, ?_, ?_, ?_, ?_, ?_, ?_, ?_⟩, ⟨fun p hp => ?_, fun r hr => ?_⟩, fun p hp => ?_, ?_, ?_⟩
    · intro j hj; rw [hx 36 (by decide), x36 j hj, i4 j hj, r1]
    · intro j hj; rw [hx 37 (by decide), x37 j hj, i5 j hj, r2]
    · intro j hj; rw [hx 38 (by decide), x38 j hj, i6 j hj, r3]
    · intro j hj; rw [hx 39 (by decide), x39 j hj, i7 j hj, r4]
    · intro j hj; rw [hx 40 (by decide), x40 j hj, i8 j hj, r5]
    · intro j hj; rw [hx 41 (by decide), x41 j hj, i2 j hj, r6]
    · rw [hx 42 (by decide), x42 1 (by decide), i3 1 (by decide)]; exact r7.1
    · rw [hx 42 (by decide), x42 2 (by decide), i3 2 (by decide)]; exact r7.2
    · show 0 ≤ (ω 13 (16 + p)).toInt ∧ (ω 13 (16 + p)).toInt ≤ 9 ∧ 0 ≤ (ω 13 (23 + p)).toInt ∧ (ω 13 (23 + p)).toInt ≤ 9 ∧ 0 ≤ (ω 13 (30 + p)).toInt ∧ (ω 13 (30 + p)).toInt ≤ 99
      rw [i5 p (by omega), i6 p (by omega), i7 p (by omega)]; exact S.1 p hp
    · rw [i2 r hr]; exact S.2 r hr
    · show ¬ ω 13 (37 + p) < 0
      rw [i8 p (by omega)]; exact b6.1 p hp
    · show ¬ ω 13 (6 + 1) < 0
      rw [i3 1 (by decide)]; exact b6.2.1
    · show ¬ ω 13 (6 + 2) < 0
      rw [i3 2 (by decide)]; exact b6.2.2
  exact ⟨n, q, y, t, u, ⟨⟨by rw [h0 8 (by decide)]; exact a1, a2, by rw [h0 9 (by decide)]; exact a3, a4, a5, by rw [h0 10 (by decide)]; exact a6, a7, by rw [h0 15 (by decide)]; exact a8, a9, by rw [h0 27 (by decide)]; exact a10, a11⟩, by rw [hc 19 (by decide)]; exact b1, by rw [hc 19 (by decide)]; exact b2, by rw [hc 19 (by decide)]; exact b3, by rw [hc 43 (by decide)]; exact b4, by rw [hc 45 (by decide)]; exact b5, by rw [hc 8 (by decide), hc 3 (by decide)]; exact b6⟩, ⟨row1 r1 (hc 20 (by decide)) (hc 4 (by decide)) 7, row1 r2 (hc 21 (by decide)) (hc 5 (by decide)) 7, row1 r3 (hc 22 (by decide)) (hc 6 (by decide)) 7, row1 r4 (hc 23 (by decide)) (hc 7 (by decide)) 7, row1 r5 (hc 24 (by decide)) (hc 8 (by decide)) 7, row1 r6 (hc 25 (by decide)) (hc 2 (by decide)) 6, by rw [hc 26 (by decide), hc 3 (by decide)]; exact r7, row1 r8 (hc 44 (by decide)) (hc 9 (by decide)) 96, row1 r9 (hc 46 (by decide)) (hc 17 (by decide)) 12⟩, (by rw [SmB, hc 4 (by decide), hc 5 (by decide), hc 6 (by decide), hc 7 (by decide), hc 2 (by decide)]; exact S), ⟨by rw [h18, h19], Or.inr ⟨h19, n, q, y, im⟩⟩⟩
theorem lx_on1 {σ : St} : Lmx σ (rI (fun r τ => r = τ 19 9 ∧ Cop σ 19 35 τ)) := by
  rintro r τ ⟨z, rfl, _, h⟩
  exact ⟨⟨_, rfl⟩, fun k hk => h.2.2 k (by omega)⟩
theorem lm_on1 {σ τ : St} {w : Int32} {n q y t u : Nat} (R : RelE σ n q y t u) (hk1 : σ 18 3 = 1) (h : rI (fun r τ => r = τ 19 9 ∧ Cop σ 19 35 τ) (some (.int w)) τ) (hl : ∀ k, k ≤ 17 → τ k = σ k) : Lmm w (rI (fun r ω => r = ω 0 10 ∧ Rsp τ 0 47 ω)) := by
  obtain ⟨⟨⟨a1, a2, a3, a4, a5, a6, a7, a8, a9, a10, a11⟩, b1, b2, b3, b4, b5, b6⟩, ⟨r1, r2, r3, r4, r5, r6, r7, r8, r9⟩, S, K⟩ := id R
  obtain ⟨w', e1, hw, c⟩ := h
  have e1 : w = w' := by injection e1 with e1; injection e1
  rintro r ω ⟨r', rfl, hr, s⟩
  obtain ⟨kk, k0⟩ := K
  obtain ⟨k1, n', q', y', im⟩ := k0.resolve_left (fun z => by rw [kk, z] at hk1; exact absurd hk1 (by decide))
  have K : KeptB σ := ⟨kk, Or.inr ⟨k1, n', q', y', im⟩⟩
  obtain ⟨⟨i1, i2, i3, i4⟩, ⟨j1, j2, j3, j4, j5, j6⟩, ⟨p1, p2, p3, p4, p5, p6, p7, p8⟩, m1, m2⟩ := im
  have z8 : ω 0 8 = nI n' := by rw [s.2.2.2.2.2.1, if_pos (by decide), hl 13 (by decide)]; exact j4
  have z9 : ω 0 9 = nI q' := by rw [s.2.2.2.2.2.2.1, if_pos (by decide), hl 13 (by decide)]; exact j5
  have z10 : ω 0 10 = nI y' := by rw [s.2.2.2.2.2.2.2, if_pos (by decide), hl 13 (by decide)]; exact j6
  refine ⟨by rw [hr, e1, hw, c.2.1.2.2, z10, j3], ?_⟩
  have hc : ∀ k, (8 < k ∧ (k < 19 ∨ 26 < k)) → ω k = σ k := fun k hk => by
    rw [s.1 k (by omega) (by omega), c.2.2 k (by omega)]
  have hx : ∀ k, 19 ≤ k → ω k = τ k := fun k hk => s.1 k (by omega) (by omega)
  have h0 : ∀ j, (j = 15 ∨ j = 19 ∨ j = 27) → ω 0 j = σ 0 j := fun j hj => by
    rw [s.2.1 j (by omega) (by omega) (by omega) (by omega) (by omega), hl 0 (by decide)]
  have x20 : ∀ j, j < 7 → τ 20 j = σ 36 j := fun j hj => by
    rw [show τ 20 = pre 7 (σ 36) (σ 20) from c.1 1 (by decide) (by decide)]
    show (if j < 7 then σ 36 j else σ 20 j) = _
    rw [if_pos hj]
  have x21 : ∀ j, j < 7 → τ 21 j = σ 37 j := fun j hj => by
    rw [show τ 21 = pre 7 (σ 37) (σ 21) from c.1 2 (by decide) (by decide)]
    show (if j < 7 then σ 37 j else σ 21 j) = _
    rw [if_pos hj]
  have x22 : ∀ j, j < 7 → τ 22 j = σ 38 j := fun j hj => by
    rw [show τ 22 = pre 7 (σ 38) (σ 22) from c.1 3 (by decide) (by decide)]
    show (if j < 7 then σ 38 j else σ 22 j) = _
    rw [if_pos hj]
  have x23 : ∀ j, j < 7 → τ 23 j = σ 39 j := fun j hj => by
    rw [show τ 23 = pre 7 (σ 39) (σ 23) from c.1 4 (by decide) (by decide)]
    show (if j < 7 then σ 39 j else σ 23 j) = _
    rw [if_pos hj]
  have x24 : ∀ j, j < 7 → τ 24 j = σ 40 j := fun j hj => by
    rw [show τ 24 = pre 7 (σ 40) (σ 24) from c.1 5 (by decide) (by decide)]
    show (if j < 7 then σ 40 j else σ 24 j) = _
    rw [if_pos hj]
  have x25 : ∀ j, j < 6 → τ 25 j = σ 41 j := fun j hj => by
    rw [show τ 25 = pre 6 (σ 41) (σ 25) from c.1 6 (by decide) (by decide)]
    show (if j < 6 then σ 41 j else σ 25 j) = _
    rw [if_pos hj]
  have x26 : ∀ j, j < 3 → τ 26 j = σ 42 j := fun j hj => by
    rw [show τ 26 = pre 3 (σ 42) (σ 26) from c.1 7 (by decide) (by decide)]
    show (if j < 3 then σ 42 j else σ 26 j) = _
    rw [if_pos hj]
  have w2 : ∀ j, j < 6 → ω 2 j = σ 13 (0 + j) := fun j hj => by
    rw [s.2.2.2.2.1 2 (by decide) (by decide), if_pos (by decide)]
    show (if j < 6 then τ 13 (0 + 0 + j) else τ 2 j) = _
    rw [if_pos hj, Nat.zero_add, hl 13 (by decide)]
  have w3 : ∀ j, j < 3 → ω 3 j = σ 13 (6 + j) := fun j hj => by
    rw [s.2.2.2.2.1 3 (by decide) (by decide), if_pos (by decide)]
    show (if j < 3 then τ 13 (0 + 6 + j) else τ 3 j) = _
    rw [if_pos hj, Nat.zero_add, hl 13 (by decide)]
  have w4 : ∀ j, j < 7 → ω 4 j = σ 13 (9 + j) := fun j hj => by
    rw [s.2.2.2.2.1 4 (by decide) (by decide), if_pos (by decide)]
    show (if j < 7 then τ 13 (0 + 9 + j) else τ 4 j) = _
    rw [if_pos hj, Nat.zero_add, hl 13 (by decide)]
  have w5 : ∀ j, j < 7 → ω 5 j = σ 13 (16 + j) := fun j hj => by
    rw [s.2.2.2.2.1 5 (by decide) (by decide), if_pos (by decide)]
    show (if j < 7 then τ 13 (0 + 16 + j) else τ 5 j) = _
    rw [if_pos hj, Nat.zero_add, hl 13 (by decide)]
  have w6 : ∀ j, j < 7 → ω 6 j = σ 13 (23 + j) := fun j hj => by
    rw [s.2.2.2.2.1 6 (by decide) (by decide), if_pos (by decide)]
    show (if j < 7 then τ 13 (0 + 23 + j) else τ 6 j) = _
    rw [if_pos hj, Nat.zero_add, hl 13 (by decide)]
  have w7 : ∀ j, j < 7 → ω 7 j = σ 13 (30 + j) := fun j hj => by
    rw [s.2.2.2.2.1 7 (by decide) (by decide), if_pos (by decide)]
    show (if j < 7 then τ 13 (0 + 30 + j) else τ 7 j) = _
    rw [if_pos hj, Nat.zero_add, hl 13 (by decide)]
  have w8 : ∀ j, j < 7 → ω 8 j = σ 13 (37 + j) := fun j hj => by
    rw [s.2.2.2.2.1 8 (by decide) (by decide), if_pos (by decide)]
    show (if j < 7 then τ 13 (0 + 37 + j) else τ 8 j) = _
    rw [if_pos hj, Nat.zero_add, hl 13 (by decide)]
  have sm : SmB ω n' := by
    refine ⟨fun p hp => ?_, fun r hr => ?_⟩
    · rw [w5 p (by omega), w6 p (by omega), w7 p (by omega)]; exact m1.1 p hp
    · rw [w2 r hr, Nat.zero_add]; exact m1.2 r hr
  have ps : Pos (ω 8) (ω 3) n' := by
    refine ⟨fun p hp => ?_, ?_, ?_⟩
    · rw [w8 p (by omega)]; exact m2.1 p hp
    · rw [w3 1 (by decide)]; exact m2.2.1
    · rw [w3 2 (by decide)]; exact m2.2.2
  exact ⟨n', q', y', t, u, ⟨⟨z8, i1, z9, i2, i3, z10, i4, by rw [h0 15 (by decide)]; exact a8, a9, by rw [h0 27 (by decide)]; exact a10, a11⟩, by rw [hx 19 (by decide), c.2.1.1]; exact j1, by rw [hx 19 (by decide), c.2.1.2.1]; exact j2, by rw [hx 19 (by decide), c.2.1.2.2]; exact j3, by rw [hc 43 (by decide)]; exact b4, by rw [hc 45 (by decide)]; exact b5, ps⟩, ⟨fun j hj => by rw [hx 20 (by decide), x20 j hj, w4 j hj]; exact p1 j hj, fun j hj => by rw [hx 21 (by decide), x21 j hj, w5 j hj]; exact p2 j hj, fun j hj => by rw [hx 22 (by decide), x22 j hj, w6 j hj]; exact p3 j hj, fun j hj => by rw [hx 23 (by decide), x23 j hj, w7 j hj]; exact p4 j hj, fun j hj => by rw [hx 24 (by decide), x24 j hj, w8 j hj]; exact p5 j hj, fun j hj => by rw [hx 25 (by decide), x25 j hj, w2 j hj, Nat.zero_add]; exact p6 j hj, by rw [hx 26 (by decide), x26 1 (by decide), x26 2 (by decide), w3 1 (by decide), w3 2 (by decide)]; exact ⟨p7, p8⟩, row1 r8 (hc 44 (by decide)) (hc 9 (by decide)) 96, row1 r9 (hc 46 (by decide)) (hc 17 (by decide)) 12⟩, sm, kept_cg (fun k hk => hc k (by omega)) (fun j _ => by rw [hc 13 (by decide)]) (by rw [hc 18 (by decide)]) (h0 19 (by decide)) K⟩
