/-! house: tied -/
theorem pos_le {g : Nat → Int32} {a : Nat} : ∀ b, a ≤ b → posS g a ≤ posS g b
  | 0, h => by rw [Nat.le_zero.mp h]; exact Nat.le_refl _
  | b + 1, h => by
    rcases Nat.lt_or_ge a (b + 1) with q | q
    · have := pos_le (g := g) b (Nat.le_of_lt_succ q)
      show posS g a ≤ stE g (posS g b)
      rw [stE]; omega
    · rw [show a = b + 1 by omega]; exact Nat.le_refl _
theorem bad_un {g : Nat → Int32} {t m m' x x' : Nat} (c : Chn g t m) (c' : Chn g t m') (b : bad1 g (posS g m) = some x) (b' : bad1 g (posS g m') = some x') : x = x' := by
  rcases Nat.lt_trichotomy m m' with q | q | q
  · have := (c' m q).1; rw [b] at this; cases this
  · subst q; rw [b] at b'; injection b'
  · have := (c m' q).1; rw [b'] at this; cases this
theorem bad_no {g : Nat → Int32} {t m x s : Nat} (hp : 0 < m → posS g m < t) (b : bad1 g (posS g m) = some x) (T : Told g t s) : False := by
  rcases Nat.lt_or_ge m s with q | q
  · have := (T.2.1 m q).1; rw [b] at this; cases this
  · have h1 := hp (Nat.lt_of_lt_of_le T.1 q)
    have h2 := pos_le (g := g) m q
    have h3 := T.2.2
    omega
theorem told_un {g : Nat → Int32} {t s s' : Nat} (T : Told g t s) (T' : Told g t s') : s = s' := by
  rcases Nat.lt_trichotomy s s' with q | q | q
  · have h1 := (T'.2.1 s q).2 T.1
    have h2 := T.2.2
    omega
  · exact q
  · have h1 := (T.2.1 s' q).2 T'.1
    have h2 := T'.2.2
    omega
theorem sim_at {tx : Nat → Int32} {t s k n q y : Nat} {υ ψ : St} (hT : Told (nx tx t) t s) (hV : Tld (nx tx t) s ψ) (hk : k < s) (T : Two (tRun (nx tx t) (hx tx t) υ k) (cmRun ψ k) n q y) : (stA (hx tx t) (tRun (nx tx t) (hx tx t) υ k) (posS (nx tx t) k) < 0 ↔ ¬ cmOk (cmRun ψ k) k) ∧ (cmOk (cmRun ψ k) k → ∃ n q y, Two (tRun (nx tx t) (hx tx t) υ (k + 1)) (cmRun ψ (k + 1)) n q y) := by
  obtain ⟨h1, h2, h3⟩ := told_k rfl hT hk
  have hb : letP (nx tx t (posS (nx tx t) k)) := by rw [← h3]; exact h2
  have V := hV k hk
  have W := vals hb (hT.2.1 k hk).1 V.2.2
  have e10 : cmRun ψ k 10 k = nx tx t (posS (nx tx t) k) := by rw [cmRun_o ψ 10 (by decide) (Or.inr (by decide))]; exact V.1
  have e12 : cmRun ψ k 12 = ψ 12 := cmRun_o ψ 12 (by decide) (Or.inr (by decide)) k
  have A := st_all T hb W
  have h7 := T.1.2.1
  have h9 := T.1.2.2.2.2.2.2
  have en : tn (tRun (nx tx t) (hx tx t) υ k 27 7) = n := by rw [T.1.1]; exact tn_nI (by omega)
  have ey : tn (tRun (nx tx t) (hx tx t) υ k 27 9) = y := by rw [T.1.2.2.2.2.2.1]; exact tn_nI (by omega)
  have un : tn (cmRun ψ k 0 8) = n := by rw [T.2.1.1]; exact tn_nI (by omega)
  have uy : tn (cmRun ψ k 0 10) = y := by rw [T.2.1.2.2]; exact tn_nI (by omega)
  rw [stA, en, ey, h3, cmOk, un, uy, e10, e12, tRun, cmRun, stS, cmAt, en, ey, un, h3, e10, e12]
  exact A
theorem sim_up {tx : Nat → Int32} {t s : Nat} {υ ψ : St} (hT : Told (nx tx t) t s) (hV : Tld (nx tx t) s ψ) (T0 : ∃ n q y, Two υ ψ n q y) : ∀ k, k ≤ s → (∀ j, j < k → cmOk (cmRun ψ j) j) → ∃ n q y, Two (tRun (nx tx t) (hx tx t) υ k) (cmRun ψ k) n q y
  | 0, _, _ => T0
  | k + 1, hk, h => by
    obtain ⟨n, q, y, T⟩ := sim_up hT hV T0 k (by omega) (fun j hj => h j (by omega))
    exact (sim_at hT hV (by omega) T).2 (h k (Nat.lt_succ_self k))
theorem sim_dn {tx : Nat → Int32} {t s : Nat} {υ ψ : St} (hT : Told (nx tx t) t s) (hV : Tld (nx tx t) s ψ) (T0 : ∃ n q y, Two υ ψ n q y) : ∀ k, k ≤ s → (∀ j, j < k → ¬ stA (hx tx t) (tRun (nx tx t) (hx tx t) υ j) (posS (nx tx t) j) < 0) → ∀ j, j < k → cmOk (cmRun ψ j) j
  | 0, _, _ => fun j hj => absurd hj (Nat.not_lt_zero _)
  | k + 1, hk, h => by
    have ih := sim_dn hT hV T0 k (by omega) (fun j hj => h j (by omega))
    obtain ⟨n, q, y, T⟩ := sim_up hT hV T0 k (by omega) ih
    intro j hj
    rcases Nat.lt_succ_iff_lt_or_eq.mp hj with z | z
    · exact ih j z
    · rw [z]
      exact Classical.byContradiction (fun c => h k (Nat.lt_succ_self k) ((sim_at hT hV (by omega) T).1.mpr c))
theorem two_0 {σ υ ψ : St} {n q y t u : Nat} (R : RelE σ n q y t u) (c : Cop σ 27 19 υ) (h0 : ∀ j, (j = 8 ∨ j = 9 ∨ j = 10) → ψ 0 j = σ 0 j) (hr : ∀ k, 2 ≤ k → k ≤ 8 → ψ k = σ k) : Two υ ψ n q y := by
  obtain ⟨⟨⟨a1, a2, a3, a4, a5, a6, a7, a8, a9, a10, a11⟩, b1, b2, b3, b4, b5, b6⟩, ⟨r1, r2, r3, r4, r5, r6, r7, r8, r9⟩, S, K⟩ := id R
  have x28 : ∀ j, j < 7 → υ 28 j = σ 20 j := fun j hj => by
    rw [show υ 28 = pre 7 (σ 20) (σ 28) from c.1 1 (by decide) (by decide)]
    show (if j < 7 then σ 20 j else σ 28 j) = _
    rw [if_pos hj]
  have x29 : ∀ j, j < 7 → υ 29 j = σ 21 j := fun j hj => by
    rw [show υ 29 = pre 7 (σ 21) (σ 29) from c.1 2 (by decide) (by decide)]
    show (if j < 7 then σ 21 j else σ 29 j) = _
    rw [if_pos hj]
  have x30 : ∀ j, j < 7 → υ 30 j = σ 22 j := fun j hj => by
    rw [show υ 30 = pre 7 (σ 22) (σ 30) from c.1 3 (by decide) (by decide)]
    show (if j < 7 then σ 22 j else σ 30 j) = _
    rw [if_pos hj]
  have x31 : ∀ j, j < 7 → υ 31 j = σ 23 j := fun j hj => by
    rw [show υ 31 = pre 7 (σ 23) (σ 31) from c.1 4 (by decide) (by decide)]
    show (if j < 7 then σ 23 j else σ 31 j) = _
    rw [if_pos hj]
  have x32 : ∀ j, j < 7 → υ 32 j = σ 24 j := fun j hj => by
    rw [show υ 32 = pre 7 (σ 24) (σ 32) from c.1 5 (by decide) (by decide)]
    show (if j < 7 then σ 24 j else σ 32 j) = _
    rw [if_pos hj]
  have x33 : ∀ j, j < 6 → υ 33 j = σ 25 j := fun j hj => by
    rw [show υ 33 = pre 6 (σ 25) (σ 33) from c.1 6 (by decide) (by decide)]
    show (if j < 6 then σ 25 j else σ 33 j) = _
    rw [if_pos hj]
  have x34 : ∀ j, j < 3 → υ 34 j = σ 26 j := fun j hj => by
    rw [show υ 34 = pre 3 (σ 26) (σ 34) from c.1 7 (by decide) (by decide)]
    show (if j < 3 then σ 26 j else σ 34 j) = _
    rw [if_pos hj]
  exact ⟨⟨by rw [c.2.1.1]; exact b1, a2, by rw [c.2.1.2.1]; exact b2, a4, a5, by rw [c.2.1.2.2]; exact b3, a7⟩, ⟨by rw [h0 8 (by decide)]; exact a1, by rw [h0 9 (by decide)]; exact a3, by rw [h0 10 (by decide)]; exact a6⟩, ⟨fun j hj => by rw [x28 j hj, hr 4 (by decide) (by decide), r1], fun j hj => by rw [x29 j hj, hr 5 (by decide) (by decide), r2], fun j hj => by rw [x30 j hj, hr 6 (by decide) (by decide), r3], fun j hj => by rw [x31 j hj, hr 7 (by decide) (by decide), r4], fun j hj => by rw [x32 j hj, hr 8 (by decide) (by decide), r5], fun j hj => by rw [x33 j hj, hr 2 (by decide) (by decide), r6], by rw [x34 1 (by decide), x34 2 (by decide), hr 3 (by decide) (by decide)]; exact r7⟩, by rw [SmB, hr 4 (by decide) (by decide), hr 5 (by decide) (by decide), hr 6 (by decide) (by decide), hr 7 (by decide) (by decide), hr 2 (by decide) (by decide)]; exact S, by rw [hr 8 (by decide) (by decide), hr 3 (by decide) (by decide)]; exact b6⟩
/-- where house is refused *-/
theorem kept_rel {σ τ ω : St} {n q y t u : Nat} (R : RelE σ n q y t u) (hτ : ∀ k, (k < 27 ∨ 34 < k) → k ≠ 43 → τ k = σ k) (h43 : τ 43 1 = 0) (k : Kept τ ω) : RelB ω := by
  obtain ⟨⟨⟨a1, a2, a3, a4, a5, a6, a7, a8, a9, a10, a11⟩, b1, b2, b3, b4, b5, b6⟩, ⟨r1, r2, r3, r4, r5, r6, r7, r8, r9⟩, S, K⟩ := id R
  obtain ⟨k1, k2, k3, k4, k5, k6⟩ := k
  have hc : ∀ k, (k = 9 ∨ (17 ≤ k ∧ (k < 27 ∨ 34 < k) ∧ k ≠ 43)) → ω k = σ k := fun k hk => by rw [k4 k (by omega), hτ k (by omega) (by omega)]
  have h0 : ∀ j, (j = 8 ∨ j = 9 ∨ j = 10 ∨ j = 19 ∨ j = 27) → ω 0 j = σ 0 j := fun j hj => by rw [k2 j hj, hτ 0 (by decide) (by decide)]
  have h13 : ∀ j, j < 47 → ω 13 j = σ 13 j := fun j hj => by rw [k5 j hj, hτ 13 (by decide) (by decide)]
  have h15 : ω 0 15 = nI 0 := k1
  have h43' : ω 43 1 = nI 0 := by rw [k4 43 (Or.inr (by decide))]; exact h43
  have w : ∀ k, 2 ≤ k → k ≤ 8 → ∀ j, j < lenR k → ω k j = σ k j := fun k h2 h8 j hj => by rw [k6 k h2 h8 j hj, hτ k (by omega) (by omega)]
  have w2 : ∀ j, j < 6 → ω 2 j = σ 2 j := w 2 (by decide) (by decide)
  have w3 : ∀ j, j < 3 → ω 3 j = σ 3 j := w 3 (by decide) (by decide)
  have w4 : ∀ j, j < 7 → ω 4 j = σ 4 j := w 4 (by decide) (by decide)
  have w5 : ∀ j, j < 7 → ω 5 j = σ 5 j := w 5 (by decide) (by decide)
  have w6 : ∀ j, j < 7 → ω 6 j = σ 6 j := w 6 (by decide) (by decide)
  have w7 : ∀ j, j < 7 → ω 7 j = σ 7 j := w 7 (by decide) (by decide)
  have w8 : ∀ j, j < 7 → ω 8 j = σ 8 j := w 8 (by decide) (by decide)
  have sm : SmB ω n := by
    refine ⟨fun p hp => ?_, fun r hr => ?_⟩
    · rw [w5 p (by omega), w6 p (by omega), w7 p (by omega)]; exact S.1 p hp
    · rw [w2 r hr]; exact S.2 r hr
  have ps : Pos (ω 8) (ω 3) n := by
    refine ⟨fun p hp => ?_, ?_, ?_⟩
    · rw [w8 p (by omega)]; exact b6.1 p hp
    · rw [w3 1 (by decide)]; exact b6.2.1
    · rw [w3 2 (by decide)]; exact b6.2.2
  exact ⟨n, q, y, 0, u, ⟨⟨by rw [h0 8 (by decide)]; exact a1, a2, by rw [h0 9 (by decide)]; exact a3, a4, a5, by rw [h0 10 (by decide)]; exact a6, a7, h15, by omega, by rw [h0 27 (by decide)]; exact a10, a11⟩, by rw [hc 19 (by decide)]; exact b1, by rw [hc 19 (by decide)]; exact b2, by rw [hc 19 (by decide)]; exact b3, h43', by rw [hc 45 (by decide)]; exact b5, ps⟩, ⟨fun j hj => by rw [hc 20 (by decide), w4 j hj, r1], fun j hj => by rw [hc 21 (by decide), w5 j hj, r2], fun j hj => by rw [hc 22 (by decide), w6 j hj, r3], fun j hj => by rw [hc 23 (by decide), w7 j hj, r4], fun j hj => by rw [hc 24 (by decide), w8 j hj, r5], fun j hj => by rw [hc 25 (by decide), w2 j hj, r6], by rw [hc 26 (by decide), w3 1 (by decide), w3 2 (by decide)]; exact r7, row1 r8 (hc 44 (by decide)) (hc 9 (by decide)) 96, fun j hj => by rw [hc 46 (by decide), hc 17 (by decide), r9]⟩, sm, kept_cg (fun k hk => hc k (by omega)) h13 (by rw [hc 18 (by decide)]) (h0 19 (by decide)) K⟩
/-- where house comes *-/
theorem came_rel {σ υ ψ τ ω χ : St} {n q y t u n' q' y' : Nat} (R : RelE σ n q y t u) (hυ : ∀ k, (k < 27 ∨ 34 < k) → ψ k = σ k) (c : Cop (s2 ψ 43 1 0) 19 27 τ) (k : Kept τ χ) (ho : ∀ a, a ≠ 0 → (a < 2 ∨ 8 < a) → ω a = χ a) (hz : ∀ j, j ≠ 8 → j ≠ 9 → j ≠ 10 → ω 0 j = χ 0 j) (T : Two ψ ω n' q' y') : RelB ω := by
  obtain ⟨⟨⟨a1, a2, a3, a4, a5, a6, a7, a8, a9, a10, a11⟩, b1, b2, b3, b4, b5, b6⟩, ⟨r1, r2, r3, r4, r5, r6, r7, r8, r9⟩, S, K⟩ := id R
  obtain ⟨k1, k2, k3, k4, k5, k6⟩ := k
  obtain ⟨⟨d1, d2, d3, d4, d5, d6, d7⟩, ⟨e1, e2, e3⟩, ⟨s1, s2', s3, s4, s5, s6, s7⟩, S', P'⟩ := T
  have c := (show Cop (s2 ψ 43 1 0) 19 27 τ from c)
  have hτ : ∀ k, (k < 19 ∨ (26 < k ∧ (k < 27 ∨ 34 < k))) → k ≠ 43 → τ k = σ k := fun k hk hk3 => by rw [c.2.2 k (by omega), s2_ne hk3, hυ k (by omega)]
  have hx : ∀ k, (k = 9 ∨ 17 ≤ k) → ω k = τ k := fun k hk => by rw [ho k (by omega) (by omega), k4 k hk]
  have hc : ∀ k, (k = 9 ∨ k = 17 ∨ k = 18 ∨ (34 < k ∧ k ≠ 43)) → ω k = σ k := fun k hk => by rw [hx k (by omega), hτ k (by omega) (by omega)]
  have h0 : ∀ j, (j = 19 ∨ j = 27) → ω 0 j = σ 0 j := fun j hj => by rw [hz j (by omega) (by omega) (by omega), k2 j (by omega), hτ 0 (by decide) (by decide)]
  have h13 : ∀ j, j < 47 → ω 13 j = σ 13 j := fun j hj => by rw [ho 13 (by decide) (Or.inr (by decide)), k5 j hj, hτ 13 (by decide) (by decide)]
  have h15 : ω 0 15 = nI 0 := by rw [hz 15 (by decide) (by decide) (by decide)]; exact k1
  have h43 : ω 43 1 = nI 0 := by rw [hx 43 (by decide), c.2.2 43 (by decide), s2_get, if_pos ⟨rfl, rfl⟩]; rfl
  have p27 : ∀ k, k ≠ 43 → s2 ψ 43 1 0 k = ψ k := fun k hk => s2_ne hk
  have x20 : ∀ j, j < 7 → τ 20 j = ψ 28 j := fun j hj => by
    rw [show τ 20 = pre 7 (s2 ψ 43 1 0 28) (s2 ψ 43 1 0 20) from c.1 1 (by decide) (by decide), p27 28 (by decide)]
    show (if j < 7 then ψ 28 j else _) = _
    rw [if_pos hj]
  have x21 : ∀ j, j < 7 → τ 21 j = ψ 29 j := fun j hj => by
    rw [show τ 21 = pre 7 (s2 ψ 43 1 0 29) (s2 ψ 43 1 0 21) from c.1 2 (by decide) (by decide), p27 29 (by decide)]
    show (if j < 7 then ψ 29 j else _) = _
    rw [if_pos hj]
  have x22 : ∀ j, j < 7 → τ 22 j = ψ 30 j := fun j hj => by
    rw [show τ 22 = pre 7 (s2 ψ 43 1 0 30) (s2 ψ 43 1 0 22) from c.1 3 (by decide) (by decide), p27 30 (by decide)]
    show (if j < 7 then ψ 30 j else _) = _
    rw [if_pos hj]
  have x23 : ∀ j, j < 7 → τ 23 j = ψ 31 j := fun j hj => by
    rw [show τ 23 = pre 7 (s2 ψ 43 1 0 31) (s2 ψ 43 1 0 23) from c.1 4 (by decide) (by decide), p27 31 (by decide)]
    show (if j < 7 then ψ 31 j else _) = _
    rw [if_pos hj]
  have x24 : ∀ j, j < 7 → τ 24 j = ψ 32 j := fun j hj => by
    rw [show τ 24 = pre 7 (s2 ψ 43 1 0 32) (s2 ψ 43 1 0 24) from c.1 5 (by decide) (by decide), p27 32 (by decide)]
    show (if j < 7 then ψ 32 j else _) = _
    rw [if_pos hj]
  have x25 : ∀ j, j < 6 → τ 25 j = ψ 33 j := fun j hj => by
    rw [show τ 25 = pre 6 (s2 ψ 43 1 0 33) (s2 ψ 43 1 0 25) from c.1 6 (by decide) (by decide), p27 33 (by decide)]
    show (if j < 6 then ψ 33 j else _) = _
    rw [if_pos hj]
  have x26 : ∀ j, j < 3 → τ 26 j = ψ 34 j := fun j hj => by
    rw [show τ 26 = pre 3 (s2 ψ 43 1 0 34) (s2 ψ 43 1 0 26) from c.1 7 (by decide) (by decide), p27 34 (by decide)]
    show (if j < 3 then ψ 34 j else _) = _
    rw [if_pos hj]
  exact ⟨n', q', y', 0, u, ⟨⟨e1, d2, e2, d4, d5, e3, d7, h15, by omega, by rw [h0 27 (by decide)]; exact a10, a11⟩, by rw [hx 19 (by decide), c.2.1.1, p27 27 (by decide)]; exact d1, by rw [hx 19 (by decide), c.2.1.2.1, p27 27 (by decide)]; exact d3, by rw [hx 19 (by decide), c.2.1.2.2, p27 27 (by decide)]; exact d6, h43, by rw [hc 45 (by decide)]; exact b5, P'⟩, ⟨fun j hj => by rw [hx 20 (by decide), x20 j hj]; exact s1 j hj, fun j hj => by rw [hx 21 (by decide), x21 j hj]; exact s2' j hj, fun j hj => by rw [hx 22 (by decide), x22 j hj]; exact s3 j hj, fun j hj => by rw [hx 23 (by decide), x23 j hj]; exact s4 j hj, fun j hj => by rw [hx 24 (by decide), x24 j hj]; exact s5 j hj, fun j hj => by rw [hx 25 (by decide), x25 j hj]; exact s6 j hj, by rw [hx 26 (by decide), x26 1 (by decide), x26 2 (by decide)]; exact s7, row1 r8 (hc 44 (by decide)) (hc 9 (by decide)) 96, row1 r9 (hc 46 (by decide)) (hc 17 (by decide)) 12⟩, S', kept_cg (fun k hk => hc k (by omega)) h13 (by rw [hc 18 (by decide)]) (h0 19 (by decide)) K⟩
theorem ho_thk {υ ψ : St} {t : Nat} {r : Int32} (w : Wf27 υ) (h : TiR υ t r ψ) : Thk υ ψ := by
  rcases h with ⟨_, _, _, _, _, _, _, e⟩ | ⟨s, _, ⟨_, _, _, _, _, h⟩ | ⟨_, _, e⟩⟩
  · rw [e]; exact Thk.rf υ
  · exact h
  · rw [e]; exact (tRun_ok w s).2
theorem wf_cop {σ υ : St} {n q y t u : Nat} (R : RelE σ n q y t u) (c : Cop σ 27 19 υ) : Wf27 υ := by
  obtain ⟨⟨⟨a1, a2, a3, a4, a5, a6, a7, a8, a9, a10, a11⟩, b1, b2, b3, b4, b5, b6⟩, ⟨r1, r2, r3, r4, r5, r6, r7, r8, r9⟩, S, K⟩ := id R
  exact ⟨n, y, by rw [c.2.1.1]; exact b1, a2, by rw [c.2.1.2.2]; exact b3, a7⟩
theorem lx_house {σ : St} {n q y t u : Nat} (R : RelE σ n q y t u) : Lmx σ (rI (fun r τ => HoX σ t r τ)) := by
  rintro r τ ⟨z, rfl, υ, ψ, c, hT, h⟩
  have hk := ho_thk (wf_cop R c) hT
  refine ⟨⟨_, rfl⟩, fun k hk' => ?_⟩
  rcases h with ⟨_, e⟩ | ⟨_, e⟩
  · rw [e, s2_ne (by omega), hk k (by omega), c.2.2 k (by omega)]
  · rw [e.2.2 k (by omega), s2_ne (by omega), hk k (by omega), c.2.2 k (by omega)]
theorem ho_neg {x : Nat} (m : Nat) (h : x < 1000) : (-1000 : Int32) - nI x < 0 ∧ (-2000 : Int32) - nI x < 0 := by
  have e1 : (-1000 : Int32).toInt = -1000 := rfl
  have e2 : (-2000 : Int32).toInt = -2000 := rfl
  have ex : (nI x).toInt = x := nI_toInt (by omega)
  rw [i32_z, i32_z, i32_sub (by rw [e1, ex]; omega) (by rw [e1, ex]; omega), i32_sub (by rw [e2, ex]; omega) (by rw [e2, ex]; omega), e1, e2, ex]
  omega
theorem lm_house {σ τ : St} {w : Int32} {n q y t u : Nat} (R : RelE σ n q y t u) (h : rI (fun r τ => HoX σ t r τ) (some (.int w)) τ) (hl : ∀ k, k ≤ 17 → τ k = σ k) : Lmm w (rI (HouR τ t)) := by
  obtain ⟨w', ew, υ, ψ, c, hT, hE⟩ := h
  have ew : w = w' := by injection ew with ew; injection ew
  subst ew
  rintro r ω ⟨r', rfl, hH⟩
  have w27 := wf_cop R c
  have hk := ho_thk w27 hT
  have hψ : ∀ k, (k < 27 ∨ 34 < k) → ψ k = σ k := fun k hk' => by rw [hk k (by omega), c.2.2 k (by omega)]
  have e44 : υ 44 = σ 9 := by rw [c.2.2 44 (Or.inr (by decide))]; exact R.2.1.2.2.2.2.2.2.2.1
  have e9 : τ 9 = σ 9 := hl 9 (by decide)
  have t96 : t ≤ 96 := R.1.1.2.2.2.2.2.2.2.2.1
  have ref : w < 0 → Kept τ ω → RelB ω := fun hw k => by
    rcases hE with ⟨_, e⟩ | ⟨q, _⟩
    · exact kept_rel R (fun k h1 h2 => by rw [e, s2_ne h2]; exact hψ k h1) (by rw [e, s2_get, if_pos ⟨rfl, rfl⟩]) k
    · exact absurd hw q
  unfold TiR NX HX at hT
  rw [e44] at hT
  unfold HouR at hH
  rw [e9] at hH
  rcases hT with ⟨m, x, q1, q2, q3, q4, q5, q6⟩ | ⟨s, hS, hT⟩
  · rcases hH with ⟨m', x', p1, p2, p3, p4, p5⟩ | ⟨s', χ, hS', _⟩
    · have ex := bad_un q1 p1 q3 p3
      subst ex
      exact ⟨by rw [p4, q5], ref (by rw [q5]; exact (ho_neg 0 (by omega)).1) p5⟩
    · exact (bad_no q2 q3 hS').elim
  · rcases hH with ⟨m', x', p1, p2, p3, p4, p5⟩ | ⟨s', χ, hS', ⟨hK, hKr⟩, hV, hH⟩
    · exact (bad_no p2 p3 hS).elim
    · have es := told_un hS hS'
      subst es
      have T0 : ∃ n q y, Two υ χ n q y := ⟨n, q, y, two_0 R c (fun j hj => by rw [hK.2.1 j (by omega), hl 0 (by decide)]) (fun k h2 h8 => by rw [hKr k h2 h8, hl k (by omega)])⟩
      have up := sim_up hS hV T0
      have dn := sim_dn hS hV T0
      rcases hT with ⟨k, k1, k2, k3, k4, k5⟩ | ⟨k2, k4, k5⟩
      · have hm := dn k (Nat.le_of_lt k1) k2
        obtain ⟨n', q', y', T⟩ := up k (Nat.le_of_lt k1) hm
        have hn := (sim_at hS hV k1 T).1.mp k3
        rcases hH with ⟨k', g1, g2, g3, g4, g5⟩ | ⟨g2, g4, g5⟩
        · have ek : k = k' := by
            rcases Nat.lt_trichotomy k k' with z | z | z
            · exact absurd (g2 k z) hn
            · exact z
            · exact absurd (hm k' z) g3
          subst ek
          have hp := Chn_pos (k := k) (fun i hi => hS.2.1 i (by omega)) t96
          exact ⟨by rw [g4, k4], ref (by rw [k4]; exact (ho_neg 0 (by omega)).2) g5⟩
        · exact absurd (g2 k k1) hn
      · have hm := dn s (Nat.le_refl s) k2
        rcases hH with ⟨k', g1, g2, g3, g4, g5⟩ | ⟨g2, g4, g5⟩
        · exact absurd (hm k' g1) g3
        · obtain ⟨n', q', y', T⟩ := up s (Nat.le_refl s) hm
          have h34 := Chn_lt hS.2.1 t96
          refine ⟨by rw [g4, k4], ?_⟩
          rcases hE with ⟨q, _⟩ | ⟨_, e⟩
          · rw [k4] at q; exact absurd q (nI_pos (by omega))
          · rw [g5]
            refine came_rel (υ := υ) R hψ e hK (fun a h0 h1 => cmRun_o χ a h0 h1 s) (fun j j1 j2 j3 => cmRun_z χ j j1 j2 j3 s) (n' := n') (q' := q') (y' := y') ?_
            rw [k5]; exact T
