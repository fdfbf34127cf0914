/-! what ties the class's cells and the check's -/
/-- no place and no width below none -/
def Pos (pl sr : Nat → Int32) (n : Nat) : Prop := (∀ p, p < n → ¬ pl p < 0) ∧ ¬ sr 1 < 0 ∧ ¬ sr 2 < 0
def Ints (σ : St) (n q y t u : Nat) : Prop := (σ 0 8 = nI n ∧ n ≤ 7 ∧ σ 0 9 = nI q ∧ 2 ≤ q ∧ q ≤ 4 ∧ σ 0 10 = nI y ∧ y ≤ 999 ∧ σ 0 15 = nI t ∧ t ≤ 96 ∧ σ 0 27 = nI u ∧ u ≤ 12) ∧ σ 19 7 = nI n ∧ σ 19 8 = nI q ∧ σ 19 9 = nI y ∧ σ 43 1 = nI t ∧ σ 45 1 = nI u ∧ Pos (σ 8) (σ 3) n
def RowsB (σ : St) : Prop := (∀ j, j < 7 → σ 20 j = σ 4 j) ∧ (∀ j, j < 7 → σ 21 j = σ 5 j) ∧ (∀ j, j < 7 → σ 22 j = σ 6 j) ∧ (∀ j, j < 7 → σ 23 j = σ 7 j) ∧ (∀ j, j < 7 → σ 24 j = σ 8 j) ∧ (∀ j, j < 6 → σ 25 j = σ 2 j) ∧ (σ 26 1 = σ 3 1 ∧ σ 26 2 = σ 3 2) ∧ (∀ j, j < 96 → σ 44 j = σ 9 j) ∧ (∀ j, j < 12 → σ 46 j = σ 17 j)
def RowsE (σ : St) : Prop := σ 20 = σ 4 ∧ σ 21 = σ 5 ∧ σ 22 = σ 6 ∧ σ 23 = σ 7 ∧ σ 24 = σ 8 ∧ σ 25 = σ 2 ∧ (σ 26 1 = σ 3 1 ∧ σ 26 2 = σ 3 2) ∧ σ 44 = σ 9 ∧ σ 46 = σ 17
def SmB (σ : St) (n : Nat) : Prop := Sml (σ 4) (σ 5) (σ 6) (σ 7) (σ 2) n
/-- the image that is kept, on both sides -/
def Img (σ : St) (n q y : Nat) : Prop := (n ≤ 7 ∧ 2 ≤ q ∧ q ≤ 4 ∧ y ≤ 999) ∧ (σ 35 7 = nI n ∧ σ 35 8 = nI q ∧ σ 35 9 = nI y ∧ σ 13 44 = nI n ∧ σ 13 45 = nI q ∧ σ 13 46 = nI y) ∧ ((∀ j, j < 7 → σ 36 j = σ 13 (9 + j)) ∧ (∀ j, j < 7 → σ 37 j = σ 13 (16 + j)) ∧ (∀ j, j < 7 → σ 38 j = σ 13 (23 + j)) ∧ (∀ j, j < 7 → σ 39 j = σ 13 (30 + j)) ∧ (∀ j, j < 7 → σ 40 j = σ 13 (37 + j)) ∧ (∀ j, j < 6 → σ 41 j = σ 13 j) ∧ (σ 42 1 = σ 13 7 ∧ σ 42 2 = σ 13 8)) ∧
  Sml (fun j => σ 13 (9 + j)) (fun j => σ 13 (16 + j)) (fun j => σ 13 (23 + j)) (fun j => σ 13 (30 + j)) (σ 13) n ∧ Pos (fun j => σ 13 (37 + j)) (fun j => σ 13 (6 + j)) n
def KeptB (σ : St) : Prop := σ 18 3 = σ 0 19 ∧ (σ 0 19 = 0 ∨ (σ 0 19 = 1 ∧ ∃ n q y, Img σ n q y))
def RelB (σ : St) : Prop := ∃ n q y t u, Ints σ n q y t u ∧ RowsB σ ∧ SmB σ n ∧ KeptB σ
def RelE (σ : St) (n q y t u : Nat) : Prop := Ints σ n q y t u ∧ RowsE σ ∧ SmB σ n ∧ KeptB σ
def nrm (σ : St) : St := fun k => if k = 20 then σ 4 else if k = 21 then σ 5 else if k = 22 then σ 6 else if k = 23 then σ 7 else if k = 24 then σ 8 else if k = 25 then σ 2 else if k = 44 then σ 9 else if k = 46 then σ 17 else σ k
theorem nrm_o (σ : St) {k : Nat} (h1 : k < 20 ∨ 25 < k) (h2 : k ≠ 44) (h3 : k ≠ 46) : nrm σ k = σ k := by
  unfold nrm
  rw [if_neg (by omega), if_neg (by omega), if_neg (by omega), if_neg (by omega), if_neg (by omega), if_neg (by omega), if_neg h2, if_neg h3]
theorem img_cg {σ τ : St} {n q y : Nat} (h : ∀ k, (35 ≤ k ∧ k ≤ 42) → τ k = σ k) (h13 : ∀ j, j < 47 → τ 13 j = σ 13 j) (i : Img σ n q y) : Img τ n q y := by
  obtain ⟨i1, ⟨a1, a2, a3, a4, a5, a6⟩, ⟨r1, r2, r3, r4, r5, r6, r7, r8⟩, s⟩ := i
  refine ⟨i1, ⟨by rw [h 35 (by decide)]; exact a1, by rw [h 35 (by decide)]; exact a2, by rw [h 35 (by decide)]; exact a3, by rw [h13 44 (by decide)]; exact a4, by rw [h13 45 (by decide)]; exact a5, by rw [h13 46 (by decide)]; exact a6⟩, ⟨fun j hj => by rw [h 36 (by decide), h13 _ (by omega)]; exact r1 j hj, fun j hj => by rw [h 37 (by decide), h13 _ (by omega)]; exact r2 j hj, fun j hj => by rw [h 38 (by decide), h13 _ (by omega)]; exact r3 j hj, fun j hj => by rw [h 39 (by decide), h13 _ (by omega)]; exact r4 j hj, fun j hj => by rw [h 40 (by decide), h13 _ (by omega)]; exact r5 j hj, fun j hj => by rw [h 41 (by decide), h13 _ (by omega)]; exact r6 j hj, by rw [h 42 (by decide), h13 7 (by decide)]; exact r7, by rw [h 42 (by decide), h13 8 (by decide)]; exact r8⟩, ?_⟩
  refine ⟨⟨fun p hp => ?_, fun r hr => ?_⟩, fun p hp => ?_, ?_, ?_⟩
  · show 0 ≤ (τ 13 (16 + p)).toInt ∧ (τ 13 (16 + p)).toInt ≤ 9 ∧ 0 ≤ (τ 13 (23 + p)).toInt ∧ (τ 13 (23 + p)).toInt ≤ 9 ∧ 0 ≤ (τ 13 (30 + p)).toInt ∧ (τ 13 (30 + p)).toInt ≤ 99
    rw [h13 _ (by omega), h13 _ (by omega), h13 _ (by omega)]; exact s.1.1 p hp
  · rw [h13 r (by omega)]; exact s.1.2 r hr
  · show ¬ τ 13 (37 + p) < 0
    rw [h13 _ (by omega)]; exact s.2.1 p hp
  · show ¬ τ 13 7 < 0
    rw [h13 _ (by omega)]; exact s.2.2.1
  · show ¬ τ 13 8 < 0
    rw [h13 _ (by omega)]; exact s.2.2.2
theorem kept_cg {σ τ : St} (h : ∀ k, (35 ≤ k ∧ k ≤ 42) → τ k = σ k) (h13 : ∀ j, j < 47 → τ 13 j = σ 13 j) (h18 : τ 18 3 = σ 18 3) (h0 : τ 0 19 = σ 0 19) (k : KeptB σ) : KeptB τ := by
  obtain ⟨k1, k2⟩ := k
  refine ⟨by rw [h18, h0]; exact k1, ?_⟩
  rw [h0]
  rcases k2 with k2 | ⟨k2, n, q, y, i⟩
  · exact Or.inl k2
  · exact Or.inr ⟨k2, n, q, y, img_cg h h13 i⟩
theorem nrm_ok {σ : St} (R : RelB σ) : (∃ n q y t u, RelE (nrm σ) n q y t u) ∧ Agr σ (nrm σ) := by
  obtain ⟨n, q, y, t, u, I, Rw, S, K⟩ := R
  refine ⟨⟨n, q, y, t, u, I, ⟨rfl, rfl, rfl, rfl, rfl, rfl, Rw.2.2.2.2.2.2.1, rfl, rfl⟩, S, kept_cg (fun k hk => nrm_o σ (Or.inr (by omega)) (by omega) (by omega)) (fun _ _ => rfl) rfl rfl K⟩, fun k hk => ?_⟩
  by_cases h20 : k = 20
  · subst h20; exact fun j hj => (Rw.1 j hj).symm
  by_cases h21 : k = 21
  · subst h21; exact fun j hj => (Rw.2.1 j hj).symm
  by_cases h22 : k = 22
  · subst h22; exact fun j hj => (Rw.2.2.1 j hj).symm
  by_cases h23 : k = 23
  · subst h23; exact fun j hj => (Rw.2.2.2.1 j hj).symm
  by_cases h24 : k = 24
  · subst h24; exact fun j hj => (Rw.2.2.2.2.1 j hj).symm
  by_cases h25 : k = 25
  · subst h25; exact fun j hj => (Rw.2.2.2.2.2.1 j hj).symm
  by_cases h44 : k = 44
  · subst h44; exact fun j hj => (Rw.2.2.2.2.2.2.2.1 j hj).symm
  by_cases h46 : k = 46
  · subst h46; exact fun j hj => (Rw.2.2.2.2.2.2.2.2 j hj).symm
  have e : nrm σ k = σ k := nrm_o σ (by omega) h44 h46
  cases shp k with
  | inl o => obtain ⟨ci, fl⟩ := o; exact fun j _ => by rw [e]
  | inr N => exact fun j _ => by rw [e]
theorem RelE.b {σ : St} {n q y t u : Nat} (R : RelE σ n q y t u) : RelB σ := by
  obtain ⟨I, ⟨r1, r2, r3, r4, r5, r6, r7, r8, r9⟩, S, K⟩ := R
  exact ⟨n, q, y, t, u, I, ⟨fun j _ => congrFun r1 j, fun j _ => congrFun r2 j, fun j _ => congrFun r3 j, fun j _ => congrFun r4 j, fun j _ => congrFun r5 j, fun j _ => congrFun r6 j, r7, fun j _ => congrFun r8 j, fun j _ => congrFun r9 j⟩, S, K⟩
/-- what a question changes: in the class, in the check -/
def Kx (σ τ : St) : Prop := (∀ k, k ≤ 17 → τ k = σ k) ∧ (∀ k, ((19 ≤ k ∧ k ≤ 26) ∨ (35 ≤ k ∧ k ≤ 46)) → τ k = σ k) ∧ τ 18 3 = σ 18 3
def Km (σ τ : St) : Prop := (∀ k, ((2 ≤ k ∧ k ≤ 9) ∨ k = 17 ∨ 18 ≤ k) → τ k = σ k) ∧ (∀ j, (j = 8 ∨ j = 9 ∨ j = 10 ∨ j = 15 ∨ j = 19 ∨ j = 27) → τ 0 j = σ 0 j) ∧ ∀ j, j < 50 → τ 13 j = σ 13 j
theorem rel_cg {σ τ : St} (h0 : ∀ j, (j = 8 ∨ j = 9 ∨ j = 10 ∨ j = 15 ∨ j = 19 ∨ j = 27) → τ 0 j = σ 0 j) (hl : ∀ k, ((2 ≤ k ∧ k ≤ 9) ∨ k = 17) → τ k = σ k) (h13 : ∀ j, j < 47 → τ 13 j = σ 13 j) (hh : ∀ k, ((19 ≤ k ∧ k ≤ 26) ∨ (35 ≤ k ∧ k ≤ 46)) → τ k = σ k) (h18 : τ 18 3 = σ 18 3) (R : RelB σ) : RelB τ := by
  obtain ⟨n, q, y, t, u, ⟨⟨a1, a2, a3, a4, a5, a6, a7, a8, a9, a10, a11⟩, b1, b2, b3, b4, b5, b6⟩, ⟨r1, r2, r3, r4, r5, r6, r7, r8, r9⟩, S, K⟩ := R
  refine ⟨n, q, y, t, u, ⟨⟨by rw [h0 8 (by decide)]; exact a1, a2, by rw [h0 9 (by decide)]; exact a3, a4, a5, by rw [h0 10 (by decide)]; exact a6, a7, by rw [h0 15 (by decide)]; exact a8, a9, by rw [h0 27 (by decide)]; exact a10, a11⟩, by rw [hh 19 (by decide)]; exact b1, by rw [hh 19 (by decide)]; exact b2, by rw [hh 19 (by decide)]; exact b3, by rw [hh 43 (by decide)]; exact b4, by rw [hh 45 (by decide)]; exact b5, by rw [hl 8 (by decide), hl 3 (by decide)]; exact b6⟩, ⟨by rw [hh 20 (by decide), hl 4 (by decide)]; exact r1, by rw [hh 21 (by decide), hl 5 (by decide)]; exact r2, by rw [hh 22 (by decide), hl 6 (by decide)]; exact r3, by rw [hh 23 (by decide), hl 7 (by decide)]; exact r4, by rw [hh 24 (by decide), hl 8 (by decide)]; exact r5, by rw [hh 25 (by decide), hl 2 (by decide)]; exact r6, by rw [hh 26 (by decide), hl 3 (by decide)]; exact r7, by rw [hh 44 (by decide), hl 9 (by decide)]; exact r8, by rw [hh 46 (by decide), hl 17 (by decide)]; exact r9⟩, ?_, kept_cg (fun k hk => hh k (by omega)) h13 h18 (h0 19 (by decide)) K⟩
  rw [SmB, hl 4 (by decide), hl 5 (by decide), hl 6 (by decide), hl 7 (by decide), hl 2 (by decide)]; exact S
theorem rel_kx {σ τ : St} (h : Kx σ τ) (R : RelB σ) : RelB τ := rel_cg (fun j _ => by rw [h.1 0 (by decide)]) (fun k hk => h.1 k (by omega)) (fun j _ => by rw [h.1 13 (by decide)]) h.2.1 h.2.2 R
theorem rel_km {σ τ : St} (h : Km σ τ) (R : RelB σ) : RelB τ := rel_cg h.2.1 (fun k hk => h.1 k (by omega)) (fun j hj => h.2.2 j (by omega)) (fun k hk => h.1 k (by omega)) (by rw [h.1 18 (by decide)]) R
theorem Kx.rf (σ : St) : Kx σ σ := ⟨fun _ _ => rfl, fun _ _ => rfl, rfl⟩
theorem Kx.tr {σ τ υ : St} (h : Kx σ τ) (g : Kx τ υ) : Kx σ υ := ⟨fun k hk => (g.1 k hk).trans (h.1 k hk), fun k hk => (g.2.1 k hk).trans (h.2.1 k hk), g.2.2.trans h.2.2⟩
theorem Kx.ans (σ : St) (v : Int32) : Kx σ (ansS σ v) := by
  unfold ansS
  split
  · exact ⟨fun k hk => s2_ne (by omega), fun k hk => s2_ne (by omega), by rw [s2_ne (by decide)]⟩
  · exact Kx.rf σ
theorem Kx.thk {σ τ : St} (h : Thk σ τ) : Kx σ τ := ⟨fun k hk => h k (by omega), fun k hk => h k (by omega), by rw [h 18 (by decide)]⟩
theorem Kx.shk {σ τ : St} (h : Shk σ τ) : Kx σ τ := ⟨fun k hk => h k (by omega) (by omega) (by omega) (by omega) (by omega), fun k hk => h k (by omega) (by omega) (by omega) (by omega) (by omega), by rw [h 18 (by decide) (by decide) (by decide) (by decide) (by decide)]⟩
theorem Kx.plk {σ τ : St} (h : Plk σ τ) : Kx σ τ := ⟨fun k hk => h k (by omega) (by omega) (by omega), fun k hk => h k (by omega) (by omega) (by omega), by rw [h 18 (by decide) (by decide) (by decide)]⟩
theorem Kx.asks {σ τ : St} {lo hi v : Int32} (h : Asks σ τ lo hi v) : Kx σ τ := by
  rcases h with ⟨_, e⟩ | ⟨_, _, e⟩ | ⟨_, _, e⟩
  · rw [e]; exact Kx.ans σ _
  · rw [e]; exact Kx.ans σ _
  · exact Kx.thk e
theorem Km.rf (σ : St) : Km σ σ := ⟨fun _ _ => rfl, fun _ _ => rfl, fun _ _ => rfl⟩
theorem Km.no (σ : St) (j : Nat) : Km σ (noS σ j) := ⟨fun k hk => s2_ne (by omega), fun j _ => by rw [noS, s2_ne (by decide)], fun j _ => by rw [noS, s2_ne (by decide)]⟩
theorem Km.sm {σ τ : St} (h : Sm σ τ) : Km σ τ := ⟨fun k hk => h.1 k (by omega), h.2.1, h.2.2⟩
theorem Km.rfk {σ τ : St} {k : Nat} (h : Rf k σ τ) : Km σ τ := by
  unfold Rf at h
  split at h
  · exact Km.sm h
  · rw [h]; exact Km.no σ k
theorem Km.three {σ τ : St} {a b : Nat} {P Q P' : Prop} (h : (P ∧ τ = noS σ a) ∨ (Q ∧ P' ∧ τ = noS σ b) ∨ (Q ∧ ¬ P' ∧ Sm σ τ)) : Km σ τ := by
  rcases h with ⟨_, e⟩ | ⟨_, _, e⟩ | ⟨_, _, e⟩
  · rw [e]; exact Km.no σ a
  · rw [e]; exact Km.no σ b
  · exact Km.sm e
/-- the check's cells alone: what the check answers speaks of them -/
def low (σ : St) : St := fun k => if k ≤ 17 then σ k else fun _ => 0
theorem low_eq {σ τ : St} (h : Kx σ τ) : low τ = low σ := by
  funext k
  unfold low
  by_cases c : k ≤ 17
  · rw [if_pos c, if_pos c, h.1 k c]
  · rw [if_neg c, if_neg c]
