/-! what changes the house, on both sides -/
theorem row1 {σ υ : St} {a b : Nat} (r : σ a = σ b) (ha : υ a = σ a) (hb : υ b = σ b) (N : Nat) : ∀ j, j < N → υ a j = υ b j := fun j _ => by rw [ha, hb, r]
theorem ans_o (σ : St) (v : Int32) {k : Nat} (h : k ≠ 54) : ansS σ v k = σ k := by
  unfold ansS
  split
  · exact s2_ne h
  · rfl
theorem low_ans {σ τ : St} (v : Int32) (h : ∀ k, k ≤ 17 → τ k = σ k) : ∀ k, k ≤ 17 → ansS τ v k = σ k := fun k hk => (ans_o τ v (by omega)).trans (h k hk)
section LM
variable {X : LxT} {pc : Nat} {lv : List (Nat × Value)} {rest : List Value} {σ τ : St}
/-- a call of the class that changes it: an int comes, the check's cells stay -/
def Lmx (σ : St) (P : Option Value → St → Prop) : Prop := ∀ r τ, P r τ → (∃ v, r = some (.int v)) ∧ ∀ k, k ≤ 17 → τ k = σ k
theorem lmx {P : Option Value → St → Prop} (h : Lmx σ P) (k : ∀ v τ, P (some (.int v)) τ → (∀ k, k ≤ 17 → τ k = σ k) → LV X pc lv (.int v :: rest) τ) : ∀ r τ, P r τ → LV X pc lv (r.toList ++ rest) τ := fun r τ hp => by
  obtain ⟨⟨v, rfl⟩, h2⟩ := h r τ hp
  exact k v τ hp h2
/-- the check's call behind it: the same answer, and both sides are tied again -/
def Lmm (v : Int32) (P : Option Value → St → Prop) : Prop := ∀ r υ, P r υ → r = some (.int v) ∧ RelB υ
theorem lmm {P : Option Value → St → Prop} {v : Int32} (h : Lmm v P) (k : ∀ υ, RelB υ → LV X pc lv (.int v :: rest) υ) : ∀ r τ, P r τ → LV X pc lv (r.toList ++ rest) τ := fun r τ hp => by
  obtain ⟨rfl, h2⟩ := h r τ hp
  exact k τ h2
end LM
theorem pos_pl {pl sr : Nat → Int32} {n i : Nat} {v : Int32} (h : Pos pl sr n) (hv : ¬ v < 0) : Pos (upd pl i v) sr n :=
  ⟨fun p hp => by
    unfold upd
    by_cases c : p = i
    · rw [if_pos c]; exact hv
    · rw [if_neg c]; exact h.1 p hp, h.2⟩
theorem pos_sr {pl sr : Nat → Int32} {n i : Nat} {v : Int32} (h : Pos pl sr n) (hv : ¬ v < 0) : Pos pl (upd sr i v) n :=
  ⟨h.1, by
    unfold upd
    refine ⟨?_, ?_⟩
    · split
      · exact hv
      · exact h.2.1
    · split
      · exact hv
      · exact h.2.2⟩
theorem place_pos {r : Int32} (h : placeP r) : ¬ r < 0 := by
  rcases h with h | rfl
  · exact h.1
  · decide
theorem rel_no {σ : St} {n q y t u : Nat} (R : RelE σ n q y t u) (v : Int32) (k : Nat) : RelB (noS (ansS σ v) k) := rel_km (Km.no _ k) (rel_kx (Kx.ans σ v) R.b)
theorem tlet {v : Int32} {t : Nat} (h : t ≤ 96) : tAddA v t = letA v t := by
  unfold tAddA letA
  by_cases c : t = 96
  · rw [if_neg (show ¬ t < 96 by omega), if_pos c]
  · rw [if_pos (show t < 96 by omega), if_neg c]
theorem lx_letter {σ : St} {v : Int32} {t : Nat} : Lmx σ (fI (tAddA v t) (ansS (tAddS σ v t) (tAddA v t))) := by
  rintro r τ ⟨rfl, rfl⟩
  refine ⟨⟨_, rfl⟩, low_ans _ (fun k hk => ?_)⟩
  unfold tAddS
  split
  · rfl
  · split
    · rfl
    · split
      · rw [s2_ne (by omega), s2_ne (by omega)]
      · rfl
theorem lm_letter {σ τ : St} {v w : Int32} {n q y t u : Nat} (R : RelE σ n q y t u) (h : fI (tAddA v t) (ansS (tAddS σ v t) (tAddA v t)) (some (.int w)) τ) : Lmm w (fI (letA v t) (letS τ v t)) := by
  obtain ⟨⟨⟨a1, a2, a3, a4, a5, a6, a7, a8, a9, a10, a11⟩, b1, b2, b3, b4, b5, b6⟩, ⟨r1, r2, r3, r4, r5, r6, r7, r8, r9⟩, S, K⟩ := id R
  obtain ⟨e1, e2⟩ := h
  have e1 : w = tAddA v t := by injection e1 with e1; injection e1
  rintro r υ ⟨rfl, rfl⟩
  refine ⟨by rw [e1, tlet a9], ?_⟩
  subst e2
  unfold letS tAddS tAddA
  by_cases c1 : v < 0
  · rw [if_pos c1, if_pos c1, if_pos c1]; exact rel_no R _ _
  rw [if_neg c1, if_neg c1, if_neg c1]
  by_cases c2 : 255 < v
  · rw [if_pos c2, if_pos c2, if_pos c2]; exact rel_no R _ _
  rw [if_neg c2, if_neg c2, if_neg c2]
  by_cases c3 : t = 96
  · rw [if_pos c3, if_neg (show ¬ t < 96 by omega), if_neg (show ¬ t < 96 by omega)]; exact rel_no R _ _
  rw [if_neg c3, if_pos (show t < 96 by omega), if_pos (show t < 96 by omega)]
  generalize eυ : s2 (s2 (ansS (s2 (s2 σ 44 t v) 43 1 (nI (t + 1))) (nI (t + 1))) 9 t v) 0 15 (nI (t + 1)) = υ
  have hc : ∀ k, k ≠ 54 ∧ k ≠ 44 ∧ k ≠ 43 ∧ k ≠ 9 ∧ k ≠ 0 → υ k = σ k := fun k hk => by rw [← eυ, s2_ne hk.2.2.2.2, s2_ne hk.2.2.2.1, ans_o _ _ hk.1, s2_ne hk.2.2.1, s2_ne hk.2.1]
  have h0 : ∀ j, j ≠ 15 → υ 0 j = σ 0 j := fun j hj => by rw [← eυ, s2_get, if_neg (fun z => hj z.2), s2_ne (by decide), ans_o _ _ (by decide), s2_ne (by decide), s2_ne (by decide)]
  have h15 : υ 0 15 = nI (t + 1) := by rw [← eυ, s2_get, if_pos ⟨rfl, rfl⟩]
  have h43 : υ 43 1 = nI (t + 1) := by rw [← eυ, s2_ne (by decide), s2_ne (by decide), ans_o _ _ (by decide), s2_get, if_pos ⟨rfl, rfl⟩]
  have h9 : υ 9 = upd (σ 9) t v := by rw [← eυ, s2_ne (by decide), s2_eq, ans_o _ _ (by decide), s2_ne (by decide), s2_ne (by decide)]
  have h44 : υ 44 = upd (σ 44) t v := by rw [← eυ, s2_ne (by decide), s2_ne (by decide), ans_o _ _ (by decide), s2_ne (by decide), s2_eq]
  exact ⟨n, q, y, t + 1, u, ⟨⟨by rw [h0 8 (by decide)]; exact a1, a2, by rw [h0 9 (by decide)]; exact a3, a4, a5, by rw [h0 10 (by decide)]; exact a6, a7, h15, by omega, by rw [h0 27 (by decide)]; exact a10, a11⟩, by rw [hc 19 (by decide)]; exact b1, by rw [hc 19 (by decide)]; exact b2, by rw [hc 19 (by decide)]; exact b3, h43, by rw [hc 45 (by decide)]; exact b5, by rw [hc 8 (by decide), hc 3 (by decide)]; exact b6⟩, ⟨row1 r1 (hc 20 (by decide)) (hc 4 (by decide)) 7, row1 r2 (hc 21 (by decide)) (hc 5 (by decide)) 7, row1 r3 (hc 22 (by decide)) (hc 6 (by decide)) 7, row1 r4 (hc 23 (by decide)) (hc 7 (by decide)) 7, row1 r5 (hc 24 (by decide)) (hc 8 (by decide)) 7, row1 r6 (hc 25 (by decide)) (hc 2 (by decide)) 6, by rw [hc 26 (by decide), hc 3 (by decide)]; exact r7, fun j _ => by rw [h44, h9, r8], row1 r9 (hc 46 (by decide)) (hc 17 (by decide)) 12⟩, (by rw [SmB, hc 4 (by decide), hc 5 (by decide), hc 6 (by decide), hc 7 (by decide), hc 2 (by decide)]; exact S), kept_cg (fun k hk => hc k (by omega)) (fun j _ => by rw [hc 13 (by decide)]) (by rw [hc 18 (by decide)]) (h0 19 (by decide)) K⟩
theorem trow {v : Int32} {u : Nat} (h : u ≤ 12) : rAddA v u = rowA v u := by
  unfold rAddA rowA
  by_cases c : u = 12
  · rw [if_neg (show ¬ u < 12 by omega), if_pos c]
  · rw [if_pos (show u < 12 by omega), if_neg c]
theorem lx_row {σ : St} {v : Int32} {u : Nat} : Lmx σ (fI (rAddA v u) (ansS (rAddS σ v u) (rAddA v u))) := by
  rintro r τ ⟨rfl, rfl⟩
  refine ⟨⟨_, rfl⟩, low_ans _ (fun k hk => ?_)⟩
  unfold rAddS
  split
  · rfl
  · split
    · rfl
    · split
      · rw [s2_ne (by omega), s2_ne (by omega)]
      · rfl
theorem lm_row {σ τ : St} {v w : Int32} {n q y t u : Nat} (R : RelE σ n q y t u) (h : fI (rAddA v u) (ansS (rAddS σ v u) (rAddA v u)) (some (.int w)) τ) : Lmm w (fI (rowA v u) (rowS τ v u)) := by
  obtain ⟨⟨⟨a1, a2, a3, a4, a5, a6, a7, a8, a9, a10, a11⟩, b1, b2, b3, b4, b5, b6⟩, ⟨r1, r2, r3, r4, r5, r6, r7, r8, r9⟩, S, K⟩ := id R
  obtain ⟨e1, e2⟩ := h
  have e1 : w = rAddA v u := by injection e1 with e1; injection e1
  rintro r υ ⟨rfl, rfl⟩
  refine ⟨by rw [e1, trow a11], ?_⟩
  subst e2
  unfold rowS rAddS rAddA
  by_cases c1 : v < 0
  · rw [if_pos c1, if_pos c1, if_pos c1]; exact rel_no R _ _
  rw [if_neg c1, if_neg c1, if_neg c1]
  by_cases c2 : 99 < v
  · rw [if_pos c2, if_pos c2, if_pos c2]; exact rel_no R _ _
  rw [if_neg c2, if_neg c2, if_neg c2]
  by_cases c3 : u = 12
  · rw [if_pos c3, if_neg (show ¬ u < 12 by omega), if_neg (show ¬ u < 12 by omega)]; exact rel_no R _ _
  rw [if_neg c3, if_pos (show u < 12 by omega), if_pos (show u < 12 by omega)]
  generalize eυ : s2 (s2 (ansS (s2 (s2 σ 46 u v) 45 1 (nI (u + 1))) (nI (u + 1))) 17 u v) 0 27 (nI (u + 1)) = υ
  have hc : ∀ k, k ≠ 54 ∧ k ≠ 46 ∧ k ≠ 45 ∧ k ≠ 17 ∧ k ≠ 0 → υ k = σ k := fun k hk => by rw [← eυ, s2_ne hk.2.2.2.2, s2_ne hk.2.2.2.1, ans_o _ _ hk.1, s2_ne hk.2.2.1, s2_ne hk.2.1]
  have h0 : ∀ j, j ≠ 27 → υ 0 j = σ 0 j := fun j hj => by rw [← eυ, s2_get, if_neg (fun z => hj z.2), s2_ne (by decide), ans_o _ _ (by decide), s2_ne (by decide), s2_ne (by decide)]
  have h27 : υ 0 27 = nI (u + 1) := by rw [← eυ, s2_get, if_pos ⟨rfl, rfl⟩]
  have h45 : υ 45 1 = nI (u + 1) := by rw [← eυ, s2_ne (by decide), s2_ne (by decide), ans_o _ _ (by decide), s2_get, if_pos ⟨rfl, rfl⟩]
  have h17 : υ 17 = upd (σ 17) u v := by rw [← eυ, s2_ne (by decide), s2_eq, ans_o _ _ (by decide), s2_ne (by decide), s2_ne (by decide)]
  have h46 : υ 46 = upd (σ 46) u v := by rw [← eυ, s2_ne (by decide), s2_ne (by decide), ans_o _ _ (by decide), s2_ne (by decide), s2_eq]
  exact ⟨n, q, y, t, u + 1, ⟨⟨by rw [h0 8 (by decide)]; exact a1, a2, by rw [h0 9 (by decide)]; exact a3, a4, a5, by rw [h0 10 (by decide)]; exact a6, a7, by rw [h0 15 (by decide)]; exact a8, a9, h27, by omega⟩, by rw [hc 19 (by decide)]; exact b1, by rw [hc 19 (by decide)]; exact b2, by rw [hc 19 (by decide)]; exact b3, by rw [hc 43 (by decide)]; exact b4, h45, by rw [hc 8 (by decide), hc 3 (by decide)]; exact b6⟩, ⟨row1 r1 (hc 20 (by decide)) (hc 4 (by decide)) 7, row1 r2 (hc 21 (by decide)) (hc 5 (by decide)) 7, row1 r3 (hc 22 (by decide)) (hc 6 (by decide)) 7, row1 r4 (hc 23 (by decide)) (hc 7 (by decide)) 7, row1 r5 (hc 24 (by decide)) (hc 8 (by decide)) 7, row1 r6 (hc 25 (by decide)) (hc 2 (by decide)) 6, by rw [hc 26 (by decide), hc 3 (by decide)]; exact r7, row1 r8 (hc 44 (by decide)) (hc 9 (by decide)) 96, fun j _ => by rw [h46, h17, r9]⟩, (by rw [SmB, hc 4 (by decide), hc 5 (by decide), hc 6 (by decide), hc 7 (by decide), hc 2 (by decide)]; exact S), kept_cg (fun k hk => hc k (by omega)) (fun j _ => by rw [hc 13 (by decide)]) (by rw [hc 18 (by decide)]) (h0 19 (by decide)) K⟩
theorem carP_sr {kd bk pl sz sr sr' : Nat → Int32} {n p : Nat} {r : Int32} (h1 : sr 1 = sr' 1) (h2 : sr 2 = sr' 2) : carP kd bk pl sz sr n p r ↔ carP kd bk pl sz sr' n p r := by
  have e : ∀ f, 1 ≤ f → f < 3 → (blkP kd bk sr (pl p) r p f ↔ blkP kd bk sr' (pl p) r p f) := fun f h3 h4 => by
    rcases (by omega : f = 1 ∨ f = 2) with rfl | rfl
    · rw [blkP, blkP, h1]
    · rw [blkP, blkP, h2]
  unfold carP
  refine and_congr Iff.rfl (or_congr Iff.rfl (and_congr Iff.rfl ⟨fun z f h3 h4 k => z f h3 h4 ((e f h3 h4).mpr k), fun z f h3 h4 k => z f h3 h4 ((e f h3 h4).mp k)⟩))
theorem car_rel {σ τ : St} {n q y t u : Nat} (R : RelE σ n q y t u) (hl : ∀ k, k ≤ 17 → τ k = σ k) (p : Nat) (r : Int32) : carH σ 19 n p r ↔ carP (τ 4) (τ 5) (τ 8) (τ 2) (τ 3) n p r := by
  obtain ⟨_, ⟨r1, r2, r3, r4, r5, r6, r7, r8, r9⟩, _, _⟩ := R
  show carP (σ 20) (σ 21) (σ 24) (σ 25) (σ 26) n p r ↔ _
  rw [hl 4 (by decide), hl 5 (by decide), hl 8 (by decide), hl 2 (by decide), hl 3 (by decide), r1, r2, r5, r6]
  exact carP_sr r7.1 r7.2
theorem lx_carry {σ : St} {p r : Int32} {n : Nat} : Lmx σ (fI (hCarA σ 19 n p r) (ansS (hCarS σ 19 n p r) (hCarA σ 19 n p r))) := by
  rintro r τ ⟨rfl, rfl⟩
  refine ⟨⟨_, rfl⟩, low_ans _ (fun k hk => ?_)⟩
  unfold hCarS
  by_cases c : pieceP p (nI n) ∧ placeP r
  · rw [cI_t c]
    by_cases d : carH σ 19 n (tn p) r
    · rw [cI_t d, s2_ne (by omega)]
    · rw [cI_f d]
  · rw [cI_f c]
theorem lm_carry {σ τ : St} {wv : Int32} {q y t u : Nat} {p r : Int32} {n : Nat} (R : RelE σ n q y t u) (h : fI (hCarA σ 19 n p r) (ansS (hCarS σ 19 n p r) (hCarA σ 19 n p r)) (some (.int wv)) τ) (hl : ∀ k, k ≤ 17 → τ k = σ k) : Lmm wv (fI (carA τ n p r) (carS τ n p r)) := by
  obtain ⟨⟨⟨a1, a2, a3, a4, a5, a6, a7, a8, a9, a10, a11⟩, b1, b2, b3, b4, b5, b6⟩, ⟨r1, r2, r3, r4, r5, r6, r7, r8, r9⟩, S, K⟩ := id R
  obtain ⟨e1, e2⟩ := h
  have e1 : wv = hCarA σ 19 n p r := by injection e1 with e1; injection e1
  rintro r υ ⟨rfl, rfl⟩
  have hcr := car_rel R hl (tn p) r
  unfold carA carS
  unfold hCarA at e1
  unfold hCarS hCarA at e2
  by_cases c : pieceP p (nI n) ∧ placeP r
  · rw [cI_t c] at e1
    rw [cI_t c, cI_t c] at e2
    rw [cI_t c, cI_t c]
    by_cases d : carH σ 19 n (tn p) r
    · rw [cI_t d] at e1
      rw [cI_t d, cI_t d] at e2
      rw [cI_t (hcr.mp d), cI_t (hcr.mp d)]
      refine ⟨by rw [e1, hl 8 (by decide)]; exact congrArg (fun z => some (Value.int (z (tn p)))) r5.symm, ?_⟩
      subst e2
      generalize eυ : s2 (ansS (s2 σ (19 + 5) (tn p) r) (σ (19 + 5) (tn p))) 8 (tn p) r = υ
      have hc : ∀ k, k ≠ 54 ∧ k ≠ 24 ∧ k ≠ 8 → υ k = σ k := fun k hk => by rw [← eυ, s2_ne hk.2.2, ans_o _ _ hk.1, s2_ne hk.2.1]
      have hl1 : υ 8 = upd (σ 8) (tn p) r := by rw [← eυ, s2_eq, ans_o _ _ (by decide), s2_ne (by decide)]
      have hh1 : υ 24 = upd (σ 24) (tn p) r := by rw [← eυ, s2_ne (by decide), ans_o _ _ (by decide), s2_eq]
      exact ⟨n, q, y, t, u, ⟨⟨by rw [hc 0 (by decide)]; exact a1, a2, by rw [hc 0 (by decide)]; exact a3, a4, a5, by rw [hc 0 (by decide)]; exact a6, a7, by rw [hc 0 (by decide)]; exact a8, a9, by rw [hc 0 (by decide)]; exact a10, a11⟩, by rw [hc 19 (by decide)]; exact b1, by rw [hc 19 (by decide)]; exact b2, by rw [hc 19 (by decide)]; exact b3, by rw [hc 43 (by decide)]; exact b4, by rw [hc 45 (by decide)]; exact b5, by rw [hl1, hc 3 (by decide)]; exact pos_pl b6 (place_pos c.2)⟩, ⟨row1 r1 (hc 20 (by decide)) (hc 4 (by decide)) 7, row1 r2 (hc 21 (by decide)) (hc 5 (by decide)) 7, row1 r3 (hc 22 (by decide)) (hc 6 (by decide)) 7, row1 r4 (hc 23 (by decide)) (hc 7 (by decide)) 7, fun j _ => by rw [hh1, hl1, r5], row1 r6 (hc 25 (by decide)) (hc 2 (by decide)) 6, by rw [hc 26 (by decide), hc 3 (by decide)]; exact r7, row1 r8 (hc 44 (by decide)) (hc 9 (by decide)) 96, row1 r9 (hc 46 (by decide)) (hc 17 (by decide)) 12⟩, (by rw [SmB, hc 4 (by decide), hc 5 (by decide), hc 6 (by decide), hc 7 (by decide), hc 2 (by decide)]; exact S), kept_cg (fun k hk => hc k (by omega)) (fun j _ => by rw [hc 13 (by decide)]) (by rw [hc 18 (by decide)]) (by rw [hc 0 (by decide)]) K⟩
    · rw [cI_f d] at e1
      rw [cI_f d, cI_f d] at e2
      rw [cI_f (fun z => d (hcr.mpr z)), cI_f (fun z => d (hcr.mpr z))]
      exact ⟨by rw [e1], by rw [e2]; exact rel_no R _ _⟩
  · rw [cI_f c] at e1
    rw [cI_f c, cI_f c] at e2
    rw [cI_f c, cI_f c]
    exact ⟨by rw [e1], by rw [e2]; exact rel_no R _ _⟩
