/-! the class: giveFrom -/
def shGF (bl : Nat → Int32) (n q k : Nat) : Int32 := aptF (shaN (fun _ => 0) bl (dig q n k) n) q
def GvC (τ : St) (bl : Nat → Int32) (n q : Nat) : Prop := τ 49 4 = nI n ∧ τ 49 5 = nI q ∧ τ 49 6 = sumN bl n / nI q ∧ ∀ p, p < n → τ 50 p = bl p
def GvP (τ : St) (bl : Nat → Int32) (n q p K : Nat) : Prop := GvC τ bl n q ∧ (∀ j, j < p → τ 51 j = nI (dig q n K j)) ∧ (∀ j, j < 4 → τ 53 j = shaN (fun _ => 0) bl (dig q n K) p j) ∧ Bst (shGF bl n q) q n K (τ 49 7) (τ 52)
def GvQ (τ υ : St) (bl : Nat → Int32) (n q p K : Nat) : Prop := GvC υ bl n q ∧ (∀ j, j < p → υ 51 j = τ 51 j) ∧ (∀ j, j < 4 → υ 53 j = τ 53 j) ∧ Bst (shGF bl n q) q n K (υ 49 7) (υ 52) ∧ Shk τ υ
theorem Shk.tr {σ τ υ : St} (h : Shk σ τ) (g : Shk τ υ) : Shk σ υ := fun a h1 h2 h3 h4 h5 => (g a h1 h2 h3 h4 h5).trans (h a h1 h2 h3 h4 h5)
theorem dig_q {q n k p : Nat} (h : 0 < q) : dig q n k p < q := Nat.mod_lt _ h
theorem shGF_b {bl : Nat → Int32} {n q : Nat} (h : Bls bl n) (h7 : n ≤ 7) (q2 : 2 ≤ q) (q4 : q ≤ 4) (k : Nat) : ¬ shGF bl n q k < 0 ∧ shGF bl n q k < 1000000 := by
  have := sha_even h h7 (g := dig q n k) (fun p _ => dig_q (by omega)) q2 q4 (i := n) (j := 0) (Nat.le_refl n) (by omega)
  rw [i32_lt, i32_lt]
  have e : (0 : Int32).toInt = 0 := rfl
  have e2 : (1000000 : Int32).toInt = 1000000 := rfl
  unfold shGF
  exact ⟨by omega, by omega⟩
theorem Bst_cg {F : Nat → Int32} {q n K : Nat} {l l' : Int32} {r r' : Nat → Int32} (h : Bst F q n K l r) (e : l' = l) (er : ∀ p, p < n → r' p = r p) : Bst F q n K l' r' :=
  ⟨fun z => e.trans (h.1 z), fun z => ⟨e.trans (h.2 z).1, by rw [e]; exact (h.2 z).2.1, fun p hp => (er p hp).trans ((h.2 z).2.2 p hp)⟩⟩
theorem gv_0 {τ : St} {bl : Nat → Int32} {n q K : Nat} (b : Bls bl n) (h7 : n ≤ 7) (q2 : 2 ≤ q) (q4 : q ≤ 4) (h : GvP τ bl n q n K) : GvQ τ (keeS τ q) bl n q n (K + 1) := by
  have hF : aptF (τ 53) q = shGF bl n q K := aptF_cg (by omega) (fun j hj => h.2.2.1 j (by omega))
  have hb := shGF_b b h7 q2 q4 K
  have hB := Bst_one (row' := pre 7 (τ 51) (τ 52)) h.2.2.2 hb.1 hb.2 (fun p hp => by rw [pre, if_pos (by omega)]; exact h.2.1 p hp)
  rw [keeS, hF]
  by_cases c : shGF bl n q K < τ 49 7
  · rw [if_pos c]
    refine ⟨⟨h.1.1, h.1.2.1, h.1.2.2.1, h.1.2.2.2⟩, fun j _ => rfl, fun j _ => rfl, Bst_cg hB (by rw [if_pos c]; rfl) (fun p hp => by simp only [if_pos c]; rfl), fun a h1 h2 h3 h4 h5 => by simp [setR, s2, h1, h4]⟩
  · rw [if_neg c]
    exact ⟨h.1, fun j _ => rfl, fun j _ => rfl, Bst_cg hB (by rw [if_neg c]) (fun p hp => by simp only [if_neg c]), fun a _ _ _ _ _ => rfl⟩
theorem kk_eq {q n p c g : Nat} (hp : p < n) : c * q ^ (n - p) + g * q ^ (n - 1 - p) = (c * q + g) * q ^ (n - (p + 1)) := by
  rw [show n - p = (n - 1 - p) + 1 by omega, show n - (p + 1) = n - 1 - p by omega, Nat.pow_succ, Nat.add_mul, Nat.mul_assoc c q, Nat.mul_comm q]
theorem gv_give {τ ω : St} {bl : Nat → Int32} {n q p c g : Nat} (q2 : 2 ≤ q) (q4 : q ≤ 4) (hp : p < n) (hg : g < q) (h : GvP τ bl n q p (c * q ^ (n - p))) (hω : GvQ τ ω bl n q p (c * q ^ (n - p) + g * q ^ (n - 1 - p))) : GvP (givS ω p g) bl n q (p + 1) ((c * q + g) * q ^ (n - (p + 1))) := by
  have hA : 0 < q ^ (n - 1 - p) := Nat.pow_pos (by omega)
  have hlt : g * q ^ (n - 1 - p) < q ^ (n - p) := by
    rw [show n - p = (n - 1 - p) + 1 by omega, Nat.pow_succ, Nat.mul_comm (q ^ (n - 1 - p)) q]
    exact Nat.mul_lt_mul_of_pos_right hg hA
  have hd : ∀ j, j < p → dig q n (c * q ^ (n - p) + g * q ^ (n - 1 - p)) j = dig q n (c * q ^ (n - p)) j := fun j hj => dig_pre (by omega) hj (by omega) hlt
  have hdp : dig q n (c * q ^ (n - p) + g * q ^ (n - 1 - p)) p = g := dig_at (m := 0) (by omega) hp hg hA
  rw [← kk_eq hp]
  refine ⟨⟨hω.1.1, hω.1.2.1, hω.1.2.2.1, hω.1.2.2.2⟩, fun j hj => ?_, fun j hj => ?_, hω.2.2.2.1⟩
  · rw [givS, s2_ne (by decide), s2_get]
    by_cases e : j = p
    · rw [if_pos ⟨rfl, e⟩, e, hdp]
    · rw [if_neg (fun z => e z.2), hω.2.1 j (by omega), hd j (by omega)]; exact h.2.1 j (by omega)
  · rw [givS, s2_get, shaN, hdp, shaN_cgg p (fun j hj => hd j hj), s2_ne (by decide), hω.2.2.1 g (by omega), h.2.2.1 g (by omega), hω.1.2.2.2 p hp]
    unfold upd
    by_cases e : j = g
    · rw [if_pos ⟨rfl, e⟩, if_pos e]
    · rw [if_neg (fun z => e z.2), if_neg e, hω.2.2.1 j hj]; exact h.2.2.1 j hj
theorem gv_skip {ω : St} {bl : Nat → Int32} {n q p c g : Nat} (b : Bls bl n) (h7 : n ≤ 7) (q2 : 2 ≤ q) (q4 : q ≤ 4) (hp : p < n) (hg : g < q) (h : GvP ω bl n q (p + 1) ((c * q + g) * q ^ (n - (p + 1)))) (k : ¬ (0 < ω 49 7 ∧ ω 53 g - ω 49 6 < ω 49 7)) : GvQ ω ω bl n q (p + 1) ((c * q + g) * q ^ (n - (p + 1)) + q ^ (n - (p + 1))) := by
  refine ⟨h.1, fun _ _ => rfl, fun _ _ => rfl, ?_, fun a _ _ _ _ _ => rfl⟩
  rw [h.2.2.1 g (by omega), h.1.2.2.1] at k
  have hn0 : 0 < (c * q + g) * q ^ (n - (p + 1)) := by
    refine Nat.pos_of_ne_zero (fun z => k ?_)
    rw [h.2.2.2.1 z]
    have := sha_even b h7 (g := dig q n ((c * q + g) * q ^ (n - (p + 1)))) (fun p _ => dig_q (by omega)) q2 q4 (i := p + 1) (j := g) (by omega) hg
    refine ⟨by decide, ?_⟩
    rw [i32_lt]
    have e2 : (1000000 : Int32).toInt = 1000000 := rfl
    omega
  refine Bst_skip h.2.2.2 hn0 (fun K h1 h2 => ?_)
  obtain ⟨m, rfl⟩ : ∃ m, K = (c * q + g) * q ^ (n - (p + 1)) + m := ⟨K - (c * q + g) * q ^ (n - (p + 1)), by omega⟩
  refine F_no (g := dig q n _) b h7 (fun p _ => dig_q (by omega)) q2 q4 (i := p + 1) (j := g) (by omega) hg ?_ (h.2.2.2.2 hn0).2.1
  rw [shaN_cgg (p + 1) (fun j hj => dig_pre (by omega) hj (by omega) (by omega))]
  exact k
theorem gv_back {τ ω υ : St} {bl : Nat → Int32} {n q p K K' g : Nat} (hp : p < n) (hω : GvQ τ ω bl n q p K) (h : GvQ (givS ω p g) υ bl n q (p + 1) K') (hg : g < 4) : GvQ τ (takS υ p g) bl n q p K' := by
  refine ⟨⟨h.1.1, h.1.2.1, h.1.2.2.1, h.1.2.2.2⟩, fun j hj => ?_, fun j hj => ?_, h.2.2.2.1, fun a h1 h2 h3 h4 h5 => ?_⟩
  · show υ 51 j = τ 51 j
    rw [h.2.1 j (by omega), ← hω.2.1 j hj, givS, s2_ne (by decide), s2_get, if_neg (fun z => by omega)]
  · rw [takS, s2_get, ← hω.2.2.1 j hj]
    by_cases e : j = g
    · rw [if_pos ⟨rfl, e⟩, h.2.2.1 g hg, h.1.2.2.2 p hp, givS, s2_get, if_pos ⟨rfl, rfl⟩, hω.1.2.2.2 p hp, e, Int32.add_sub_cancel]
    · rw [if_neg (fun z => e z.2), h.2.2.1 j hj, givS, s2_get, if_neg (fun z => e z.2), s2_ne (by decide)]
  · rw [takS, s2_ne h5, h.2.2.2.2 a h1 h2 h3 h4 h5, givS, s2_ne h5, s2_ne h3]; exact hω.2.2.2.2 a h1 h2 h3 h4 h5
