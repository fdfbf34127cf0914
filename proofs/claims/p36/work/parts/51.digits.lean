/-! ways as numbers: what stands before a place stays, as long as what comes behind it is told -/
theorem pow_split {q n p j : Nat} (hj : j < p) (hp : p ≤ n) : q ^ (n - 1 - j) = q ^ (n - p) * q ^ (p - 1 - j) := by
  rw [← Nat.pow_add]; congr 1; omega
theorem dig_pre {q n p j c m : Nat} (hq : 0 < q) (hj : j < p) (hp : p ≤ n) (hm : m < q ^ (n - p)) : dig q n (c * q ^ (n - p) + m) j = dig q n (c * q ^ (n - p)) j := by
  have hA : 0 < q ^ (n - p) := Nat.pow_pos hq
  have e1 : (c * q ^ (n - p) + m) / q ^ (n - p) = c := by
    rw [Nat.mul_comm, Nat.mul_add_div hA, Nat.div_eq_of_lt hm, Nat.add_zero]
  have e2 : (c * q ^ (n - p)) / q ^ (n - p) = c := Nat.mul_div_cancel c hA
  rw [dig, dig, pow_split hj hp, ← Nat.div_div_eq_div_mul, ← Nat.div_div_eq_div_mul, e1, e2]
theorem dig_at {q n p c g m : Nat} (hq : 0 < q) (hp : p < n) (hg : g < q) (hm : m < q ^ (n - 1 - p)) : dig q n (c * q ^ (n - p) + g * q ^ (n - 1 - p) + m) p = g := by
  have hA : 0 < q ^ (n - 1 - p) := Nat.pow_pos hq
  have e : q ^ (n - p) = q * q ^ (n - 1 - p) := by
    rw [show n - p = (n - 1 - p) + 1 by omega, Nat.pow_succ, Nat.mul_comm]
  have e3 : c * q ^ (n - p) + g * q ^ (n - 1 - p) + m = q ^ (n - 1 - p) * (c * q + g) + m := by
    rw [e, Nat.mul_add, ← Nat.mul_assoc, Nat.mul_comm (q ^ (n - 1 - p)) (c * q), Nat.mul_comm (q ^ (n - 1 - p)) g]
  rw [dig, e3, Nat.mul_add_div hA, Nat.div_eq_of_lt hm, Nat.add_zero, Nat.mul_comm c q, Nat.mul_add_mod, Nat.mod_eq_of_lt hg]
theorem shaN_cgg {s bl : Nat → Int32} {g g' : Nat → Nat} : ∀ i, (∀ p, p < i → g p = g' p) → shaN s bl g i = shaN s bl g' i
  | 0, _ => rfl
  | i + 1, h => by rw [shaN, shaN, shaN_cgg i (fun p hp => h p (by omega)), h i (by omega)]
/-- what is no better is passed over -/
theorem fsh_skip {F : Nat → Int32} {K : Nat} : ∀ m, (∀ k, K ≤ k → k < K + m → ¬ F k < (fshN F K).2) → ¬ (fshN F K).2 < 0 → fshN F (K + m) = fshN F K
  | 0, _, _ => rfl
  | m + 1, h, h0 => by
    have ih := fsh_skip m (fun k a b => h k a (by omega)) h0
    rw [← Nat.add_assoc, fshN, ih, if_neg]
    rintro (z | z)
    · exact h0 z
    · exact h (K + m) (by omega) (by omega) z
/-- what the way that is told first is kept by: the least so far, and its digits -/
def Bst (F : Nat → Int32) (q n K : Nat) (least : Int32) (row : Nat → Int32) : Prop := (K = 0 → least = 1000000) ∧ (0 < K → least = (fshN F K).2 ∧ ¬ least < 0 ∧ ∀ p, p < n → row p = nI (dig q n (fshN F K).1 p))
theorem Bst_one {F : Nat → Int32} {q n K : Nat} {least : Int32} {row row' : Nat → Int32} (h : Bst F q n K least row) (hF : ¬ F K < 0) (hM : F K < 1000000) (hr : ∀ p, p < n → row' p = nI (dig q n K p)) : Bst F q n (K + 1) (if F K < least then F K else least) (fun p => if F K < least then row' p else row p) := by
  refine ⟨fun z => by omega, fun _ => ?_⟩
  rw [fshN]
  by_cases k : K = 0
  · have e := h.1 k
    subst k
    rw [e, if_pos hM, if_pos (Or.inl (show (fshN F 0).2 < 0 from (show (-9 : Int32) < 0 by decide)))]
    exact ⟨rfl, hF, fun p hp => by simp only [if_pos hM]; exact hr p hp⟩
  · obtain ⟨e1, e2, e3⟩ := h.2 (by omega)
    by_cases c : F K < least
    · rw [if_pos c, if_pos (Or.inr (by rw [← e1]; exact c))]
      exact ⟨rfl, hF, fun p hp => by simp only [if_pos c]; exact hr p hp⟩
    · rw [if_neg c, if_neg (fun z => z.elim (fun y => e2 (by rw [e1]; exact y)) (fun y => c (by rw [e1]; exact y)))]
      exact ⟨e1, e2, fun p hp => by simp only [if_neg c]; exact e3 p hp⟩
theorem Bst_skip {F : Nat → Int32} {q n K m : Nat} {least : Int32} {row : Nat → Int32} (h : Bst F q n K least row) (hK : 0 < K) (hs : ∀ k, K ≤ k → k < K + m → ¬ F k < least) : Bst F q n (K + m) least row := by
  obtain ⟨e1, e2, e3⟩ := h.2 hK
  have e := fsh_skip (F := F) (K := K) m (fun k a b => by rw [← e1]; exact hs k a b) (by rw [← e1]; exact e2)
  exact ⟨fun z => by omega, fun _ => by rw [e]; exact ⟨e1, e2, e3⟩⟩
