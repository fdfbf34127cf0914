/-! shares: what they come to -/
theorem i32_add {x y : Int32} (h1 : -2147483648 ≤ x.toInt + y.toInt) (h2 : x.toInt + y.toInt < 2147483648) : (x + y).toInt = x.toInt + y.toInt := by
  rw [Int32.toInt_add]; exact Int.bmod_eq_of_le (by omega) (by omega)
theorem i32_sub {x y : Int32} (h1 : -2147483648 ≤ x.toInt - y.toInt) (h2 : x.toInt - y.toInt < 2147483648) : (x - y).toInt = x.toInt - y.toInt := by
  rw [Int32.toInt_sub]; exact Int.bmod_eq_of_le (by omega) (by omega)
def isum (f : Nat → Int) : Nat → Int
  | 0 => 0
  | i + 1 => isum f i + f i
/-- blames are small -/
def Bls (bl : Nat → Int32) (n : Nat) : Prop := ∀ p, p < n → 0 ≤ (bl p).toInt ∧ (bl p).toInt ≤ 1000
theorem sha_b {bl : Nat → Int32} {n : Nat} {g : Nat → Nat} (h : Bls bl n) (h7 : n ≤ 7) : ∀ i, i ≤ n → ∀ j, 0 ≤ (shaN (fun _ => 0) bl g i j).toInt ∧ (shaN (fun _ => 0) bl g i j).toInt ≤ 1000 * (i : Int)
  | 0, _, j => by show 0 ≤ (0 : Int32).toInt ∧ (0 : Int32).toInt ≤ 1000 * ((0 : Nat) : Int); decide
  | i + 1, hi, j => by
    have ih := sha_b h h7 (g := g) i (by omega)
    have hb := h i (by omega)
    rw [shaN]
    unfold upd
    by_cases e : j = g i
    · rw [if_pos e, i32_add (by have := ih (g i); omega) (by have := ih (g i); omega)]
      have := ih (g i)
      omega
    · rw [if_neg e]; have := ih j; omega
theorem sha_mono {bl : Nat → Int32} {n : Nat} {g : Nat → Nat} (h : Bls bl n) (h7 : n ≤ 7) (j i : Nat) : ∀ m, i + m ≤ n → (shaN (fun _ => 0) bl g i j).toInt ≤ (shaN (fun _ => 0) bl g (i + m) j).toInt
  | 0, _ => Int.le_refl _
  | m + 1, hm => by
    have ih := sha_mono h h7 (g := g) j i m (by omega)
    have hb := h (i + m) (by omega)
    have hs := sha_b h h7 (g := g) (i + m) (by omega)
    rw [← Nat.add_assoc, shaN]
    unfold upd
    by_cases e : j = g (i + m)
    · rw [if_pos e, i32_add (by have := hs (g (i + m)); omega) (by have := hs (g (i + m)); omega)]
      rw [e] at ih ⊢; omega
    · rw [if_neg e]; exact ih
theorem isum_upd (s : Nat → Int32) (g : Nat) (v : Int32) : ∀ q, isum (fun j => (upd s g v j).toInt) q = isum (fun j => (s j).toInt) q + (if g < q then v.toInt - (s g).toInt else 0)
  | 0 => by simp [isum]
  | q + 1 => by
    rw [isum, isum, isum_upd s g v q]
    unfold upd
    by_cases e : q = g
    · subst e
      rw [if_pos rfl, if_neg (Nat.lt_irrefl _), if_pos (Nat.lt_succ_self _)]; omega
    · rw [if_neg e]
      by_cases c : g < q
      · rw [if_pos c, if_pos (by omega)]; omega
      · rw [if_neg c, if_neg (by omega)]; omega
theorem sha_sum {bl : Nat → Int32} {n q : Nat} {g : Nat → Nat} (h : Bls bl n) (h7 : n ≤ 7) (hg : ∀ p, p < n → g p < q) : ∀ i, i ≤ n → isum (fun j => (shaN (fun _ => 0) bl g i j).toInt) q = isum (fun p => (bl p).toInt) i
  | 0, _ => by
    show isum (fun _ => (0 : Int32).toInt) q = 0
    have : ∀ q, isum (fun _ => (0 : Int32).toInt) q = 0 := fun q => by
      induction q with
      | zero => rfl
      | succ q ih => rw [isum, ih]; rfl
    exact this q
  | i + 1, hi => by
    have ih := sha_sum h h7 hg i (by omega)
    have hs := sha_b h h7 (g := g) i (by omega) (g i)
    have hb := h i (by omega)
    rw [isum, ← ih]
    show isum (fun j => (upd (shaN (fun _ => 0) bl g i) (g i) (shaN (fun _ => 0) bl g i (g i) + bl i) j).toInt) q = _
    rw [isum_upd, if_pos (hg i (by omega)), i32_add (by omega) (by omega)]; omega
theorem sum_tot {bl : Nat → Int32} {n : Nat} (h : Bls bl n) (h7 : n ≤ 7) : ∀ i, i ≤ n → (sumN bl i).toInt = isum (fun p => (bl p).toInt) i ∧ 0 ≤ isum (fun p => (bl p).toInt) i ∧ isum (fun p => (bl p).toInt) i ≤ 1000 * (i : Int)
  | 0, _ => ⟨rfl, Int.le_refl _, Int.le_refl _⟩
  | i + 1, hi => by
    have ih := sum_tot h h7 i (by omega)
    have hb := h i (by omega)
    rw [sumN, isum, i32_add (by omega) (by omega), ih.1]
    refine ⟨rfl, by omega, by omega⟩
theorem minV_le (f : Nat → Int32) : ∀ q j, j < q → (minV f q).toInt ≤ (f j).toInt
  | 0, j, h => absurd h (Nat.not_lt_zero j)
  | q + 1, j, h => by
    rw [minV]
    by_cases e : q = 0
    · rw [if_pos e, show j = 0 by omega]; exact Int.le_refl _
    · rw [if_neg e]
      by_cases c : f q < minV f q
      · rw [if_pos c]
        rw [i32_lt] at c
        by_cases k : j = q
        · rw [k]; exact Int.le_refl _
        · have := minV_le f q j (by omega); omega
      · rw [if_neg c]
        rw [i32_lt] at c
        by_cases k : j = q
        · rw [k]; omega
        · exact minV_le f q j (by omega)
theorem maxV_ge (f : Nat → Int32) : ∀ q j, j < q → (f j).toInt ≤ (maxV f q).toInt
  | 0, j, h => absurd h (Nat.not_lt_zero j)
  | q + 1, j, h => by
    rw [maxV]
    by_cases e : q = 0
    · rw [if_pos e, show j = 0 by omega]; exact Int.le_refl _
    · rw [if_neg e]
      by_cases c : maxV f q < f q
      · rw [if_pos c]
        rw [i32_lt] at c
        by_cases k : j = q
        · rw [k]; exact Int.le_refl _
        · have := maxV_ge f q j (by omega); omega
      · rw [if_neg c]
        rw [i32_lt] at c
        by_cases k : j = q
        · rw [k]; omega
        · exact maxV_ge f q j (by omega)
theorem isum_ge {f : Nat → Int} {m : Int} : ∀ q, (∀ j, j < q → m ≤ f j) → (q : Int) * m ≤ isum f q
  | 0, _ => by simp [isum]
  | q + 1, h => by
    have ih := isum_ge (f := f) (m := m) q (fun j hj => h j (by omega))
    have := h q (by omega)
    rw [isum, Int.natCast_succ, Int.add_mul]; omega
