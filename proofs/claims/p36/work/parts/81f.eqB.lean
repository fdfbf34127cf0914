/-! the questions ask, burn, fits: the same answer on both sides -/
theorem cnt_01 {f g : Nat → Int32} (h : ∀ i, (f i = 1 ∧ g i = 0) ∨ (f i = 0 ∧ g i = 1)) : ∀ m, ∃ k, k ≤ m ∧ sumN f m = nI k ∧ sumN g m = nI (m - k)
  | 0 => ⟨0, Nat.le_refl 0, rfl, rfl⟩
  | m + 1 => by
    obtain ⟨k, hk, e1, e2⟩ := cnt_01 h m
    rcases h m with ⟨a, b⟩ | ⟨a, b⟩
    · exact ⟨k + 1, by omega, by rw [sumN, e1, a, nI_1], by rw [sumN, e2, b, Int32.add_zero, show m - k = m + 1 - (k + 1) by omega]⟩
    · exact ⟨k, by omega, by rw [sumN, e1, a, Int32.add_zero], by rw [sumN, e2, b, nI_1, show m - k + 1 = m + 1 - k by omega]⟩
theorem les_ten : ∀ k : Fin 11, minI (nI k.1) (10 - nI k.1) = (if nI (10 - k.1) < 5 then nI (10 - k.1) else 10 - nI (10 - k.1)) ∧ (-9 : Int32) < minI (nI k.1) (10 - nI k.1) := by decide
section EQB
variable {σ τ : St} {n q y t u : Nat}
theorem les_tie {v : Int32} (R : RelE σ n q y t u) (h : Kx σ τ) (p : Nat) : lesH σ n v p = eveF τ n v p ∧ (-9 : Int32) < lesH σ n v p := by
  have eb := bwf_tie R h
  obtain ⟨k, hk, e1, e2⟩ := cnt_01 (f := lesG σ n p v) (g := eveG τ n p v) (fun i => by
    unfold lesG eveG
    rw [eb]
    by_cases c : bwiF τ n p (nI i) < v
    · rw [if_pos c, if_pos c]; exact Or.inl ⟨rfl, rfl⟩
    · rw [if_neg c, if_neg c]; exact Or.inr ⟨rfl, rfl⟩) 10
  have T := les_ten ⟨k, by omega⟩
  rw [lesH, eveF, e1, e2]
  exact T
theorem ask_tie {v : Int32} (R : RelE σ n q y t u) (h : Kx σ τ) : ∀ i, 1 ≤ i → askN σ n v i = (nI (lasN (eveF τ n v) i), eveF τ n v (lasN (eveF τ n v) i))
  | 0, h1 => absurd h1 (by decide)
  | i + 1, _ => by
    have T := les_tie (v := v) R h i
    rw [askN, lasN]
    cases i with
    | zero =>
      rw [if_pos rfl, askN, if_pos T.2, T.1]
    | succ i =>
      have ih := ask_tie R h (v := v) (i + 1) (Nat.succ_le_succ (Nat.zero_le i))
      rw [ih, if_neg (Nat.succ_ne_zero i), T.1]
      by_cases c : eveF τ n v (lasN (eveF τ n v) (i + 1)) < eveF τ n v (i + 1)
      · rw [if_pos c, if_pos c]
      · rw [if_neg c, if_neg c]
theorem eq_ask {v : Int32} (R : RelE σ n q y t u) (h : Kx σ τ) : askH σ n v = askA τ n v := by
  rw [askH, askA]
  by_cases c : n = 0
  · rw [if_pos c]
    subst c
    rfl
  · rw [if_neg c, ask_tie R h n (by omega)]
theorem bw2_tie (R : RelE σ n q y t u) (h : Kx σ τ) : bw2H σ n = bwo2 τ n := by
  obtain ⟨t4, t5, t6, t7, t8, t2, t17, t31, t32⟩ := tie R h
  exact funext (fun a => funext (fun b => by rw [bw2H, bwo2, t4, t6, t7, t8]))
theorem bQ_tie (τ : St) (n a b : Nat) (o : Option (Nat × Nat)) : bQ (bwo2 τ n) a b o = burQ τ n a b o := by
  cases o <;> rfl
theorem bR_tie (τ : St) (n a : Nat) (o : Option (Nat × Nat)) : ∀ k, bR (bwo2 τ n) a o (a + 1 + k) = burR τ n a o k
  | 0 => bR_le _ a o (Nat.le_refl _)
  | k + 1 => by
    rw [show a + 1 + (k + 1) = a + 1 + k + 1 from rfl, bR_st _ a o (show a < a + 1 + k by omega), bR_tie τ n a o k, bQ_tie, burR]
theorem bM_tie (τ : St) (n : Nat) : ∀ a, a ≤ n → bM (bwo2 τ n) n a = burM τ n a
  | 0, _ => rfl
  | a + 1, ha => by
    have e := bR_tie τ n a (burM τ n a) (n - (a + 1))
    rw [show a + 1 + (n - (a + 1)) = n by omega] at e
    rw [bM, burM, bM_tie τ n a (by omega), e]
theorem eq_burn (R : RelE σ n q y t u) (h : Kx σ τ) : o2I (bM (bw2H σ n) n n) = o2I (burM τ n n) := by
  rw [bw2_tie R h, bM_tie τ n n (Nat.le_refl n)]
theorem fst_neg {P : Nat → Prop} {m : Nat} (hm : m < 1000) : fstN P m = -9 ↔ fstN P m < 0 := by
  rw [fstN]
  generalize e : minN P (fun _ => 0) m = o
  cases o with
  | none => exact ⟨fun _ => by decide, fun _ => rfl⟩
  | some b =>
    have hb := minN_lt e
    exact ⟨fun z => absurd z (nI_n9 (by omega)), fun z => absurd z (nI_pos (by omega))⟩
theorem la_put {p : Nat} {x : Int32} (R : RelE σ n q y t u) (h : Kx σ τ) (m : Nat) : laH (s2 σ (19 + 1) p x) 19 n m = laF (s2 τ 4 p x) n m := by
  obtain ⟨t4, t5, t6, t7, t8, t2, t17, t31, t32⟩ := tie R h
  obtain ⟨⟨⟨a1, a2, a3, a4, a5, a6, a7, a8, a9, a10, a11⟩, b1, b2, b3, b4, b5⟩, _, S, K⟩ := R
  have hS : Sml (s2 τ 4 p x 4) (τ 5) (s2 τ 4 p x 6) (s2 τ 4 p x 7) (τ 2) n := by
    rw [s2_ne (show (6 : Nat) ≠ 4 by decide), s2_ne (show (7 : Nat) ≠ 4 by decide), h.1 5 (by decide), h.1 6 (by decide), h.1 7 (by decide), h.1 2 (by decide)]
    exact S
  have T := yr_tie (σ := s2 σ (19 + 1) p x) (τ := s2 τ 4 p x) (h := 19) (n := n) hS (by rw [s2_eq, s2_eq, t4]) (by rw [s2_ne (show (19 + 3 : Nat) ≠ 19 + 1 by decide), s2_ne (show (6 : Nat) ≠ 4 by decide), t6]) (by rw [s2_ne (show (19 + 4 : Nat) ≠ 19 + 1 by decide), s2_ne (show (7 : Nat) ≠ 4 by decide), t7]) (by rw [s2_ne (show (19 : Nat) ≠ 19 + 1 by decide), s2_ne (show (0 : Nat) ≠ 4 by decide), h.1 0 (by decide), b3, a6]) m
  rw [laH, laF, T.1.1, T.1.2.1, hYrs_o _ 19 n (19 + 1) (by decide) (by decide) (by decide), hYrs_o _ 19 n (19 + 5) (by decide) (by decide) (by decide), s2_eq, s2_eq, s2_ne (show (19 + 5 : Nat) ≠ 19 + 1 by decide), s2_ne (show (8 : Nat) ≠ 4 by decide), t4, t8]
theorem eq_fits {p : Int32} (R : RelE σ n q y t u) (h : Kx σ τ) : fitH σ n u p = fitA τ n u p := by
  have h12 := R.1.1.2.2.2.2.2.2.2.2.2.2
  have t17 := (tie R h).2.2.2.2.2.2.1
  have e : fitT σ n u (tn p) = fitG τ n u (tn p) := funext (fun k => by
    have eo : fstN (othH (s2 σ (19 + 1) (tn p) (nI k)) n u) u = othA (s2 τ 4 (tn p) (nI k)) n u := by
      have e1 : othH (s2 σ (19 + 1) (tn p) (nI k)) n u = rowP (s2 τ 4 (tn p) (nI k)) n := funext (fun m => by
        rw [othH, rowP, minI, la_put R h m, s2_ne (show (46 : Nat) ≠ 19 + 1 by decide), s2_ne (show (17 : Nat) ≠ 4 by decide), t17])
      rw [e1, othA]
    rw [fitT, fitG, fitB, eo]
    have hf : othA (s2 τ 4 (tn p) (nI k)) n u = -9 ↔ othA (s2 τ 4 (tn p) (nI k)) n u < 0 := fst_neg (P := rowP (s2 τ 4 (tn p) (nI k)) n) (m := u) (by omega)
    by_cases c : othA (s2 τ 4 (tn p) (nI k)) n u < 0
    · rw [if_pos c, cI_t (hf.mpr c)]
    · rw [if_neg c, cI_f (fun z => c (hf.mp z))])
  rw [fitH, fitA, e]
end EQB
