/-! wider and count on a fresh object -/
section EQC
variable {σ τ : St} {n q y t u : Nat}
theorem fresh0 (R : RelE (nrm σ) n q y t u) (e : σ = σ0) : n = 0 ∧ (∀ j, nrm σ 54 j = 0) ∧ ∀ j, nrm σ 1 j = 0 := by
  subst e
  have h : nrm σ0 0 8 = nI n := R.1.1.1
  have h0 : nrm σ0 0 8 = nI 0 := rfl
  have h7 := R.1.1.2.1
  exact ⟨(nI_eq (a := n) (b := 0) (by omega) (by decide)).mp (h.symm.trans h0), fun j => rfl, fun j => rfl⟩
theorem eq0_wider {f p r : Int32} (F : n = 0) : wdrH σ n f p r = wdrA τ n f p r := by
  subst F
  have hn : ¬ pieceP p (nI 0) := fun z => z.1 z.2
  rw [wdrH, wdrA, cI_f (fun z => hn z.2.1), cI_f (fun z => hn z.2.1)]
theorem eq0_count {v : Int32} (R : RelE σ n q y t u) (h : Kx σ τ) (F : n = 0 ∧ (∀ j, σ 54 j = 0) ∧ ∀ j, σ 1 j = 0) : cntH σ n v = cntA τ n v := by
  obtain ⟨t4, t5, t6, t7, t8, t2, t17, t31, t32⟩ := tie R h
  obtain ⟨⟨⟨a1, a2, a3, a4, a5, a6, a7, a8, a9, a10, a11⟩, b1, b2, b3, b4, b5, b6⟩, _, S, K⟩ := R
  obtain ⟨rfl, F54, F1⟩ := F
  have h0 := h.1 0 (by decide)
  have h1 := h.1 1 (by decide)
  rw [cntH, cntA]
  by_cases c : ¬ v < 11 ∧ ¬ 16 < v
  · rw [if_pos c, if_pos c, F54, h1, F1, if_neg (fun z => c.1 (by rw [z]; decide)), if_neg (fun z => c.1 (by rw [z]; decide)), if_neg (fun z => c.1 (by rw [z]; decide)), if_neg (fun z => c.1 (by rw [z]; decide)), if_neg (fun z => c.1 (by rw [z]; decide)), if_neg (fun z => c.1 (by rw [z]; decide)), if_neg (fun z => c.1 (by rw [z]; decide)), if_neg (fun z => c.1 (by rw [z]; decide)), if_neg (fun z => c.1 (by rw [z]; decide))]
  rw [if_neg c, if_neg c]
  by_cases c0 : v = 0
  · rw [if_pos c0, if_pos c0, h0, a1]
  rw [if_neg c0, if_neg c0]
  by_cases c1 : v = 1
  · rw [if_pos c1, if_pos c1, h0, b3, a6]
  rw [if_neg c1, if_neg c1]
  by_cases c2 : v = 2
  · rw [if_pos c2, if_pos c2, h0, b2, a3]
  rw [if_neg c2, if_neg c2]
  by_cases c3 : v = 3
  · rw [if_pos c3, if_pos c3]; rfl
  rw [if_neg c3, if_neg c3]
  by_cases c4 : v = 4
  · rw [if_pos c4, if_pos c4]; rfl
  rw [if_neg c4, if_neg c4]
  by_cases c5 : v = 5
  · rw [if_pos c5, if_pos c5]
    show nI 0 - (0 : Int32) = (0 : Int32)
    decide
  rw [if_neg c5, if_neg c5]
  by_cases c6 : v = 6
  · rw [if_pos c6, if_pos c6, t2]
  rw [if_neg c6, if_neg c6]
  by_cases c7 : v = 7
  · rw [if_pos c7, if_pos c7, h0, b5, a10]
  rw [if_neg c7, if_neg c7]
  by_cases c8 : v = 8
  · rw [if_pos c8, if_pos c8, h0, b4, a8]
  rw [if_neg c8, if_neg c8]
end EQC
