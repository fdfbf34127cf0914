/-! the questions: the same answer on both sides -/
theorem tie {σ τ : St} {n q y t u : Nat} (R : RelE σ n q y t u) (h : Kx σ τ) : τ 4 = σ (19 + 1) ∧ τ 5 = σ (19 + 2) ∧ τ 6 = σ (19 + 3) ∧ τ 7 = σ (19 + 4) ∧ τ 8 = σ (19 + 5) ∧ τ 2 = σ (19 + 6) ∧ τ 17 = σ 46 ∧ τ 3 1 = σ (19 + 7) 1 ∧ τ 3 2 = σ (19 + 7) 2 := by
  obtain ⟨_, ⟨r1, r2, r3, r4, r5, r6, r7, r8, r9⟩, _, _⟩ := R
  exact ⟨by rw [h.1 4 (by decide)]; exact r1.symm, by rw [h.1 5 (by decide)]; exact r2.symm, by rw [h.1 6 (by decide)]; exact r3.symm, by rw [h.1 7 (by decide)]; exact r4.symm, by rw [h.1 8 (by decide)]; exact r5.symm, by rw [h.1 2 (by decide)]; exact r6.symm, by rw [h.1 17 (by decide)]; exact r9.symm, by rw [h.1 3 (by decide)]; exact r7.1.symm, by rw [h.1 3 (by decide)]; exact r7.2.symm⟩
section EQA
variable {σ τ : St} {n q y t u : Nat}
theorem eq_piece {p w : Int32} (R : RelE σ n q y t u) (h : Kx σ τ) : cI (pieceP p (nI n)) (tolF (σ (19 + 1)) (σ (19 + 2)) (σ (19 + 3)) (σ (19 + 4)) (σ (19 + 5)) n (tn p) w) (-1) = pieA τ n p w := by
  obtain ⟨t4, t5, t6, t7, t8, t2, t17, t31, t32⟩ := tie R h
  rw [pieA, t4, t5, t6, t7, t8, tolF]
theorem eq_stands {p r : Int32} (R : RelE σ n q y t u) (h : Kx σ τ) : mStaA σ n p r = staA τ n p r := by
  rw [mStaA, staA, propext (car_rel R h.1 (tn p) r)]
theorem eq_blame {r : Int32} (R : RelE σ n q y t u) (h : Kx σ τ) : mBlaA σ n r = blaA τ n r := by
  obtain ⟨t4, t5, t6, t7, t8, t2, t17, t31, t32⟩ := tie R h
  rw [mBlaA, blaA, t4, t6, t7, t8]
  by_cases c : r = 10
  · rw [if_pos c, cI_t (Or.inr c), c]
  · rw [if_neg c]
    by_cases d : placeP r
    · rw [cI_t d, cI_t (Or.inl d), inF_eq c]
    · rw [cI_f d, cI_f (fun z => z.elim d c)]
theorem eq_worst (R : RelE σ n q y t u) (h : Kx σ τ) : worN (inF (σ (19 + 1)) (σ (19 + 3)) (σ (19 + 4)) (σ (19 + 5)) n) 6 = worN (binF (τ 4) (τ 6) (τ 7) (τ 8) n) 6 := by
  obtain ⟨t4, t5, t6, t7, t8, t2, t17, t31, t32⟩ := tie R h
  rw [t4, t6, t7, t8]; exact (wor_in _ _ _ _ n).symm
theorem eq_crowded (R : RelE σ n q y t u) (h : Kx σ τ) : orN (croH (σ (19 + 2)) (σ (19 + 5)) (σ (19 + 6)) n) 6 = orN (croG (τ 5) (τ 8) (τ 2) n) 6 := by
  obtain ⟨t4, t5, t6, t7, t8, t2, t17, t31, t32⟩ := tie R h
  rw [t5, t8, t2]; rfl
theorem pq_tie {v w : Int32} (R : RelE σ n q y t u) (h : Kx σ τ) : pQ σ n v w = plQ τ n v w := by
  obtain ⟨t4, t5, t6, t7, t8, t2, t17, t31, t32⟩ := tie R h
  have e1 : okR (σ (19 + 2)) (σ (19 + 6)) n v = plP τ n v := funext (fun k => by rw [okR, plP, t5, t2])
  have e2 : FR (σ (19 + 1)) (σ (19 + 3)) (σ (19 + 4)) n w = plF τ n w := funext (fun k => by rw [FR, plF, t4, t6, t7])
  rw [pQ, plQ, e1, e2]
theorem eq_placing {v w z : Int32} (R : RelE σ n q y t u) (h : Kx σ τ) : plaH σ n v w z = plaA τ n v w z := by
  rw [plaH, plaA, pq_tie R h]
theorem eq_innocent (R : RelE σ n q y t u) (h : Kx σ τ) : innH σ n = innA τ n := by
  rw [innH, innA, pq_tie R h]
theorem bl_tie (R : RelE σ n q y t u) (h : Kx σ τ) : blH σ 19 n = blR τ n := by
  obtain ⟨t4, t5, t6, t7, t8, t2, t17, t31, t32⟩ := tie R h
  exact funext (fun p => by rw [blH, blR, t4, t6, t7, t8])
theorem fsh_v (F : Nat → Int32) : ∀ i, 1 ≤ i → (fshN F i).2 = F (fshN F i).1
  | 0, h => absurd h (by decide)
  | i + 1, _ => by
    rw [fshN]
    by_cases c : (fshN F i).2 < 0 ∨ F i < (fshN F i).2
    · rw [if_pos c]
    · rw [if_neg c]
      cases i with
      | zero => exact absurd (Or.inl (show (fshN F 0).2 < 0 by rw [fshN]; decide)) c
      | succ i => exact fsh_v F (i + 1) (Nat.succ_le_succ (Nat.zero_le i))
theorem eq_shares {v : Int32} (R : RelE σ n q y t u) (h : Kx σ τ) : shrH σ n q v = shrA τ n q v := by
  have eb := bl_tie R h
  have q2 := R.1.1.2.2.2.1
  have eF : shGF (blR τ n) n q = shF τ n q := funext (fun k => rfl)
  rw [shrH, shrA, shrB, eb, eF]
  by_cases c1 : v < -1
  · rw [cI_f (fun z => z.1 c1), if_pos c1, if_pos c1]
  rw [if_neg c1, if_neg c1]
  by_cases c2 : v < nI n
  · rw [cI_t ⟨c1, c2⟩, if_pos c2]
    by_cases c3 : v < 0
    · rw [if_pos c3, cI_f (fun z => z.1 c3)]
      exact (fsh_v _ _ (Nat.pow_pos (by omega))).symm
    · rw [if_neg c3, cI_t ⟨c3, c2⟩]
  · rw [if_neg c2, cI_f (fun z => c2 z.2)]
theorem eq_envy (R : RelE σ n q y t u) (h : Kx σ τ) : envH σ n q = envA τ n q := by
  have eb := bl_tie R h
  have eF : shGF (blR τ n) n q = shF τ n q := funext (fun k => rfl)
  have es : shSH σ n q = shrS τ n q := by rw [shSH, shrS, shrB, eb, eF]
  rw [envH, envA, es]
theorem dea_cg {s s' bl : Nat → Int32} {m : Nat} (h4 : m ≤ 4) (hs : ∀ j, j < 4 → s j = s' j) : ∀ i, ∀ j, j < 4 → deaN s bl m i j = deaN s' bl m i j
  | 0, j, hj => hs j hj
  | i + 1, j, hj => by
    have ih := dea_cg (bl := bl) h4 hs i
    have ef : firN (deaN s bl m i) m = firN (deaN s' bl m i) m := firN_cg m (fun j hj => ih j (by omega))
    rw [deaN, deaN, ef]
    unfold upd
    by_cases c : j = firN (deaN s' bl m i) m
    · rw [if_pos c, if_pos c, ← c, ih j hj]
    · rw [if_neg c, if_neg c, ih j hj]
theorem z4_0 (f : Nat → Int32) : ∀ j, j < 4 → (fun _ : Nat => (0 : Int32)) j = z4 f j := fun j hj => by
  rw [z4, pre, if_pos hj]
theorem eq_dealt {v : Int32} (R : RelE σ n q y t u) (h : Kx σ τ) : dltH σ n q v = dltA τ n q v := by
  have eb := bl_tie R h
  have q2 := R.1.1.2.2.2.1
  have q4 := R.1.1.2.2.2.2.1
  have hd := dea_cg (bl := blR τ n) q4 (z4_0 (τ 16))
  rw [dltH, dltA, eb]
  by_cases c1 : v < -1
  · rw [cI_f (fun z => z.1 c1), if_pos c1, if_pos c1]
  rw [if_neg c1, if_neg c1]
  by_cases c2 : v < nI n
  · rw [cI_t ⟨c1, c2⟩, if_pos c2]
    by_cases c3 : v < 0
    · rw [if_pos c3, cI_f (fun z => z.1 c3)]
      exact aptF_cg (by omega) (fun j hj => hd n j (by omega))
    · rw [if_neg c3, cI_t ⟨c3, c2⟩, deaG, deaG, firN_cg q (fun j hj => hd (tn v) j (by omega))]
  · rw [if_neg c2, cI_f (fun z => c2 z.2)]
theorem chS_cg {s s' bl : Nat → Int32} {m l : Nat} (hl : 1 ≤ l) (h4 : l ≤ 4) (hs : ∀ j, j < 4 → s j = s' j) : ∀ i, ∀ j, j < 4 → chS s bl m l i j = chS s' bl m l i j
  | 0, j, hj => hs j hj
  | i + 1, j, hj => by
    have ih := chS_cg (bl := bl) (m := m) hl h4 hs i
    have hm := Nat.mod_lt i (show 0 < l by omega)
    rw [chS, chS, ih (i % l) (by omega)]
    unfold upd
    by_cases c : j = i % l
    · rw [if_pos c, if_pos c]
    · rw [if_neg c, if_neg c, ih j hj]
theorem m1_only {v : Int32} (h1 : ¬ v < -1) (h2 : v < 0) : v = -1 := by
  have e1 : (-1 : Int32).toInt = -1 := rfl
  have e0 : (0 : Int32).toInt = 0 := rfl
  rw [i32_lt, e1] at h1
  rw [i32_lt, e0] at h2
  exact Int32.toInt_inj.mp (by rw [e1]; omega)
theorem eq_choice {v : Int32} (R : RelE σ n q y t u) (h : Kx σ τ) : choH σ n q v = choA τ n q v := by
  have eb := bl_tie R h
  have q2 := R.1.1.2.2.2.1
  have q4 := R.1.1.2.2.2.2.1
  rw [choH, choA, eb]
  by_cases c1 : v < -1
  · rw [cI_f (fun z => z.1 c1), if_pos c1, if_pos c1]
  rw [if_neg c1, if_neg c1]
  by_cases c2 : v < nI q
  · rw [cI_t ⟨c1, c2⟩, if_pos c2]
    by_cases c3 : v < 0
    · rw [if_pos c3, if_pos (m1_only c1 c3)]
    · have hv := heir_nat q4 c3 c2
      rw [if_neg c3, if_neg (fun z => c3 (by rw [z]; decide)), cI_t ⟨c3, c2⟩]
      exact chS_cg (by omega) q4 (z4_0 (τ 16)) n (tn v) (by omega)
  · rw [if_neg c2, cI_f (fun z => c2 z.2)]
theorem bwo_tie (R : RelE σ n q y t u) (h : Kx σ τ) : bwoH σ n = bwoF τ n := by
  obtain ⟨t4, t5, t6, t7, t8, t2, t17, t31, t32⟩ := tie R h
  exact funext (fun p => by rw [bwoH, bwoF, t4, t6, t7, t8])
theorem eq_sell {v : Int32} (R : RelE σ n q y t u) (h : Kx σ τ) : selX σ n v = selY τ n v := by
  rw [selX, selY]
  by_cases c : v = 0 ∨ v = 1
  · rw [cI_t c, cI_t c, selH, selA, selM, bwo_tie R h]
    by_cases d : v = 0
    · rw [if_pos d, if_pos d]
    · rw [if_neg d, if_neg d, if_pos (c.resolve_left d)]
  · rw [cI_f c, cI_f c]
theorem eq_later {v : Int32} (R : RelE σ n q y t u) (h : Kx σ τ) : latH σ n v = latA τ n v := by
  rw [latH, latA, la_tie R h.1]
theorem eq_gone {v : Int32} (R : RelE σ n q y t u) (h : Kx σ τ) : gonH σ n v = gonA τ n v := by
  have e : (fun k => ¬ v < laH σ 19 n k) = (fun k => ¬ v < laF τ n k) := funext (fun k => by rw [la_tie R h.1])
  rw [gonH, gonA, e]
theorem eq_guest {r : Int32} (R : RelE σ n q y t u) (h : Kx σ τ) : gueH σ n r = gueA τ n r := by
  obtain ⟨t4, t5, t6, t7, t8, t2, t17, t31, t32⟩ := tie R h
  rw [gueH, gueA, t4, t6, t7, t8]; rfl
theorem dn_fst {P : Nat → Prop} {m : Nat} : ∀ k, k ≤ m → (∀ j, j < m - k → ¬ P j) → dnF P m k = fstN P m
  | 0, _, h => fst_none (fun j hj => h j (by omega))
  | k + 1, hk, h => by
    rw [dnF]
    by_cases c : P (m - k - 1)
    · rw [cI_t c]
      exact fst_some (fun j hj => h j (by omega)) c (by omega)
    · rw [cI_f c]
      refine dn_fst k (by omega) (fun j hj => ?_)
      rcases Nat.lt_or_ge j (m - (k + 1)) with z | z
      · exact h j z
      · rw [show j = m - k - 1 by omega]; exact c
theorem eq_bigger {p r : Int32} (R : RelE σ n q y t u) (h : Kx σ τ) : bigH σ n p r = bigA τ n p r := by
  obtain ⟨t4, t5, t6, t7, t8, t2, t17, t31, t32⟩ := tie R h
  have e : bgP σ n (tn p) r = cbP τ n (tn p) r := funext (fun k => by
    rw [bgP, cbP, t4, t5, t8, t2]
    exact propext (carP_sr t31.symm t32.symm))
  rw [bigH, bigA, e, dn_fst 21 (Nat.le_refl 21) (fun j hj => absurd hj (by omega))]
theorem eq_lots {v z : Int32} (R : RelE σ n q y t u) (h : Kx σ τ) : lotH σ n v z = lotA τ n v z := by
  obtain ⟨t4, t5, t6, t7, t8, t2, t17, t31, t32⟩ := tie R h
  have e : loH σ n z = loF τ n z := funext (fun i => by rw [loH, loF, t4, t6, t7, wor_bin])
  rw [lotH, lotA, e]
theorem bwf_tie (R : RelE σ n q y t u) (h : Kx σ τ) : bwfH σ n = bwiF τ n := by
  obtain ⟨t4, t5, t6, t7, t8, t2, t17, t31, t32⟩ := tie R h
  exact funext (fun p => funext (fun f => by rw [bwfH, bwiF, t4, t6, t7, t8]))
theorem hea_tie (R : RelE σ n q y t u) (h : Kx σ τ) : ∀ i, i ≤ n → heaH σ n i = heaN τ n i
  | 0, _ => rfl
  | i + 1, hi => by
    have ih := hea_tie R h i (by omega)
    have eb := bwf_tie R h
    have t6 := (tie R h).2.2.1
    have r3 : σ (19 + 3) = σ 6 := R.2.1.2.2.1
    have hb := (R.2.2.1.1 i (by omega)).2.2.2.1
    have h9 := f9 (x := σ (19 + 3) i) (by rw [r3]; exact hb)
    rw [heaH, heaN, ih, eb, t6]
    by_cases c : σ (19 + 3) i = 9
    · rw [if_pos c, if_neg (fun z => h9.mp z c)]
    · rw [if_neg c, if_pos (h9.mpr c)]
theorem eq_heavier (R : RelE σ n q y t u) (h : Kx σ τ) : (heaH σ n n).1 = (heaN τ n n).1 := by rw [hea_tie R h n (Nat.le_refl n)]
theorem eq_whose {v : Int32} (R : RelE σ n q y t u) (h : Kx σ τ) : whsH σ n v = whoA τ n v := by
  have eb := bwf_tie R h
  have t6 := (tie R h).2.2.1
  have e : whgH σ n v = whoG τ n v := funext (fun p => by
    rw [whgH, whoG]
    have em : mkH σ n p v = makP τ n p v := by
      unfold mkH makP mkG
      rw [eb, t6]
    rw [em])
  rw [whsH, whoA, e]
end EQA
