/-! the class: Placing, in how few rooms; the space -/
theorem sumN_one {f g : Nat → Int32} {x : Nat} {v : Int32} (ho : ∀ r, r ≠ x → f r = g r) (hx : f x = g x + v) : ∀ m, sumN f m = if x < m then sumN g m + v else sumN g m
  | 0 => by rw [if_neg (Nat.not_lt_zero x)]; rfl
  | m + 1 => by
    rw [sumN, sumN, sumN_one ho hx m]
    by_cases c : x = m
    · subst c
      rw [if_neg (Nat.lt_irrefl _), if_pos (Nat.lt_succ_self _), hx, Int32.add_assoc]
    · rw [ho m (fun e => c e.symm)]
      by_cases k : x < m
      · rw [if_pos k, if_pos (by omega), Int32.add_assoc, Int32.add_assoc, Int32.add_comm v]
      · rw [if_neg k, if_neg (by omega)]
noncomputable def uG (d : Nat → Nat) (p r : Nat) : Int32 := cI (∃ j, j < p ∧ d j = r) 1 0
theorem uG_b (d : Nat → Nat) (p r : Nat) : 0 ≤ (uG d p r).toInt ∧ (uG d p r).toInt ≤ 1 := by
  by_cases c : ∃ j, j < p ∧ d j = r
  · rw [uG, cI_t c]; decide
  · rw [uG, cI_f c]; decide
noncomputable def cFe (d : Nat → Nat) (p : Nat) : Int32 := sumN (uG d p) 6
theorem cFe_tot (d : Nat → Nat) (p : Nat) : (cFe d p).toInt = isum (fun r => (uG d p r).toInt) 6 ∧ 0 ≤ (cFe d p).toInt ∧ (cFe d p).toInt ≤ 6 := by
  have hb : Bls (uG d p) 6 := Bls_le (m := 1) (fun r _ => uG_b d p r) (by decide)
  have h := sum_tot hb (by decide) 6 (Nat.le_refl 6)
  have g := isum_top (f := fun r => (uG d p r).toInt) (m := 1) 6 (fun r _ => (uG_b d p r).2)
  exact ⟨h.1, by rw [cFe, h.1]; exact h.2.1, by rw [cFe, h.1]; omega⟩
theorem cFe_mono (d : Nat → Nat) (p : Nat) : (cFe d p).toInt ≤ (cFe d (p + 1)).toInt := by
  rw [(cFe_tot d p).1, (cFe_tot d (p + 1)).1]
  refine isum_mono 6 (fun r _ => ?_)
  by_cases c : ∃ j, j < p ∧ d j = r
  · obtain ⟨j, hj, e⟩ := c
    rw [uG, uG, cI_t ⟨j, hj, e⟩, cI_t ⟨j, by omega, e⟩]; exact Int.le_refl _
  · rw [uG, cI_f c]; exact (uG_b d (p + 1) r).1
theorem cFe_0 (d : Nat → Nat) : cFe d 0 = 0 := by
  have : ∀ m, sumN (uG d 0) m = 0 := fun m => by
    induction m with
    | zero => rfl
    | succ m ih => rw [sumN, ih, uG, cI_f (fun ⟨j, hj, _⟩ => absurd hj (Nat.not_lt_zero j))]; rfl
  exact this 6
theorem cFe_st {d : Nat → Nat} {p : Nat} (hd : ∀ j, d j < 6) : cFe d (p + 1) = if ∃ j, j < p ∧ d j = d p then cFe d p else cFe d p + 1 := by
  have ho : ∀ r, r ≠ d p → uG d (p + 1) r = uG d p r := fun r hr => by
    by_cases c : ∃ j, j < p ∧ d j = r
    · obtain ⟨j, hj, e⟩ := c
      rw [uG, uG, cI_t ⟨j, by omega, e⟩, cI_t ⟨j, hj, e⟩]
    · rw [uG, uG, cI_f (P := ∃ j, j < p ∧ d j = r) c, cI_f]
      rintro ⟨j, hj, e⟩
      by_cases k : j = p
      · exact hr (by rw [← e, k])
      · exact c ⟨j, by omega, e⟩
  have h1 : uG d (p + 1) (d p) = 1 := by rw [uG, cI_t ⟨p, Nat.lt_succ_self p, rfl⟩]
  by_cases c : ∃ j, j < p ∧ d j = d p
  · rw [if_pos c]
    refine sumN_congr (fun r _ => ?_)
    by_cases k : r = d p
    · rw [k, h1, uG, cI_t c]
    · exact ho r k
  · rw [if_neg c, cFe, sumN_one (v := 1) ho (by rw [h1, uG, cI_f c]; rfl) 6, if_pos (hd p)]; rfl
theorem isum_hit {f : Nat → Int} {x : Nat} : ∀ n, (∀ j, j < n → 0 ≤ f j) → x < n → f x ≤ isum f n
  | 0, _, h => absurd h (Nat.not_lt_zero x)
  | n + 1, h0, h => by
    rw [isum]
    have hn := h0 n (by omega)
    have h0' : 0 ≤ isum f n := by
      have := isum_mono (f := fun _ => 0) (g := f) n (fun j hj => h0 j (by omega))
      have e : ∀ m, isum (fun _ => (0 : Int)) m = 0 := fun m => by
        induction m with
        | zero => rfl
        | succ m ih => rw [isum, ih]; rfl
      rw [e] at this; exact this
    by_cases c : x = n
    · subst c; omega
    · have := isum_hit n (fun j hj => h0 j (by omega)) (by omega : x < n); omega
theorem isum_hit2 {f : Nat → Int} {x y : Nat} : ∀ n, (∀ j, j < n → 0 ≤ f j) → x < y → y < n → f x + f y ≤ isum f n
  | 0, _, _, h => absurd h (Nat.not_lt_zero y)
  | n + 1, h0, hxy, h => by
    rw [isum]
    have hn := h0 n (by omega)
    by_cases c : y = n
    · subst c
      have := isum_hit (f := f) y (fun j hj => h0 j (by omega)) hxy
      omega
    · have := isum_hit2 n (fun j hj => h0 j (by omega)) hxy (by omega : y < n); omega
theorem isum_0 {f : Nat → Int} : ∀ n, (∀ j, j < n → f j = 0) → isum f n = 0
  | 0, _ => rfl
  | n + 1, h => by rw [isum, isum_0 n (fun j hj => h j (by omega)), h n (by omega)]; rfl
theorem isum_1 {f : Nat → Int} {x : Nat} : ∀ n, (∀ j, j < n → j ≠ x → f j = 0) → x < n → isum f n = f x
  | 0, _, h => absurd h (Nat.not_lt_zero x)
  | n + 1, h0, h => by
    rw [isum]
    by_cases c : x = n
    · subst c; rw [isum_0 x (fun j hj => h0 j (by omega) (by omega))]; omega
    · rw [isum_1 n (fun j hj => h0 j (by omega)) (by omega), h0 n (by omega) (by omega)]; omega
theorem pin_one {d : Nat → Nat} {n p : Nat} (h7 : n ≤ 7) (hp : p < n) (hd : ∀ j, d j < 6) : pinF (plt d (p + 1)) n (nI (d p)) = 1 ↔ ¬ ∃ j, j < p ∧ d j = d p := by
  have hg : ∀ j, 0 ≤ (pinG (plt d (p + 1)) (nI (d p)) j).toInt ∧ (pinG (plt d (p + 1)) (nI (d p)) j).toInt ≤ 1 := fun j => by unfold pinG; split <;> decide
  have hb : Bls (pinG (plt d (p + 1)) (nI (d p))) n := Bls_le (m := 1) (fun j _ => hg j) (by decide)
  have ht := (sum_tot hb h7 n (Nat.le_refl n)).1
  have hP : (pinG (plt d (p + 1)) (nI (d p)) p).toInt = 1 := by unfold pinG; rw [plt_at, if_pos rfl]; rfl
  constructor
  · rintro e ⟨j, hj, ej⟩
    have hJ : (pinG (plt d (p + 1)) (nI (d p)) j).toInt = 1 := by
      unfold pinG
      rw [plt_o d (by omega)]
      unfold plt
      rw [if_pos hj, ej, if_pos rfl]; rfl
    have := isum_hit2 (f := fun j => (pinG (plt d (p + 1)) (nI (d p)) j).toInt) n (fun j _ => (hg j).1) hj hp
    rw [← ht, show sumN (pinG (plt d (p + 1)) (nI (d p))) n = 1 from e, hP, hJ] at this
    exact absurd this (by decide)
  · intro k
    refine Int32.toInt_inj.mp ?_
    show (sumN (pinG (plt d (p + 1)) (nI (d p))) n).toInt = 1
    rw [ht, isum_1 (x := p) n (fun j hj hne => ?_) hp, hP]
    unfold pinG
    rw [plt_o d hne]
    unfold plt
    by_cases c : j < p
    · rw [if_pos c, if_neg (fun e => k ⟨j, c, (nI_eq (by have := hd j; omega) (by have := hd p; omega)).mp e⟩)]; rfl
    · rw [if_neg c, if_neg (fun e => nI_n9' (hd p) e.symm)]; rfl
/-! told as bits -/
theorem or_bt {d : Nat → Nat} {pl : Nat → Int32} {n : Nat} (hd : ∀ j, d j < 6) : ∀ m, m ≤ n → (∀ j, j < n → pl j = nI (d j)) → ∀ r, r < 31 → (bt (orN (useG pl) m) r = true ↔ ∃ j, j < m ∧ d j = r)
  | 0, _, _, r, _ => by
    show bt 0 r = true ↔ _
    rw [b_0]
    exact ⟨fun e => (Bool.false_ne_true e).elim, fun ⟨j, hj, _⟩ => absurd hj (Nat.not_lt_zero j)⟩
  | m + 1, hm, hpl, r, hr => by
    rw [orN, useG, hpl m (by omega), bt_set (by have := hd m; omega) hr, Bool.or_eq_true, or_bt hd m (by omega) hpl r hr, decide_eq_true_eq]
    constructor
    · rintro (⟨j, hj, e⟩ | e)
      · exact ⟨j, by omega, e⟩
      · exact ⟨m, by omega, e.symm⟩
    · rintro ⟨j, hj, e⟩
      by_cases c : j = m
      · exact Or.inr (by rw [← e, c])
      · exact Or.inl ⟨j, by omega, e⟩
theorem sumN_tail {f : Nat → Int32} {a : Nat} : ∀ k, (∀ r, a ≤ r → r < a + k → f r = 0) → sumN f (a + k) = sumN f a
  | 0, _ => rfl
  | k + 1, h => by
    rw [← Nat.add_assoc, sumN, sumN_tail k (fun r h1 h2 => h r h1 (by omega)), h (a + k) (by omega) (by omega), Int32.add_zero]
theorem use_cFe {d : Nat → Nat} {pl : Nat → Int32} {n : Nat} (hd : ∀ j, d j < 6) (hpl : ∀ j, j < n → pl j = nI (d j)) : useF pl n = cFe d n := by
  have hb : ∀ r, r < 31 → bitG (orN (useG pl) n) r = uG d n r := fun r hr => by
    have h := or_bt hd n (Nat.le_refl n) hpl r hr
    have g := (hasP_bt (s := orN (useG pl) n) hr)
    by_cases c : ∃ j, j < n ∧ d j = r
    · rw [uG, cI_t c]; exact g.mpr (h.mpr c)
    · rw [uG, cI_f c]
      have k : ¬ bitG (orN (useG pl) n) r = 1 := fun e => c (h.mp (g.mp e))
      have e : bitG (orN (useG pl) n) r = 0 ∨ bitG (orN (useG pl) n) r = 1 := by
        rw [bitG]
        refine (?_ : ∀ x : Int32, x &&& 1 = 0 ∨ x &&& 1 = 1) _
        intro x
        by_cases z : bt x 0 = true
        · exact Or.inr ((and1 x).mpr z)
        · refine Or.inl (b_ext (fun i _ => ?_))
          rw [b_and, b_1, b_0]
          by_cases q : i = 0
          · rw [q]; simp [z]
          · simp [q]
      exact e.resolve_right k
  rw [useF, cFe]
  rw [show (31 : Nat) = 6 + 25 from rfl, sumN_tail (a := 6) 25 (fun r h1 h2 => ?_)]
  · exact sumN_congr (fun r hr => hb r (by omega))
  · rw [hb r (by omega), uG, cI_f]
    rintro ⟨j, _, e⟩
    have := hd j; omega
/-! the space -/
theorem bulF_b {kd bk ft ag sz : Nat → Int32} {n : Nat} (h : Sml kd bk ft ag sz n) (h7 : n ≤ 7) (pl : Nat → Int32) (r : Int32) : (bulF bk pl n r).toInt = isum (fun p => (bulG bk pl r p).toInt) n ∧ 0 ≤ (bulF bk pl n r).toInt ∧ (bulF bk pl n r).toInt ≤ 63 := by
  have hg : ∀ p, p < n → 0 ≤ (bulG bk pl r p).toInt ∧ (bulG bk pl r p).toInt ≤ 9 := fun p hp => by
    unfold bulG
    split
    · exact ⟨(h.1 p hp).1, (h.1 p hp).2.1⟩
    · decide
  have ht := sum_tot (Bls_le hg (by decide)) h7 n (Nat.le_refl n)
  have g := isum_top (f := fun p => (bulG bk pl r p).toInt) (m := 9) n (fun p hp => (hg p hp).2)
  exact ⟨ht.1, by rw [bulF, ht.1]; exact ht.2.1, by rw [bulF, ht.1]; omega⟩
theorem bul_same {bk : Nat → Int32} {d : Nat → Nat} {n p r : Nat} (hd : ∀ j, d j < 6) (hr : r < 6) (k : ¬ d p = r) : bulF bk (plt d (p + 1)) n (nI r) = bulF bk (plt d p) n (nI r) := by
  have hn : ¬ nI (d p) = nI r := fun e => k ((nI_eq (by have := hd p; omega) (by omega)).mp e)
  refine sumN_congr (fun j hj => ?_)
  unfold bulG
  by_cases c : j = p
  · subst c
    rw [plt_at, plt_9, if_neg hn, if_neg (fun e => nI_n9' hr e.symm)]
  · rw [plt_o d c]
theorem bul_more {bk : Nat → Int32} {d : Nat → Nat} {n p : Nat} (hd : ∀ j, d j < 6) (hp : p < n) : bulF bk (plt d (p + 1)) n (nI (d p)) = bulF bk (plt d p) n (nI (d p)) + bk p := by
  have h1 : ∀ j, j ≠ p → bulG bk (plt d (p + 1)) (nI (d p)) j = bulG bk (plt d p) (nI (d p)) j := fun j hj => by unfold bulG; rw [plt_o d hj]
  have h2 : bulG bk (plt d (p + 1)) (nI (d p)) p = bulG bk (plt d p) (nI (d p)) p + bk p := by unfold bulG; rw [plt_at, if_pos rfl, plt_9, if_neg (fun e => nI_n9' (hd p) e.symm), Int32.zero_add]
  rw [bulF, sumN_one h1 h2 n, if_pos hp]; rfl
theorem bul_none {bk : Nat → Int32} {d : Nat → Nat} {n r : Nat} (hr : r < 6) : bulF bk (plt d 0) n (nI r) = 0 := by
  have : ∀ m, sumN (bulG bk (plt d 0) (nI r)) m = 0 := fun m => by
    induction m with
    | zero => rfl
    | succ m ih => rw [sumN, ih]; unfold bulG; rw [show plt d 0 m = 9 from rfl, if_neg (fun e => nI_n9' hr e.symm)]; rfl
  exact this n
theorem bul_mono {kd bk ft ag sz : Nat → Int32} {d : Nat → Nat} {n r : Nat} (h : Sml kd bk ft ag sz n) (h7 : n ≤ 7) (hd : ∀ j, d j < 6) (hr : r < 6) (p : Nat) : ∀ m, p + m ≤ n → (bulF bk (plt d p) n (nI r)).toInt ≤ (bulF bk (plt d (p + m)) n (nI r)).toInt
  | 0, _ => Int.le_refl _
  | m + 1, hm => by
    have ih := bul_mono h h7 hd hr p m (by omega)
    rw [← Nat.add_assoc]
    by_cases c : d (p + m) = r
    · subst c
      have hb := (bulF_b h h7 (plt d (p + m)) (nI (d (p + m)))).2
      have hk := h.1 (p + m) (by omega)
      rw [bul_more hd (by omega), i32_add (by omega) (by omega)]; omega
    · rw [bul_same hd hr c]; exact ih
def okS (bk sz : Nat → Int32) (n : Nat) (v : Int32) (d : Nat → Nat) (p : Nat) : Prop := ∀ j, j < p → hasP v (nI (d j)) ∧ ¬ sz (d j) < bulF bk (plt d j) n (nI (d j)) + bk j
theorem okS_cg {bk sz : Nat → Int32} {n : Nat} {v : Int32} {d d' : Nat → Nat} {p : Nat} (h : ∀ j, j < p → d j = d' j) (k : okS bk sz n v d p) : okS bk sz n v d' p := fun j hj => by
  have := k j hj
  rw [h j hj, plt_cg (d := d) (d' := d') (fun i hi => h i (by omega))] at this
  exact this
theorem okS_full {kd bk ft ag sz : Nat → Int32} {d : Nat → Nat} {n : Nat} {v : Int32} (h : Sml kd bk ft ag sz n) (h7 : n ≤ 7) (hd : ∀ j, d j < 6) : okS bk sz n v d n ↔ (∀ p, p < n → hasP v (nI (d p))) ∧ ∀ r, r < 6 → ¬ sz r < bulF bk (plt d n) n (nI r) := by
  constructor
  · intro k
    refine ⟨fun p hp => (k p hp).1, fun r hr => ?_⟩
    have : ∀ p, p ≤ n → ¬ sz r < bulF bk (plt d p) n (nI r) := fun p => by
      induction p with
      | zero => intro _; rw [bul_none hr, i32_lt]; have := (h.2 r hr).1; show ¬ _ < (0 : Int); omega
      | succ p ih =>
        intro hp
        by_cases c : d p = r
        · subst c; rw [bul_more hd (by omega)]; exact (k p (by omega)).2
        · rw [bul_same hd hr c]; exact ih (by omega)
    exact this n (Nat.le_refl n)
  · rintro ⟨k1, k2⟩ j hj
    refine ⟨k1 j hj, ?_⟩
    rw [← bul_more hd hj]
    have := k2 (d j) (hd j)
    have m := bul_mono h h7 hd (hd j) (j + 1) (n - (j + 1)) (by omega)
    rw [show j + 1 + (n - (j + 1)) = n by omega] at m
    rw [i32_lt] at this ⊢
    omega
