/-! the check's class: house -/
def posS (g : Nat → Int32) : Nat → Nat
  | 0 => 0
  | k + 1 => stE g (posS g k)
theorem frm_len1 (b : Int32) : 1 ≤ (frmB b).length := by
  unfold frmB
  split
  · decide
  · split
    · decide
    · split
      · decide
      · split <;> decide
theorem posS_ge (g : Nat → Int32) : ∀ k, 3 * k ≤ posS g k
  | 0 => Nat.le_refl _
  | k + 1 => by
    have h := posS_ge g k
    have h1 := frm_len1 (g (posS g k))
    rw [posS, stE]; omega
theorem bad1_let {g : Nat → Int32} {a : Nat} (h : bad1 g a = none) : letP (g a) := by
  by_cases q : letP (g a)
  · exact q
  · rw [bad1, cI_f q] at h; cases h
theorem valP_loc {g : Nat → Int32} {b : Int32} {a p : Nat} {τ υ : St} (e : ∀ j, j < 4 → υ 12 (p + j) = τ 12 (p + j)) (h : valP g b a τ p) : valP g b a υ p := by
  have e0 : υ 12 p = τ 12 p := e 0 (by decide)
  unfold valP at h ⊢
  rw [e0, e 1 (by decide), e 2 (by decide), e 3 (by decide)]; exact h
/-- the first k statements are well, and stand on the tape -/
def Chn (g : Nat → Int32) (t k : Nat) : Prop := ∀ i, i < k → bad1 g (posS g i) = none ∧ (0 < i → posS g i < t)
def Tld (g : Nat → Int32) (k : Nat) (τ : St) : Prop := ∀ i, i < k → τ 10 i = g (posS g i) ∧ τ 11 i = nI (posS g i) ∧ valP g (g (posS g i)) (posS g i + 1) τ (4 * i)
def Rdg (σ τ : St) (g : Nat → Int32) (t k : Nat) : Prop := τ 0 16 = nI (posS g k) ∧ τ 0 17 = nI k ∧ (∀ a, a ≠ 0 → a ≠ 10 → a ≠ 11 → a ≠ 12 → τ a = σ a) ∧ (∀ j, j ≠ 16 → j ≠ 17 → τ 0 j = σ 0 j) ∧ Chn g t k ∧ Tld g k τ
theorem Chn_lt {g : Nat → Int32} {t k : Nat} (h : Chn g t k) (ht : t ≤ 96) : k ≤ 34 := by
  refine Nat.le_of_not_lt (fun q => ?_)
  have h1 := (h 34 q).2 (by decide)
  have h2 := posS_ge g 34
  omega
theorem Chn_pos {g : Nat → Int32} {t : Nat} : ∀ {k}, Chn g t k → t ≤ 96 → posS g k ≤ 104
  | 0, _, _ => Nat.zero_le _
  | k + 1, h, ht => by
    have h1 := (h k (Nat.lt_succ_self k)).2
    have h2 := frm_len (g (posS g k))
    rw [posS, stE]
    cases k with
    | zero => rw [posS] at h2 ⊢; omega
    | succ k => have h3 := h1 (Nat.succ_pos k); omega
theorem Rdg_step {σ τ υ : St} {g : Nat → Int32} {t k : Nat} (h : Rdg σ τ g t k) (hb : bad1 g (posS g k) = none) (hp : 0 < k → posS g k < t) (h16 : υ 0 16 = nI (stE g (posS g k))) (h10 : υ 10 k = g (posS g k)) (h11 : υ 11 k = nI (posS g k)) (hv : valP g (g (posS g k)) (posS g k + 1) υ (4 * k)) (hS : Sd τ υ k) : Rdg σ (s2 υ 0 17 (nI (k + 1))) g t (k + 1) := by
  refine ⟨by rw [s2_get, if_neg (by decide)]; exact h16, by rw [s2_get, if_pos ⟨rfl, rfl⟩], fun a a0 a1 a2 a3 => by rw [s2_ne a0, hS.1 a a0 a1 a2 a3]; exact h.2.2.1 a a0 a1 a2 a3, fun j j1 j2 => by rw [s2_get, if_neg (fun q => j2 q.2), hS.2.1 j j1]; exact h.2.2.2.1 j j1 j2, fun i hi => ?_, fun i hi => ?_⟩
  · rcases Nat.lt_succ_iff_lt_or_eq.mp hi with q | q
    · exact h.2.2.2.2.1 i q
    · rw [q]; exact ⟨hb, hp⟩
  · rw [s2_ne (by decide), s2_ne (by decide)]
    rcases Nat.lt_succ_iff_lt_or_eq.mp hi with q | q
    · have hh := h.2.2.2.2.2 i q
      exact ⟨by rw [(hS.2.2.1 i q).1]; exact hh.1, by rw [(hS.2.2.1 i q).2]; exact hh.2.1, valP_cg (s2_ne (by decide)) (valP_loc (fun j hj => hS.2.2.2 _ (by omega)) hh.2.2)⟩
    · rw [q]; exact ⟨h10, h11, valP_cg (s2_ne (by decide)) hv⟩
/-- a statement comes over a state: what it does, and where it may -/
def cmAt (σ : St) (k : Nat) : St := cmS σ (tn (σ 0 8)) (σ 10 k) (σ 12 (4 * k)) (σ 12 (4 * k + 1)) (σ 12 (4 * k + 2)) (σ 12 (4 * k + 3))
def cmOk (σ : St) (k : Nat) : Prop := cmP σ (tn (σ 0 8)) (tn (σ 0 10)) (σ 10 k) (σ 12 (4 * k)) (σ 12 (4 * k + 1))
def cmRun (σ : St) : Nat → St
  | 0 => σ
  | k + 1 => cmAt (cmRun σ k) k
def Wfm (σ : St) : Prop := ∃ n y, σ 0 8 = nI n ∧ n ≤ 7 ∧ σ 0 10 = nI y ∧ y ≤ 999
theorem yrs_10 {n y : Nat} {σ : St} (h : σ 0 10 = nI y) : ∀ k, yrs n σ k 0 10 = nI (y + k)
  | 0 => h
  | k + 1 => by rw [yrs, yrP_y, yrs_10 h k]; exact nI_inc (y + k)
/-- what a statement that comes leaves alone -/
theorem cmS_o (σ : St) (n : Nat) (b v0 v1 v2 v3 : Int32) (a : Nat) (h0 : a ≠ 0) (h : a < 2 ∨ 8 < a) : cmS σ n b v0 v1 v2 v3 a = σ a := by
  unfold cmS piS
  repeat' split
  all_goals first
    | (rw [yrs_o _ _ _ (by omega) (by omega) h0])
    | (repeat rw [s2_ne (by omega)])
theorem cmS_z (σ : St) (n : Nat) (b v0 v1 v2 v3 : Int32) (j : Nat) (h8 : j ≠ 8) (h9 : j ≠ 9) (h10 : j ≠ 10) : cmS σ n b v0 v1 v2 v3 0 j = σ 0 j := by
  unfold cmS piS
  repeat' split
  all_goals first
    | (rw [yrs_z _ _ _ h10])
    | (repeat rw [s2_get, if_neg (fun q => by omega)])
theorem cmS_wf {σ : St} {n y : Nat} {b v0 v1 v2 v3 : Int32} (hn : σ 0 8 = nI n) (h7 : n ≤ 7) (hy : σ 0 10 = nI y) (hy9 : y ≤ 999) (h : cmP σ n y b v0 v1) : Wfm (cmS σ n b v0 v1 v2 v3) := by
  unfold cmP at h
  unfold cmS piS
  repeat' split
  all_goals simp only [*, if_true, if_false, ↓reduceIte] at h
  · exact ⟨n + 1, y, by simp [s2_get], by omega, by simp [s2_get, hy], hy9⟩
  · exact ⟨n, y, by simp [s2_get, hn], h7, by simp [s2_get, hy], hy9⟩
  · exact ⟨n, y, by simp [s2_get, hn], h7, by simp [s2_get, hy], hy9⟩
  · exact ⟨n, y, by simp [s2_get, hn], h7, by simp [s2_get, hy], hy9⟩
  · exact ⟨n, y + tn v0, by rw [yrs_z _ _ _ (by decide)]; exact hn, h7, yrs_10 hy _, by have h2 := h.2; omega⟩
  · exact ⟨n, y, by simp [s2_get, hn], h7, by simp [s2_get, hy], hy9⟩
  · exact ⟨n, y, by simp [s2_get, hn], h7, by simp [s2_get, hy], hy9⟩
theorem cmRun_o (σ : St) (a : Nat) (h0 : a ≠ 0) (h : a < 2 ∨ 8 < a) : ∀ k, cmRun σ k a = σ a
  | 0 => rfl
  | k + 1 => by rw [cmRun, cmAt, cmS_o _ _ _ _ _ _ _ a h0 h, cmRun_o σ a h0 h k]
theorem cmRun_z (σ : St) (j : Nat) (h8 : j ≠ 8) (h9 : j ≠ 9) (h10 : j ≠ 10) : ∀ k, cmRun σ k 0 j = σ 0 j
  | 0 => rfl
  | k + 1 => by rw [cmRun, cmAt, cmS_z _ _ _ _ _ _ _ j h8 h9 h10, cmRun_z σ j h8 h9 h10 k]
theorem tn_nI {n : Nat} (h : n < 2 ^ 31) : tn (nI n) = n := nI_clamp h
theorem cmRun_wf {σ : St} (h : Wfm σ) : ∀ k, (∀ j, j < k → cmOk (cmRun σ j) j) → Wfm (cmRun σ k)
  | 0, _ => h
  | k + 1, hc => by
    obtain ⟨n, y, hn, h7, hy, hy9⟩ := cmRun_wf h k (fun j hj => hc j (by omega))
    have hk := hc k (Nat.lt_succ_self k)
    rw [cmRun, cmAt, hn, tn_nI (by omega)]
    rw [cmOk, hn, hy, tn_nI (by omega), tn_nI (by omega)] at hk
    exact cmS_wf hn h7 hy hy9 hk
/-- what house leaves as it was where it is refused -/
def Kept (σ τ : St) : Prop := τ 0 15 = 0 ∧ (∀ j, (j = 8 ∨ j = 9 ∨ j = 10 ∨ j = 19 ∨ j = 27) → τ 0 j = σ 0 j) ∧ τ 1 = σ 1 ∧ (∀ k, (k = 9 ∨ 17 ≤ k) → τ k = σ k) ∧ (∀ j, j < 47 → τ 13 j = σ 13 j) ∧ ∀ k, 2 ≤ k → k ≤ 8 → ∀ j, j < lenR k → τ k j = σ k j
/-- where the statements are read, and no more stand on the tape -/
def Told (g : Nat → Int32) (t s : Nat) : Prop := 0 < s ∧ Chn g t s ∧ t ≤ posS g s
/-- the answer of house and what it leaves: a letter that does not fit, a statement that does not hold, or how many came -/
def HouR (σ : St) (t : Nat) (r : Int32) (τ : St) : Prop :=
  (∃ m x, Chn (nx (σ 9) t) t m ∧ (0 < m → posS (nx (σ 9) t) m < t) ∧ bad1 (nx (σ 9) t) (posS (nx (σ 9) t) m) = some x ∧ r = -1000 - nI x ∧ Kept σ τ) ∨
  ∃ s υ, Told (nx (σ 9) t) t s ∧ (Kept σ υ ∧ ∀ k, 2 ≤ k → k ≤ 8 → υ k = σ k) ∧ Tld (nx (σ 9) t) s υ ∧
    ((∃ k, k < s ∧ (∀ j, j < k → cmOk (cmRun υ j) j) ∧ ¬ cmOk (cmRun υ k) k ∧ r = -2000 - nI (posS (nx (σ 9) t) k) ∧ Kept σ τ) ∨
     ((∀ j, j < s → cmOk (cmRun υ j) j) ∧ r = nI s ∧ τ = cmRun υ s))
theorem Kept_rd {σ τ : St} {g : Nat → Int32} {t k : Nat} (h : Rdg σ τ g t k) : Kept σ (s2 τ 0 15 0) :=
  ⟨by rw [s2_get, if_pos ⟨rfl, rfl⟩], fun j hj => by rw [s2_get, if_neg (fun q => by omega)]; exact h.2.2.2.1 j (by omega) (by omega), by rw [s2_ne (by decide)]; exact h.2.2.1 1 (by decide) (by decide) (by decide) (by decide), fun k hk => by rw [s2_ne (by omega)]; exact h.2.2.1 k (by omega) (by omega) (by omega) (by omega), fun j _ => by rw [s2_ne (by decide), h.2.2.1 13 (by decide) (by decide) (by decide) (by decide)], fun k h2 h8 j _ => by rw [s2_ne (by omega), h.2.2.1 k (by omega) (by omega) (by omega) (by omega)]⟩
theorem Kept_sd {σ τ υ : St} {g : Nat → Int32} {t k : Nat} (h : Rdg σ τ g t k) (s : Sd τ υ k) (x : Int32) : Kept σ (s2 (s2 υ 0 17 x) 0 15 0) :=
  ⟨by rw [s2_get, if_pos ⟨rfl, rfl⟩], fun j hj => by rw [s2_get, if_neg (fun q => by omega), s2_get, if_neg (fun q => by omega), s.2.1 j (by omega)]; exact h.2.2.2.1 j (by omega) (by omega), by rw [s2_ne (by decide), s2_ne (by decide), s.1 1 (by decide) (by decide) (by decide) (by decide)]; exact h.2.2.1 1 (by decide) (by decide) (by decide) (by decide), fun k hk => by rw [s2_ne (by omega), s2_ne (by omega), s.1 k (by omega) (by omega) (by omega) (by omega)]; exact h.2.2.1 k (by omega) (by omega) (by omega) (by omega), fun j _ => by rw [s2_ne (by decide), s2_ne (by decide), s.1 13 (by decide) (by decide) (by decide) (by decide), h.2.2.1 13 (by decide) (by decide) (by decide) (by decide)], fun k h2 h8 j _ => by rw [s2_ne (by omega), s2_ne (by omega), s.1 k (by omega) (by omega) (by omega) (by omega), h.2.2.1 k (by omega) (by omega) (by omega) (by omega)]⟩
theorem Kept_sv {σ τ υ : St} (h : Kept σ τ) (s : Svp τ 50 47 υ) : Kept σ υ :=
  ⟨by rw [s.2.1 15 (by decide) (by decide)]; exact h.1, fun j hj => by rw [s.2.1 j (by omega) (by omega)]; exact h.2.1 j hj, by rw [s.1 1 (by decide) (by decide)]; exact h.2.2.1, fun k hk => by rw [s.1 k (by omega) (by omega)]; exact h.2.2.2.1 k hk, fun j hj => by rw [s.2.2.2.2.2 j (Or.inl (by omega))]; exact h.2.2.2.2.1 j hj, fun k h2 h8 j hj => by rw [s.1 k (by omega) (by omega)]; exact h.2.2.2.2.2 k h2 h8 j hj⟩
theorem Kept_bk {σ τ υ ω ψ : St} (h : Kept σ τ) (s : Svp τ 50 47 υ) (e : ∀ a, a ≠ 0 → (a < 2 ∨ 8 < a) → ω a = υ a) (ez : ∀ j, j ≠ 8 → j ≠ 9 → j ≠ 10 → ω 0 j = υ 0 j) (b : Rsp ω 50 47 ψ) : Kept σ ψ := by
  have hs := Kept_sv h s
  have e13 : ω 13 = υ 13 := e 13 (by decide) (Or.inr (by decide))
  have hb := s.2.2.2.2.1
  refine ⟨by rw [b.2.1 15 (by decide) (by decide) (by decide) (by decide) (by decide), ez 15 (by decide) (by decide) (by decide)]; exact hs.1, fun j hj => ?_, by rw [b.1 1 (by decide) (Or.inl (by decide)), e 1 (by decide) (Or.inl (by decide))]; exact hs.2.2.1, fun k hk => by rw [b.1 k (by omega) (Or.inr (by omega)), e k (by omega) (Or.inr (by omega))]; exact hs.2.2.2.1 k hk, fun j hj => by rw [b.1 13 (by decide) (Or.inr (by decide)), e13]; exact hs.2.2.2.2.1 j hj, fun k h2 h8 j hj => ?_⟩
  · rcases hj with rfl | rfl | rfl | rfl | rfl
    · rw [b.2.2.2.2.2.1, if_pos (by decide), e13, hb 44 (by decide)]; exact h.2.1 8 (Or.inl rfl)
    · rw [b.2.2.2.2.2.2.1, if_pos (by decide), e13, hb 45 (by decide)]; exact h.2.1 9 (Or.inr (Or.inl rfl))
    · rw [b.2.2.2.2.2.2.2, if_pos (by decide), e13, hb 46 (by decide)]; exact h.2.1 10 (Or.inr (Or.inr (Or.inl rfl)))
    · rw [b.2.1 19 (by decide) (by decide) (by decide) (by decide) (by decide), ez 19 (by decide) (by decide) (by decide)]; exact hs.2.1 19 (by decide)
    · rw [b.2.1 27 (by decide) (by decide) (by decide) (by decide) (by decide), ez 27 (by decide) (by decide) (by decide)]; exact hs.2.1 27 (by decide)
  · have hbl : blk τ (offR k + j) = τ k j := by
      rcases (by omega : k = 2 ∨ k = 3 ∨ k = 4 ∨ k = 5 ∨ k = 6 ∨ k = 7 ∨ k = 8) with rfl | rfl | rfl | rfl | rfl | rfl | rfl
      all_goals (have hj' := hj; simp only [lenR] at hj'; simp only [offR])
      · exact (blk_at τ).1 j hj'
      · exact (blk_at τ).2.1 j hj'
      · exact (blk_at τ).2.2.1 j hj'
      · exact (blk_at τ).2.2.2.1 j hj'
      · exact (blk_at τ).2.2.2.2.1 j hj'
      · exact (blk_at τ).2.2.2.2.2.1 j hj'
      · exact (blk_at τ).2.2.2.2.2.2 j hj'
    have ho : offR k + lenR k ≤ 44 := by
      rcases (by omega : k = 2 ∨ k = 3 ∨ k = 4 ∨ k = 5 ∨ k = 6 ∨ k = 7 ∨ k = 8) with rfl | rfl | rfl | rfl | rfl | rfl | rfl <;> decide
    rw [b.2.2.2.2.1 k h2 h8, if_pos (by omega)]
    show (if j < lenR k then ω 13 (50 + offR k + j) else ω k j) = σ k j
    rw [if_pos hj, e13, Nat.add_assoc, hb _ (by omega), hbl]
    exact h.2.2.2.2.2 k h2 h8 j hj
theorem kX6_house (t : Nat) (σ : St) (hT : σ 0 15 = nI t) (h96 : t ≤ 96) (hW : Wfm σ) : Ct yX6_house cX6_house 3 (some .int) 5 [.ref 0] σ (rI (HouR σ t)) := by
  refine ct_of plX6 rfl (Nat.le_of_ble_eq_true rfl) (fun X hX C => ?_)
  show V X 0 [(0, .ref 0)] [] σ
  refine v_aload_n C dX6_house_0 rfl rfl rfl ?_
  refine v_iconst (v := 0) C dX6_house_1 (by decide) rfl ?_
  refine v_put (ty := .int) C (Nat.le_of_ble_eq_true rfl) rfl rfl hinX6 tyX6_ok nmX6 16 (Nat.le_of_ble_eq_true rfl) lkX6_83 rfl (by decide +kernel) rfl rfl rfl dX6_house_2 rfl ?_
  refine V.nm (fun τ2_1 eτ2_1 => ?_)
  refine v_aload_n C dX6_house_5 rfl rfl rfl ?_
  refine v_iconst (v := 0) C dX6_house_6 (by decide) rfl ?_
  refine v_put (ty := .int) C (Nat.le_of_ble_eq_true rfl) rfl rfl hinX6 tyX6_ok nmX6 17 (Nat.le_of_ble_eq_true rfl) lkX6_107 rfl (by decide +kernel) rfl rfl rfl dX6_house_7 rfl ?_
  refine V.nm (fun τ7_2 eτ7_2 => ?_)
  refine v_iconst (v := 1) C dX6_house_10 (by decide) rfl ?_
  refine v_istore_n (lv' := [(1, .int 1), (0, .ref 0)]) C dX6_house_11 rfl (Nat.le_of_ble_eq_true rfl) rfl rfl ?_
  have hR0 : Rdg σ τ7_2 (nx (σ 9) t) t 0 := ⟨by rw [eτ7_2, s2_get, if_neg (by decide), eτ2_1, s2_get, if_pos ⟨rfl, rfl⟩]; rfl, by rw [eτ7_2, s2_get, if_pos ⟨rfl, rfl⟩]; rfl, fun a a0 _ _ _ => by rw [eτ7_2, s2_ne a0, eτ2_1, s2_ne a0], fun j j1 j2 => by rw [eτ7_2, s2_get, if_neg (fun q => j2 q.2), eτ2_1, s2_get, if_neg (fun q => j1 q.2)], fun i hi => absurd hi (Nat.not_lt_zero i), fun i hi => absurd hi (Nat.not_lt_zero i)⟩
  have lp12 : ∀ (kf k : Nat) (υ : St), 36 ≤ k + kf → Rdg σ υ (nx (σ 9) t) t k → V X 12 [(1, .int 1), (0, .ref 0)] [] υ := by
    intro kf
    induction kf with
    | zero => intro k υ h1 hR; have := Chn_lt hR.2.2.2.2.1 h96; omega
    | succ kf ih12 =>
      intro k υ h1 hR
      have hk34 := Chn_lt hR.2.2.2.2.1 h96
      have hp104 := Chn_pos hR.2.2.2.2.1 h96
      have hAυ := hR.1
      have hSυ := hR.2.1
      have hTυ : υ 0 15 = nI t := (hR.2.2.2.1 15 (by decide) (by decide)).trans hT
      have h9υ : υ 9 = σ 9 := hR.2.2.1 9 (by decide) (by decide) (by decide) (by decide)
      refine v_iload_n C dX6_house_12 rfl rfl rfl ?_
      refine v_if_eq (tgt := 60) C dX6_house_13 (by decide) rfl (fun q => absurd q (by decide)) (fun _ => ?_)
      refine v_aload_n C dX6_house_16 rfl rfl rfl ?_
      refine v_getI C (Nat.le_of_ble_eq_true rfl) rfl rfl hinX6 16 (Nat.le_of_ble_eq_true rfl) lkX6_83 rfl dX6_house_17 rfl ?_
      refine V.tp hAυ ?_
      refine v_aload_n C dX6_house_20 rfl rfl rfl ?_
      refine v_getI C (Nat.le_of_ble_eq_true rfl) rfl rfl hinX6 15 (Nat.le_of_ble_eq_true rfl) lkX6_76 rfl dX6_house_21 rfl ?_
      refine V.tp hTυ ?_
      refine v_icmp_lt (tgt := 34) C dX6_house_24 (by decide) rfl (fun c24 => ?_) (fun c24 => ?_)
      · skip
        have c24 := (nI_ltI (a := (posS (nx (σ 9) t) k)) (b := t) (by omega) (by omega)).mp c24
        refine v_aload_n C dX6_house_34 rfl rfl rfl ?_
        refine v_callV C (Nat.le_of_ble_eq_true rfl) rfl rfl (As := []) (rest := []) (kX6_statement (posS (nx (σ 9) t) k) t υ hAυ hTυ h96 (by omega) k hSυ (by omega)) rfl (Nat.le_of_ble_eq_true rfl) (Nat.le_of_ble_eq_true rfl) ⟨mlX6_135, mfX6_statement⟩ dkX6_statement (Nat.le_of_ble_eq_true rfl) dX6_house_35 rfl (krI (fun r38_3 τ38_3 h38_3 => ?_))
        rw [h9υ] at h38_3
        rcases h38_3 with ⟨hr, hb1, h16, h10, h11, hv, hSd⟩ | ⟨hr, x, hb1, h16, hSd⟩
        · refine V.tp hr ?_
          have hSτ38_3 : τ38_3 0 17 = nI k := (hSd.2.1 17 (by decide)).trans hSυ
          refine v_istore_n (lv' := [(1, .int 1), (0, .ref 0)]) C dX6_house_38 rfl (Nat.le_of_ble_eq_true rfl) rfl rfl ?_
          refine v_aload_n C dX6_house_39 rfl rfl rfl ?_
          refine v_dup C dX6_house_40 rfl rfl ?_
          refine v_getI C (Nat.le_of_ble_eq_true rfl) rfl rfl hinX6 17 (Nat.le_of_ble_eq_true rfl) lkX6_107 rfl dX6_house_41 rfl ?_
          refine V.tp hSτ38_3 ?_
          refine v_iload_n C dX6_house_44 rfl rfl rfl ?_
          refine v_if_eq (tgt := 52) C dX6_house_45 (by decide) rfl (fun q => absurd q (by decide)) (fun _ => ?_)
          refine v_iconst (v := 1) C dX6_house_48 (by decide) rfl ?_
          refine v_goto (tgt := 53) C dX6_house_49 (by decide) ?_
          refine v_iadd C dX6_house_53 rfl ?_
          refine V.tp (nI_add k 1) ?_
          refine v_put (ty := .int) C (Nat.le_of_ble_eq_true rfl) rfl rfl hinX6 tyX6_ok nmX6 17 (Nat.le_of_ble_eq_true rfl) lkX6_107 rfl (by decide +kernel) rfl rfl rfl dX6_house_54 rfl ?_
          refine V.nm (fun τ54_4 eτ54_4 => ?_)
          refine v_goto (tgt := 12) C dX6_house_57 (by decide) ?_
          exact V.sub [0, 1] rfl (ih12 (k + 1) _ (by omega) (by rw [eτ54_4]; exact Rdg_step hR hb1 (fun _ => c24) h16 h10 h11 hv hSd))
        · refine V.tp hr ?_
          have hSτ38_3 : τ38_3 0 17 = nI k := (hSd.2.1 17 (by decide)).trans hSυ
          refine v_istore_n (lv' := [(1, .int 0), (0, .ref 0)]) C dX6_house_38 rfl (Nat.le_of_ble_eq_true rfl) rfl rfl ?_
          refine v_aload_n C dX6_house_39 rfl rfl rfl ?_
          refine v_dup C dX6_house_40 rfl rfl ?_
          refine v_getI C (Nat.le_of_ble_eq_true rfl) rfl rfl hinX6 17 (Nat.le_of_ble_eq_true rfl) lkX6_107 rfl dX6_house_41 rfl ?_
          refine V.tp hSτ38_3 ?_
          refine v_iload_n C dX6_house_44 rfl rfl rfl ?_
          refine v_if_eq (tgt := 52) C dX6_house_45 (by decide) rfl (fun _ => ?_) (fun q => absurd q (by decide))
          refine v_iconst (v := 0) C dX6_house_52 (by decide) rfl ?_
          refine v_iadd C dX6_house_53 rfl ?_
          refine V.tp (nI_add k 0) ?_
          refine v_put (ty := .int) C (Nat.le_of_ble_eq_true rfl) rfl rfl hinX6 tyX6_ok nmX6 17 (Nat.le_of_ble_eq_true rfl) lkX6_107 rfl (by decide +kernel) rfl rfl rfl dX6_house_54 rfl ?_
          refine V.nm (fun τ54_5 eτ54_5 => ?_)
          refine v_goto (tgt := 12) C dX6_house_57 (by decide) ?_
          refine v_iload_n C dX6_house_12 rfl rfl rfl ?_
          refine v_if_eq (tgt := 60) C dX6_house_13 (by decide) rfl (fun _ => ?_) (fun q => absurd q (by decide))
          refine v_aload_n C dX6_house_60 rfl rfl rfl ?_
          refine v_iconst (v := 0) C dX6_house_61 (by decide) rfl ?_
          refine v_put (ty := .int) C (Nat.le_of_ble_eq_true rfl) rfl rfl hinX6 tyX6_ok nmX6 15 (Nat.le_of_ble_eq_true rfl) lkX6_76 rfl (by decide +kernel) rfl rfl rfl dX6_house_62 rfl ?_
          refine V.nm (fun τ62_6 eτ62_6 => ?_)
          have hx16 : τ62_6 0 16 = nI x := by rw [eτ62_6, s2_get, if_neg (by decide), eτ54_5, s2_get, if_neg (by decide)]; exact h16
          have hKp : Kept σ τ62_6 := by rw [eτ62_6, eτ54_5]; exact Kept_sd hR hSd _
          refine v_iload_n C dX6_house_65 rfl rfl rfl ?_
          refine v_if_ne (tgt := 78) C dX6_house_66 (by decide) rfl (fun q => absurd q (by decide)) (fun _ => ?_)
          refine v_sipush (v := -1000) C dX6_house_69 (by decide) rfl ?_
          refine v_aload_n C dX6_house_72 rfl rfl rfl ?_
          refine v_getI C (Nat.le_of_ble_eq_true rfl) rfl rfl hinX6 16 (Nat.le_of_ble_eq_true rfl) lkX6_83 rfl dX6_house_73 rfl ?_
          refine V.tp hx16 ?_
          refine v_isub C dX6_house_76 rfl ?_
          exact v_iret C dX6_house_77 (by rw [hX]; exact ⟨_, rfl, Or.inl ⟨k, x, hR.2.2.2.2.1, (fun _ => c24), hb1, rfl, hKp⟩⟩)
      · skip
        have c24 := mt (nI_ltI (a := (posS (nx (σ 9) t) k)) (b := t) (by omega) (by omega)).mpr c24
        refine v_aload_n C dX6_house_27 rfl rfl rfl ?_
        refine v_getI C (Nat.le_of_ble_eq_true rfl) rfl rfl hinX6 17 (Nat.le_of_ble_eq_true rfl) lkX6_107 rfl dX6_house_28 rfl ?_
        refine V.tp hSυ ?_
        refine v_if_ne (tgt := 60) C dX6_house_31 (by decide) rfl (fun c31 => ?_) (fun c31 => ?_)
        · skip
          have c31 := mt (nI_eq (a := k) (b := 0) (by omega) (by omega)).mpr c31
          refine v_aload_n C dX6_house_60 rfl rfl rfl ?_
          refine v_iconst (v := 0) C dX6_house_61 (by decide) rfl ?_
          refine v_put (ty := .int) C (Nat.le_of_ble_eq_true rfl) rfl rfl hinX6 tyX6_ok nmX6 15 (Nat.le_of_ble_eq_true rfl) lkX6_76 rfl (by decide +kernel) rfl rfl rfl dX6_house_62 rfl ?_
          refine V.nm (fun τ62_7 eτ62_7 => ?_)
          have hKp : Kept σ τ62_7 := by rw [eτ62_7]; exact Kept_rd hR
          have hS62 : τ62_7 0 17 = nI k := by rw [eτ62_7, s2_get, if_neg (by decide)]; exact hSυ
          have hTd : Tld (nx (σ 9) t) k τ62_7 := fun i hi => by rw [eτ62_7, s2_ne (by decide), s2_ne (by decide)]; exact ⟨(hR.2.2.2.2.2 i hi).1, (hR.2.2.2.2.2 i hi).2.1, valP_cg (s2_ne (by decide)) (hR.2.2.2.2.2 i hi).2.2⟩
          refine v_iload_n C dX6_house_65 rfl rfl rfl ?_
          refine v_if_ne (tgt := 78) C dX6_house_66 (by decide) rfl (fun _ => ?_) (fun q => absurd q (by decide))
          refine v_aload_n C dX6_house_78 rfl rfl rfl ?_
          refine v_iconst (v := 1) C dX6_house_79 (by decide) rfl ?_
          refine v_iconst (v := 1) C dX6_house_80 (by decide) rfl ?_
          refine v_callV C (Nat.le_of_ble_eq_true rfl) rfl rfl (As := [.int 1, .int 1]) (rest := []) (kX6_passesAllK1 τ62_7) rfl (Nat.le_of_ble_eq_true rfl) (Nat.le_of_ble_eq_true rfl) ⟨mlX6_139, mfX6_passesAll⟩ dkX6_passesAll (Nat.le_of_ble_eq_true rfl) dX6_house_81 rfl (krV (fun τ84_8 h84_8 => ?_))
          have hKv : Kept σ τ84_8 := Kept_sv hKp h84_8
          have hKs : ∀ q, 2 ≤ q → q ≤ 8 → τ84_8 q = σ q := fun q q2 q8 => by rw [h84_8.1 q (by omega) (by omega), eτ62_7, s2_ne (by omega)]; exact hR.2.2.1 q (by omega) (by omega) (by omega) (by omega)
          have hSv : τ84_8 0 17 = nI k := (h84_8.2.1 17 (by decide) (by decide)).trans hS62
          have hTv : Tld (nx (σ 9) t) k τ84_8 := fun i hi => by rw [h84_8.1 10 (by decide) (by decide), h84_8.1 11 (by decide) (by decide)]; exact ⟨(hTd i hi).1, (hTd i hi).2.1, valP_cg (h84_8.1 12 (by decide) (by decide)) (hTd i hi).2.2⟩
          have hWv : Wfm τ84_8 := by obtain ⟨n, y, a1, a2, a3, a4⟩ := hW; exact ⟨n, y, by rw [hKv.2.1 8 (by decide)]; exact a1, a2, by rw [hKv.2.1 10 (by decide)]; exact a3, a4⟩
          refine v_iconst (v := 0) C dX6_house_84 (by decide) rfl ?_
          refine v_istore_n (lv' := [(2, .int 0), (1, .int 1), (0, .ref 0)]) C dX6_house_85 rfl (Nat.le_of_ble_eq_true rfl) rfl rfl ?_
          have lp86 : ∀ (kf i : Nat)  (ω : St), k < i + kf → i ≤ k → (ω = cmRun τ84_8 i ∧ ∀ j, j < i → cmOk (cmRun τ84_8 j) j) → V X 86 [(2, .int (nI i)), (1, .int 1), (0, .ref 0)] [] ω := by
            intro kf
            induction kf with
            | zero => intro i  ω h1 h2; omega
            | succ kf ih86 =>
              intro i  ω h1 h2  eω
              obtain ⟨n, y, hn, h7, hy, hy9⟩ : Wfm ω := by rw [eω.1]; exact cmRun_wf hWv i eω.2
              have hSω : ω 0 17 = nI k := by rw [eω.1, cmRun_z _ 17 (by decide) (by decide) (by decide)]; exact hSv
              refine v_iload_n C dX6_house_86 rfl rfl rfl ?_
              refine v_aload_n C dX6_house_87 rfl rfl rfl ?_
              refine v_getI C (Nat.le_of_ble_eq_true rfl) rfl rfl hinX6 17 (Nat.le_of_ble_eq_true rfl) lkX6_107 rfl dX6_house_88 rfl ?_
              refine V.tp hSω ?_
              refine v_icmp_ge (tgt := 128) C dX6_house_91 (by decide) rfl (fun c91 => ?_) (fun c91 => ?_)
              · skip
                have c91 := mt (nI_ltI (a := i) (b := k) (by omega) (by omega)).mpr c91
                refine v_aload_n C dX6_house_128 rfl rfl rfl ?_
                refine v_getI C (Nat.le_of_ble_eq_true rfl) rfl rfl hinX6 17 (Nat.le_of_ble_eq_true rfl) lkX6_107 rfl dX6_house_129 rfl ?_
                refine V.tp hSω ?_
                exact v_iret C dX6_house_132 (by rw [hX]; exact ⟨_, rfl, Or.inr ⟨k, τ84_8, ⟨Nat.pos_of_ne_zero c31, hR.2.2.2.2.1, Nat.le_of_not_lt c24⟩, ⟨hKv, hKs⟩, hTv, Or.inr ⟨fun j hj => eω.2 j (by omega), rfl, by rw [eω.1, show i = k from by omega]⟩⟩⟩)
              · skip
                have c91 := (nI_ltI (a := i) (b := k) (by omega) (by omega)).mp c91
                have hik : i < k := c91
                have hlet : letP (ω 10 i) := by rw [eω.1, cmRun_o _ 10 (by decide) (Or.inr (by decide)), (hTv i hik).1]; exact bad1_let (hR.2.2.2.2.1 i hik).1
                refine v_aload_n C dX6_house_94 rfl rfl rfl ?_
                refine v_iload_n C dX6_house_95 rfl rfl rfl ?_
                refine v_callV C (Nat.le_of_ble_eq_true rfl) rfl rfl (As := [.int (nI i)]) (rest := []) (kX6_comes i n y ω hn h7 (by omega) hy hy9 hlet) rfl (Nat.le_of_ble_eq_true rfl) (Nat.le_of_ble_eq_true rfl) ⟨mlX6_143, mfX6_comes⟩ dkX6_comes (Nat.le_of_ble_eq_true rfl) dX6_house_96 rfl (krI (fun r99_9 τ99_9 h99_9 => ?_))
                rcases h99_9 with ⟨hr, hc, hT2⟩ | ⟨hr, hc, hT2⟩
                · refine V.tp hr ?_
                  refine v_if_eq (tgt := 105) C dX6_house_99 (by decide) rfl (fun q => absurd q (by decide)) (fun _ => ?_)
                  refine v_goto (tgt := 122) C dX6_house_102 (by decide) ?_
                  refine v_iinc (lv' := [(2, .int (nI (i + 1))), (1, .int 1), (0, .ref 0)]) C dX6_house_122 rfl (nI_inc i) (Nat.le_of_ble_eq_true rfl) rfl rfl ?_
                  refine v_goto (tgt := 86) C dX6_house_125 (by decide) ?_
                  exact V.sub [0, 1, 2] rfl (ih86 (i + 1)  _ (by omega) (by omega)  (⟨by rw [hT2, cmRun, cmAt, ← eω.1, hn, tn_nI (by omega)], fun j hj => (Nat.lt_succ_iff_lt_or_eq.mp hj).elim (eω.2 j) (fun q => by rw [q, cmOk, ← eω.1, hn, hy, tn_nI (by omega), tn_nI (by omega)]; exact hc)⟩))
                · refine V.tp hr ?_
                  refine v_if_eq (tgt := 105) C dX6_house_99 (by decide) rfl (fun _ => ?_) (fun q => absurd q (by decide))
                  refine v_aload_n C dX6_house_105 rfl rfl rfl ?_
                  refine v_iconst (v := 1) C dX6_house_106 (by decide) rfl ?_
                  refine v_iconst (v := 0) C dX6_house_107 (by decide) rfl ?_
                  refine v_callV C (Nat.le_of_ble_eq_true rfl) rfl rfl (As := [.int 1, .int 0]) (rest := []) (kX6_passesAllB1 τ99_9) rfl (Nat.le_of_ble_eq_true rfl) (Nat.le_of_ble_eq_true rfl) ⟨mlX6_139, mfX6_passesAll⟩ dkX6_passesAll (Nat.le_of_ble_eq_true rfl) dX6_house_108 rfl (krV (fun τ111_10 h111_10 => ?_))
                  have hea : ∀ a, a ≠ 0 → (a < 2 ∨ 8 < a) → τ99_9 a = τ84_8 a := fun a a0 a1 => hT2.elim (fun q => by rw [q, eω.1, cmRun_o _ a a0 a1]) (fun q => by rw [q, s2_ne a0, eω.1, cmRun_o _ a a0 a1])
                  have hez : ∀ j, j ≠ 8 → j ≠ 9 → j ≠ 10 → τ99_9 0 j = τ84_8 0 j := fun j j8 j9 j10 => hT2.elim (fun q => by rw [q, eω.1, cmRun_z _ j j8 j9 j10]) (fun q => by rw [q, s2_get, if_neg (fun z => j9 z.2), eω.1, cmRun_z _ j j8 j9 j10])
                  have hK5 : Kept σ τ111_10 := Kept_bk hKp h84_8 hea hez h111_10
                  have h11v : τ111_10 11 i = nI (posS (nx (σ 9) t) i) := by rw [h111_10.1 11 (by decide) (Or.inr (by decide)), hea 11 (by decide) (Or.inr (by decide))]; exact (hTv i hik).2.1
                  refine v_sipush (v := -2000) C dX6_house_111 (by decide) rfl ?_
                  refine v_aload_n C dX6_house_114 rfl rfl rfl ?_
                  refine v_getR C (Nat.le_of_ble_eq_true rfl) rfl rfl hinX6 13 (Nat.le_of_ble_eq_true rfl) lkX6_40 rfl dX6_house_115 rfl ?_
                  refine v_iload_n C dX6_house_118 rfl rfl rfl ?_
                  refine v_iald (i := i) C (Nat.le_of_ble_eq_true rfl) rfl rfl (by omega) (by decide) dX6_house_119 rfl ?_
                  refine V.tp h11v ?_
                  refine v_isub C dX6_house_120 rfl ?_
                  exact v_iret C dX6_house_121 (by rw [hX]; exact ⟨_, rfl, Or.inr ⟨k, τ84_8, ⟨Nat.pos_of_ne_zero c31, hR.2.2.2.2.1, Nat.le_of_not_lt c24⟩, ⟨hKv, hKs⟩, hTv, Or.inl ⟨i, hik, eω.2, fun q => hc (by rw [cmOk, ← eω.1, hn, hy, tn_nI (by omega), tn_nI (by omega)] at q; exact q), rfl, hK5⟩⟩⟩)
          exact V.sub [0, 1, 2] rfl (lp86 (k + 1) 0  _ (by omega) (by omega)  (⟨rfl, fun j hj => absurd hj (Nat.not_lt_zero j)⟩))
        · skip
          have c31 := (nI_eq (a := k) (b := 0) (by omega) (by omega)).mp c31
          refine v_aload_n C dX6_house_34 rfl rfl rfl ?_
          refine v_callV C (Nat.le_of_ble_eq_true rfl) rfl rfl (As := []) (rest := []) (kX6_statement (posS (nx (σ 9) t) k) t υ hAυ hTυ h96 (by omega) k hSυ (by omega)) rfl (Nat.le_of_ble_eq_true rfl) (Nat.le_of_ble_eq_true rfl) ⟨mlX6_135, mfX6_statement⟩ dkX6_statement (Nat.le_of_ble_eq_true rfl) dX6_house_35 rfl (krI (fun r38_11 τ38_11 h38_11 => ?_))
          rw [h9υ] at h38_11
          rcases h38_11 with ⟨hr, hb1, h16, h10, h11, hv, hSd⟩ | ⟨hr, x, hb1, h16, hSd⟩
          · refine V.tp hr ?_
            have hSτ38_11 : τ38_11 0 17 = nI k := (hSd.2.1 17 (by decide)).trans hSυ
            refine v_istore_n (lv' := [(1, .int 1), (0, .ref 0)]) C dX6_house_38 rfl (Nat.le_of_ble_eq_true rfl) rfl rfl ?_
            refine v_aload_n C dX6_house_39 rfl rfl rfl ?_
            refine v_dup C dX6_house_40 rfl rfl ?_
            refine v_getI C (Nat.le_of_ble_eq_true rfl) rfl rfl hinX6 17 (Nat.le_of_ble_eq_true rfl) lkX6_107 rfl dX6_house_41 rfl ?_
            refine V.tp hSτ38_11 ?_
            refine v_iload_n C dX6_house_44 rfl rfl rfl ?_
            refine v_if_eq (tgt := 52) C dX6_house_45 (by decide) rfl (fun q => absurd q (by decide)) (fun _ => ?_)
            refine v_iconst (v := 1) C dX6_house_48 (by decide) rfl ?_
            refine v_goto (tgt := 53) C dX6_house_49 (by decide) ?_
            refine v_iadd C dX6_house_53 rfl ?_
            refine V.tp (nI_add k 1) ?_
            refine v_put (ty := .int) C (Nat.le_of_ble_eq_true rfl) rfl rfl hinX6 tyX6_ok nmX6 17 (Nat.le_of_ble_eq_true rfl) lkX6_107 rfl (by decide +kernel) rfl rfl rfl dX6_house_54 rfl ?_
            refine V.nm (fun τ54_12 eτ54_12 => ?_)
            refine v_goto (tgt := 12) C dX6_house_57 (by decide) ?_
            exact V.sub [0, 1] rfl (ih12 (k + 1) _ (by omega) (by rw [eτ54_12]; exact Rdg_step hR hb1 (fun q => absurd c31 (by omega)) h16 h10 h11 hv hSd))
          · refine V.tp hr ?_
            have hSτ38_11 : τ38_11 0 17 = nI k := (hSd.2.1 17 (by decide)).trans hSυ
            refine v_istore_n (lv' := [(1, .int 0), (0, .ref 0)]) C dX6_house_38 rfl (Nat.le_of_ble_eq_true rfl) rfl rfl ?_
            refine v_aload_n C dX6_house_39 rfl rfl rfl ?_
            refine v_dup C dX6_house_40 rfl rfl ?_
            refine v_getI C (Nat.le_of_ble_eq_true rfl) rfl rfl hinX6 17 (Nat.le_of_ble_eq_true rfl) lkX6_107 rfl dX6_house_41 rfl ?_
            refine V.tp hSτ38_11 ?_
            refine v_iload_n C dX6_house_44 rfl rfl rfl ?_
            refine v_if_eq (tgt := 52) C dX6_house_45 (by decide) rfl (fun _ => ?_) (fun q => absurd q (by decide))
            refine v_iconst (v := 0) C dX6_house_52 (by decide) rfl ?_
            refine v_iadd C dX6_house_53 rfl ?_
            refine V.tp (nI_add k 0) ?_
            refine v_put (ty := .int) C (Nat.le_of_ble_eq_true rfl) rfl rfl hinX6 tyX6_ok nmX6 17 (Nat.le_of_ble_eq_true rfl) lkX6_107 rfl (by decide +kernel) rfl rfl rfl dX6_house_54 rfl ?_
            refine V.nm (fun τ54_13 eτ54_13 => ?_)
            refine v_goto (tgt := 12) C dX6_house_57 (by decide) ?_
            refine v_iload_n C dX6_house_12 rfl rfl rfl ?_
            refine v_if_eq (tgt := 60) C dX6_house_13 (by decide) rfl (fun _ => ?_) (fun q => absurd q (by decide))
            refine v_aload_n C dX6_house_60 rfl rfl rfl ?_
            refine v_iconst (v := 0) C dX6_house_61 (by decide) rfl ?_
            refine v_put (ty := .int) C (Nat.le_of_ble_eq_true rfl) rfl rfl hinX6 tyX6_ok nmX6 15 (Nat.le_of_ble_eq_true rfl) lkX6_76 rfl (by decide +kernel) rfl rfl rfl dX6_house_62 rfl ?_
            refine V.nm (fun τ62_14 eτ62_14 => ?_)
            have hx16 : τ62_14 0 16 = nI x := by rw [eτ62_14, s2_get, if_neg (by decide), eτ54_13, s2_get, if_neg (by decide)]; exact h16
            have hKp : Kept σ τ62_14 := by rw [eτ62_14, eτ54_13]; exact Kept_sd hR hSd _
            refine v_iload_n C dX6_house_65 rfl rfl rfl ?_
            refine v_if_ne (tgt := 78) C dX6_house_66 (by decide) rfl (fun q => absurd q (by decide)) (fun _ => ?_)
            refine v_sipush (v := -1000) C dX6_house_69 (by decide) rfl ?_
            refine v_aload_n C dX6_house_72 rfl rfl rfl ?_
            refine v_getI C (Nat.le_of_ble_eq_true rfl) rfl rfl hinX6 16 (Nat.le_of_ble_eq_true rfl) lkX6_83 rfl dX6_house_73 rfl ?_
            refine V.tp hx16 ?_
            refine v_isub C dX6_house_76 rfl ?_
            exact v_iret C dX6_house_77 (by rw [hX]; exact ⟨_, rfl, Or.inl ⟨k, x, hR.2.2.2.2.1, (fun q => absurd c31 (by omega)), hb1, rfl, hKp⟩⟩)
  exact V.sub [0, 1] rfl (lp12 36 0 _ (by omega) hR0)
