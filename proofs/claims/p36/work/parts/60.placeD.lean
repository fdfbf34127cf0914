/-! the class: Placing, the first best of all ways -/
theorem fp_skip {ok : Nat → Prop} {F : Nat → Int32} {K : Nat} : ∀ m, (∀ k, K ≤ k → k < K + m → ok k → ¬ (fpN ok F K).2 < 0 ∧ ¬ F k < (fpN ok F K).2) → fpN ok F (K + m) = fpN ok F K
  | 0, _ => rfl
  | m + 1, h => by
    have ih := fp_skip m (fun k a b => h k a (by omega))
    rw [← Nat.add_assoc, fpN]
    by_cases c : ok (K + m)
    · have hk := h (K + m) (by omega) (by omega) c
      rw [cI_t c, ih, if_neg (fun z => z.elim hk.1 hk.2)]
    · rw [cI_f c, ih]
theorem fp_cg {ok ok' : Nat → Prop} {F F' : Nat → Int32} : ∀ K, (∀ k, k < K → (ok k ↔ ok' k) ∧ (ok k → F k = F' k)) → fpN ok F K = fpN ok' F' K
  | 0, _ => rfl
  | K + 1, h => by
    have ih := fp_cg K (fun k hk => h k (by omega))
    have hk := h K (by omega)
    rw [fpN, fpN, ih]
    by_cases c : ok K
    · rw [cI_t c, cI_t (hk.1.mp c), hk.2 c]
    · rw [cI_f c, cI_f (fun z => c (hk.1.mpr z))]
theorem fp_neg {ok : Nat → Prop} {F : Nat → Int32} (h : ∀ k, ok k → ¬ F k < 0) : ∀ K, (fpN ok F K).2 < 0 → (fpN ok F K).2 = -9
  | 0, _ => rfl
  | K + 1, h0 => by
    rw [fpN] at h0 ⊢
    by_cases c : ok K
    · rw [cI_t c] at h0 ⊢
      by_cases z : (fpN ok F K).2 < 0 ∨ F K < (fpN ok F K).2
      · rw [if_pos z] at h0; exact absurd h0 (h K c)
      · rw [if_neg z] at h0 ⊢; exact fp_neg h K h0
    · rw [cI_f c] at h0 ⊢; exact fp_neg h K h0
def Fst (ok : Nat → Prop) (F : Nat → Int32) (n K : Nat) (least : Int32) (row : Nat → Int32) : Prop := ((fpN ok F K).2 < 0 → least = 1000000) ∧ (¬ (fpN ok F K).2 < 0 → least = (fpN ok F K).2 ∧ ∀ p, p < n → row p = plc n (fpN ok F K).1 p)
theorem fst_one {ok : Nat → Prop} {F : Nat → Int32} {n K : Nat} {least : Int32} {row row' : Nat → Int32} (h : Fst ok F n K least row) (hk : ok K) (h0 : ¬ F K < 0) (hl : F K < least) (hr : ∀ p, p < n → row' p = plc n K p) : Fst ok F n (K + 1) (F K) row' := by
  have e : fpN ok F (K + 1) = (K, F K) := by
    rw [fpN, cI_t hk, if_pos]
    by_cases z : (fpN ok F K).2 < 0
    · exact Or.inl z
    · exact Or.inr (by rw [← (h.2 z).1]; exact hl)
  rw [Fst, e]
  exact ⟨fun z => absurd z h0, fun _ => ⟨rfl, hr⟩⟩
theorem fst_skip {ok : Nat → Prop} {F : Nat → Int32} {n K m : Nat} {least : Int32} {row : Nat → Int32} (h : Fst ok F n K least row) (hs : ∀ k, K ≤ k → k < K + m → ok k → least ≠ 1000000 ∧ ¬ F k < least) : Fst ok F n (K + m) least row := by
  have e : fpN ok F (K + m) = fpN ok F K := fp_skip m (fun k a b c => by
    have := hs k a b c
    have z : ¬ (fpN ok F K).2 < 0 := fun z => this.1 (h.1 z)
    exact ⟨z, by rw [← (h.2 z).1]; exact this.2⟩)
  rw [Fst, e]; exact h
noncomputable def cst (σ : St) (n : Nat) (w : Int32) (d : Nat → Nat) (p : Nat) : Int32 := if w = 0 then cWo (σ (27 + 1)) (σ (27 + 3)) (σ (27 + 4)) n d p else cFe d p
def okP (σ : St) (n : Nat) (v : Int32) (k : Nat) : Prop := okS (σ (27 + 2)) (σ (27 + 6)) n v (dig 6 n k) n
noncomputable def fP (σ : St) (n : Nat) (w : Int32) (k : Nat) : Int32 := cst σ n w (dig 6 n k) n
def Sm27 (σ : St) (n : Nat) : Prop := Sml (σ (27 + 1)) (σ (27 + 2)) (σ (27 + 3)) (σ (27 + 4)) (σ (27 + 6)) n
theorem cst_b {σ : St} {n : Nat} (h : Sm27 σ n) (h7 : n ≤ 7) (w : Int32) (d : Nat → Nat) (p : Nat) : 0 ≤ (cst σ n w d p).toInt ∧ (cst σ n w d p).toInt ≤ 7000 := by
  unfold cst
  split
  · exact cWo_b h h7 d p
  · have := (cFe_tot d p).2; omega
theorem cst_mono {σ : St} {n : Nat} (h : Sm27 σ n) (h7 : n ≤ 7) (w : Int32) (d : Nat → Nat) (p : Nat) : ∀ m, (cst σ n w d p).toInt ≤ (cst σ n w d (p + m)).toInt
  | 0 => Int.le_refl _
  | m + 1 => by
    have ih := cst_mono h h7 w d p m
    refine Int.le_trans ih ?_
    unfold cst
    split
    · exact cWo_mono h h7
    · exact cFe_mono d (p + m)
theorem cst_cg {σ : St} {n : Nat} {w : Int32} {d d' : Nat → Nat} {p : Nat} (h : ∀ j, j < p → d j = d' j) : cst σ n w d p = cst σ n w d' p := by
  have e : uG d p = uG d' p := by
    funext r
    have : (∃ j, j < p ∧ d j = r) = ∃ j, j < p ∧ d' j = r := propext ⟨fun ⟨j, hj, e⟩ => ⟨j, hj, by rw [← h j hj]; exact e⟩, fun ⟨j, hj, e⟩ => ⟨j, hj, by rw [h j hj]; exact e⟩⟩
    rw [uG, uG, this]
  rw [cst, cst, cWo, cWo, cFe, cFe, plt_cg h, e]
theorem cst_0 (σ : St) (n : Nat) (w : Int32) (d : Nat → Nat) : cst σ n w d 0 = 0 := by
  unfold cst
  split
  · exact cWo_0 d
  · exact cFe_0 d
def PlC (σ τ : St) (v w : Int32) : Prop := (∀ a, a ≠ 47 → a ≠ 48 → a ≠ 27 + 5 → τ a = σ a) ∧ τ 47 2 = v ∧ τ 47 3 = w
def PlQ (σ τ : St) (n : Nat) (v w : Int32) (row : Nat → Int32) (K : Nat) : Prop := PlC σ τ v w ∧ (∀ j, j < 7 → τ (27 + 5) j = row j) ∧ Fst (okP σ n v) (fP σ n w) n K (τ 47 4) (τ 48)
def PlP (σ τ : St) (n : Nat) (v w : Int32) (p K : Nat) : Prop := PlQ σ τ n v w (plt (dig 6 n K) p) K ∧ okS (σ (27 + 2)) (σ (27 + 6)) n v (dig 6 n K) p ∧ cst σ n w (dig 6 n K) p < τ 47 4
theorem dig6 (n k j : Nat) : dig 6 n k j < 6 := dig_q (by decide)
theorem pl_keep {σ τ υ : St} {n K : Nat} {v w : Int32} (hs : Sm27 σ n) (h7 : n ≤ 7) (h : PlP σ τ n v w n K) (e : υ = setR (s2 τ 47 4 (cst σ n w (dig 6 n K) n)) 48 (pre 7 (τ (27 + 5)) (τ 48))) : PlQ σ υ n v w (plt (dig 6 n K) n) (K + 1) := by
  subst e
  have hb := cst_b hs h7 w (dig 6 n K) n
  refine ⟨⟨fun a h1 h2 h3 => ?_, ?_, ?_⟩, fun j hj => ?_, ?_⟩
  · rw [setR_o _ _ _ _ h2, s2_ne h1]; exact h.1.1.1 a h1 h2 h3
  · rw [setR_o _ _ _ _ (by decide), s2_get, if_neg (fun z => absurd z.2 (by decide))]; exact h.1.1.2.1
  · rw [setR_o _ _ _ _ (by decide), s2_get, if_neg (fun z => absurd z.2 (by decide))]; exact h.1.1.2.2
  · rw [setR_o _ _ _ _ (by decide), s2_ne (by decide)]; exact h.1.2.1 j hj
  · rw [setR_o _ _ _ _ (by decide), s2_get, if_pos ⟨rfl, rfl⟩, setR_k]
    refine fst_one h.1.2.2 h.2.1 (by rw [i32_z]; show ¬ (cst σ n w (dig 6 n K) n).toInt < 0; omega) h.2.2 (fun p hp => ?_)
    rw [pre, if_pos (by omega), h.1.2.1 p (by omega), plt, if_pos hp]; rfl
/-! one room more looked at: c, the number so far; g, the room -/
theorem dg_pre {n p c g m j : Nat} (hp : p < n) (hg : g < 6) (hm : m < 6 ^ (n - (p + 1))) (hj : j < p) : dig 6 n ((c * 6 + g) * 6 ^ (n - (p + 1)) + m) j = dig 6 n (c * 6 ^ (n - p)) j := by
  have hA : 0 < 6 ^ (n - (p + 1)) := Nat.pow_pos (by decide)
  rw [← kk_eq hp, Nat.add_assoc]
  refine dig_pre (by decide) hj (by omega) ?_
  rw [show n - p = (n - (p + 1)) + 1 by omega, Nat.pow_succ, show n - 1 - p = n - (p + 1) by omega]
  have : g * 6 ^ (n - (p + 1)) ≤ 5 * 6 ^ (n - (p + 1)) := Nat.mul_le_mul_right _ (by omega)
  omega
theorem dg_at {n p c g m : Nat} (hp : p < n) (hg : g < 6) (hm : m < 6 ^ (n - (p + 1))) : dig 6 n ((c * 6 + g) * 6 ^ (n - (p + 1)) + m) p = g := by
  rw [← kk_eq hp]
  exact dig_at (by decide) hp hg (by rw [show n - 1 - p = n - (p + 1) by omega]; exact hm)
theorem dg_blk {n p c g m : Nat} (hp : p < n) (hg : g < 6) (hm : m < 6 ^ (n - (p + 1))) : ∀ j, j < p + 1 → dig 6 n ((c * 6 + g) * 6 ^ (n - (p + 1)) + m) j = dig 6 n ((c * 6 + g) * 6 ^ (n - (p + 1))) j := fun j hj => by
  have h0 : 0 < 6 ^ (n - (p + 1)) := Nat.pow_pos (by decide)
  by_cases e : j = p
  · rw [e, dg_at hp hg hm]; exact (dg_at (m := 0) hp hg h0).symm
  · rw [dg_pre hp hg hm (by omega)]; exact (dg_pre (m := 0) hp hg h0 (by omega)).symm
def kN (n p c g : Nat) : Nat := (c * 6 + g) * 6 ^ (n - (p + 1))
theorem kN_0 {n p c : Nat} (hp : p < n) : kN n p c 0 = c * 6 ^ (n - p) := by
  rw [kN, ← kk_eq hp, Nat.zero_mul, Nat.add_zero]
theorem kN_s (n p c g : Nat) : kN n p c g + 6 ^ (n - (p + 1)) = kN n p c (g + 1) := by
  rw [kN, kN, ← Nat.add_assoc, Nat.succ_mul (c * 6 + g)]
theorem kN_6 {n p c : Nat} (hp : p < n) : kN n p c 6 = c * 6 ^ (n - p) + 6 ^ (n - p) := by
  rw [kN, ← kk_eq hp, show n - p = (n - 1 - p) + 1 by omega, Nat.pow_succ, Nat.mul_comm (6 ^ (n - 1 - p)) 6]
theorem dk_pre {n p c g j : Nat} (hp : p < n) (hg : g < 6) (hj : j < p) : dig 6 n (kN n p c g) j = dig 6 n (c * 6 ^ (n - p)) j := dg_pre (m := 0) hp hg (Nat.pow_pos (by decide)) hj
theorem dk_at {n p c g : Nat} (hp : p < n) (hg : g < 6) : dig 6 n (kN n p c g) p = g := dg_at (m := 0) hp hg (Nat.pow_pos (by decide))
theorem plt_kN {n p c g : Nat} (hp : p < n) (hg : g < 6) : plt (dig 6 n (kN n p c g)) p = plt (dig 6 n (c * 6 ^ (n - p))) p := plt_cg (fun j hj => dk_pre hp hg hj)
theorem cst_kN (σ : St) (w : Int32) {n p c g : Nat} (hp : p < n) (hg : g < 6) : cst σ n w (dig 6 n (kN n p c g)) p = cst σ n w (dig 6 n (c * 6 ^ (n - p))) p := cst_cg (fun j hj => dk_pre hp hg hj)
/-- what mayStand asks, and what a step of okS asks -/
theorem ms_iff {σ ω : St} {n p c g K : Nat} {v w : Int32} (h7 : n ≤ 7) (hp : p < n) (hg : g < 6) (hω : PlQ σ ω n v w (plt (dig 6 n (c * 6 ^ (n - p))) p) K) : (hasP (ω 47 2) (nI g) ∧ spaP (ω (27 + 2)) (ω (27 + 5)) (ω (27 + 6)) n (nI g) (ω (27 + 2) p)) ↔ (hasP v (nI (dig 6 n (kN n p c g) p)) ∧ ¬ σ (27 + 6) (dig 6 n (kN n p c g) p) < bulF (σ (27 + 2)) (plt (dig 6 n (kN n p c g)) p) n (nI (dig 6 n (kN n p c g) p)) + σ (27 + 2) p) := by
  rw [dk_at hp hg, plt_kN hp hg, hω.1.2.1, hω.1.1 (27 + 2) (by decide) (by decide) (by decide), hω.1.1 (27 + 6) (by decide) (by decide) (by decide), spaP, tn_nI (by omega), bulF_cg (fun j hj => hω.2.1 j (by omega))]
  exact ⟨fun z => ⟨z.1, z.2.2⟩, fun z => ⟨z.1, ⟨nI_pos (by omega), (nI_ltI (a := g) (b := 6) (by omega) (by decide)).mpr hg⟩, z.2⟩⟩
theorem okS_more {σ : St} {n p c g : Nat} {v : Int32} (hp : p < n) (hg : g < 6) (h : okS (σ (27 + 2)) (σ (27 + 6)) n v (dig 6 n (c * 6 ^ (n - p))) p) (k : hasP v (nI (dig 6 n (kN n p c g) p)) ∧ ¬ σ (27 + 6) (dig 6 n (kN n p c g) p) < bulF (σ (27 + 2)) (plt (dig 6 n (kN n p c g)) p) n (nI (dig 6 n (kN n p c g) p)) + σ (27 + 2) p) : okS (σ (27 + 2)) (σ (27 + 6)) n v (dig 6 n (kN n p c g)) (p + 1) := fun j hj => by
  by_cases e : j = p
  · rw [e]; exact k
  · exact okS_cg (fun i hi => (dk_pre hp hg (by omega : i < p)).symm) h j (by omega)
theorem ok_blk {σ : St} {n p c g k : Nat} {v : Int32} (hp : p < n) (hg : g < 6) (h1 : kN n p c g ≤ k) (h2 : k < kN n p c g + 6 ^ (n - (p + 1))) (hk : okP σ n v k) : okS (σ (27 + 2)) (σ (27 + 6)) n v (dig 6 n (kN n p c g)) (p + 1) := by
  obtain ⟨m, rfl⟩ : ∃ m, k = kN n p c g + m := ⟨k - kN n p c g, by omega⟩
  exact okS_cg (fun j hj => dg_blk hp hg (by omega) j hj) (fun j hj => hk j (by omega))
theorem pl_no {σ ω : St} {n p c g : Nat} {v w : Int32} (hp : p < n) (hg : g < 6) {row : Nat → Int32} (hω : PlQ σ ω n v w row (kN n p c g)) (k : ¬ (hasP v (nI (dig 6 n (kN n p c g) p)) ∧ ¬ σ (27 + 6) (dig 6 n (kN n p c g) p) < bulF (σ (27 + 2)) (plt (dig 6 n (kN n p c g)) p) n (nI (dig 6 n (kN n p c g) p)) + σ (27 + 2) p)) : PlQ σ ω n v w row (kN n p c (g + 1)) := by
  refine ⟨hω.1, hω.2.1, ?_⟩
  rw [← kN_s]
  exact fst_skip hω.2.2 (fun q h1 h2 h3 => absurd (ok_blk hp hg h1 h2 h3 p (Nat.lt_succ_self p)) k)
theorem pl_put {σ ω ω1 : St} {n p c g : Nat} {v w : Int32} (hp : p < n) (hg : g < 6) (hω : PlQ σ ω n v w (plt (dig 6 n (c * 6 ^ (n - p))) p) (kN n p c g)) (e : ω1 = s2 ω (27 + 5) p (nI g)) : PlQ σ ω1 n v w (plt (dig 6 n (kN n p c g)) (p + 1)) (kN n p c g) := by
  subst e
  refine ⟨⟨fun a h1 h2 h3 => by rw [s2_ne h3]; exact hω.1.1 a h1 h2 h3, by rw [s2_ne (by decide)]; exact hω.1.2.1, by rw [s2_ne (by decide)]; exact hω.1.2.2⟩, fun j hj => ?_, by rw [s2_ne (by decide), s2_ne (by decide)]; exact hω.2.2⟩
  rw [s2_get, ← plt_upd, dk_at hp hg, plt_kN hp hg]
  unfold upd
  by_cases q : j = p
  · rw [if_pos ⟨rfl, q⟩, if_pos q]
  · rw [if_neg (fun z => q z.2), if_neg q]; exact hω.2.1 j hj
theorem pl_und {σ ω ω1 : St} {n p c g K : Nat} {v w : Int32} (hp : p < n) (hg : g < 6) (hω : PlQ σ ω n v w (plt (dig 6 n (kN n p c g)) (p + 1)) K) (e : ω1 = s2 ω (27 + 5) p 9) : PlQ σ ω1 n v w (plt (dig 6 n (c * 6 ^ (n - p))) p) K := by
  subst e
  refine ⟨⟨fun a h1 h2 h3 => by rw [s2_ne h3]; exact hω.1.1 a h1 h2 h3, by rw [s2_ne (by decide)]; exact hω.1.2.1, by rw [s2_ne (by decide)]; exact hω.1.2.2⟩, fun j hj => ?_, by rw [s2_ne (by decide), s2_ne (by decide)]; exact hω.2.2⟩
  rw [s2_get, ← plt_kN hp hg, ← plt_und]
  unfold upd
  by_cases q : j = p
  · rw [if_pos ⟨rfl, q⟩, if_pos q]
  · rw [if_neg (fun z => q z.2), if_neg q]; exact hω.2.1 j hj
theorem pinF_cg {pl pl' : Nat → Int32} {n : Nat} (h : ∀ p, p < n → pl p = pl' p) (r : Int32) : pinF pl n r = pinF pl' n r :=
  sumN_congr (fun p hp => by rw [pinG, pinG, h p hp])
theorem pl_cost {σ ω1 : St} {n p c g : Nat} {v w : Int32} (hs : Sm27 σ n) (h7 : n ≤ 7) (hp : p < n) (hg : g < 6) {K : Nat} (hω : PlQ σ ω1 n v w (plt (dig 6 n (kN n p c g)) (p + 1)) K) : costH ω1 n (nI g) (cst σ n w (dig 6 n (c * 6 ^ (n - p))) p) = cst σ n w (dig 6 n (kN n p c g)) (p + 1) := by
  rw [costH, hω.1.2.2, ← cst_kN σ w hp hg]
  unfold cst
  by_cases z : w = 0
  · rw [if_pos z, if_pos z, if_pos z, cWo_st hs h7 (dig6 n _), dk_at hp hg, hω.1.1 (27 + 1) (by decide) (by decide) (by decide), hω.1.1 (27 + 3) (by decide) (by decide) (by decide), hω.1.1 (27 + 4) (by decide) (by decide) (by decide), inF_cg4 (fun q hq => ⟨rfl, rfl, rfl, hω.2.1 q (by omega)⟩)]
  · rw [if_neg z, if_neg z, if_neg z, cFe_st (dig6 n _), pinF_cg (fun j hj => hω.2.1 j (by omega))]
    have h := pin_one (d := dig 6 n (kN n p c g)) h7 hp (dig6 n _)
    rw [dk_at hp hg] at h
    by_cases q : ∃ j, j < p ∧ dig 6 n (kN n p c g) j = dig 6 n (kN n p c g) p
    · rw [if_pos q, if_neg (fun y => h.mp y (by rw [dk_at hp hg] at q; exact q))]
    · rw [if_neg q, if_pos (h.mpr (by rw [dk_at hp hg] at q; exact q))]
theorem pl_high {σ ω : St} {n p c g : Nat} {v w : Int32} (hs : Sm27 σ n) (h7 : n ≤ 7) (hp : p < n) (hg : g < 6) {row : Nat → Int32} (hω : PlQ σ ω n v w row (kN n p c g)) (k : ¬ cst σ n w (dig 6 n (kN n p c g)) (p + 1) < ω 47 4) : PlQ σ ω n v w row (kN n p c g + 6 ^ (n - (p + 1))) := by
  refine ⟨hω.1, hω.2.1, fst_skip hω.2.2 (fun q h1 h2 _ => ?_)⟩
  obtain ⟨m, rfl⟩ : ∃ m, q = kN n p c g + m := ⟨q - kN n p c g, by omega⟩
  have hb := cst_b hs h7 w (dig 6 n (kN n p c g)) (p + 1)
  have hm := cst_mono hs h7 w (dig 6 n (kN n p c g + m)) (p + 1) (n - (p + 1))
  rw [show p + 1 + (n - (p + 1)) = n by omega, cst_cg (d := dig 6 n (kN n p c g + m)) (p := p + 1) (dg_blk hp hg (by omega))] at hm
  rw [i32_lt] at k
  refine ⟨fun e => ?_, ?_⟩
  · rw [e] at k
    have e2 : (1000000 : Int32).toInt = 1000000 := rfl
    have e3 : (cst σ n w (dig 6 n ((c * 6 + g) * 6 ^ (n - (p + 1)))) (p + 1)).toInt = (cst σ n w (dig 6 n (kN n p c g)) (p + 1)).toInt := rfl
    omega
  · rw [i32_lt]
    have e3 : (cst σ n w (dig 6 n ((c * 6 + g) * 6 ^ (n - (p + 1)))) (p + 1)).toInt = (cst σ n w (dig 6 n (kN n p c g)) (p + 1)).toInt := rfl
    show ¬ (cst σ n w (dig 6 n (kN n p c g + m)) n).toInt < _
    omega
