/-! a statement that comes, over both houses -/
def Two (ω υ : St) (n q y : Nat) : Prop := (ω 27 7 = nI n ∧ n ≤ 7 ∧ ω 27 8 = nI q ∧ 2 ≤ q ∧ q ≤ 4 ∧ ω 27 9 = nI y ∧ y ≤ 999) ∧ (υ 0 8 = nI n ∧ υ 0 9 = nI q ∧ υ 0 10 = nI y) ∧ ((∀ j, j < 7 → ω 28 j = υ 4 j) ∧ (∀ j, j < 7 → ω 29 j = υ 5 j) ∧ (∀ j, j < 7 → ω 30 j = υ 6 j) ∧ (∀ j, j < 7 → ω 31 j = υ 7 j) ∧ (∀ j, j < 7 → ω 32 j = υ 8 j) ∧ (∀ j, j < 6 → ω 33 j = υ 2 j) ∧ (ω 34 1 = υ 3 1 ∧ ω 34 2 = υ 3 2)) ∧ SmB υ n ∧ Pos (υ 8) (υ 3) n
def Stq (A : Int32) (P : Prop) (ω υ : St) : Prop := (A < 0 ↔ ¬ P) ∧ (P → ∃ n q y, Two ω υ n q y)
theorem stq_t {A : Int32} {P : Prop} {ω υ : St} (p : P) (h : ¬ A < 0) (t : ∃ n q y, Two ω υ n q y) : Stq A P ω υ := ⟨⟨fun z => absurd z h, fun z => absurd p z⟩, fun _ => t⟩
theorem stq_f {A : Int32} {P : Prop} {ω υ : St} (p : ¬ P) (h : A < 0) : Stq A P ω υ := ⟨⟨fun _ => p, fun _ => h⟩, fun z => absurd z p⟩
theorem upd_eq {f g : Nat → Int32} {N : Nat} (h : ∀ j, j < N → f j = g j) (i : Nat) (v : Int32) : ∀ j, j < N → upd f i v j = upd g i v j := fun j hj => by
  unfold upd
  split
  · rfl
  · exact h j hj
theorem neg_int {x : Int32} (h : 0 ≤ x.toInt) : ¬ x < 0 := by rw [i32_z]; omega
theorem row_up {f g f' g' : Nat → Int32} {N i : Nat} {v : Int32} (h : ∀ j, j < N → f j = g j) (ef : f' = upd f i v) (eg : g' = upd g i v) : ∀ j, j < N → f' j = g' j := by
  rw [ef, eg]; exact upd_eq h i v
theorem row_st {f g f' g' : Nat → Int32} {N : Nat} (h : ∀ j, j < N → f j = g j) (ef : f' = f) (eg : g' = g) : ∀ j, j < N → f' j = g' j := by
  rw [ef, eg]; exact h
theorem two_pl {ω υ : St} {n q y i : Nat} {v : Int32} (T : Two ω υ n q y) (hv : ¬ v < 0) : ∃ n q y, Two (s2 ω 32 i v) (s2 υ 8 i v) n q y := by
  obtain ⟨⟨a1, a2, a3, a4, a5, a6, a7⟩, ⟨b1, b2, b3⟩, ⟨r1, r2, r3, r4, r5, r6, r7⟩, S, P⟩ := id T
  exact ⟨n, q, y, ⟨by rw [s2_ne (by decide)]; exact a1, a2, by rw [s2_ne (by decide)]; exact a3, a4, a5, by rw [s2_ne (by decide)]; exact a6, a7⟩, ⟨by rw [s2_ne (by decide)]; exact b1, by rw [s2_ne (by decide)]; exact b2, by rw [s2_ne (by decide)]; exact b3⟩, ⟨row_st r1 (s2_ne (by decide)) (s2_ne (by decide)), row_st r2 (s2_ne (by decide)) (s2_ne (by decide)), row_st r3 (s2_ne (by decide)) (s2_ne (by decide)), row_st r4 (s2_ne (by decide)) (s2_ne (by decide)), row_up r5 s2_eq s2_eq, row_st r6 (s2_ne (by decide)) (s2_ne (by decide)), by rw [s2_ne (show (34 : Nat) ≠ 32 by decide), s2_ne (show (3 : Nat) ≠ 8 by decide)]; exact r7⟩, by show Sml (s2 υ 8 i v 4) (s2 υ 8 i v 5) (s2 υ 8 i v 6) (s2 υ 8 i v 7) (s2 υ 8 i v 2) n; rw [s2_ne (show (4 : Nat) ≠ 8 by decide), s2_ne (show (5 : Nat) ≠ 8 by decide), s2_ne (show (6 : Nat) ≠ 8 by decide), s2_ne (show (7 : Nat) ≠ 8 by decide), s2_ne (show (2 : Nat) ≠ 8 by decide)]; exact S, by rw [s2_eq, s2_ne (show (3 : Nat) ≠ 8 by decide)]; exact pos_pl P hv⟩
theorem two_sr {ω υ : St} {n q y i : Nat} {v : Int32} (T : Two ω υ n q y) (hv : ¬ v < 0) : ∃ n q y, Two (s2 ω 34 i v) (s2 υ 3 i v) n q y := by
  obtain ⟨⟨a1, a2, a3, a4, a5, a6, a7⟩, ⟨b1, b2, b3⟩, ⟨r1, r2, r3, r4, r5, r6, r7⟩, S, P⟩ := id T
  exact ⟨n, q, y, ⟨by rw [s2_ne (by decide)]; exact a1, a2, by rw [s2_ne (by decide)]; exact a3, a4, a5, by rw [s2_ne (by decide)]; exact a6, a7⟩, ⟨by rw [s2_ne (by decide)]; exact b1, by rw [s2_ne (by decide)]; exact b2, by rw [s2_ne (by decide)]; exact b3⟩, ⟨row_st r1 (s2_ne (by decide)) (s2_ne (by decide)), row_st r2 (s2_ne (by decide)) (s2_ne (by decide)), row_st r3 (s2_ne (by decide)) (s2_ne (by decide)), row_st r4 (s2_ne (by decide)) (s2_ne (by decide)), row_st r5 (s2_ne (by decide)) (s2_ne (by decide)), row_st r6 (s2_ne (by decide)) (s2_ne (by decide)), by rw [s2_eq, s2_eq]; unfold upd; exact ⟨by split; rfl; exact r7.1, by split; rfl; exact r7.2⟩⟩, by show Sml (s2 υ 3 i v 4) (s2 υ 3 i v 5) (s2 υ 3 i v 6) (s2 υ 3 i v 7) (s2 υ 3 i v 2) n; rw [s2_ne (show (4 : Nat) ≠ 3 by decide), s2_ne (show (5 : Nat) ≠ 3 by decide), s2_ne (show (6 : Nat) ≠ 3 by decide), s2_ne (show (7 : Nat) ≠ 3 by decide), s2_ne (show (2 : Nat) ≠ 3 by decide)]; exact S, by rw [s2_ne (show (8 : Nat) ≠ 3 by decide), s2_eq]; exact pos_sr P hv⟩
theorem two_ft {ω υ : St} {n q y i : Nat} {v : Int32} (T : Two ω υ n q y) (hv : 0 ≤ v.toInt ∧ v.toInt ≤ 9) : ∃ n q y, Two (s2 ω 30 i v) (s2 υ 6 i v) n q y := by
  obtain ⟨⟨a1, a2, a3, a4, a5, a6, a7⟩, ⟨b1, b2, b3⟩, ⟨r1, r2, r3, r4, r5, r6, r7⟩, S, P⟩ := id T
  exact ⟨n, q, y, ⟨by rw [s2_ne (by decide)]; exact a1, a2, by rw [s2_ne (by decide)]; exact a3, a4, a5, by rw [s2_ne (by decide)]; exact a6, a7⟩, ⟨by rw [s2_ne (by decide)]; exact b1, by rw [s2_ne (by decide)]; exact b2, by rw [s2_ne (by decide)]; exact b3⟩, ⟨row_st r1 (s2_ne (by decide)) (s2_ne (by decide)), row_st r2 (s2_ne (by decide)) (s2_ne (by decide)), row_up r3 s2_eq s2_eq, row_st r4 (s2_ne (by decide)) (s2_ne (by decide)), row_st r5 (s2_ne (by decide)) (s2_ne (by decide)), row_st r6 (s2_ne (by decide)) (s2_ne (by decide)), by rw [s2_ne (show (34 : Nat) ≠ 30 by decide), s2_ne (show (3 : Nat) ≠ 6 by decide)]; exact r7⟩, by show Sml (s2 υ 6 i v 4) (s2 υ 6 i v 5) (s2 υ 6 i v 6) (s2 υ 6 i v 7) (s2 υ 6 i v 2) n; rw [s2_ne (show (4 : Nat) ≠ 6 by decide), s2_ne (show (5 : Nat) ≠ 6 by decide), s2_eq, s2_ne (show (7 : Nat) ≠ 6 by decide), s2_ne (show (2 : Nat) ≠ 6 by decide)]; exact sml_ft S hv, by rw [s2_ne (show (8 : Nat) ≠ 6 by decide), s2_ne (show (3 : Nat) ≠ 6 by decide)]; exact P⟩
theorem two_sz {ω υ : St} {n q y i : Nat} {v : Int32} (T : Two ω υ n q y) (hv : 0 ≤ v.toInt ∧ v.toInt ≤ 20) : ∃ n q y, Two (s2 ω 33 i v) (s2 υ 2 i v) n q y := by
  obtain ⟨⟨a1, a2, a3, a4, a5, a6, a7⟩, ⟨b1, b2, b3⟩, ⟨r1, r2, r3, r4, r5, r6, r7⟩, S, P⟩ := id T
  exact ⟨n, q, y, ⟨by rw [s2_ne (by decide)]; exact a1, a2, by rw [s2_ne (by decide)]; exact a3, a4, a5, by rw [s2_ne (by decide)]; exact a6, a7⟩, ⟨by rw [s2_ne (by decide)]; exact b1, by rw [s2_ne (by decide)]; exact b2, by rw [s2_ne (by decide)]; exact b3⟩, ⟨row_st r1 (s2_ne (by decide)) (s2_ne (by decide)), row_st r2 (s2_ne (by decide)) (s2_ne (by decide)), row_st r3 (s2_ne (by decide)) (s2_ne (by decide)), row_st r4 (s2_ne (by decide)) (s2_ne (by decide)), row_st r5 (s2_ne (by decide)) (s2_ne (by decide)), row_up r6 s2_eq s2_eq, by rw [s2_ne (show (34 : Nat) ≠ 33 by decide), s2_ne (show (3 : Nat) ≠ 2 by decide)]; exact r7⟩, by show Sml (s2 υ 2 i v 4) (s2 υ 2 i v 5) (s2 υ 2 i v 6) (s2 υ 2 i v 7) (s2 υ 2 i v 2) n; rw [s2_ne (show (4 : Nat) ≠ 2 by decide), s2_ne (show (5 : Nat) ≠ 2 by decide), s2_ne (show (6 : Nat) ≠ 2 by decide), s2_ne (show (7 : Nat) ≠ 2 by decide), s2_eq]; exact sml_sz S hv, by rw [s2_ne (show (8 : Nat) ≠ 2 by decide), s2_ne (show (3 : Nat) ≠ 2 by decide)]; exact P⟩
theorem st_m {ω υ : St} {n q y : Nat} (T : Two ω υ n q y) (v0 v1 : Int32) : Stq (hCarA ω 27 n v0 v1) (pieceP v0 (nI n) ∧ placeP v1 ∧ carP (υ 4) (υ 5) (υ 8) (υ 2) (υ 3) n (tn v0) v1) (hCarS ω 27 n v0 v1) (s2 υ 8 (tn v0) v1) := by
  obtain ⟨⟨a1, a2, a3, a4, a5, a6, a7⟩, ⟨b1, b2, b3⟩, ⟨r1, r2, r3, r4, r5, r6, r7⟩, S, P⟩ := id T
  unfold hCarA hCarS
  by_cases c : pieceP v0 (nI n) ∧ placeP v1
  · have hp := (piece_nat a2 c.1).2
    have e : carH ω 27 n (tn v0) v1 ↔ carP (υ 4) (υ 5) (υ 8) (υ 2) (υ 3) n (tn v0) v1 :=
      (carP_cg hp c.2 (fun p hp => ⟨r1 p (by omega), r2 p (by omega), r5 p (by omega)⟩) r6 (fun _ _ => rfl)).trans (carP_sr r7.1 r7.2)
    rw [cI_t c, cI_t c]
    by_cases d : carH ω 27 n (tn v0) v1
    · rw [cI_t d, cI_t d]
      exact stq_t ⟨c.1, c.2, e.mp d⟩ (by rw [show ω (27 + 5) (tn v0) = υ 8 (tn v0) from r5 _ (by omega)]; exact P.1 _ hp) (two_pl T (place_pos c.2))
    · rw [cI_f d, cI_f d]
      exact stq_f (fun z => d (e.mpr z.2.2)) (by decide)
  · rw [cI_f c, cI_f c]
    exact stq_f (fun z => c ⟨z.1, z.2.1⟩) (by decide)
theorem st_p {ω υ : St} {n q y : Nat} (T : Two ω υ n q y) (v0 : Int32) : Stq (hPolA ω 27 n v0) (pieceP v0 (nI n) ∧ ¬ υ 6 (tn v0) = 9) (hPolS ω 27 n v0) (s2 υ 6 (tn v0) (υ 6 (tn v0) + 1)) := by
  obtain ⟨⟨a1, a2, a3, a4, a5, a6, a7⟩, ⟨b1, b2, b3⟩, ⟨r1, r2, r3, r4, r5, r6, r7⟩, S, P⟩ := id T
  unfold hPolA hPolS
  by_cases c : pieceP v0 (nI n)
  · have hp := (piece_nat a2 c).2
    have hb := S.1 (tn v0) hp
    have h9 := f9 hb.2.2.2.1
    rw [cI_t c, cI_t c, show ω (27 + 3) (tn v0) = υ 6 (tn v0) from r3 _ (by omega)]
    by_cases d : υ 6 (tn v0) = 9
    · have d' : ¬ υ 6 (tn v0) < 9 := fun z => h9.mp z d
      rw [if_neg d', if_neg d']
      exact stq_f (fun z => z.2 d) (by decide)
    · have d' : υ 6 (tn v0) < 9 := h9.mpr d
      have hv : 0 ≤ (υ 6 (tn v0) + 1).toInt ∧ (υ 6 (tn v0) + 1).toInt ≤ 9 := by
        have e9 : (9 : Int32).toInt = 9 := rfl
        rw [i32_lt, e9] at d'
        rw [p1_int hb.2.2.1 (by omega)]; omega
      rw [if_pos d', if_pos d']
      exact stq_t ⟨c, d⟩ (neg_int hv.1) (two_ft T hv)
  · rw [cI_f c, cI_f c]
    exact stq_f (fun z => c z.1) (by decide)
theorem st_r {ω υ : St} {n q y : Nat} (T : Two ω υ n q y) (v0 v1 : Int32) (hv : 0 ≤ v1.toInt ∧ v1.toInt ≤ 99) : Stq (hSizA ω 27 n v0 v1) (roomP v0 ∧ ¬ 20 < v1 ∧ ¬ v1 < bulF (υ 5) (υ 8) n v0) (hSizS ω 27 n v0 v1) (s2 υ 2 (tn v0) v1) := by
  obtain ⟨⟨a1, a2, a3, a4, a5, a6, a7⟩, ⟨b1, b2, b3⟩, ⟨r1, r2, r3, r4, r5, r6, r7⟩, S, P⟩ := id T
  have e : bulF (ω (27 + 2)) (ω (27 + 5)) n v0 = bulF (υ 5) (υ 8) n v0 := bulF_cg2 (fun p hp => ⟨r2 p (by omega), r5 p (by omega)⟩) v0
  have d1 : ¬ v1 < 0 := neg_int hv.1
  unfold hSizA hSizS
  by_cases c : roomP v0
  · have hr := (room_nat c).2
    rw [cI_t c, cI_t c, e, if_neg d1, if_neg d1]
    by_cases d2 : 20 < v1
    · rw [if_pos d2, if_pos d2]
      exact stq_f (fun z => z.2.1 d2) (by decide)
    rw [if_neg d2, if_neg d2]
    by_cases d3 : v1 < bulF (υ 5) (υ 8) n v0
    · rw [if_pos d3, if_pos d3]
      exact stq_f (fun z => z.2.2 d3) (by decide)
    rw [if_neg d3, if_neg d3]
    exact stq_t ⟨c, d2, d3⟩ (by rw [show ω (27 + 6) (tn v0) = υ 2 (tn v0) from r6 _ hr]; exact neg_int (S.2 _ hr).1) (two_sz T (bnd_int (m := 20) (by decide) d1 d2))
  · rw [cI_f c, cI_f c]
    exact stq_f (fun z => c z.1) (by decide)
theorem flr {v : Int32} : isInP v 1 2 ↔ floorP v := by
  constructor
  · intro h
    have hv := nat_of (v := v) (a := 1) (b := 2) (by decide) (by decide) h.1 h.2
    rcases (by omega : tn v = 1 ∨ tn v = 2) with z | z
    · exact Or.inl (by rw [hv.1, z]; rfl)
    · exact Or.inr (by rw [hv.1, z]; rfl)
  · rintro (rfl | rfl)
    · exact ⟨by decide, by decide⟩
    · exact ⟨by decide, by decide⟩
theorem st_s {ω υ : St} {n q y : Nat} (T : Two ω υ n q y) (v0 v1 : Int32) (hv : 0 ≤ v1.toInt ∧ v1.toInt ≤ 9) : Stq (hWidA ω 27 v0 v1) (isInP v0 1 2) (hWidS ω 27 v0 v1) (s2 υ 3 (tn v0) v1) := by
  obtain ⟨⟨a1, a2, a3, a4, a5, a6, a7⟩, ⟨b1, b2, b3⟩, ⟨r1, r2, r3, r4, r5, r6, r7⟩, S, P⟩ := id T
  have d1 : ¬ v1 < 0 := neg_int hv.1
  have d2 : ¬ 9 < v1 := by rw [i32_lt, show (9 : Int32).toInt = 9 from rfl]; omega
  unfold hWidA hWidS
  by_cases c : floorP v0
  · rw [cI_t c, cI_t c, if_neg d1, if_neg d1, if_neg d2, if_neg d2]
    have hf : ¬ ω (27 + 7) (tn v0) < 0 := by
      rcases c with rfl | rfl
      · show ¬ ω 34 1 < 0
        rw [r7.1]; exact P.2.1
      · show ¬ ω 34 2 < 0
        rw [r7.2]; exact P.2.2
    exact stq_t (flr.mpr c) hf (two_sr T d1)
  · rw [cI_f c, cI_f c]
    exact stq_f (fun z => c (flr.mp z)) (by decide)
theorem st_h {ω υ : St} {n q y : Nat} (T : Two ω υ n q y) (v0 : Int32) : Stq (hHeiA ω 27 v0) (isInP v0 2 4) (hHeiS ω 27 v0) (s2 υ 0 9 v0) := by
  obtain ⟨⟨a1, a2, a3, a4, a5, a6, a7⟩, ⟨b1, b2, b3⟩, ⟨r1, r2, r3, r4, r5, r6, r7⟩, S, P⟩ := id T
  unfold hHeiA hHeiS
  by_cases d1 : v0 < 2
  · rw [if_pos d1, if_pos d1]
    exact stq_f (fun z => z.1 d1) (by decide)
  rw [if_neg d1, if_neg d1]
  by_cases d2 : 4 < v0
  · rw [if_pos d2, if_pos d2]
    exact stq_f (fun z => z.2 d2) (by decide)
  rw [if_neg d2, if_neg d2]
  have hv := nat_of (v := v0) (a := 2) (b := 4) (by decide) (by decide) d1 d2
  refine stq_t ⟨d1, d2⟩ (by rw [a3]; exact nI_pos (by omega)) ⟨n, tn v0, y, ⟨?_, a2, ?_, hv.2.1, hv.2.2, ?_, a7⟩, ⟨?_, ?_, ?_⟩, ⟨row_st r1 (s2_ne (by decide)) (s2_ne (by decide)), row_st r2 (s2_ne (by decide)) (s2_ne (by decide)), row_st r3 (s2_ne (by decide)) (s2_ne (by decide)), row_st r4 (s2_ne (by decide)) (s2_ne (by decide)), row_st r5 (s2_ne (by decide)) (s2_ne (by decide)), row_st r6 (s2_ne (by decide)) (s2_ne (by decide)), by rw [s2_ne (show (34 : Nat) ≠ 27 by decide), s2_ne (show (3 : Nat) ≠ 0 by decide)]; exact r7⟩, ?_, ?_⟩
  · rw [s2_get, if_neg (by decide)]; exact a1
  · rw [s2_get, if_pos ⟨rfl, rfl⟩]; exact hv.1
  · rw [s2_get, if_neg (by decide)]; exact a6
  · rw [s2_get, if_neg (by decide)]; exact b1
  · rw [s2_get, if_pos ⟨rfl, rfl⟩]; exact hv.1
  · rw [s2_get, if_neg (by decide)]; exact b3
  · show Sml (s2 υ 0 9 v0 4) (s2 υ 0 9 v0 5) (s2 υ 0 9 v0 6) (s2 υ 0 9 v0 7) (s2 υ 0 9 v0 2) n
    rw [s2_ne (show (4 : Nat) ≠ 0 by decide), s2_ne (show (5 : Nat) ≠ 0 by decide), s2_ne (show (6 : Nat) ≠ 0 by decide), s2_ne (show (7 : Nat) ≠ 0 by decide), s2_ne (show (2 : Nat) ≠ 0 by decide)]; exact S
  · rw [s2_ne (show (8 : Nat) ≠ 0 by decide), s2_ne (show (3 : Nat) ≠ 0 by decide)]; exact P
theorem st_i {ω υ : St} {n q y : Nat} (T : Two ω υ n q y) (v0 v1 v2 v3 : Int32) (h1 : 0 ≤ v1.toInt ∧ v1.toInt ≤ 9) (h2 : 0 ≤ v2.toInt ∧ v2.toInt ≤ 9) (h3 : 0 ≤ v3.toInt ∧ v3.toInt ≤ 99) : Stq (hAddA n v1) (¬ v1 < 1 ∧ ¬ n = 7) (hAddS ω 27 n v0 v1 v2 v3) (piS υ n v0 v1 v2 v3) := by
  obtain ⟨⟨a1, a2, a3, a4, a5, a6, a7⟩, ⟨b1, b2, b3⟩, ⟨r1, r2, r3, r4, r5, r6, r7⟩, S, P⟩ := id T
  unfold hAddA hAddS
  by_cases c1 : v1 < 1
  · rw [if_pos c1, if_pos c1]
    exact stq_f (fun z => z.1 c1) (by decide)
  rw [if_neg c1, if_neg c1]
  by_cases c2 : n = 7
  · rw [if_neg (show ¬ n < 7 by omega), if_neg (show ¬ n < 7 by omega)]
    exact stq_f (fun z => z.2 c2) (by decide)
  rw [if_pos (show n < 7 by omega), if_pos (show n < 7 by omega)]
  refine stq_t ⟨c1, c2⟩ (nI_pos (by omega)) ?_
  generalize eω : s2 (s2 (s2 (s2 (s2 (s2 ω (27 + 1) n v0) (27 + 2) n v1) (27 + 3) n v2) (27 + 4) n v3) (27 + 5) n 9) 27 7 (nI (n + 1)) = ω'
  generalize eυ : piS υ n v0 v1 v2 v3 = υ'
  have o0 : ∀ j, j ≠ 7 → ω' 27 j = ω 27 j := fun j hj => by rw [← eω, s2_get, if_neg (fun z => hj z.2), s2_ne (by decide), s2_ne (by decide), s2_ne (by decide), s2_ne (by decide), s2_ne (by decide)]
  have o7 : ω' 27 7 = nI (n + 1) := by rw [← eω, s2_get, if_pos ⟨rfl, rfl⟩]
  have u0 : ∀ j, j ≠ 8 → υ' 0 j = υ 0 j := fun j hj => by rw [← eυ, piS, s2_get, if_neg (fun z => hj z.2), s2_ne (by decide), s2_ne (by decide), s2_ne (by decide), s2_ne (by decide), s2_ne (by decide)]
  have u8' : υ' 0 8 = nI (n + 1) := by rw [← eυ, piS, s2_get, if_pos ⟨rfl, rfl⟩]
  have o28 : ω' 28 = upd (ω 28) n v0 := by rw [← eω, s2_ne (show (28 : Nat) ≠ 27 by decide), s2_ne (show (28 : Nat) ≠ 27 + 5 by decide), s2_ne (show (28 : Nat) ≠ 27 + 4 by decide), s2_ne (show (28 : Nat) ≠ 27 + 3 by decide), s2_ne (show (28 : Nat) ≠ 27 + 2 by decide), show (28 : Nat) = 27 + 1 from rfl, s2_eq]
  have o29 : ω' 29 = upd (ω 29) n v1 := by rw [← eω, s2_ne (show (29 : Nat) ≠ 27 by decide), s2_ne (show (29 : Nat) ≠ 27 + 5 by decide), s2_ne (show (29 : Nat) ≠ 27 + 4 by decide), s2_ne (show (29 : Nat) ≠ 27 + 3 by decide), show (29 : Nat) = 27 + 2 from rfl, s2_eq, s2_ne (show (27 + 2 : Nat) ≠ 27 + 1 by decide)]
  have o30 : ω' 30 = upd (ω 30) n v2 := by rw [← eω, s2_ne (show (30 : Nat) ≠ 27 by decide), s2_ne (show (30 : Nat) ≠ 27 + 5 by decide), s2_ne (show (30 : Nat) ≠ 27 + 4 by decide), show (30 : Nat) = 27 + 3 from rfl, s2_eq, s2_ne (show (27 + 3 : Nat) ≠ 27 + 2 by decide), s2_ne (show (27 + 3 : Nat) ≠ 27 + 1 by decide)]
  have o31 : ω' 31 = upd (ω 31) n v3 := by rw [← eω, s2_ne (show (31 : Nat) ≠ 27 by decide), s2_ne (show (31 : Nat) ≠ 27 + 5 by decide), show (31 : Nat) = 27 + 4 from rfl, s2_eq, s2_ne (show (27 + 4 : Nat) ≠ 27 + 3 by decide), s2_ne (show (27 + 4 : Nat) ≠ 27 + 2 by decide), s2_ne (show (27 + 4 : Nat) ≠ 27 + 1 by decide)]
  have o32 : ω' 32 = upd (ω 32) n 9 := by rw [← eω, s2_ne (show (32 : Nat) ≠ 27 by decide), show (32 : Nat) = 27 + 5 from rfl, s2_eq, s2_ne (show (27 + 5 : Nat) ≠ 27 + 4 by decide), s2_ne (show (27 + 5 : Nat) ≠ 27 + 3 by decide), s2_ne (show (27 + 5 : Nat) ≠ 27 + 2 by decide), s2_ne (show (27 + 5 : Nat) ≠ 27 + 1 by decide)]
  have u4 : υ' 4 = upd (υ 4) n v0 := by rw [← eυ, piS, s2_ne (show (4 : Nat) ≠ 0 by decide), s2_ne (show (4 : Nat) ≠ 8 by decide), s2_ne (show (4 : Nat) ≠ 7 by decide), s2_ne (show (4 : Nat) ≠ 6 by decide), s2_ne (show (4 : Nat) ≠ 5 by decide), s2_eq]
  have u5 : υ' 5 = upd (υ 5) n v1 := by rw [← eυ, piS, s2_ne (show (5 : Nat) ≠ 0 by decide), s2_ne (show (5 : Nat) ≠ 8 by decide), s2_ne (show (5 : Nat) ≠ 7 by decide), s2_ne (show (5 : Nat) ≠ 6 by decide), s2_eq, s2_ne (show (5 : Nat) ≠ 4 by decide)]
  have u6 : υ' 6 = upd (υ 6) n v2 := by rw [← eυ, piS, s2_ne (show (6 : Nat) ≠ 0 by decide), s2_ne (show (6 : Nat) ≠ 8 by decide), s2_ne (show (6 : Nat) ≠ 7 by decide), s2_eq, s2_ne (show (6 : Nat) ≠ 5 by decide), s2_ne (show (6 : Nat) ≠ 4 by decide)]
  have u7 : υ' 7 = upd (υ 7) n v3 := by rw [← eυ, piS, s2_ne (show (7 : Nat) ≠ 0 by decide), s2_ne (show (7 : Nat) ≠ 8 by decide), s2_eq, s2_ne (show (7 : Nat) ≠ 6 by decide), s2_ne (show (7 : Nat) ≠ 5 by decide), s2_ne (show (7 : Nat) ≠ 4 by decide)]
  have u8 : υ' 8 = upd (υ 8) n 9 := by rw [← eυ, piS, s2_ne (show (8 : Nat) ≠ 0 by decide), s2_eq, s2_ne (show (8 : Nat) ≠ 7 by decide), s2_ne (show (8 : Nat) ≠ 6 by decide), s2_ne (show (8 : Nat) ≠ 5 by decide), s2_ne (show (8 : Nat) ≠ 4 by decide)]
  have oo : ∀ k, k = 33 ∨ k = 34 → ω' k = ω k := fun k hk => by rw [← eω, s2_ne (by omega), s2_ne (by omega), s2_ne (by omega), s2_ne (by omega), s2_ne (by omega), s2_ne (by omega)]
  have uu : ∀ k, k = 2 ∨ k = 3 → υ' k = υ k := fun k hk => by rw [← eυ, piS, s2_ne (by omega), s2_ne (by omega), s2_ne (by omega), s2_ne (by omega), s2_ne (by omega), s2_ne (by omega)]
  refine ⟨n + 1, q, y, ⟨o7, by omega, by rw [o0 8 (by decide)]; exact a3, a4, a5, by rw [o0 9 (by decide)]; exact a6, a7⟩, ⟨u8', by rw [u0 9 (by decide)]; exact b2, by rw [u0 10 (by decide)]; exact b3⟩, ⟨row_up r1 o28 u4, row_up r2 o29 u5, row_up r3 o30 u6, row_up r4 o31 u7, row_up r5 o32 u8, row_st r6 (oo 33 (by decide)) (uu 2 (by decide)), by rw [oo 34 (by decide), uu 3 (by decide)]; exact r7⟩, ⟨fun p hp => ?_, fun r hr => by rw [uu 2 (by decide)]; exact S.2 r hr⟩, ⟨fun p hp => ?_, by rw [uu 3 (by decide)]; exact P.2⟩⟩
  · rw [u5, u6, u7]
    unfold upd
    by_cases e : p = n
    · rw [if_pos e, if_pos e, if_pos e]; exact ⟨h1.1, h1.2, h2.1, h2.2, h3.1, h3.2⟩
    · rw [if_neg e, if_neg e, if_neg e]; exact S.1 p (by omega)
  · rw [u8]
    unfold upd
    by_cases e : p = n
    · rw [if_pos e]; decide
    · rw [if_neg e]; exact P.1 p (by omega)
theorem fauC_p {kd kd' ft ft' : Nat → Int32} {y : Int32} {p : Nat} (h1 : kd p = kd' p) (h2 : ft p = ft' p) : fauC kd y ft p = fauC kd' y ft' p := by
  unfold fauC; rw [h1, h2]
theorem ageC_p {ag ag' : Nat → Int32} {p : Nat} (h : ag p = ag' p) : ageC ag p = ageC ag' p := by
  unfold ageC; rw [h]
theorem yr_two {ω υ : St} {n : Nat} {bk sz : Nat → Int32} (h7 : n ≤ 7) (hS : Sml (υ 4) bk (υ 6) (υ 7) sz n) (e1 : ∀ j, j < 7 → ω 28 j = υ 4 j) (e3 : ∀ j, j < 7 → ω 30 j = υ 6 j) (e4 : ∀ j, j < 7 → ω 31 j = υ 7 j) (e9 : ω 27 9 = υ 0 10) : ∀ m, ((∀ j, j < 7 → hYrs ω 27 n m 30 j = yrs n υ m 6 j) ∧ (∀ j, j < 7 → hYrs ω 27 n m 31 j = yrs n υ m 7 j) ∧ hYrs ω 27 n m 27 9 = yrs n υ m 0 10) ∧ Sml (υ 4) bk (yrs n υ m 6) (yrs n υ m 7) sz n
  | 0 => ⟨⟨e3, e4, e9⟩, hS⟩
  | m + 1 => by
    obtain ⟨⟨i1, i2, i3⟩, iS⟩ := yr_two h7 hS e1 e3 e4 e9 m
    have q1 : hYrs ω 27 n m (27 + 1) = ω 28 := hYrs_o ω 27 n (27 + 1) (by omega) (by omega) (by omega) m
    have q4 : yrs n υ m 4 = υ 4 := yrs_o n υ 4 (by decide) (by decide) (by decide) m
    have f6 : yrs n υ (m + 1) 6 = pre n (fauS (υ 4) (yrs n υ m 0 10 + 1) (yrs n υ m 6)) (yrs n υ m 6) := by rw [yrs, yrP_6, q4]
    have f7 : yrs n υ (m + 1) 7 = pre n (ageS (yrs n υ m 7)) (yrs n υ m 7) := by rw [yrs, yrP_7]
    have g3 : hYrs ω 27 n (m + 1) 30 = pre n (fauC (ω 28) (hYrs ω 27 n m 27 9 + 1) (hYrs ω 27 n m 30)) (hYrs ω 27 n m 30) := by rw [hYrs, show (30 : Nat) = 27 + 3 from rfl, hYrP_3, q1]
    have g4 : hYrs ω 27 n (m + 1) 31 = pre n (ageC (hYrs ω 27 n m 31)) (hYrs ω 27 n m 31) := by rw [hYrs, show (31 : Nat) = 27 + 4 from rfl, hYrP_4]
    refine ⟨⟨fun j hj => ?_, fun j hj => ?_, ?_⟩, ?_⟩
    · rw [g3, f6, i3]
      unfold pre
      by_cases c : j < n
      · rw [if_pos c, if_pos c, fauC_p (e1 j hj) (i1 j hj)]
        exact (fauC_eq (iS.1 j c).2.2.1 (iS.1 j c).2.2.2.1).1
      · rw [if_neg c, if_neg c]; exact i1 j hj
    · rw [g4, f7]
      unfold pre
      by_cases c : j < n
      · rw [if_pos c, if_pos c, ageC_p (i2 j hj)]
        exact (ageC_eq (iS.1 j c).2.2.2.2.1 (iS.1 j c).2.2.2.2.2).1
      · rw [if_neg c, if_neg c]; exact i2 j hj
    · rw [hYrs, hYrP_y, yrs, yrP_y, i3]
    · refine ⟨fun p hp => ?_, iS.2⟩
      have g := iS.1 p hp
      rw [f6, f7]
      unfold pre
      rw [if_pos hp, if_pos hp]
      have a := fauC_eq (kd := υ 4) (y := yrs n υ m 0 10 + 1) g.2.2.1 g.2.2.2.1
      have b := ageC_eq g.2.2.2.2.1 g.2.2.2.2.2
      exact ⟨g.1, g.2.1, a.2.1, a.2.2, b.2.1, b.2.2⟩
theorem st_y {ω υ : St} {n q y : Nat} (T : Two ω υ n q y) (v0 : Int32) : Stq (hYeaA ω 27 n y v0) (isInP v0 1 60 ∧ ¬ 999 < y + tn v0) (hYeaS ω 27 n y v0) (yrs n υ (tn v0)) := by
  obtain ⟨⟨a1, a2, a3, a4, a5, a6, a7⟩, ⟨b1, b2, b3⟩, ⟨r1, r2, r3, r4, r5, r6, r7⟩, S, P⟩ := id T
  unfold hYeaA hYeaS
  by_cases d1 : v0 < 1
  · rw [if_pos d1, if_pos d1]
    exact stq_f (fun z => z.1.1 d1) (by decide)
  rw [if_neg d1, if_neg d1]
  have hm := min_y (v := v0) a7 d1
  by_cases d2 : minI 60 (nI (999 - y)) < v0
  · rw [if_pos d2, if_pos d2]
    exact stq_f (fun z => (hm.mp d2).elim z.1.2 z.2) (by decide)
  rw [if_neg d2, if_neg d2]
  have c1 : ¬ 60 < v0 := fun z => d2 (hm.mpr (Or.inl z))
  have c2 : ¬ 999 < y + tn v0 := fun z => d2 (hm.mpr (Or.inr z))
  have Y := yr_two (bk := υ 5) (sz := υ 2) a2 S r1 r3 r4 (by rw [a6, b3]) (tn v0)
  have ow : ∀ k, k ≠ 30 ∧ k ≠ 31 ∧ k ≠ 27 → hYrs ω 27 n (tn v0) k = ω k := fun k hk => hYrs_o ω 27 n k hk.1 hk.2.1 hk.2.2 _
  have uw : ∀ k, k ≠ 6 ∧ k ≠ 7 ∧ k ≠ 0 → yrs n υ (tn v0) k = υ k := fun k hk => yrs_o n υ k hk.1 hk.2.1 hk.2.2 _
  have y9 : hYrs ω 27 n (tn v0) 27 9 = nI (y + tn v0) := hYrs_9 a6 _
  refine stq_t ⟨⟨d1, c1⟩, c2⟩ (by rw [y9]; exact nI_pos (by omega)) ⟨n, q, y + tn v0, ⟨(hYrs_z ω 27 n 7 (by decide) _).trans a1, a2, (hYrs_z ω 27 n 8 (by decide) _).trans a3, a4, a5, y9, by omega⟩, ⟨(yrs_z n υ 8 (by decide) _).trans b1, (yrs_z n υ 9 (by decide) _).trans b2, by rw [← Y.1.2.2]; exact y9⟩, ⟨row_st r1 (ow 28 (by decide)) (uw 4 (by decide)), row_st r2 (ow 29 (by decide)) (uw 5 (by decide)), Y.1.1, Y.1.2.1, row_st r5 (ow 32 (by decide)) (uw 8 (by decide)), row_st r6 (ow 33 (by decide)) (uw 2 (by decide)), by rw [ow 34 (by decide), uw 3 (by decide)]; exact r7⟩, ?_, ?_⟩
  · rw [SmB, uw 4 (by decide), uw 5 (by decide), uw 2 (by decide)]; exact Y.2
  · rw [uw 8 (by decide), uw 3 (by decide)]; exact P
/-- all statements alike -/
theorem st_all {ω υ : St} {n q y : Nat} {b v0 v1 v2 v3 w0 w1 w2 w3 : Int32} (T : Two ω υ n q y) (hb : letP b) (V : Vl b v0 v1 v2 v3 w0 w1 w2 w3) : Stq (tsA ω n y b v0 v1) (cmP υ n y b w0 w1) (tsS ω n y b v0 v1 v2 v3) (cmS υ n b w0 w1 w2 w3) := by
  obtain ⟨e0, e1, e2, e3, e4⟩ := V
  subst e0
  unfold tsA cmP tsS cmS
  rcases hb with rfl | rfl | rfl | rfl | rfl | rfl | rfl
  · have z := e2 rfl
    have p105 : (105 : Int32) = 105 := rfl
    rw [if_pos p105, if_pos p105, if_pos p105, if_pos p105]
    rw [e1 (Or.inl rfl), z.1, z.2.1]
    exact st_i T _ _ _ _ z.2.2.1 z.2.2.2.1 z.2.2.2.2
  · have n105 : ¬ (109 : Int32) = 105 := by decide
    rw [if_neg n105, if_neg n105, if_neg n105, if_neg n105]
    have p109 : (109 : Int32) = 109 := rfl
    rw [if_pos p109, if_pos p109, if_pos p109, if_pos p109]
    rw [e1 (Or.inr (Or.inl rfl))]
    exact st_m T _ _
  · have n105 : ¬ (115 : Int32) = 105 := by decide
    rw [if_neg n105, if_neg n105, if_neg n105, if_neg n105]
    have n109 : ¬ (115 : Int32) = 109 := by decide
    rw [if_neg n109, if_neg n109, if_neg n109, if_neg n109]
    have p115 : (115 : Int32) = 115 := rfl
    rw [if_pos p115, if_pos p115, if_pos p115, if_pos p115]
    rw [e1 (Or.inr (Or.inr (Or.inl rfl)))]
    exact st_s T _ _ (e3 rfl)
  · have n105 : ¬ (114 : Int32) = 105 := by decide
    rw [if_neg n105, if_neg n105, if_neg n105, if_neg n105]
    have n109 : ¬ (114 : Int32) = 109 := by decide
    rw [if_neg n109, if_neg n109, if_neg n109, if_neg n109]
    have n115 : ¬ (114 : Int32) = 115 := by decide
    rw [if_neg n115, if_neg n115, if_neg n115, if_neg n115]
    have p114 : (114 : Int32) = 114 := rfl
    rw [if_pos p114, if_pos p114, if_pos p114, if_pos p114]
    rw [e1 (Or.inr (Or.inr (Or.inr rfl)))]
    exact st_r T _ _ (e4 rfl)
  · have n105 : ¬ (121 : Int32) = 105 := by decide
    rw [if_neg n105, if_neg n105, if_neg n105, if_neg n105]
    have n109 : ¬ (121 : Int32) = 109 := by decide
    rw [if_neg n109, if_neg n109, if_neg n109, if_neg n109]
    have n115 : ¬ (121 : Int32) = 115 := by decide
    rw [if_neg n115, if_neg n115, if_neg n115, if_neg n115]
    have n114 : ¬ (121 : Int32) = 114 := by decide
    rw [if_neg n114, if_neg n114, if_neg n114, if_neg n114]
    have p121 : (121 : Int32) = 121 := rfl
    rw [if_pos p121, if_pos p121, if_pos p121, if_pos p121]
    exact st_y T _
  · have n105 : ¬ (104 : Int32) = 105 := by decide
    rw [if_neg n105, if_neg n105, if_neg n105, if_neg n105]
    have n109 : ¬ (104 : Int32) = 109 := by decide
    rw [if_neg n109, if_neg n109, if_neg n109, if_neg n109]
    have n115 : ¬ (104 : Int32) = 115 := by decide
    rw [if_neg n115, if_neg n115, if_neg n115, if_neg n115]
    have n114 : ¬ (104 : Int32) = 114 := by decide
    rw [if_neg n114, if_neg n114, if_neg n114, if_neg n114]
    have n121 : ¬ (104 : Int32) = 121 := by decide
    rw [if_neg n121, if_neg n121, if_neg n121, if_neg n121]
    have p104 : (104 : Int32) = 104 := rfl
    rw [if_pos p104, if_pos p104, if_pos p104, if_pos p104]
    exact st_h T _
  · have n105 : ¬ (112 : Int32) = 105 := by decide
    rw [if_neg n105, if_neg n105, if_neg n105, if_neg n105]
    have n109 : ¬ (112 : Int32) = 109 := by decide
    rw [if_neg n109, if_neg n109, if_neg n109, if_neg n109]
    have n115 : ¬ (112 : Int32) = 115 := by decide
    rw [if_neg n115, if_neg n115, if_neg n115, if_neg n115]
    have n114 : ¬ (112 : Int32) = 114 := by decide
    rw [if_neg n114, if_neg n114, if_neg n114, if_neg n114]
    have n121 : ¬ (112 : Int32) = 121 := by decide
    rw [if_neg n121, if_neg n121, if_neg n121, if_neg n121]
    have n104 : ¬ (112 : Int32) = 104 := by decide
    rw [if_neg n104, if_neg n104, if_neg n104, if_neg n104]
    exact st_p T _
