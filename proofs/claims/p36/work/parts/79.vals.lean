/-! what a well statement spells, on both sides -/
theorem scn_at {g : Nat → Int32} : ∀ (fs : List Nat) (a : Nat), scn g fs a = none → ∀ j, j < fs.length → chk (fs.getD j 0) (g (a + j))
  | [], _, _ => fun j h => absurd h (Nat.not_lt_zero _)
  | f :: fs, a, h => by
    by_cases c : chk f (g a)
    · rw [scn, cI_t c] at h
      intro j hj
      cases j with
      | zero => exact c
      | succ j =>
        have := scn_at fs (a + 1) h j (Nat.lt_of_succ_lt_succ hj)
        rw [show a + 1 + j = a + (j + 1) by omega] at this
        exact this
    · rw [scn, cI_f c] at h; cases h
theorem chk_nx {tx : Nat → Int32} {t a f : Nat} (h : chk f (nx tx t a)) : hx tx t a = nx tx t a := by
  by_cases c : a < t
  · rw [hx, nx, if_pos c, if_pos c]
  · rw [nx, if_neg c] at h
    unfold chk digP isInP at h
    split at h
    · exact absurd h (by decide)
    · split at h
      · exact absurd h (by decide)
      · exact absurd h (by decide)
theorem va1 {g : Nat → Int32} {a : Nat} : vaN g a 1 = g a - 48 := by
  rw [vaN, vaN, Nat.add_zero, Int32.mul_zero, Int32.zero_add]
theorem add_sub_r (x y z : Int32) : x + y - z = x + (y - z) := by rw [Int32.sub_eq_add_neg, Int32.sub_eq_add_neg, Int32.add_assoc]
theorem va2 {g : Nat → Int32} {a : Nat} : vaN g a 2 = tw g a := by
  rw [vaN, va1, tw, add_sub_r]
theorem d1b {c : Int32} (h : digP c) : 0 ≤ (c - 48).toInt ∧ (c - 48).toInt ≤ 9 := by
  obtain ⟨h1, h2⟩ := h
  have e1 : (48 : Int32).toInt = 48 := rfl
  have e2 : (57 : Int32).toInt = 57 := rfl
  rw [i32_lt, e1] at h1
  rw [i32_lt, e2] at h2
  rw [i32_sub (by rw [e1]; omega) (by rw [e1]; omega), e1]
  omega
theorem ten_b : ∀ d : Fin 10, (10 * nI d.1).toInt = 10 * (d.1 : Int) := by decide
theorem d2b {g : Nat → Int32} {a : Nat} (h1 : digP (g a)) (h2 : digP (g (a + 1))) : 0 ≤ (tw g a).toInt ∧ (tw g a).toInt ≤ 99 := by
  have b1 := d1b h1
  have b2 := d1b h2
  unfold tw
  generalize g a - 48 = x at b1 ⊢
  generalize g (a + 1) - 48 = z at b2 ⊢
  have e9 : (9 : Int32).toInt = 9 := rfl
  have e0 : (0 : Int32).toInt = 0 := rfl
  have hx := nat_of (v := x) (a := 0) (b := 9) (by decide) (by decide) (show ¬ x < 0 by rw [i32_lt, e0]; omega) (show ¬ 9 < x by rw [i32_lt, e9]; omega)
  have ht := ten_b ⟨tn x, by omega⟩
  rw [← hx.1] at ht
  have hm : (10 * x).toInt = 10 * (tn x : Int) := ht
  have h9 := hx.2.2
  rw [i32_add (by rw [hm]; omega) (by rw [hm]; omega), hm]
  omega
def Vl (b v0 v1 v2 v3 w0 w1 w2 w3 : Int32) : Prop := v0 = w0 ∧ ((b = 105 ∨ b = 109 ∨ b = 115 ∨ b = 114) → v1 = w1) ∧ (b = 105 → v2 = w2 ∧ v3 = w3 ∧ (0 ≤ w1.toInt ∧ w1.toInt ≤ 9) ∧ (0 ≤ w2.toInt ∧ w2.toInt ≤ 9) ∧ (0 ≤ w3.toInt ∧ w3.toInt ≤ 99)) ∧ (b = 115 → 0 ≤ w1.toInt ∧ w1.toInt ≤ 9) ∧ (b = 114 → 0 ≤ w1.toInt ∧ w1.toInt ≤ 99)
theorem vals {tx : Nat → Int32} {t a p : Nat} {υ : St} (hb : letP (nx tx t a)) (hg : bad1 (nx tx t) a = none) (hv : valP (nx tx t) (nx tx t a) (a + 1) υ p) : Vl (nx tx t a) (tv0 (hx tx t) (nx tx t a) a) (tv1 (hx tx t) (nx tx t a) a) (hx tx t (a + 3) - 48) (tw (hx tx t) (a + 4)) (υ 12 p) (υ 12 (p + 1)) (υ 12 (p + 2)) (υ 12 (p + 3)) := by
  have hs : scn (nx tx t) (frmB (nx tx t a) ++ [2]) (a + 1) = none := by rw [bad1, cI_t hb] at hg; exact hg
  have C := scn_at _ _ hs
  rcases hb with e | e | e | e | e | e | e
  · rw [e] at hv C ⊢
    have c0 : chk 1 (nx tx t (a + 1)) := C 0 (by decide)
    have c1 : chk 0 (nx tx t (a + 2)) := C 1 (by decide)
    have c2 : chk 0 (nx tx t (a + 3)) := C 2 (by decide)
    have c3 : chk 0 (nx tx t (a + 4)) := C 3 (by decide)
    have c4 : chk 0 (nx tx t (a + 4 + 1)) := C 4 (by decide)
    rw [valP, if_pos rfl] at hv
    obtain ⟨q0, q1, q2, q3⟩ := hv
    rw [va1] at q1 q2
    rw [va2] at q3
    have t3 : tw (hx tx t) (a + 4) = tw (nx tx t) (a + 4) := by rw [tw, tw, chk_nx c3, chk_nx c4]
    rw [Vl, tv0, tv1, if_pos rfl, if_neg (by decide), chk_nx c0, chk_nx c1, chk_nx c2, t3, kin_same c0, q0, q1, q2, q3]
    exact ⟨rfl, fun _ => rfl, fun _ => ⟨rfl, rfl, d1b c1, d1b c2, d2b c3 c4⟩, fun z => absurd z (by decide), fun z => absurd z (by decide)⟩
  · rw [e] at hv C ⊢
    have c0 : chk 0 (nx tx t (a + 1)) := C 0 (by decide)
    have c1 : chk 0 (nx tx t (a + 2)) := C 1 (by decide)
    rw [valP, if_neg (by decide), if_pos (Or.inl rfl)] at hv
    obtain ⟨q0, q1⟩ := hv
    rw [va1] at q0 q1
    rw [Vl, tv0, tv1, if_neg (by decide), if_neg (by decide), if_neg (by decide), chk_nx c0, chk_nx c1, q0, q1]
    exact ⟨rfl, fun _ => rfl, fun z => absurd z (by decide), fun z => absurd z (by decide), fun z => absurd z (by decide)⟩
  · rw [e] at hv C ⊢
    have c0 : chk 0 (nx tx t (a + 1)) := C 0 (by decide)
    have c1 : chk 0 (nx tx t (a + 2)) := C 1 (by decide)
    rw [valP, if_neg (by decide), if_pos (Or.inr rfl)] at hv
    obtain ⟨q0, q1⟩ := hv
    rw [va1] at q0 q1
    rw [Vl, tv0, tv1, if_neg (by decide), if_neg (by decide), if_neg (by decide), chk_nx c0, chk_nx c1, q0, q1]
    exact ⟨rfl, fun _ => rfl, fun z => absurd z (by decide), fun _ => d1b c1, fun z => absurd z (by decide)⟩
  · rw [e] at hv C ⊢
    have c0 : chk 0 (nx tx t (a + 1)) := C 0 (by decide)
    have c1 : chk 0 (nx tx t (a + 2)) := C 1 (by decide)
    have c2 : chk 0 (nx tx t (a + 2 + 1)) := C 2 (by decide)
    rw [valP, if_neg (by decide), if_neg (by decide), if_pos rfl] at hv
    obtain ⟨q0, q1⟩ := hv
    rw [va1] at q0
    rw [va2] at q1
    have t1 : tw (hx tx t) (a + 2) = tw (nx tx t) (a + 2) := by rw [tw, tw, chk_nx c1, chk_nx c2]
    rw [Vl, tv0, tv1, if_neg (by decide), if_neg (by decide), if_pos rfl, chk_nx c0, t1, q0, q1]
    exact ⟨rfl, fun _ => rfl, fun z => absurd z (by decide), fun z => absurd z (by decide), fun _ => d2b c1 c2⟩
  · rw [e] at hv C ⊢
    have c0 : chk 0 (nx tx t (a + 1)) := C 0 (by decide)
    have c1 : chk 0 (nx tx t (a + 1 + 1)) := C 1 (by decide)
    rw [valP, if_neg (by decide), if_neg (by decide), if_neg (by decide), if_pos rfl] at hv
    rw [va2] at hv
    have t1 : tw (hx tx t) (a + 1) = tw (nx tx t) (a + 1) := by rw [tw, tw, chk_nx c0, chk_nx c1]
    rw [Vl, tv0, if_neg (by decide), if_pos rfl, t1, hv]
    exact ⟨rfl, fun z => absurd z (by decide), fun z => absurd z (by decide), fun z => absurd z (by decide), fun z => absurd z (by decide)⟩
  · rw [e] at hv C ⊢
    have c0 : chk 0 (nx tx t (a + 1)) := C 0 (by decide)
    rw [valP, if_neg (by decide), if_neg (by decide), if_neg (by decide), if_neg (by decide)] at hv
    rw [va1] at hv
    rw [Vl, tv0, if_neg (by decide), if_neg (by decide), chk_nx c0, hv]
    exact ⟨rfl, fun z => absurd z (by decide), fun z => absurd z (by decide), fun z => absurd z (by decide), fun z => absurd z (by decide)⟩
  · rw [e] at hv C ⊢
    have c0 : chk 0 (nx tx t (a + 1)) := C 0 (by decide)
    rw [valP, if_neg (by decide), if_neg (by decide), if_neg (by decide), if_neg (by decide)] at hv
    rw [va1] at hv
    rw [Vl, tv0, if_neg (by decide), if_neg (by decide), chk_nx c0, hv]
    exact ⟨rfl, fun z => absurd z (by decide), fun z => absurd z (by decide), fun z => absurd z (by decide), fun z => absurd z (by decide)⟩
