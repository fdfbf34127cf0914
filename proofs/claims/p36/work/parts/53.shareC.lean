/-! what a share is above an even one, the spread is at the least -/
theorem sha_even {bl : Nat → Int32} {n q : Nat} {g : Nat → Nat} (h : Bls bl n) (h7 : n ≤ 7) (hg : ∀ p, p < n → g p < q) (q2 : 2 ≤ q) (q4 : q ≤ 4) {i j : Nat} (hi : i ≤ n) (hj : j < q) : (shaN (fun _ => 0) bl g i j - sumN bl n / nI q).toInt ≤ (aptF (shaN (fun _ => 0) bl g n) q).toInt ∧ 0 ≤ (aptF (shaN (fun _ => 0) bl g n) q).toInt ∧ (aptF (shaN (fun _ => 0) bl g n) q).toInt ≤ 7000 := by
  have hS := sha_b h h7 (g := g) n (Nat.le_refl n)
  have hs := sha_b h h7 (g := g) i hi j
  have hm := sha_mono h h7 (g := g) j i (n - i) (by omega)
  rw [show i + (n - i) = n by omega] at hm
  have ht := sum_tot h h7 n (Nat.le_refl n)
  have hsum := sha_sum h h7 hg n (Nat.le_refl n)
  have hmin := minV_le (shaN (fun _ => 0) bl g n) q
  have hmax := maxV_ge (shaN (fun _ => 0) bl g n) q j hj
  have hge := isum_ge (f := fun j => (shaN (fun _ => 0) bl g n j).toInt) (m := (minV (shaN (fun _ => 0) bl g n) q).toInt) q hmin
  rw [hsum, ← ht.1] at hge
  have hmi0 : 0 ≤ (minV (shaN (fun _ => 0) bl g n) q).toInt := by rw [← firV]; exact (hS _).1
  have hmi1 : (minV (shaN (fun _ => 0) bl g n) q).toInt ≤ 7000 := by
    have := hmin j hj; have := (hS j).2; omega
  have hma1 : (maxV (shaN (fun _ => 0) bl g n) q).toInt ≤ 7000 := by
    rw [← lasV]; have := (hS (lasN (shaN (fun _ => 0) bl g n) q)).2; omega
  have hapt : (aptF (shaN (fun _ => 0) bl g n) q).toInt = (maxV (shaN (fun _ => 0) bl g n) q).toInt - (minV (shaN (fun _ => 0) bl g n) q).toInt := by
    rw [aptF]; exact i32_sub (by have := (hS j).1; omega) (by omega)
  obtain ⟨T, hT, eT⟩ := nI_of (x := sumN bl n) (by rw [i32_lt, ht.1]; show ¬ _ < (0 : Int); omega)
  have htT : (sumN bl n).toInt = (T : Int) := by rw [eT]; exact nI_toInt hT
  have hev : (sumN bl n / nI q).toInt = ((T / q : Nat) : Int) := by
    rw [eT, pk_div (a := T) (d := q) (by omega) (by omega) (by omega)]
    exact nI_toInt (Nat.lt_of_le_of_lt (Nat.div_le_self T q) hT)
  have hT7 : T ≤ 7000 := by have := ht.2.2; have := ht.1; omega
  obtain ⟨m, em⟩ : ∃ m : Nat, (minV (shaN (fun _ => 0) bl g n) q).toInt = (m : Int) := ⟨_, (Int.toNat_of_nonneg hmi0).symm⟩
  have hmT : m ≤ T / q := by
    rw [Nat.le_div_iff_mul_le (by omega)]
    rw [em, htT] at hge
    have : ((q * m : Nat) : Int) ≤ (T : Int) := by rw [Int.natCast_mul]; exact hge
    have := Int.ofNat_le.mp this
    rw [Nat.mul_comm]; exact this
  have hTq : T / q ≤ 7000 := Nat.le_trans (Nat.div_le_self T q) hT7
  rw [i32_sub (by rw [hev]; omega) (by rw [hev]; omega), hapt, hev, em]
  have := (hS j).1
  refine ⟨by omega, ?_, by omega⟩
  have := hmin j hj
  omega
/-- a way that begins so is no better than what is kept -/
theorem F_no {bl : Nat → Int32} {n q : Nat} {g : Nat → Nat} {L : Int32} (h : Bls bl n) (h7 : n ≤ 7) (hg : ∀ p, p < n → g p < q) (q2 : 2 ≤ q) (q4 : q ≤ 4) {i j : Nat} (hi : i ≤ n) (hj : j < q) (c : ¬ (0 < L ∧ shaN (fun _ => 0) bl g i j - sumN bl n / nI q < L)) (h0 : ¬ L < 0) : ¬ aptF (shaN (fun _ => 0) bl g n) q < L := by
  have := sha_even h h7 hg q2 q4 hi hj
  intro z
  refine c ⟨?_, ?_⟩
  · rw [i32_lt] at z h0 ⊢
    have e : (0 : Int32).toInt = 0 := rfl
    omega
  · rw [i32_lt] at z ⊢; omega
