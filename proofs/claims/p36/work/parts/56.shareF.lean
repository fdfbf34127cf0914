/-! the class: shareFairly, shares, envy -/
def ShI (σ τ : St) (n q B i : Nat) : Prop := GvC τ (blH σ 19 n) n q ∧ (∀ j, j < i → τ 51 j = nI (dig q n B j)) ∧ (∀ j, j < 4 → τ 53 j = shaN (fun _ => 0) (blH σ 19 n) (dig q n B) i j) ∧ (∀ p, p < n → τ 52 p = nI (dig q n B p)) ∧ Shk σ τ
theorem shi_pre {σ τ υ : St} {n q : Nat} (h : Beg σ τ n q) (e : υ = s2 τ 49 7 1000000) : GvP υ (blH σ 19 n) n q 0 (0 * q ^ (n - 0)) ∧ Shk σ υ := by
  subst e
  refine ⟨⟨⟨h.1, h.2.1, h.2.2.1, h.2.2.2.2.1⟩, fun j hj => absurd hj (Nat.not_lt_zero j), fun j hj => h.2.2.2.2.2.1 j hj, ⟨fun _ => rfl, fun z => by rw [Nat.zero_mul] at z; exact absurd z (Nat.lt_irrefl 0)⟩⟩, fun a h1 h2 h3 h4 h5 => ?_⟩
  rw [s2_ne h1]; exact h.2.2.2.2.2.2 a h1 h2 h5
theorem shi_0 {σ τ υ ψ : St} {n q : Nat} (q2 : 2 ≤ q) (h : Beg σ τ n q) (e : υ = s2 τ 49 7 1000000) (g : GvQ υ ψ (blH σ 19 n) n q 0 (0 * q ^ (n - 0) + q ^ (n - 0))) : ShI σ ψ n q (fshN (shGF (blH σ 19 n) n q) (q ^ n)).1 0 := by
  have hp : 0 < q ^ n := Nat.pow_pos (by omega)
  have hk : 0 * q ^ (n - 0) + q ^ (n - 0) = q ^ n := by rw [Nat.zero_mul, Nat.zero_add, Nat.sub_zero]
  rw [hk] at g
  have hs := shi_pre h e
  refine ⟨g.1, fun j hj => absurd hj (Nat.not_lt_zero j), fun j hj => ?_, (g.2.2.2.1.2 hp).2.2, hs.2.tr g.2.2.2.2⟩
  rw [g.2.2.1 j hj]; exact hs.1.2.2.1 j hj
theorem shi_st {σ τ : St} {n q B i : Nat} (h : ShI σ τ n q B i) (hi : i < n) (q2 : 2 ≤ q) (q4 : q ≤ 4) : ShI σ (givS τ i (dig q n B i)) n q B (i + 1) := by
  have hg : dig q n B i < q := dig_q (by omega)
  refine ⟨⟨h.1.1, h.1.2.1, h.1.2.2.1, h.1.2.2.2⟩, fun j hj => ?_, fun j hj => ?_, h.2.2.2.1, fun a h1 h2 h3 h4 h5 => ?_⟩
  · rw [givS, s2_ne (by decide), s2_get]
    by_cases e : j = i
    · rw [if_pos ⟨rfl, e⟩, e]
    · rw [if_neg (fun z => e z.2)]; exact h.2.1 j (by omega)
  · rw [givS, s2_get, shaN, s2_ne (by decide), h.2.2.1 _ (by omega), h.1.2.2.2 i hi]
    unfold upd
    by_cases e : j = dig q n B i
    · rw [if_pos ⟨rfl, e⟩, if_pos e]
    · rw [if_neg (fun z => e z.2), if_neg e]; exact h.2.2.1 j hj
  · rw [givS, s2_ne h5, s2_ne h3]; exact h.2.2.2.2 a h1 h2 h3 h4 h5
theorem kX3_shareFairly (n q : Nat) (σ : St) (hn : σ 19 7 = nI n) (h7 : n ≤ 7) (hq : σ 19 8 = nI q) (q2 : 2 ≤ q) (q4 : q ≤ 4) (hb : Bls (blH σ 19 n) n) : Ct yX3_shareFairly cX3_shareFairly 3 none 11 [.ref 49, .ref 19] σ (rV (fun τ => ShI σ τ n q (fshN (shGF (blH σ 19 n) n q) (q ^ n)).1 n)) := by
  refine ct_of plX3 rfl (Nat.le_of_ble_eq_true rfl) (fun X hX C => ?_)
  show V X 0 [(0, .ref 49), (1, .ref 19)] [] σ
  refine v_aload_n C dX3_shareFairly_0 rfl rfl rfl ?_
  refine v_aload_n C dX3_shareFairly_1 rfl rfl rfl ?_
  refine v_callV C (Nat.le_of_ble_eq_true rfl) rfl rfl (As := [.ref 19]) (rest := []) (kX3_begin n q σ hn h7 hq q2 q4) rfl (Nat.le_of_ble_eq_true rfl) (Nat.le_of_ble_eq_true rfl) ⟨mlX3_65, mfX3_begin⟩ dkX3_begin (Nat.le_of_ble_eq_true rfl) dX3_shareFairly_2 rfl (krV (fun υ hB => ?_))
  refine v_aload_n C dX3_shareFairly_5 rfl rfl rfl ?_
  refine v_ldc C kcX3_34 dX3_shareFairly_6 rfl ?_
  refine v_put (ty := .int) C (Nat.le_of_ble_eq_true rfl) rfl rfl hinX3 tyX3_ok nmX3 7 (Nat.le_of_ble_eq_true rfl) lkX3_35 rfl (by decide +kernel) rfl rfl rfl dX3_shareFairly_8 rfl ?_
  refine V.nm (fun τ8_1 eτ8_1 => ?_)
  refine v_aload_n C dX3_shareFairly_11 rfl rfl rfl ?_
  refine v_iconst (v := 0) C dX3_shareFairly_12 (by decide) rfl ?_
  refine v_callS C (As := [.ref 49, .int 0]) (rest := []) (kX3_giveFrom (blH σ 19 n) n q hb h7 q2 q4 n 0 0 τ8_1 (by omega) (shi_pre hB eτ8_1).1) rfl (by omega) (Nat.le_of_ble_eq_true rfl) ⟨mlX3_69, mfX3_giveFrom⟩ dkX3_giveFrom (Nat.le_of_ble_eq_true rfl) dX3_shareFairly_13 rfl (krV (fun ψ hψ => ?_))
  refine v_iconst (v := 0) C dX3_shareFairly_16 (by decide) rfl ?_
  refine v_istore_n (lv' := [(2, .int 0), (0, .ref 49), (1, .ref 19)]) C dX3_shareFairly_17 rfl (Nat.le_of_ble_eq_true rfl) rfl rfl ?_
  have lp18 : ∀ (kf i : Nat)  (τ : St), n < i + kf → i ≤ n → ShI σ τ n q (fshN (shGF (blH σ 19 n) n q) (q ^ n)).1 i → V X 18 [(2, .int (nI i)), (0, .ref 49), (1, .ref 19)] [] τ := by
    intro kf
    induction kf with
    | zero => intro i  τ h1 h2; omega
    | succ kf ih18 =>
      intro i  τ h1 h2  eτ
      refine v_iload_n C dX3_shareFairly_18 rfl rfl rfl ?_
      refine v_aload_n C dX3_shareFairly_19 rfl rfl rfl ?_
      refine v_getI C (Nat.le_of_ble_eq_true rfl) rfl rfl hinX3 4 (Nat.le_of_ble_eq_true rfl) lkX3_24 rfl dX3_shareFairly_20 rfl ?_
      refine V.tp eτ.1.1 ?_
      refine v_icmp_ge (tgt := 43) C dX3_shareFairly_23 (by decide) rfl (fun c23 => ?_) (fun c23 => ?_)
      · skip
        have c23 := mt (nI_ltI (a := i) (b := n) (by omega) (by omega)).mpr c23
        exact v_vret C dX3_shareFairly_43 (by rw [hX]; exact ⟨rfl, (show i = n from by omega) ▸ eτ⟩)
      · skip
        have c23 := (nI_ltI (a := i) (b := n) (by omega) (by omega)).mp c23
        refine v_aload_n C dX3_shareFairly_26 rfl rfl rfl ?_
        refine v_iload_n C dX3_shareFairly_27 rfl rfl rfl ?_
        refine v_aload_n C dX3_shareFairly_28 rfl rfl rfl ?_
        refine v_getR C (Nat.le_of_ble_eq_true rfl) rfl rfl hinX3 2 (Nat.le_of_ble_eq_true rfl) lkX3_18 rfl dX3_shareFairly_29 rfl ?_
        refine v_iload_n C dX3_shareFairly_32 rfl rfl rfl ?_
        refine v_iald (i := i) C (Nat.le_of_ble_eq_true rfl) rfl rfl (by omega) (by decide) dX3_shareFairly_33 rfl ?_
        refine V.tp (eτ.2.2.2.1 i (by omega)) ?_
        refine v_callV C (Nat.le_of_ble_eq_true rfl) rfl rfl (As := [.int (nI i), .int (nI (dig q n (fshN (shGF (blH σ 19 n) n q) (q ^ n)).1 i))]) (rest := []) (kX3_give i (dig q n (fshN (shGF (blH σ 19 n) n q) (q ^ n)).1 i) n q τ eτ.1.1 h7 eτ.1.2.1 q4 c23 (dig_q (by omega))) rfl (Nat.le_of_ble_eq_true rfl) (Nat.le_of_ble_eq_true rfl) ⟨mlX3_73, mfX3_give⟩ dkX3_give (Nat.le_of_ble_eq_true rfl) dX3_shareFairly_34 rfl (kV ?_)
        refine v_iinc (lv' := [(2, .int (nI (i + 1))), (0, .ref 49), (1, .ref 19)]) C dX3_shareFairly_37 rfl (nI_inc i) (Nat.le_of_ble_eq_true rfl) rfl rfl ?_
        refine v_goto (tgt := 18) C dX3_shareFairly_40 (by decide) ?_
        exact V.sub [0, 1, 2] rfl (ih18 (i + 1)  _ (by omega) (by omega)  (shi_st eτ c23 q2 q4))
  exact V.sub [0, 1, 2] rfl (lp18 (n + 1) 0  _ (by omega) (by omega)  (shi_0 q2 hB eτ8_1 hψ))
