/-! the class: giveFrom, its walk -/
theorem gv_rf {τ : St} {bl : Nat → Int32} {n q p K : Nat} (h : GvP τ bl n q p K) : GvQ τ τ bl n q p (K + 0 * q ^ (n - 1 - p)) :=
  ⟨h.1, fun _ _ => rfl, fun _ _ => rfl, by rw [Nat.zero_mul, Nat.add_zero]; exact h.2.2.2, fun _ _ _ _ _ _ => rfl⟩
theorem kk_nx {q n p c g : Nat} (hp : p < n) : c * q ^ (n - p) + (g + 1) * q ^ (n - 1 - p) = (c * q + g) * q ^ (n - (p + 1)) + q ^ (n - (p + 1)) := by
  rw [Nat.succ_mul, ← Nat.add_assoc, kk_eq hp, show n - (p + 1) = n - 1 - p by omega]
theorem kk_end {q n p c : Nat} (hp : p < n) : c * q ^ (n - p) + q * q ^ (n - 1 - p) = c * q ^ (n - p) + q ^ (n - p) := by
  rw [show n - p = (n - 1 - p) + 1 by omega, Nat.pow_succ, Nat.mul_comm q]
theorem kX3_giveFrom0 (bl : Nat → Int32) (n q : Nat) (b : Bls bl n) (h7 : n ≤ 7) (q2 : 2 ≤ q) (q4 : q ≤ 4) (K : Nat) (τ : St) (h : GvP τ bl n q n K) : Ct yX3_giveFrom cX3_giveFrom 3 none 3 [.ref 49, .int (nI n)] τ (rV (fun υ => GvQ τ υ bl n q n (K + 1))) := by
  refine ct_of plX3 rfl (Nat.le_of_ble_eq_true rfl) (fun X hX C => ?_)
  show V X 0 [(0, .ref 49), (1, .int (nI n))] [] τ
  refine v_iload_n C dX3_giveFrom_0 rfl rfl rfl ?_
  refine v_aload_n C dX3_giveFrom_1 rfl rfl rfl ?_
  refine v_getI C (Nat.le_of_ble_eq_true rfl) rfl rfl hinX3 4 (Nat.le_of_ble_eq_true rfl) lkX3_24 rfl dX3_giveFrom_2 rfl ?_
  refine V.tp h.1.1 ?_
  refine v_icmp_lt (tgt := 13) C dX3_giveFrom_5 (by decide) rfl (fun c5 => ?_) (fun c5 => ?_)
  · skip
    have c5 := (nI_ltI (a := n) (b := n) (by omega) (by omega)).mp c5
    exact absurd c5 (Nat.lt_irrefl _)
  · skip
    have c5 := mt (nI_ltI (a := n) (b := n) (by omega) (by omega)).mpr c5
    refine v_aload_n C dX3_giveFrom_8 rfl rfl rfl ?_
    refine v_callV C (Nat.le_of_ble_eq_true rfl) rfl rfl (As := []) (rest := []) (kX3_keepIfFairer q τ h.1.2.1 q2 q4) rfl (Nat.le_of_ble_eq_true rfl) (Nat.le_of_ble_eq_true rfl) ⟨mlX3_77, mfX3_keepIfFairer⟩ dkX3_keepIfFairer (Nat.le_of_ble_eq_true rfl) dX3_giveFrom_9 rfl (kV ?_)
    exact v_vret C dX3_giveFrom_12 (by rw [hX]; exact ⟨rfl, gv_0 b h7 q2 q4 h⟩)
theorem kX3_giveFromS (bl : Nat → Int32) (n q : Nat) (b : Bls bl n) (h7 : n ≤ 7) (q2 : 2 ≤ q) (q4 : q ≤ 4) (p c lev : Nat) (τ : St) (hp : p < n) (hlv : 3 ≤ lev) (IH : ∀ (c' : Nat) (υ : St), GvP υ bl n q (p + 1) (c' * q ^ (n - (p + 1))) → Ct yX3_giveFrom cX3_giveFrom 3 none lev [.ref 49, .int (nI (p + 1))] υ (rV (fun ψ => GvQ υ ψ bl n q (p + 1) ((c' * q ^ (n - (p + 1))) + q ^ (n - (p + 1)))))) (h : GvP τ bl n q p (c * q ^ (n - p))) : Ct yX3_giveFrom cX3_giveFrom 3 none (lev + 1) [.ref 49, .int (nI p)] τ (rV (fun ψ => GvQ τ ψ bl n q p ((c * q ^ (n - p)) + q ^ (n - p)))) := by
  refine ct_of plX3 rfl (Nat.le_of_ble_eq_true rfl) (fun X hX C => ?_)
  show V X 0 [(0, .ref 49), (1, .int (nI p))] [] τ
  refine v_iload_n C dX3_giveFrom_0 rfl rfl rfl ?_
  refine v_aload_n C dX3_giveFrom_1 rfl rfl rfl ?_
  refine v_getI C (Nat.le_of_ble_eq_true rfl) rfl rfl hinX3 4 (Nat.le_of_ble_eq_true rfl) lkX3_24 rfl dX3_giveFrom_2 rfl ?_
  refine V.tp h.1.1 ?_
  refine v_icmp_lt (tgt := 13) C dX3_giveFrom_5 (by decide) rfl (fun c5 => ?_) (fun c5 => ?_)
  · skip
    have c5 := (nI_ltI (a := p) (b := n) (by omega) (by omega)).mp c5
    refine v_iconst (v := 0) C dX3_giveFrom_13 (by decide) rfl ?_
    refine v_istore_n (lv' := [(2, .int 0), (0, .ref 49), (1, .int (nI p))]) C dX3_giveFrom_14 rfl (Nat.le_of_ble_eq_true rfl) rfl rfl ?_
    have lp15 : ∀ (kf i : Nat)  (ω : St), q < i + kf → i ≤ q → GvQ τ ω bl n q p (c * q ^ (n - p) + i * q ^ (n - 1 - p)) → V X 15 [(2, .int (nI i)), (0, .ref 49), (1, .int (nI p))] [] ω := by
      intro kf
      induction kf with
      | zero => intro i  ω h1 h2; omega
      | succ kf ih15 =>
        intro i  ω h1 h2  eω
        refine v_iload_n C dX3_giveFrom_15 rfl rfl rfl ?_
        refine v_aload_n C dX3_giveFrom_16 rfl rfl rfl ?_
        refine v_getI C (Nat.le_of_ble_eq_true rfl) rfl rfl hinX3 5 (Nat.le_of_ble_eq_true rfl) lkX3_28 rfl dX3_giveFrom_17 rfl ?_
        refine V.tp eω.1.2.1 ?_
        refine v_icmp_ge (tgt := 56) C dX3_giveFrom_20 (by decide) rfl (fun c20 => ?_) (fun c20 => ?_)
        · skip
          have c20 := mt (nI_ltI (a := i) (b := q) (by omega) (by omega)).mpr c20
          exact v_vret C dX3_giveFrom_56 (by rw [hX]; exact ⟨rfl, by rw [← kk_end hp]; exact (show i = q from by omega) ▸ eω⟩)
        · skip
          have c20 := (nI_ltI (a := i) (b := q) (by omega) (by omega)).mp c20
          refine v_aload_n C dX3_giveFrom_23 rfl rfl rfl ?_
          refine v_iload_n C dX3_giveFrom_24 rfl rfl rfl ?_
          refine v_iload_n C dX3_giveFrom_25 rfl rfl rfl ?_
          refine v_callV C (Nat.le_of_ble_eq_true rfl) rfl rfl (As := [.int (nI p), .int (nI i)]) (rest := []) (kX3_give p i n q ω eω.1.1 h7 eω.1.2.1 q4 hp c20) rfl (by omega) (Nat.le_of_ble_eq_true rfl) ⟨mlX3_73, mfX3_give⟩ dkX3_give (Nat.le_of_ble_eq_true rfl) dX3_giveFrom_26 rfl (kV ?_)
          refine V.nm (fun ω1 eω1 => ?_)
          have hG : GvP ω1 bl n q (p + 1) ((c * q + i) * q ^ (n - (p + 1))) := by rw [eω1]; exact gv_give q2 q4 hp c20 h eω
          refine v_aload_n C dX3_giveFrom_29 rfl rfl rfl ?_
          refine v_iload_n C dX3_giveFrom_30 rfl rfl rfl ?_
          refine v_callV C (Nat.le_of_ble_eq_true rfl) rfl rfl (As := [.int (nI i)]) (rest := []) (kX3_canBeFairer i q ω1 hG.1.2.1 q4 c20) rfl (by omega) (Nat.le_of_ble_eq_true rfl) ⟨mlX3_80, mfX3_canBeFairer⟩ dkX3_canBeFairer (Nat.le_of_ble_eq_true rfl) dX3_giveFrom_31 rfl (kI ?_)
          refine v_if_eq (tgt := 44) C dX3_giveFrom_34 (by decide) rfl (fun c34 => ?_) (fun c34 => ?_)
          · skip
            have c34 := bI_0 c34
            have h2 := gv_skip b h7 q2 q4 hp c20 hG c34
            refine v_aload_n C dX3_giveFrom_44 rfl rfl rfl ?_
            refine v_iload_n C dX3_giveFrom_45 rfl rfl rfl ?_
            refine v_iload_n C dX3_giveFrom_46 rfl rfl rfl ?_
            refine v_callV C (Nat.le_of_ble_eq_true rfl) rfl rfl (As := [.int (nI p), .int (nI i)]) (rest := []) (kX3_takeBack p i n q ω1 h2.1.1 h7 h2.1.2.1 q4 hp c20) rfl (by omega) (Nat.le_of_ble_eq_true rfl) ⟨mlX3_84, mfX3_takeBack⟩ dkX3_takeBack (Nat.le_of_ble_eq_true rfl) dX3_giveFrom_47 rfl (kV ?_)
            refine v_iinc (lv' := [(2, .int (nI (i + 1))), (0, .ref 49), (1, .int (nI p))]) C dX3_giveFrom_50 rfl (nI_inc i) (Nat.le_of_ble_eq_true rfl) rfl rfl ?_
            refine v_goto (tgt := 15) C dX3_giveFrom_53 (by decide) ?_
            exact V.sub [0, 1, 2] rfl (ih15 (i + 1)  _ (by omega) (by omega)  (by rw [kk_nx hp]; exact gv_back hp eω (eω1 ▸ h2) (by omega)))
          · skip
            have c34 := bI_n c34
            refine v_aload_n C dX3_giveFrom_37 rfl rfl rfl ?_
            refine v_iload_n C dX3_giveFrom_38 rfl rfl rfl ?_
            refine v_iconst (v := 1) C dX3_giveFrom_39 (by decide) rfl ?_
            refine v_iadd C dX3_giveFrom_40 rfl ?_
            refine V.tp (nI_add p 1) ?_
            refine v_callS C (As := [.ref 49, .int (nI (p + 1))]) (rest := []) (IH (c * q + i) ω1 hG) rfl (by omega) (Nat.le_of_ble_eq_true rfl) ⟨mlX3_69, mfX3_giveFrom⟩ dkX3_giveFrom (Nat.le_of_ble_eq_true rfl) dX3_giveFrom_41 rfl (krV (fun ω2 h2 => ?_))
            refine v_aload_n C dX3_giveFrom_44 rfl rfl rfl ?_
            refine v_iload_n C dX3_giveFrom_45 rfl rfl rfl ?_
            refine v_iload_n C dX3_giveFrom_46 rfl rfl rfl ?_
            refine v_callV C (Nat.le_of_ble_eq_true rfl) rfl rfl (As := [.int (nI p), .int (nI i)]) (rest := []) (kX3_takeBack p i n q ω2 h2.1.1 h7 h2.1.2.1 q4 hp c20) rfl (by omega) (Nat.le_of_ble_eq_true rfl) ⟨mlX3_84, mfX3_takeBack⟩ dkX3_takeBack (Nat.le_of_ble_eq_true rfl) dX3_giveFrom_47 rfl (kV ?_)
            refine v_iinc (lv' := [(2, .int (nI (i + 1))), (0, .ref 49), (1, .int (nI p))]) C dX3_giveFrom_50 rfl (nI_inc i) (Nat.le_of_ble_eq_true rfl) rfl rfl ?_
            refine v_goto (tgt := 15) C dX3_giveFrom_53 (by decide) ?_
            exact V.sub [0, 1, 2] rfl (ih15 (i + 1)  _ (by omega) (by omega)  (by rw [kk_nx hp]; exact gv_back hp eω (eω1 ▸ h2) (by omega)))
    exact V.sub [0, 1, 2] rfl (lp15 (q + 1) 0  _ (by omega) (by omega)  (gv_rf h))
  · skip
    have c5 := mt (nI_ltI (a := p) (b := n) (by omega) (by omega)).mpr c5
    exact absurd hp c5
theorem kX3_giveFrom (bl : Nat → Int32) (n q : Nat) (b : Bls bl n) (h7 : n ≤ 7) (q2 : 2 ≤ q) (q4 : q ≤ 4) : ∀ (r p c : Nat) (τ : St), p + r = n → GvP τ bl n q p (c * q ^ (n - p)) → Ct yX3_giveFrom cX3_giveFrom 3 none (3 + r) [.ref 49, .int (nI p)] τ (rV (fun ψ => GvQ τ ψ bl n q p ((c * q ^ (n - p)) + q ^ (n - p))))
  | 0, p, c, τ, e, h => by
    have e' : p = n := by omega
    subst e'
    have := kX3_giveFrom0 bl p q b h7 q2 q4 (c * q ^ (p - p)) τ h
    rw [show (c * q ^ (p - p) + 1) = c * q ^ (p - p) + q ^ (p - p) from by rw [Nat.sub_self, Nat.pow_zero]] at this
    exact this
  | r + 1, p, c, τ, e, h => kX3_giveFromS bl n q b h7 q2 q4 p c (3 + r) τ (by omega) (by omega) (fun c' υ hv => kX3_giveFrom bl n q b h7 q2 q4 r (p + 1) c' υ (by omega) hv) h
