/-! the class: placeFrom, search -/
theorem pl_n {σ τ : St} {n K : Nat} {v w : Int32} {row : Nat → Int32} (hn : σ 27 7 = nI n) (h : PlQ σ τ n v w row K) : τ 27 7 = nI n := by
  rw [h.1.1 27 (by decide) (by decide) (by decide)]; exact hn
theorem fp_top {ok : Nat → Prop} {F : Nat → Int32} {m : Int32} (h0 : (-9 : Int32) < m) (h : ∀ k, F k < m) : ∀ K, (fpN ok F K).2 < m
  | 0 => h0
  | K + 1 => by
    rw [fpN]
    by_cases c : ok K
    · rw [cI_t c]; split
      · exact h K
      · exact fp_top h0 h K
    · rw [cI_f c]; exact fp_top h0 h K
theorem nar01 {w : Int32} (h : w = 0 ∨ w = 1) : narrow .boolean (.int w) = .int w := by rcases h with rfl | rfl <;> rfl
theorem fit01 {w : Int32} (h : w = 0 ∨ w = 1) : fits FieldType.boolean (.int w) = true := by rcases h with rfl | rfl <;> rfl
theorem fP_b {σ : St} {n : Nat} (hs : Sm27 σ n) (h7 : n ≤ 7) (w : Int32) (k : Nat) : ¬ fP σ n w k < 0 ∧ fP σ n w k < 1000000 := by
  have := cst_b hs h7 w (dig 6 n k) n
  have e2 : (1000000 : Int32).toInt = 1000000 := rfl
  rw [i32_z, i32_lt, e2]
  unfold fP
  exact ⟨by omega, by omega⟩
theorem pl_start {σ τ : St} {n : Nat} {v w : Int32} (e : τ = setR (s2 (s2 (s2 σ 47 2 v) 47 3 w) 47 4 1000000) (27 + 5) (pre 7 (fun _ => 9) (σ (27 + 5)))) : PlP σ τ n v w 0 (0 * 6 ^ (n - 0)) := by
  subst e
  refine ⟨⟨⟨fun a h1 h2 h3 => ?_, ?_, ?_⟩, fun j hj => ?_, ?_⟩, fun j hj => absurd hj (Nat.not_lt_zero j), ?_⟩
  · rw [setR_o _ _ _ _ h3, s2_ne h1, s2_ne h1, s2_ne h1]
  · rw [setR_o _ _ _ _ (by decide), s2_get, if_neg (by decide), s2_get, if_neg (by decide), s2_get, if_pos ⟨rfl, rfl⟩]
  · rw [setR_o _ _ _ _ (by decide), s2_get, if_neg (by decide), s2_get, if_pos ⟨rfl, rfl⟩]
  · rw [setR_k, pre, if_pos hj, plt, if_neg (Nat.not_lt_zero j)]
  · rw [setR_o _ _ _ _ (by decide), s2_get, if_pos ⟨rfl, rfl⟩, Nat.zero_mul]
    exact ⟨fun _ => rfl, fun z => absurd (show (-9 : Int32) < 0 by decide) z⟩
  · rw [setR_o _ _ _ _ (by decide), s2_get, if_pos ⟨rfl, rfl⟩, cst_0]; decide
theorem pl_end {σ ψ : St} {n : Nat} {v w : Int32} {row : Nat → Int32} (hs : Sm27 σ n) (h7 : n ≤ 7) (h : PlQ σ ψ n v w row (0 * 6 ^ (n - 0) + 6 ^ (n - 0))) : (ψ 47 4 = 1000000 → (-9 : Int32) = (fpN (okP σ n v) (fP σ n w) (6 ^ n)).2) ∧ (¬ ψ 47 4 = 1000000 → ψ 47 4 = (fpN (okP σ n v) (fP σ n w) (6 ^ n)).2) ∧ (¬ (fpN (okP σ n v) (fP σ n w) (6 ^ n)).2 < 0 → ∀ p, p < n → ψ 48 p = plc n (fpN (okP σ n v) (fP σ n w) (6 ^ n)).1 p) := by
  have hf := h.2.2
  rw [Nat.zero_mul, Nat.zero_add, Nat.sub_zero] at hf
  have hn := fp_neg (ok := okP σ n v) (F := fP σ n w) (fun k _ => (fP_b hs h7 w k).1) (6 ^ n)
  have ht := fp_top (ok := okP σ n v) (F := fP σ n w) (m := 1000000) (by decide) (fun k => (fP_b hs h7 w k).2) (6 ^ n)
  refine ⟨fun e => ?_, fun e => ?_, fun z => (hf.2 z).2⟩
  · by_cases z : (fpN (okP σ n v) (fP σ n w) (6 ^ n)).2 < 0
    · exact (hn z).symm
    · have := (hf.2 z).1
      rw [e] at this; rw [← this] at ht
      exact absurd ht (by decide)
  · by_cases z : (fpN (okP σ n v) (fP σ n w) (6 ^ n)).2 < 0
    · exact absurd (hf.1 z) e
    · exact (hf.2 z).1
theorem kX1_placeFrom0 (σ : St) (n : Nat) (v w : Int32) (hs : Sm27 σ n) (hn : σ 27 7 = nI n) (h7 : n ≤ 7) (K : Nat) (τ : St) (co : Int32) (hc : co = cst σ n w (dig 6 n K) n) (h : PlP σ τ n v w n K) : Ct yX1_placeFrom cX1_placeFrom 5 none 5 [.ref 47, .int (nI n), .int co] τ (rV (fun υ => PlQ σ υ n v w (plt (dig 6 n K) n) (K + 1))) := by
  refine ct_of plX1 rfl (Nat.le_of_ble_eq_true rfl) (fun X hX C => ?_)
  show V X 0 [(0, .ref 47), (1, .int (nI n)), (2, .int co)] [] τ
  refine v_iload_n C dX1_placeFrom_0 rfl rfl rfl ?_
  refine v_aload_n C dX1_placeFrom_1 rfl rfl rfl ?_
  refine v_getR C (Nat.le_of_ble_eq_true rfl) rfl rfl hinX1 0 (Nat.le_of_ble_eq_true rfl) lkX1_27 rfl dX1_placeFrom_2 rfl ?_
  refine v_getNI C hh27.l0 hh27.s0 rfl hinX0 7 (Nat.le_of_ble_eq_true rfl) lkX1_44 rfl dX1_placeFrom_5 rfl ?_
  refine V.tp (pl_n hn h.1) ?_
  refine v_icmp_ge (tgt := 17) C dX1_placeFrom_8 (by decide) rfl (fun c8 => ?_) (fun c8 => ?_)
  · skip
    have c8 := mt (nI_ltI (a := n) (b := n) (by omega) (by omega)).mpr c8
    refine v_aload_n C dX1_placeFrom_17 rfl rfl rfl ?_
    refine v_iload_n C dX1_placeFrom_18 rfl rfl rfl ?_
    refine v_callV C (Nat.le_of_ble_eq_true rfl) rfl rfl (As := [.int co]) (rest := []) (kX1_keep co τ) rfl (Nat.le_of_ble_eq_true rfl) (Nat.le_of_ble_eq_true rfl) ⟨mlX1_47, mfX1_keep⟩ dkX1_keep (Nat.le_of_ble_eq_true rfl) dX1_placeFrom_19 rfl (kV ?_)
    exact v_vret C dX1_placeFrom_22 (by rw [hX]; exact ⟨rfl, pl_keep hs h7 h (by rw [hc])⟩)
  · skip
    have c8 := (nI_ltI (a := n) (b := n) (by omega) (by omega)).mp c8
    exfalso; omega
theorem kX1_placeFromS (σ : St) (n : Nat) (v w : Int32) (hs : Sm27 σ n) (hn : σ 27 7 = nI n) (h7 : n ≤ 7) (p c lev : Nat) (τ : St) (co : Int32) (hc : co = cst σ n w (dig 6 n (c * 6 ^ (n - p))) p) (hp : p < n) (hlv : 5 ≤ lev) (IH : ∀ (c' : Nat) (υ : St), PlP σ υ n v w (p + 1) (c' * 6 ^ (n - (p + 1))) → Ct yX1_placeFrom cX1_placeFrom 5 none lev [.ref 47, .int (nI (p + 1)), .int (cst σ n w (dig 6 n (c' * 6 ^ (n - (p + 1)))) (p + 1))] υ (rV (fun ψ => PlQ σ ψ n v w (plt (dig 6 n (c' * 6 ^ (n - (p + 1)))) (p + 1)) ((c' * 6 ^ (n - (p + 1))) + 6 ^ (n - (p + 1)))))) (h : PlP σ τ n v w p (c * 6 ^ (n - p))) : Ct yX1_placeFrom cX1_placeFrom 5 none (lev + 1) [.ref 47, .int (nI p), .int co] τ (rV (fun ψ => PlQ σ ψ n v w (plt (dig 6 n (c * 6 ^ (n - p))) p) ((c * 6 ^ (n - p)) + 6 ^ (n - p)))) := by
  refine ct_of plX1 rfl (Nat.le_of_ble_eq_true rfl) (fun X hX C => ?_)
  show V X 0 [(0, .ref 47), (1, .int (nI p)), (2, .int co)] [] τ
  refine v_iload_n C dX1_placeFrom_0 rfl rfl rfl ?_
  refine v_aload_n C dX1_placeFrom_1 rfl rfl rfl ?_
  refine v_getR C (Nat.le_of_ble_eq_true rfl) rfl rfl hinX1 0 (Nat.le_of_ble_eq_true rfl) lkX1_27 rfl dX1_placeFrom_2 rfl ?_
  refine v_getNI C hh27.l0 hh27.s0 rfl hinX0 7 (Nat.le_of_ble_eq_true rfl) lkX1_44 rfl dX1_placeFrom_5 rfl ?_
  refine V.tp (pl_n hn h.1) ?_
  refine v_icmp_ge (tgt := 17) C dX1_placeFrom_8 (by decide) rfl (fun c8 => ?_) (fun c8 => ?_)
  · skip
    have c8 := mt (nI_ltI (a := p) (b := n) (by omega) (by omega)).mpr c8
    exfalso; omega
  · skip
    have c8 := (nI_ltI (a := p) (b := n) (by omega) (by omega)).mp c8
    refine v_iload_n C dX1_placeFrom_11 rfl rfl rfl ?_
    refine v_bipush (v := 7) C dX1_placeFrom_12 (by decide) rfl ?_
    refine v_icmp_lt (tgt := 23) C dX1_placeFrom_14 (by decide) rfl (fun c14 => ?_) (fun c14 => ?_)
    · skip
      have c14 := (nI_ltI (a := p) (b := 7) (by omega) (by omega)).mp c14
      refine v_iconst (v := 0) C dX1_placeFrom_23 (by decide) rfl ?_
      refine v_istore_n (lv' := [(3, .int 0), (0, .ref 47), (1, .int (nI p)), (2, .int co)]) C dX1_placeFrom_24 rfl (Nat.le_of_ble_eq_true rfl) rfl rfl ?_
      have lp25 : ∀ (kf i : Nat)  (ω : St), 6 < i + kf → i ≤ 6 → PlQ σ ω n v w (plt (dig 6 n (c * 6 ^ (n - p))) p) (kN n p c i) → V X 25 [(3, .int (nI i)), (0, .ref 47), (1, .int (nI p)), (2, .int co)] [] ω := by
        intro kf
        induction kf with
        | zero => intro i  ω h1 h2; omega
        | succ kf ih25 =>
          intro i  ω h1 h2  eω
          refine v_iload_n C dX1_placeFrom_25 rfl rfl rfl ?_
          refine v_bipush (v := 6) C dX1_placeFrom_26 (by decide) rfl ?_
          refine v_icmp_ge (tgt := 93) C dX1_placeFrom_28 (by decide) rfl (fun c28 => ?_) (fun c28 => ?_)
          · skip
            have c28 := mt (nI_ltI (a := i) (b := 6) (by omega) (by omega)).mpr c28
            exact v_vret C dX1_placeFrom_93 (by rw [hX]; exact ⟨rfl, by rw [← kN_6 hp]; exact (show i = 6 from by omega) ▸ eω⟩)
          · skip
            have c28 := (nI_ltI (a := i) (b := 6) (by omega) (by omega)).mp c28
            refine v_aload_n C dX1_placeFrom_31 rfl rfl rfl ?_
            refine v_iload_n C dX1_placeFrom_32 rfl rfl rfl ?_
            refine v_iload_n C dX1_placeFrom_33 rfl rfl rfl ?_
            refine v_callV C (Nat.le_of_ble_eq_true rfl) rfl rfl (As := [.int (nI p), .int (nI i)]) (rest := []) (kX1_mayStand p i n ω (pl_n hn eω) h7 hp) rfl (by omega) (Nat.le_of_ble_eq_true rfl) ⟨mlX1_51, mfX1_mayStand⟩ dkX1_mayStand (Nat.le_of_ble_eq_true rfl) dX1_placeFrom_34 rfl (kI ?_)
            refine v_if_eq (tgt := 87) C dX1_placeFrom_37 (by decide) rfl (fun c37 => ?_) (fun c37 => ?_)
            · skip
              have c37 := bI_0 c37
              have hN := pl_no hp c28 eω (fun z => c37 ((ms_iff h7 hp c28 eω).mpr z))
              refine v_iinc (lv' := [(3, .int (nI (i + 1))), (0, .ref 47), (1, .int (nI p)), (2, .int co)]) C dX1_placeFrom_87 rfl (nI_inc i) (Nat.le_of_ble_eq_true rfl) rfl rfl ?_
              refine v_goto (tgt := 25) C dX1_placeFrom_90 (by decide) ?_
              exact V.sub [0, 1, 2, 3] rfl (ih25 (i + 1)  _ (by omega) (by omega)  (hN))
            · skip
              have c37 := bI_n c37
              refine v_aload_n C dX1_placeFrom_40 rfl rfl rfl ?_
              refine v_getR C (Nat.le_of_ble_eq_true rfl) rfl rfl hinX1 0 (Nat.le_of_ble_eq_true rfl) lkX1_27 rfl dX1_placeFrom_41 rfl ?_
              refine v_getNR C hh27.l0 hh27.s0 rfl hinX0 4 (Nat.le_of_ble_eq_true rfl) lkX1_55 rfl dX1_placeFrom_44 rfl ?_
              refine v_iload_n C dX1_placeFrom_47 rfl rfl rfl ?_
              refine v_iload_n C dX1_placeFrom_48 rfl rfl rfl ?_
              refine v_iast (i := p) C hh27.l5 hh27.s5 rfl (by omega) (by decide) dX1_placeFrom_49 rfl ?_
              refine V.nm (fun τ49_1 eτ49_1 => ?_)
              have hQ := pl_put hp c28 eω eτ49_1
              refine v_aload_n C dX1_placeFrom_50 rfl rfl rfl ?_
              refine v_iload_n C dX1_placeFrom_51 rfl rfl rfl ?_
              refine v_iload_n C dX1_placeFrom_52 rfl rfl rfl ?_
              refine v_callV C (Nat.le_of_ble_eq_true rfl) rfl rfl (As := [.int (nI i), .int co]) (rest := []) (kX1_costWith (nI i) co n τ49_1 (pl_n hn hQ) h7) rfl (by omega) (Nat.le_of_ble_eq_true rfl) ⟨mlX1_58, mfX1_costWith⟩ dkX1_costWith (Nat.le_of_ble_eq_true rfl) dX1_placeFrom_53 rfl (kI ?_)
              refine V.tp (show costH τ49_1 n (nI i) co = cst σ n w (dig 6 n (kN n p c i)) (p + 1) from by rw [hc]; exact pl_cost hs h7 hp c28 hQ) ?_
              refine v_istore (lv' := [(4, .int (cst σ n w (dig 6 n (kN n p c i)) (p + 1))), (3, .int (nI i)), (0, .ref 47), (1, .int (nI p)), (2, .int co)]) C dX1_placeFrom_56 (Nat.le_of_ble_eq_true rfl) rfl rfl ?_
              refine v_iload C dX1_placeFrom_58 rfl rfl ?_
              refine v_aload_n C dX1_placeFrom_60 rfl rfl rfl ?_
              refine v_getI C (Nat.le_of_ble_eq_true rfl) rfl rfl hinX1 4 (Nat.le_of_ble_eq_true rfl) lkX1_24 rfl dX1_placeFrom_61 rfl ?_
              refine v_icmp_ge (tgt := 76) C dX1_placeFrom_64 (by decide) rfl (fun c64 => ?_) (fun c64 => ?_)
              · skip
                have hH : PlQ σ τ49_1 n v w (plt (dig 6 n (kN n p c i)) (p + 1)) (kN n p c (i + 1)) := by rw [← kN_s]; exact pl_high hs h7 hp c28 hQ c64
                refine v_aload_n C dX1_placeFrom_76 rfl rfl rfl ?_
                refine v_getR C (Nat.le_of_ble_eq_true rfl) rfl rfl hinX1 0 (Nat.le_of_ble_eq_true rfl) lkX1_27 rfl dX1_placeFrom_77 rfl ?_
                refine v_getNR C hh27.l0 hh27.s0 rfl hinX0 4 (Nat.le_of_ble_eq_true rfl) lkX1_55 rfl dX1_placeFrom_80 rfl ?_
                refine v_iload_n C dX1_placeFrom_83 rfl rfl rfl ?_
                refine v_bipush (v := 9) C dX1_placeFrom_84 (by decide) rfl ?_
                refine v_iast (i := p) C hh27.l5 hh27.s5 rfl (by omega) (by decide) dX1_placeFrom_86 rfl ?_
                refine V.nm (fun τ86_2 eτ86_2 => ?_)
                have hN := pl_und hp c28 hH eτ86_2
                refine v_iinc (lv' := [(3, .int (nI (i + 1))), (4, .int (cst σ n w (dig 6 n (kN n p c i)) (p + 1))), (0, .ref 47), (1, .int (nI p)), (2, .int co)]) C dX1_placeFrom_87 rfl (nI_inc i) (Nat.le_of_ble_eq_true rfl) rfl rfl ?_
                refine v_goto (tgt := 25) C dX1_placeFrom_90 (by decide) ?_
                exact V.sub [0, 2, 3, 4] rfl (ih25 (i + 1)  _ (by omega) (by omega)  (hN))
              · skip
                refine v_aload_n C dX1_placeFrom_67 rfl rfl rfl ?_
                refine v_iload_n C dX1_placeFrom_68 rfl rfl rfl ?_
                refine v_iconst (v := 1) C dX1_placeFrom_69 (by decide) rfl ?_
                refine v_iadd C dX1_placeFrom_70 rfl ?_
                refine V.tp (nI_add p 1) ?_
                refine v_iload C dX1_placeFrom_71 rfl rfl ?_
                refine v_callS C (As := [.ref 47, .int (nI (p + 1)), .int (cst σ n w (dig 6 n (kN n p c i)) (p + 1))]) (rest := []) (IH (c * 6 + i) τ49_1 ⟨hQ, okS_more hp c28 h.2.1 ((ms_iff h7 hp c28 eω).mp c37), c64⟩) rfl (by omega) (Nat.le_of_ble_eq_true rfl) ⟨mlX1_36, mfX1_placeFrom⟩ dkX1_placeFrom (Nat.le_of_ble_eq_true rfl) dX1_placeFrom_73 rfl (krV (fun ω2 h2 => ?_))
                have hH : PlQ σ ω2 n v w (plt (dig 6 n (kN n p c i)) (p + 1)) (kN n p c (i + 1)) := by rw [← kN_s]; exact h2
                refine v_aload_n C dX1_placeFrom_76 rfl rfl rfl ?_
                refine v_getR C (Nat.le_of_ble_eq_true rfl) rfl rfl hinX1 0 (Nat.le_of_ble_eq_true rfl) lkX1_27 rfl dX1_placeFrom_77 rfl ?_
                refine v_getNR C hh27.l0 hh27.s0 rfl hinX0 4 (Nat.le_of_ble_eq_true rfl) lkX1_55 rfl dX1_placeFrom_80 rfl ?_
                refine v_iload_n C dX1_placeFrom_83 rfl rfl rfl ?_
                refine v_bipush (v := 9) C dX1_placeFrom_84 (by decide) rfl ?_
                refine v_iast (i := p) C hh27.l5 hh27.s5 rfl (by omega) (by decide) dX1_placeFrom_86 rfl ?_
                refine V.nm (fun τ86_3 eτ86_3 => ?_)
                have hN := pl_und hp c28 hH eτ86_3
                refine v_iinc (lv' := [(3, .int (nI (i + 1))), (4, .int (cst σ n w (dig 6 n (kN n p c i)) (p + 1))), (0, .ref 47), (1, .int (nI p)), (2, .int co)]) C dX1_placeFrom_87 rfl (nI_inc i) (Nat.le_of_ble_eq_true rfl) rfl rfl ?_
                refine v_goto (tgt := 25) C dX1_placeFrom_90 (by decide) ?_
                exact V.sub [0, 2, 3, 4] rfl (ih25 (i + 1)  _ (by omega) (by omega)  (hN))
      exact V.sub [0, 1, 2, 3] rfl (lp25 (6 + 1) 0  _ (by omega) (by omega)  (by rw [kN_0 hp]; exact h.1))
    · skip
      have c14 := mt (nI_ltI (a := p) (b := 7) (by omega) (by omega)).mpr c14
      exfalso; omega
theorem kX1_placeFrom (σ : St) (n : Nat) (v w : Int32) (hs : Sm27 σ n) (hn : σ 27 7 = nI n) (h7 : n ≤ 7) : ∀ (r p c : Nat) (τ : St) (co : Int32), p + r = n → co = cst σ n w (dig 6 n (c * 6 ^ (n - p))) p → PlP σ τ n v w p (c * 6 ^ (n - p)) → Ct yX1_placeFrom cX1_placeFrom 5 none (5 + r) [.ref 47, .int (nI p), .int co] τ (rV (fun ψ => PlQ σ ψ n v w (plt (dig 6 n (c * 6 ^ (n - p))) p) ((c * 6 ^ (n - p)) + 6 ^ (n - p))))
  | 0, p, c, τ, co, e, hc, h => by
    have e' : p = n := by omega
    subst e'
    have := kX1_placeFrom0 σ p v w hs hn h7 (c * 6 ^ (p - p)) τ co hc h
    rw [show (c * 6 ^ (p - p) + 1) = c * 6 ^ (p - p) + 6 ^ (p - p) from by rw [Nat.sub_self, Nat.pow_zero]] at this
    exact this
  | r + 1, p, c, τ, co, e, hc, h => kX1_placeFromS σ n v w hs hn h7 p c (5 + r) τ co hc (by omega) (by omega) (fun c' υ hv => kX1_placeFrom σ n v w hs hn h7 r (p + 1) c' υ _ (by omega) rfl hv) h
theorem kX1_search (σ : St) (n : Nat) (v w : Int32) (hw : w = 0 ∨ w = 1) (hs : Sm27 σ n) (hn : σ 27 7 = nI n) (h5 : n ≤ 5) : Ct yX1_search cX1_search 3 (some .int) 11 [.ref 47, .int v, .int w] σ (rI (fun r υ => r = (fpN (okP σ n v) (fP σ n w) (6 ^ n)).2 ∧ (¬ (fpN (okP σ n v) (fP σ n w) (6 ^ n)).2 < 0 → ∀ p, p < n → υ 48 p = plc n (fpN (okP σ n v) (fP σ n w) (6 ^ n)).1 p) ∧ ∀ a, a ≠ 47 → a ≠ 48 → a ≠ 27 + 5 → υ a = σ a)) := by
  have h7 : n ≤ 7 := by omega
  refine ct_of plX1 rfl (Nat.le_of_ble_eq_true rfl) (fun X hX C => ?_)
  show V X 0 [(0, .ref 47), (1, .int v), (2, .int w)] [] σ
  refine v_aload_n C dX1_search_0 rfl rfl rfl ?_
  refine v_iload_n C dX1_search_1 rfl rfl rfl ?_
  refine v_put (ty := .int) C (Nat.le_of_ble_eq_true rfl) rfl rfl hinX1 tyX1_ok nmX1 2 (Nat.le_of_ble_eq_true rfl) lkX1_15 rfl (by decide +kernel) rfl rfl rfl dX1_search_2 rfl ?_
  refine V.nm (fun τ2_1 eτ2_1 => ?_)
  refine v_aload_n C dX1_search_5 rfl rfl rfl ?_
  refine v_iload_n C dX1_search_6 rfl rfl rfl ?_
  refine v_put (ty := .boolean) C (Nat.le_of_ble_eq_true rfl) rfl rfl hinX1 tyX1_ok nmX1 3 (Nat.le_of_ble_eq_true rfl) lkX1_19 rfl (by decide +kernel) (nar01 hw) (fit01 hw) rfl dX1_search_7 rfl ?_
  refine V.nm (fun τ7_2 eτ7_2 => ?_)
  refine v_aload_n C dX1_search_10 rfl rfl rfl ?_
  refine v_ldc C kcX1_23 dX1_search_11 rfl ?_
  refine v_put (ty := .int) C (Nat.le_of_ble_eq_true rfl) rfl rfl hinX1 tyX1_ok nmX1 4 (Nat.le_of_ble_eq_true rfl) lkX1_24 rfl (by decide +kernel) rfl rfl rfl dX1_search_13 rfl ?_
  refine V.nm (fun τ13_3 eτ13_3 => ?_)
  refine v_aload_n C dX1_search_16 rfl rfl rfl ?_
  refine v_getR C (Nat.le_of_ble_eq_true rfl) rfl rfl hinX1 0 (Nat.le_of_ble_eq_true rfl) lkX1_27 rfl dX1_search_17 rfl ?_
  refine v_callVN C hh27.l0 hh27.s0 rfl (As := []) (rest := []) (kX0_emptyRooms 27 hh27 τ13_3) rfl (Nat.le_of_ble_eq_true rfl) (Nat.le_of_ble_eq_true rfl) ⟨mlX1_31, mfX0_emptyRooms⟩ dkX0_emptyRooms (Nat.le_of_ble_eq_true rfl) dX1_search_20 rfl (kV ?_)
  refine V.nm (fun τe eτe => ?_)
  have hP : PlP σ τe n v w 0 (0 * 6 ^ (n - 0)) := pl_start (by rw [eτe, eτ13_3, eτ7_2, eτ2_1]; rfl)
  refine v_aload_n C dX1_search_23 rfl rfl rfl ?_
  refine v_iconst (v := 0) C dX1_search_24 (by decide) rfl ?_
  refine v_iconst (v := 0) C dX1_search_25 (by decide) rfl ?_
  refine v_callS C (As := [.ref 47, .int 0, .int 0]) (rest := []) (kX1_placeFrom σ n v w hs hn h7 n 0 0 τe 0 (by omega) (cst_0 σ n w _).symm hP) rfl (by omega) (Nat.le_of_ble_eq_true rfl) ⟨mlX1_36, mfX1_placeFrom⟩ dkX1_placeFrom (Nat.le_of_ble_eq_true rfl) dX1_search_26 rfl (krV (fun ψ hψ => ?_))
  have hE := pl_end hs h7 hψ
  refine v_aload_n C dX1_search_29 rfl rfl rfl ?_
  refine v_getI C (Nat.le_of_ble_eq_true rfl) rfl rfl hinX1 4 (Nat.le_of_ble_eq_true rfl) lkX1_24 rfl dX1_search_30 rfl ?_
  refine v_ldc C kcX1_23 dX1_search_33 rfl ?_
  refine v_icmp_ne (tgt := 43) C dX1_search_35 (by decide) rfl (fun c35 => ?_) (fun c35 => ?_)
  · skip
    refine v_aload_n C dX1_search_43 rfl rfl rfl ?_
    refine v_getI C (Nat.le_of_ble_eq_true rfl) rfl rfl hinX1 4 (Nat.le_of_ble_eq_true rfl) lkX1_24 rfl dX1_search_44 rfl ?_
    exact v_iret C dX1_search_47 (by rw [hX]; exact ⟨_, rfl, hE.2.1 c35, hE.2.2, hψ.1.1⟩)
  · skip
    refine v_bipush (v := -9) C dX1_search_38 (by decide) rfl ?_
    refine v_goto (tgt := 47) C dX1_search_40 (by decide) ?_
    exact v_iret C dX1_search_47 (by rw [hX]; exact ⟨_, rfl, hE.1 c35, hE.2.2, hψ.1.1⟩)
