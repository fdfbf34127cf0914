/-! the check's class: refusals, carrying, years -/
theorem room_nat {r : Int32} (h : roomP r) : r = nI r.toNatClampNeg ∧ r.toNatClampNeg < 6 := by
  obtain ⟨j, hj, e⟩ := vp_in_of (n := 6) (x := r) (by
    intro q
    rcases q with q | q
    · exact h.1 q
    · have h2 := h.2
      have h1 := h.1
      rw [Int32.lt_iff_toInt_lt] at h1 h2
      rw [show (0 : Int32).toInt = 0 from rfl] at h1
      rw [show (6 : Int32).toInt = 6 from rfl] at h2
      have : r.toNatClampNeg = r.toInt.toNat := rfl
      omega) (by decide)
  subst e
  rw [nI_clamp (by omega)]
  exact ⟨rfl, hj⟩
def noS (σ : St) (j : Nat) : St := s2 σ 1 j (σ 1 j + 1)
def gbP (a r : Int32) (f : Nat) : Prop := ¬ a = 9 ∧ ¬ (a / 2 < nI f ↔ r / 2 < nI f)
def blkP (kd bk sr : Nat → Int32) (a r : Int32) (p f : Nat) : Prop := gbP a r f ∧ sr f < widF kd bk p
def carP (kd bk pl sz sr : Nat → Int32) (n p : Nat) (r : Int32) : Prop := ¬ r = pl p ∧ (r = 9 ∨ (¬ sz r.toNatClampNeg < bulF bk pl n r + bk p ∧ ∀ f, 1 ≤ f → f < 3 → ¬ blkP kd bk sr (pl p) r p f))
theorem bnd_cases (v a b : Int32) : (bnd v a b = -4 ∧ v < a) ∨ (bnd v a b = -6 ∧ ¬ v < a ∧ b < v) ∨ (bnd v a b = 0 ∧ ¬ v < a ∧ ¬ b < v) := by
  unfold bnd
  by_cases h1 : v < a
  · left; simp [h1]
  · by_cases h2 : b < v
    · right; left; simp [h1, h2]
    · right; right; simp [h1, h2]
def setR (σ : St) (k : Nat) (f : Nat → Int32) : St := fun a => if a = k then f else σ a
theorem setR_get (σ : St) (k : Nat) (f : Nat → Int32) (a : Nat) : setR σ k f a = if a = k then f else σ a := rfl
theorem s2_row (σ : St) (k j : Nat) (v : Int32) (a : Nat) : s2 σ k j v a = if a = k then upd (σ k) j v else σ a := rfl
def pre (i : Nat) (g f : Nat → Int32) : Nat → Int32 := fun p => if p < i then g p else f p
theorem pre_0 (g f : Nat → Int32) : pre 0 g f = f := by funext p; simp [pre]
theorem pre_upd (i : Nat) (g f : Nat → Int32) {v : Int32} (h : v = g i) : upd (pre i g f) i v = pre (i + 1) g f := by
  subst h
  funext p
  unfold upd pre
  by_cases h1 : p = i
  · subst h1; simp
  · by_cases h2 : p < i
    · simp [h1, h2, show p < i + 1 by omega]
    · simp [h1, h2, show ¬ p < i + 1 by omega]
theorem pre_at (i : Nat) (g f : Nat → Int32) : pre i g f i = f i := by simp [pre]
theorem kX6_no (w : Int32) (j : Nat) (σ : St) (hj : -w = nI j) (hj7 : j < 7) : Ct yX6_no cX6_no 2 (some .int) 0 [.ref 0, .int w] σ (fI w (noS σ j)) := by
  refine ct_of plX6 rfl (Nat.le_of_ble_eq_true rfl) (fun X hX C => ?_)
  show V X 0 [(0, .ref 0), (1, .int w)] [] σ
  refine v_aload_n C dX6_no_0 rfl rfl rfl ?_
  refine v_getR C (Nat.le_of_ble_eq_true rfl) rfl rfl hinX6 0 (Nat.le_of_ble_eq_true rfl) lkX6_7 rfl dX6_no_1 rfl ?_
  refine v_iload_n C dX6_no_4 rfl rfl rfl ?_
  refine v_ineg C dX6_no_5 rfl ?_
  refine v_dup2 C dX6_no_6 rfl rfl rfl ?_
  refine v_iald (i := j) C (Nat.le_of_ble_eq_true rfl) rfl hj hj7 (by decide) dX6_no_7 rfl ?_
  refine v_iconst (v := 1) C dX6_no_8 (by decide) rfl ?_
  refine v_iadd C dX6_no_9 rfl ?_
  refine v_iast (i := j) C (Nat.le_of_ble_eq_true rfl) rfl hj hj7 (by decide) dX6_no_10 rfl ?_
  refine V.nm (fun τ10_1 eτ10_1 => ?_)
  refine v_iload_n C dX6_no_11 rfl rfl rfl ?_
  exact v_iret C dX6_no_12 (by rw [hX]; exact fI_of rfl eτ10_1)
theorem kX6_canCarry (n p : Nat) (r : Int32) (σ : St) (hn : σ 0 8 = nI n) (h7 : n ≤ 7) (hp : p < n) (hr : placeP r) : Ct yX6_canCarry cX6_canCarry 6 (some .boolean) 1 [.ref 0, .int (nI p), .int r] σ (fI (bI (carP (σ 4) (σ 5) (σ 8) (σ 2) (σ 3) n p r)) σ) := by
  refine ct_of plX6 rfl (Nat.le_of_ble_eq_true rfl) (fun X hX C => ?_)
  show V X 0 [(0, .ref 0), (1, .int (nI p)), (2, .int r)] [] σ
  refine v_aload_n C dX6_canCarry_0 rfl rfl rfl ?_
  refine v_getR C (Nat.le_of_ble_eq_true rfl) rfl rfl hinX6 7 (Nat.le_of_ble_eq_true rfl) lkX6_31 rfl dX6_canCarry_1 rfl ?_
  refine v_iload_n C dX6_canCarry_4 rfl rfl rfl ?_
  refine v_iald (i := p) C (Nat.le_of_ble_eq_true rfl) rfl rfl (by omega) (by decide) dX6_canCarry_5 rfl ?_
  refine V.top (fun v6_1 ev6_1 => ?_)
  refine v_istore_n (lv' := [(3, .int v6_1), (0, .ref 0), (1, .int (nI p)), (2, .int r)]) C dX6_canCarry_6 rfl (Nat.le_of_ble_eq_true rfl) rfl rfl ?_
  refine v_iload_n C dX6_canCarry_7 rfl rfl rfl ?_
  refine v_iload_n C dX6_canCarry_8 rfl rfl rfl ?_
  refine v_icmp_ne (tgt := 14) C dX6_canCarry_9 (by decide) rfl (fun c9 => ?_) (fun c9 => ?_)
  · skip
    refine v_iload_n C dX6_canCarry_14 rfl rfl rfl ?_
    refine v_bipush (v := 9) C dX6_canCarry_15 (by decide) rfl ?_
    refine v_icmp_ne (tgt := 22) C dX6_canCarry_17 (by decide) rfl (fun c17 => ?_) (fun c17 => ?_)
    · skip
      have hrm : roomP r := hr.elim id (fun q => absurd q c17)
      refine v_aload_n C dX6_canCarry_22 rfl rfl rfl ?_
      refine v_iload_n C dX6_canCarry_23 rfl rfl rfl ?_
      refine v_callV C (Nat.le_of_ble_eq_true rfl) rfl rfl (As := [.int r]) (rest := []) (kX6_bulkIn n r σ hn h7) rfl (Nat.le_of_ble_eq_true rfl) (Nat.le_of_ble_eq_true rfl) ⟨mlX6_125, mfX6_bulkIn⟩ dkX6_bulkIn (Nat.le_of_ble_eq_true rfl) dX6_canCarry_24 rfl (kI ?_)
      refine v_aload_n C dX6_canCarry_27 rfl rfl rfl ?_
      refine v_getR C (Nat.le_of_ble_eq_true rfl) rfl rfl hinX6 4 (Nat.le_of_ble_eq_true rfl) lkX6_22 rfl dX6_canCarry_28 rfl ?_
      refine v_iload_n C dX6_canCarry_31 rfl rfl rfl ?_
      refine v_iald (i := p) C (Nat.le_of_ble_eq_true rfl) rfl rfl (by omega) (by decide) dX6_canCarry_32 rfl ?_
      refine v_iadd C dX6_canCarry_33 rfl ?_
      refine v_aload_n C dX6_canCarry_34 rfl rfl rfl ?_
      refine v_getR C (Nat.le_of_ble_eq_true rfl) rfl rfl hinX6 1 (Nat.le_of_ble_eq_true rfl) lkX6_13 rfl dX6_canCarry_35 rfl ?_
      refine v_iload_n C dX6_canCarry_38 rfl rfl rfl ?_
      refine v_iald (i := r.toNatClampNeg) C (Nat.le_of_ble_eq_true rfl) rfl (room_nat hrm).1 (room_nat hrm).2 (by decide) dX6_canCarry_39 rfl ?_
      refine v_icmp_le (tgt := 45) C dX6_canCarry_40 (by decide) rfl (fun c40 => ?_) (fun c40 => ?_)
      · skip
        refine v_iconst (v := 1) C dX6_canCarry_45 (by decide) rfl ?_
        refine v_istore (lv' := [(4, .int 1), (3, .int v6_1), (0, .ref 0), (1, .int (nI p)), (2, .int r)]) C dX6_canCarry_46 (Nat.le_of_ble_eq_true rfl) rfl rfl ?_
        have lp48 : ∀ (k i : Nat)  , 3 < i + k → i ≤ 3 → (∀ g, 1 ≤ g → g < i → ¬ blkP (σ 4) (σ 5) (σ 3) (σ 8 p) r p g) → (1 ≤ i) → V X 48 [(4, .int (nI i)), (3, .int v6_1), (0, .ref 0), (1, .int (nI p)), (2, .int r)] [] σ := by
          intro k
          induction k with
          | zero => intro i  h1 h2; omega
          | succ k ih =>
            intro i  h1 h2  hb hi1
            refine v_iload C dX6_canCarry_48 rfl rfl ?_
            refine v_iconst (v := 3) C dX6_canCarry_50 (by decide) rfl ?_
            refine v_icmp_ge (tgt := 124) C dX6_canCarry_51 (by decide) rfl (fun c51 => ?_) (fun c51 => ?_)
            · skip
              have c51 := mt (nI_ltI (a := i) (b := 3) (by omega) (by omega)).mpr c51
              refine v_iconst (v := 1) C dX6_canCarry_124 (by decide) rfl ?_
              exact v_zret C rfl dX6_canCarry_125 (by rw [hX]; exact fI_of (bI_t ⟨by rw [← ev6_1]; exact c9, Or.inr ⟨c40, fun f h1 h2 => hb f h1 (by omega)⟩⟩) rfl)
            · skip
              have c51 := (nI_ltI (a := i) (b := 3) (by omega) (by omega)).mp c51
              refine v_iload_n C dX6_canCarry_54 rfl rfl rfl ?_
              refine v_bipush (v := 9) C dX6_canCarry_55 (by decide) rfl ?_
              refine v_icmp_eq (tgt := 93) C dX6_canCarry_57 (by decide) rfl (fun c57 => ?_) (fun c57 => ?_)
              · skip
                refine v_iconst (v := 0) C dX6_canCarry_93 (by decide) rfl ?_
                refine v_istore (lv' := [(5, .int 0), (4, .int (nI i)), (3, .int v6_1), (0, .ref 0), (1, .int (nI p)), (2, .int r)]) C dX6_canCarry_94 (Nat.le_of_ble_eq_true rfl) rfl rfl ?_
                refine v_iload C dX6_canCarry_96 rfl rfl ?_
                refine v_if_eq (tgt := 118) C dX6_canCarry_98 (by decide) rfl (fun _ => ?_) (fun q => absurd (by decide) q)
                refine v_iinc (lv' := [(4, .int (nI (i + 1))), (5, .int 0), (3, .int v6_1), (0, .ref 0), (1, .int (nI p)), (2, .int r)]) C dX6_canCarry_118 rfl (nI_inc i) (Nat.le_of_ble_eq_true rfl) rfl rfl ?_
                refine v_goto (tgt := 48) C dX6_canCarry_121 (by decide) ?_
                exact V.sub [0, 2, 3, 4, 5] rfl (ih (i + 1)  (by omega) (by omega)  (by intro g h3 h4; exact (Classical.em (g = i)).elim (fun h5 => by rw [h5, ← ev6_1]; simp [blkP, gbP, c57]) (fun h5 => hb g h3 (by omega))) (by omega))
              · skip
                refine v_iload_n C dX6_canCarry_60 rfl rfl rfl ?_
                refine v_iconst (v := 2) C dX6_canCarry_61 (by decide) rfl ?_
                refine v_idiv C dX6_canCarry_62 (by decide) rfl ?_
                refine v_iload C dX6_canCarry_63 rfl rfl ?_
                refine v_icmp_ge (tgt := 72) C dX6_canCarry_65 (by decide) rfl (fun c65 => ?_) (fun c65 => ?_)
                · skip
                  refine v_iconst (v := 0) C dX6_canCarry_72 (by decide) rfl ?_
                  refine v_iload_n C dX6_canCarry_73 rfl rfl rfl ?_
                  refine v_iconst (v := 2) C dX6_canCarry_74 (by decide) rfl ?_
                  refine v_idiv C dX6_canCarry_75 (by decide) rfl ?_
                  refine v_iload C dX6_canCarry_76 rfl rfl ?_
                  refine v_icmp_ge (tgt := 85) C dX6_canCarry_78 (by decide) rfl (fun c78 => ?_) (fun c78 => ?_)
                  · skip
                    refine v_iconst (v := 0) C dX6_canCarry_85 (by decide) rfl ?_
                    refine v_icmp_eq (tgt := 93) C dX6_canCarry_86 (by decide) rfl (fun _ => ?_) (fun q => absurd (by decide) q)
                    refine v_iconst (v := 0) C dX6_canCarry_93 (by decide) rfl ?_
                    refine v_istore (lv' := [(5, .int 0), (4, .int (nI i)), (3, .int v6_1), (0, .ref 0), (1, .int (nI p)), (2, .int r)]) C dX6_canCarry_94 (Nat.le_of_ble_eq_true rfl) rfl rfl ?_
                    refine v_iload C dX6_canCarry_96 rfl rfl ?_
                    refine v_if_eq (tgt := 118) C dX6_canCarry_98 (by decide) rfl (fun _ => ?_) (fun q => absurd (by decide) q)
                    refine v_iinc (lv' := [(4, .int (nI (i + 1))), (5, .int 0), (3, .int v6_1), (0, .ref 0), (1, .int (nI p)), (2, .int r)]) C dX6_canCarry_118 rfl (nI_inc i) (Nat.le_of_ble_eq_true rfl) rfl rfl ?_
                    refine v_goto (tgt := 48) C dX6_canCarry_121 (by decide) ?_
                    exact V.sub [0, 2, 3, 4, 5] rfl (ih (i + 1)  (by omega) (by omega)  (by intro g h3 h4; exact (Classical.em (g = i)).elim (fun h5 => by rw [h5, ← ev6_1]; simp [blkP, gbP, c57, c65, c78]) (fun h5 => hb g h3 (by omega))) (by omega))
                  · skip
                    refine v_iconst (v := 1) C dX6_canCarry_81 (by decide) rfl ?_
                    refine v_goto (tgt := 86) C dX6_canCarry_82 (by decide) ?_
                    refine v_icmp_eq (tgt := 93) C dX6_canCarry_86 (by decide) rfl (fun q => absurd q (by decide)) (fun _ => ?_)
                    refine v_iconst (v := 1) C dX6_canCarry_89 (by decide) rfl ?_
                    refine v_goto (tgt := 94) C dX6_canCarry_90 (by decide) ?_
                    refine v_istore (lv' := [(5, .int 1), (4, .int (nI i)), (3, .int v6_1), (0, .ref 0), (1, .int (nI p)), (2, .int r)]) C dX6_canCarry_94 (Nat.le_of_ble_eq_true rfl) rfl rfl ?_
                    refine v_iload C dX6_canCarry_96 rfl rfl ?_
                    refine v_if_eq (tgt := 118) C dX6_canCarry_98 (by decide) rfl (fun q => absurd q (by decide)) (fun _ => ?_)
                    refine v_aload_n C dX6_canCarry_101 rfl rfl rfl ?_
                    refine v_iload_n C dX6_canCarry_102 rfl rfl rfl ?_
                    refine v_callV C (Nat.le_of_ble_eq_true rfl) rfl rfl (As := [.int (nI p)]) (rest := []) (kX6_wideOf n p σ h7 (by omega)) rfl (Nat.le_of_ble_eq_true rfl) (Nat.le_of_ble_eq_true rfl) ⟨mlX6_172, mfX6_wideOf⟩ dkX6_wideOf (Nat.le_of_ble_eq_true rfl) dX6_canCarry_103 rfl (kI ?_)
                    refine v_aload_n C dX6_canCarry_106 rfl rfl rfl ?_
                    refine v_getR C (Nat.le_of_ble_eq_true rfl) rfl rfl hinX6 2 (Nat.le_of_ble_eq_true rfl) lkX6_16 rfl dX6_canCarry_107 rfl ?_
                    refine v_iload C dX6_canCarry_110 rfl rfl ?_
                    refine v_iald (i := i) C (Nat.le_of_ble_eq_true rfl) rfl rfl (by omega) (by decide) dX6_canCarry_112 rfl ?_
                    refine v_icmp_le (tgt := 118) C dX6_canCarry_113 (by decide) rfl (fun c113 => ?_) (fun c113 => ?_)
                    · skip
                      refine v_iinc (lv' := [(4, .int (nI (i + 1))), (5, .int 1), (3, .int v6_1), (0, .ref 0), (1, .int (nI p)), (2, .int r)]) C dX6_canCarry_118 rfl (nI_inc i) (Nat.le_of_ble_eq_true rfl) rfl rfl ?_
                      refine v_goto (tgt := 48) C dX6_canCarry_121 (by decide) ?_
                      exact V.sub [0, 2, 3, 4, 5] rfl (ih (i + 1)  (by omega) (by omega)  (by intro g h3 h4; exact (Classical.em (g = i)).elim (fun h5 => by rw [h5, ← ev6_1]; simp [blkP, gbP, c57, c65, c78, c113]) (fun h5 => hb g h3 (by omega))) (by omega))
                    · skip
                      refine v_iconst (v := 0) C dX6_canCarry_116 (by decide) rfl ?_
                      exact v_zret C rfl dX6_canCarry_117 (by rw [hX]; exact fI_of (bI_f (fun q => q.2.elim (fun q => c17 q) (fun q => q.2 i (by omega) (by omega) (by rw [← ev6_1]; simp [blkP, gbP, c57, c65, c78, c113])))) rfl)
                · skip
                  refine v_iconst (v := 1) C dX6_canCarry_68 (by decide) rfl ?_
                  refine v_goto (tgt := 73) C dX6_canCarry_69 (by decide) ?_
                  refine v_iload_n C dX6_canCarry_73 rfl rfl rfl ?_
                  refine v_iconst (v := 2) C dX6_canCarry_74 (by decide) rfl ?_
                  refine v_idiv C dX6_canCarry_75 (by decide) rfl ?_
                  refine v_iload C dX6_canCarry_76 rfl rfl ?_
                  refine v_icmp_ge (tgt := 85) C dX6_canCarry_78 (by decide) rfl (fun c78 => ?_) (fun c78 => ?_)
                  · skip
                    refine v_iconst (v := 0) C dX6_canCarry_85 (by decide) rfl ?_
                    refine v_icmp_eq (tgt := 93) C dX6_canCarry_86 (by decide) rfl (fun q => absurd q (by decide)) (fun _ => ?_)
                    refine v_iconst (v := 1) C dX6_canCarry_89 (by decide) rfl ?_
                    refine v_goto (tgt := 94) C dX6_canCarry_90 (by decide) ?_
                    refine v_istore (lv' := [(5, .int 1), (4, .int (nI i)), (3, .int v6_1), (0, .ref 0), (1, .int (nI p)), (2, .int r)]) C dX6_canCarry_94 (Nat.le_of_ble_eq_true rfl) rfl rfl ?_
                    refine v_iload C dX6_canCarry_96 rfl rfl ?_
                    refine v_if_eq (tgt := 118) C dX6_canCarry_98 (by decide) rfl (fun q => absurd q (by decide)) (fun _ => ?_)
                    refine v_aload_n C dX6_canCarry_101 rfl rfl rfl ?_
                    refine v_iload_n C dX6_canCarry_102 rfl rfl rfl ?_
                    refine v_callV C (Nat.le_of_ble_eq_true rfl) rfl rfl (As := [.int (nI p)]) (rest := []) (kX6_wideOf n p σ h7 (by omega)) rfl (Nat.le_of_ble_eq_true rfl) (Nat.le_of_ble_eq_true rfl) ⟨mlX6_172, mfX6_wideOf⟩ dkX6_wideOf (Nat.le_of_ble_eq_true rfl) dX6_canCarry_103 rfl (kI ?_)
                    refine v_aload_n C dX6_canCarry_106 rfl rfl rfl ?_
                    refine v_getR C (Nat.le_of_ble_eq_true rfl) rfl rfl hinX6 2 (Nat.le_of_ble_eq_true rfl) lkX6_16 rfl dX6_canCarry_107 rfl ?_
                    refine v_iload C dX6_canCarry_110 rfl rfl ?_
                    refine v_iald (i := i) C (Nat.le_of_ble_eq_true rfl) rfl rfl (by omega) (by decide) dX6_canCarry_112 rfl ?_
                    refine v_icmp_le (tgt := 118) C dX6_canCarry_113 (by decide) rfl (fun c113 => ?_) (fun c113 => ?_)
                    · skip
                      refine v_iinc (lv' := [(4, .int (nI (i + 1))), (5, .int 1), (3, .int v6_1), (0, .ref 0), (1, .int (nI p)), (2, .int r)]) C dX6_canCarry_118 rfl (nI_inc i) (Nat.le_of_ble_eq_true rfl) rfl rfl ?_
                      refine v_goto (tgt := 48) C dX6_canCarry_121 (by decide) ?_
                      exact V.sub [0, 2, 3, 4, 5] rfl (ih (i + 1)  (by omega) (by omega)  (by intro g h3 h4; exact (Classical.em (g = i)).elim (fun h5 => by rw [h5, ← ev6_1]; simp [blkP, gbP, c57, c65, c78, c113]) (fun h5 => hb g h3 (by omega))) (by omega))
                    · skip
                      refine v_iconst (v := 0) C dX6_canCarry_116 (by decide) rfl ?_
                      exact v_zret C rfl dX6_canCarry_117 (by rw [hX]; exact fI_of (bI_f (fun q => q.2.elim (fun q => c17 q) (fun q => q.2 i (by omega) (by omega) (by rw [← ev6_1]; simp [blkP, gbP, c57, c65, c78, c113])))) rfl)
                  · skip
                    refine v_iconst (v := 1) C dX6_canCarry_81 (by decide) rfl ?_
                    refine v_goto (tgt := 86) C dX6_canCarry_82 (by decide) ?_
                    refine v_icmp_eq (tgt := 93) C dX6_canCarry_86 (by decide) rfl (fun _ => ?_) (fun q => absurd (by decide) q)
                    refine v_iconst (v := 0) C dX6_canCarry_93 (by decide) rfl ?_
                    refine v_istore (lv' := [(5, .int 0), (4, .int (nI i)), (3, .int v6_1), (0, .ref 0), (1, .int (nI p)), (2, .int r)]) C dX6_canCarry_94 (Nat.le_of_ble_eq_true rfl) rfl rfl ?_
                    refine v_iload C dX6_canCarry_96 rfl rfl ?_
                    refine v_if_eq (tgt := 118) C dX6_canCarry_98 (by decide) rfl (fun _ => ?_) (fun q => absurd (by decide) q)
                    refine v_iinc (lv' := [(4, .int (nI (i + 1))), (5, .int 0), (3, .int v6_1), (0, .ref 0), (1, .int (nI p)), (2, .int r)]) C dX6_canCarry_118 rfl (nI_inc i) (Nat.le_of_ble_eq_true rfl) rfl rfl ?_
                    refine v_goto (tgt := 48) C dX6_canCarry_121 (by decide) ?_
                    exact V.sub [0, 2, 3, 4, 5] rfl (ih (i + 1)  (by omega) (by omega)  (by intro g h3 h4; exact (Classical.em (g = i)).elim (fun h5 => by rw [h5, ← ev6_1]; simp [blkP, gbP, c57, c65, c78]) (fun h5 => hb g h3 (by omega))) (by omega))
        exact V.sub [0, 1, 2, 3, 4] rfl (lp48 (3 + 1) 1  (by omega) (by omega)  (by intro g h3 h4; omega) (by omega))
      · skip
        refine v_iconst (v := 0) C dX6_canCarry_43 (by decide) rfl ?_
        exact v_zret C rfl dX6_canCarry_44 (by rw [hX]; exact fI_of (by first | exact bI_t (by rw [carP, ← ev6_1]; simp [c9, c17, c40]; done) | exact bI_f (by rw [carP, ← ev6_1]; simp [c9, c17, c40]; done)) rfl)
    · skip
      refine v_iconst (v := 1) C dX6_canCarry_20 (by decide) rfl ?_
      exact v_zret C rfl dX6_canCarry_21 (by rw [hX]; exact fI_of (bI_t ⟨by rw [← ev6_1]; exact c9, Or.inl c17⟩) rfl)
  · skip
    refine v_iconst (v := 0) C dX6_canCarry_12 (by decide) rfl ?_
    exact v_zret C rfl dX6_canCarry_13 (by rw [hX]; exact fI_of (by first | exact bI_t (by rw [carP, ← ev6_1]; simp [c9]; done) | exact bI_f (by rw [carP, ← ev6_1]; simp [c9]; done)) rfl)
