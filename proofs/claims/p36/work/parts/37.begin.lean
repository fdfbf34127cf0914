/-! the class: Sharing begins, deals -/
theorem minI_nat {a b : Nat} (h : a ≤ b) (hb : b < 2 ^ 31) : minI (nI a) (nI b) = nI a := by
  rw [minI, if_neg]
  rw [nI_ltI (by omega) (by omega)]; omega
def Beg (σ τ : St) (n q : Nat) : Prop := τ 49 4 = nI n ∧ τ 49 5 = nI q ∧ τ 49 6 = sumN (blH σ 19 n) n / nI q ∧ (∀ j, j ≠ 4 → j ≠ 5 → j ≠ 6 → τ 49 j = σ 49 j) ∧ (∀ p, p < n → τ 50 p = blH σ 19 n p) ∧ (∀ j, j < 4 → τ 53 j = 0) ∧ ∀ a, a ≠ 49 → a ≠ 50 → a ≠ 53 → τ a = σ a
theorem beg_ok (σ : St) (n q : Nat) : Beg σ (setR (s2 (setR (s2 (s2 σ 49 4 (nI n)) 49 5 (nI q)) 50 (pre n (blH σ 19 n) (σ 50))) 49 6 (sumN (pre n (blH σ 19 n) (σ 50)) n / nI q)) 53 (pre 4 (fun _ => 0) (σ 53))) n q := by
  refine ⟨rfl, rfl, ?_, fun j h4 h5 h6 => ?_, fun p hp => ?_, fun j hj => ?_, fun a h1 h2 h3 => ?_⟩
  · show sumN (pre n (blH σ 19 n) (σ 50)) n / nI q = _
    rw [sumN_congr (g := blH σ 19 n) (fun i hi => by simp [pre, hi])]
  · simp [setR, s2, upd, h4, h5, h6]
  · show pre n (blH σ 19 n) (σ 50) p = _
    simp [pre, hp]
  · show pre 4 (fun _ => 0) (σ 53) j = 0
    simp [pre, hj]
  · simp [setR, s2, h1, h2, h3]
theorem kX3_begin (n q : Nat) (σ : St) (hn : σ 19 7 = nI n) (h7 : n ≤ 7) (hq : σ 19 8 = nI q) (q2 : 2 ≤ q) (q4 : q ≤ 4) : Ct yX3_begin cX3_begin 3 none 3 [.ref 49, .ref 19] σ (rV (fun τ => Beg σ τ n q)) := by
  refine ct_of plX3 rfl (Nat.le_of_ble_eq_true rfl) (fun X hX C => ?_)
  show V X 0 [(0, .ref 49), (1, .ref 19)] [] σ
  refine v_aload_n C dX3_begin_0 rfl rfl rfl ?_
  refine v_aload_n C dX3_begin_1 rfl rfl rfl ?_
  refine v_getNI C hh19.l0 hh19.s0 rfl hinX0 7 (Nat.le_of_ble_eq_true rfl) lkX3_41 rfl dX3_begin_2 rfl ?_
  refine V.tp hn ?_
  refine v_bipush (v := 7) C dX3_begin_5 (by decide) rfl ?_
  refine v_mmin C (Nat.le_of_ble_eq_true rfl) maX3_44 (Nat.le_of_ble_eq_true rfl) dX3_begin_7 rfl ?_
  refine V.tp (minI_nat h7 (by decide)) ?_
  refine v_put (ty := .int) C (Nat.le_of_ble_eq_true rfl) rfl rfl hinX3 tyX3_ok nmX3 4 (Nat.le_of_ble_eq_true rfl) lkX3_24 rfl (by decide +kernel) rfl rfl rfl dX3_begin_10 rfl ?_
  refine V.nm (fun τ10_1 eτ10_1 => ?_)
  refine v_aload_n C dX3_begin_13 rfl rfl rfl ?_
  refine v_aload_n C dX3_begin_14 rfl rfl rfl ?_
  refine v_getNI C hh19.l0 hh19.s0 rfl hinX0 8 (Nat.le_of_ble_eq_true rfl) lkX3_50 rfl dX3_begin_15 rfl ?_
  refine V.tp (show τ10_1 19 8 = nI q from by rw [eτ10_1]; exact hq) ?_
  refine v_iconst (v := 4) C dX3_begin_18 (by decide) rfl ?_
  refine v_mmin C (Nat.le_of_ble_eq_true rfl) maX3_44 (Nat.le_of_ble_eq_true rfl) dX3_begin_19 rfl ?_
  refine V.tp (minI_nat q4 (by decide)) ?_
  refine v_put (ty := .int) C (Nat.le_of_ble_eq_true rfl) rfl rfl hinX3 tyX3_ok nmX3 5 (Nat.le_of_ble_eq_true rfl) lkX3_28 rfl (by decide +kernel) rfl rfl rfl dX3_begin_22 rfl ?_
  refine V.nm (fun τ22_2 eτ22_2 => ?_)
  refine v_iconst (v := 0) C dX3_begin_25 (by decide) rfl ?_
  refine v_istore_n (lv' := [(2, .int 0), (0, .ref 49), (1, .ref 19)]) C dX3_begin_26 rfl (Nat.le_of_ble_eq_true rfl) rfl rfl ?_
  have lp27 : ∀ (kf i : Nat)  (τ : St), n < i + kf → i ≤ n → τ = setR (s2 (s2 σ 49 4 (nI n)) 49 5 (nI q)) 50 (pre i (blH σ 19 n) (σ 50)) → V X 27 [(2, .int (nI i)), (0, .ref 49), (1, .ref 19)] [] τ := by
    intro kf
    induction kf with
    | zero => intro i  τ h1 h2; omega
    | succ kf ih27 =>
      intro i  τ h1 h2  eτ
      have hnτ : τ 19 7 = nI n := by rw [eτ]; exact hn
      have h4τ : τ 49 4 = nI n := by rw [eτ]; rfl
      have h5τ : τ 49 5 = nI q := by rw [eτ]; rfl
      refine v_iload_n C dX3_begin_27 rfl rfl rfl ?_
      refine v_aload_n C dX3_begin_28 rfl rfl rfl ?_
      refine v_getI C (Nat.le_of_ble_eq_true rfl) rfl rfl hinX3 4 (Nat.le_of_ble_eq_true rfl) lkX3_24 rfl dX3_begin_29 rfl ?_
      refine V.tp h4τ ?_
      refine v_icmp_ge (tgt := 52) C dX3_begin_32 (by decide) rfl (fun c32 => ?_) (fun c32 => ?_)
      · skip
        have c32 := mt (nI_ltI (a := i) (b := n) (by omega) (by omega)).mpr c32
        refine v_aload_n C dX3_begin_52 rfl rfl rfl ?_
        refine v_aload_n C dX3_begin_53 rfl rfl rfl ?_
        refine v_getI C (Nat.le_of_ble_eq_true rfl) rfl rfl hinX3 5 (Nat.le_of_ble_eq_true rfl) lkX3_28 rfl dX3_begin_54 rfl ?_
        refine V.tp h5τ ?_
        refine v_if_le (tgt := 79) C dX3_begin_57 (by decide) rfl (fun c57 => ?_) (fun c57 => ?_)
        · skip
          have c57 := mt (nI_ltI (a := 0) (b := q) (by omega) (by omega)).mpr c57
          refine v_iconst (v := 0) C dX3_begin_79 (by decide) rfl ?_
          refine v_put (ty := .int) C (Nat.le_of_ble_eq_true rfl) rfl rfl hinX3 tyX3_ok nmX3 6 (Nat.le_of_ble_eq_true rfl) lkX3_31 rfl (by decide +kernel) rfl rfl rfl dX3_begin_80 rfl ?_
          refine V.nm (fun τ80_3 eτ80_3 => ?_)
          refine v_aload_n C dX3_begin_83 rfl rfl rfl ?_
          refine v_getR C (Nat.le_of_ble_eq_true rfl) rfl rfl hinX3 3 (Nat.le_of_ble_eq_true rfl) lkX3_21 rfl dX3_begin_84 rfl ?_
          refine v_iconst (v := 0) C dX3_begin_87 (by decide) rfl ?_
          refine v_callS C (As := [.ref 53, .int 0]) (rest := []) (kJ7_fill_53178 53 4 0 τ80_3 (Nat.le_of_ble_eq_true rfl) rfl (by decide)) rfl (Nat.le_of_ble_eq_true rfl) (Nat.le_of_ble_eq_true rfl) ⟨mlX3_59, mfJ7_fill_53178⟩ dkJ7_fill_53178 (Nat.le_of_ble_eq_true rfl) dX3_begin_88 rfl (kV ?_)
          exact v_vret C dX3_begin_91 (by rw [hX]; first | (exfalso; omega) | exact ⟨rfl, by rw [eτ80_3, eτ, show i = n from by omega]; exact beg_ok σ n q⟩)
        · skip
          have c57 := (nI_ltI (a := 0) (b := q) (by omega) (by omega)).mp c57
          refine v_aload_n C dX3_begin_60 rfl rfl rfl ?_
          refine v_getR C (Nat.le_of_ble_eq_true rfl) rfl rfl hinX3 0 (Nat.le_of_ble_eq_true rfl) lkX3_9 rfl dX3_begin_61 rfl ?_
          refine v_aload_n C dX3_begin_64 rfl rfl rfl ?_
          refine v_getI C (Nat.le_of_ble_eq_true rfl) rfl rfl hinX3 4 (Nat.le_of_ble_eq_true rfl) lkX3_24 rfl dX3_begin_65 rfl ?_
          refine V.tp h4τ ?_
          refine v_callSN C (As := [.ref 50, .int (nI n)]) (rest := [.ref 49]) (kX5_sumOfFirst 50 7 n τ (Nat.le_of_ble_eq_true rfl) rfl (by decide) (by omega)) rfl (Nat.le_of_ble_eq_true rfl) (Nat.le_of_ble_eq_true rfl) ⟨mlX3_55, mfX5_sumOfFirst⟩ dkX5_sumOfFirst (Nat.le_of_ble_eq_true rfl) dX3_begin_68 rfl (kI ?_)
          refine v_aload_n C dX3_begin_71 rfl rfl rfl ?_
          refine v_getI C (Nat.le_of_ble_eq_true rfl) rfl rfl hinX3 5 (Nat.le_of_ble_eq_true rfl) lkX3_28 rfl dX3_begin_72 rfl ?_
          refine V.tp h5τ ?_
          refine v_idiv C dX3_begin_75 (nI_ne0 (by omega) (by omega)) rfl ?_
          refine v_goto (tgt := 80) C dX3_begin_76 (by decide) ?_
          refine v_put (ty := .int) C (Nat.le_of_ble_eq_true rfl) rfl rfl hinX3 tyX3_ok nmX3 6 (Nat.le_of_ble_eq_true rfl) lkX3_31 rfl (by decide +kernel) rfl rfl rfl dX3_begin_80 rfl ?_
          refine V.nm (fun τ80_4 eτ80_4 => ?_)
          refine v_aload_n C dX3_begin_83 rfl rfl rfl ?_
          refine v_getR C (Nat.le_of_ble_eq_true rfl) rfl rfl hinX3 3 (Nat.le_of_ble_eq_true rfl) lkX3_21 rfl dX3_begin_84 rfl ?_
          refine v_iconst (v := 0) C dX3_begin_87 (by decide) rfl ?_
          refine v_callS C (As := [.ref 53, .int 0]) (rest := []) (kJ7_fill_53178 53 4 0 τ80_4 (Nat.le_of_ble_eq_true rfl) rfl (by decide)) rfl (Nat.le_of_ble_eq_true rfl) (Nat.le_of_ble_eq_true rfl) ⟨mlX3_59, mfJ7_fill_53178⟩ dkJ7_fill_53178 (Nat.le_of_ble_eq_true rfl) dX3_begin_88 rfl (kV ?_)
          exact v_vret C dX3_begin_91 (by rw [hX]; first | (exfalso; omega) | exact ⟨rfl, by rw [eτ80_4, eτ, show i = n from by omega]; exact beg_ok σ n q⟩)
      · skip
        have c32 := (nI_ltI (a := i) (b := n) (by omega) (by omega)).mp c32
        refine v_aload_n C dX3_begin_35 rfl rfl rfl ?_
        refine v_getR C (Nat.le_of_ble_eq_true rfl) rfl rfl hinX3 0 (Nat.le_of_ble_eq_true rfl) lkX3_9 rfl dX3_begin_36 rfl ?_
        refine v_iload_n C dX3_begin_39 rfl rfl rfl ?_
        refine v_aload_n C dX3_begin_40 rfl rfl rfl ?_
        refine v_iload_n C dX3_begin_41 rfl rfl rfl ?_
        refine v_callVN C hh19.l0 hh19.s0 rfl (As := [.int (nI i)]) (rest := [.int (nI i), .ref 50]) (kX0_blameOfPiece i 19 n hh19 τ hnτ h7 (by omega)) rfl (Nat.le_of_ble_eq_true rfl) (Nat.le_of_ble_eq_true rfl) ⟨mlX3_51, mfX0_blameOfPiece⟩ dkX0_blameOfPiece (Nat.le_of_ble_eq_true rfl) dX3_begin_42 rfl (kI ?_)
        refine V.tp (show blaF (τ (19 + 1)) (τ (19 + 3)) (τ (19 + 4)) (τ (19 + 5)) n i = blH σ 19 n i from by rw [eτ]; rfl) ?_
        refine v_iast (i := i) C (Nat.le_of_ble_eq_true rfl) rfl rfl (by omega) (by decide) dX3_begin_45 rfl ?_
        refine V.nm (fun τ45_5 eτ45_5 => ?_)
        refine v_iinc (lv' := [(2, .int (nI (i + 1))), (0, .ref 49), (1, .ref 19)]) C dX3_begin_46 rfl (nI_inc i) (Nat.le_of_ble_eq_true rfl) rfl rfl ?_
        refine v_goto (tgt := 27) C dX3_begin_49 (by decide) ?_
        exact V.sub [0, 1, 2] rfl (ih27 (i + 1)  _ (by omega) (by omega)  (by rw [eτ45_5, eτ]; exact fil_step (s2 (s2 σ 49 4 (nI n)) 49 5 (nI q)) 50 i _ rfl))
  exact V.sub [0, 1, 2] rfl (lp27 (n + 1) 0  _ (by omega) (by omega)  (by rw [eτ22_2, eτ10_1, pre_0]; exact (setR_id _ 50).symm))
/-- what the deeds of Sharing leave alone -/
def Shk (σ τ : St) : Prop := (∀ a, a ≠ 49 → a ≠ 50 → a ≠ 51 → a ≠ 52 → a ≠ 53 → τ a = σ a)
/-- i pieces dealt: to whom, and the shares -/
def dealI (σ τ : St) (n q i : Nat) : Prop := τ 49 4 = nI n ∧ τ 49 5 = nI q ∧ (∀ p, p < n → τ 50 p = blH σ 19 n p) ∧ (∀ j, j < 4 → τ 53 j = deaN (fun _ => 0) (blH σ 19 n) q i j) ∧ (∀ p, p < i → τ 51 p = deaG (fun _ => 0) (blH σ 19 n) q p) ∧ ∀ a, a ≠ 49 → a ≠ 50 → a ≠ 51 → a ≠ 52 → a ≠ 53 → τ a = σ a
