/-! the class: house -/
def HoX (σ : St) (t : Nat) (r : Int32) (τ : St) : Prop := ∃ υ ψ, Cop σ 27 19 υ ∧ TiR υ t r ψ ∧ ((r < 0 ∧ τ = s2 ψ 43 1 0) ∨ (¬ r < 0 ∧ Cop (s2 ψ 43 1 0) 19 27 τ))
theorem kX5_house (t y : Nat) (n : Nat) (σ : St) (hn : σ 19 7 = nI n) (h7 : n ≤ 7) (hT : σ 43 1 = nI t) (h96 : t ≤ 96) (hy : σ 19 9 = nI y) (hy9 : y ≤ 999) : Ct yX5_house cX5_house 2 (some .int) 9 [.ref 18] σ (rI (fun r τ => HoX σ t r τ)) := by
  refine ct_of plX5 rfl (Nat.le_of_ble_eq_true rfl) (fun X hX C => ?_)
  show V X 0 [(0, .ref 18)] [] σ
  refine v_aload_n C dX5_house_0 rfl rfl rfl ?_
  refine v_getR C (Nat.le_of_ble_eq_true rfl) rfl rfl hinX5 4 (Nat.le_of_ble_eq_true rfl) lkX5_29 rfl dX5_house_1 rfl ?_
  refine v_aload_n C dX5_house_4 rfl rfl rfl ?_
  refine v_callV C (Nat.le_of_ble_eq_true rfl) rfl rfl (As := []) (rest := [.ref 43]) (kX5_thoughtOfNow σ) rfl (Nat.le_of_ble_eq_true rfl) (Nat.le_of_ble_eq_true rfl) ⟨mlX5_67, mfX5_thoughtOfNow⟩ dkX5_thoughtOfNow (Nat.le_of_ble_eq_true rfl) dX5_house_5 rfl (krR (fun υ hC => ?_))
  have hnυ : υ 27 7 = nI n := hC.2.1.1.trans hn
  refine v_callVN C (Nat.le_of_ble_eq_true rfl) rfl rfl (As := [.ref 27]) (rest := []) (kX4_tellInto t υ ((congrFun (hC.2.2 43 (Or.inr (by decide))) 1).trans hT) h96 ⟨n, y, hnυ, h7, hC.2.1.2.2.trans hy, hy9⟩) rfl (Nat.le_of_ble_eq_true rfl) (Nat.le_of_ble_eq_true rfl) ⟨mlX5_71, mfX4_tellInto⟩ dkX4_tellInto (Nat.le_of_ble_eq_true rfl) dX5_house_8 rfl (krI (fun r ψ hR => ?_))
  refine v_istore_n (lv' := [(1, .int r), (0, .ref 18)]) C dX5_house_11 rfl (Nat.le_of_ble_eq_true rfl) rfl rfl ?_
  refine v_aload_n C dX5_house_12 rfl rfl rfl ?_
  refine v_getR C (Nat.le_of_ble_eq_true rfl) rfl rfl hinX5 4 (Nat.le_of_ble_eq_true rfl) lkX5_29 rfl dX5_house_13 rfl ?_
  refine v_callVN C (Nat.le_of_ble_eq_true rfl) rfl rfl (As := []) (rest := []) (kX4_clear ψ) rfl (Nat.le_of_ble_eq_true rfl) (Nat.le_of_ble_eq_true rfl) ⟨mlX5_75, mfX4_clear⟩ dkX4_clear (Nat.le_of_ble_eq_true rfl) dX5_house_16 rfl (kV ?_)
  refine v_iload_n C dX5_house_19 rfl rfl rfl ?_
  refine v_if_lt (tgt := 34) C dX5_house_20 (by decide) rfl (fun c20 => ?_) (fun c20 => ?_)
  · skip
    refine v_iload_n C dX5_house_34 rfl rfl rfl ?_
    exact v_iret C dX5_house_35 (by rw [hX]; exact ⟨_, rfl, _, ψ, hC, hR, Or.inl ⟨c20, rfl⟩⟩)
  · skip
    refine v_aload_n C dX5_house_23 rfl rfl rfl ?_
    refine v_getR C (Nat.le_of_ble_eq_true rfl) rfl rfl hinX5 0 (Nat.le_of_ble_eq_true rfl) lkX5_10 rfl dX5_house_24 rfl ?_
    refine v_aload_n C dX5_house_27 rfl rfl rfl ?_
    refine v_getR C (Nat.le_of_ble_eq_true rfl) rfl rfl hinX5 1 (Nat.le_of_ble_eq_true rfl) lkX5_16 rfl dX5_house_28 rfl ?_
    refine v_callVN C hh19.l0 hh19.s0 rfl (As := [.ref 27]) (rest := []) (kX0_copyFrom 19 27 hh19 hh27 (Or.inl (by decide)) (s2 ψ 43 1 0)) rfl (Nat.le_of_ble_eq_true rfl) (Nat.le_of_ble_eq_true rfl) ⟨mlX5_78, mfX0_copyFrom⟩ dkX0_copyFrom (Nat.le_of_ble_eq_true rfl) dX5_house_31 rfl (krV (fun ω hω => ?_))
    refine v_iload_n C dX5_house_34 rfl rfl rfl ?_
    exact v_iret C dX5_house_35 (by rw [hX]; exact ⟨_, rfl, _, ψ, hC, hR, Or.inr ⟨c20, hω⟩⟩)
