/-! the check's class: placing, innocent, lots -/
noncomputable def plQ (σ : St) (n : Nat) (v w : Int32) : Nat × Int32 := fpN (plP σ n v) (plF σ n w) (6 ^ n)
noncomputable def plaW (n : Nat) (v w z : Int32) : Nat := if v < 1 ∨ z < -1 then 4 else if 63 < v then 6 else cI (isInP w 0 1) (if 5 < n then 3 else if z < nI n then 0 else 1) 2
noncomputable def plaA (σ : St) (n : Nat) (v w z : Int32) : Int32 := if plaW n v w z = 0 then (if z < 0 ∨ (plQ σ n v w).2 < 0 then (plQ σ n v w).2 else plc n (plQ σ n v w).1 (tn z)) else -(nI (plaW n v w z))
def Rf (k : Nat) (σ τ : St) : Prop := if k = 0 then Sm σ τ else τ = noS σ k
theorem kX6_placing (v w z : Int32) (n : Nat) (σ : St) (hn : σ 0 8 = nI n) (h7 : n ≤ 7) : Ct yX6_placing cX6_placing 5 (some .int) 5 [.ref 0, .int v, .int w, .int z] σ (rI (fun r τ => r = plaA σ n v w z ∧ Rf (plaW n v w z) σ τ)) := by
  refine ct_of plX6 rfl (Nat.le_of_ble_eq_true rfl) (fun X hX C => ?_)
  show V X 0 [(0, .ref 0), (1, .int v), (2, .int w), (3, .int z)] [] σ
  refine v_iload_n C dX6_placing_0 rfl rfl rfl ?_
  refine v_iconst (v := 1) C dX6_placing_1 (by decide) rfl ?_
  refine v_icmp_lt (tgt := 10) C dX6_placing_2 (by decide) rfl (fun c2 => ?_) (fun c2 => ?_)
  · skip
    refine v_bipush (v := -4) C dX6_placing_10 (by decide) rfl ?_
    refine v_goto (tgt := 66) C dX6_placing_12 (by decide) ?_
    refine v_istore (lv' := [(4, .int (-4)), (0, .ref 0), (1, .int v), (2, .int w), (3, .int z)]) C dX6_placing_66 (Nat.le_of_ble_eq_true rfl) rfl rfl ?_
    refine v_iload C dX6_placing_68 rfl rfl ?_
    refine v_if_eq (tgt := 80) C dX6_placing_70 (by decide) rfl (fun q => absurd q (by decide)) (fun _ => ?_)
    refine v_aload_n C dX6_placing_73 rfl rfl rfl ?_
    refine v_iload C dX6_placing_74 rfl rfl ?_
    refine v_callV C (Nat.le_of_ble_eq_true rfl) rfl rfl (As := [.int (-4)]) (rest := []) (kX6_no (-4) 4 σ (by decide) (by decide)) rfl (Nat.le_of_ble_eq_true rfl) (Nat.le_of_ble_eq_true rfl) ⟨mlX6_79, mfX6_no⟩ dkX6_no (Nat.le_of_ble_eq_true rfl) dX6_placing_76 rfl (kI ?_)
    exact v_iret C dX6_placing_79 (by rw [hX]; exact ⟨_, rfl, by rw [plaA, (show plaW n v w z = 4 by simp [plaW, cI, c2])]; rfl, by rw [(show plaW n v w z = 4 by simp [plaW, cI, c2])]; rfl⟩)
  · skip
    refine v_iload_n C dX6_placing_5 rfl rfl rfl ?_
    refine v_iconst (v := -1) C dX6_placing_6 (by decide) rfl ?_
    refine v_icmp_ge (tgt := 15) C dX6_placing_7 (by decide) rfl (fun c7 => ?_) (fun c7 => ?_)
    · skip
      refine v_iload_n C dX6_placing_15 rfl rfl rfl ?_
      refine v_bipush (v := 63) C dX6_placing_16 (by decide) rfl ?_
      refine v_icmp_le (tgt := 26) C dX6_placing_18 (by decide) rfl (fun c18 => ?_) (fun c18 => ?_)
      · skip
        refine v_iload_n C dX6_placing_26 rfl rfl rfl ?_
        refine v_iconst (v := 0) C dX6_placing_27 (by decide) rfl ?_
        refine v_iconst (v := 1) C dX6_placing_28 (by decide) rfl ?_
        refine v_callS C (As := [.int w, .int 0, .int 1]) (rest := []) (kX6_isIn w 0 1 σ) rfl (Nat.le_of_ble_eq_true rfl) (Nat.le_of_ble_eq_true rfl) ⟨mlX6_90, mfX6_isIn⟩ dkX6_isIn (Nat.le_of_ble_eq_true rfl) dX6_placing_29 rfl (kI ?_)
        refine v_if_ne (tgt := 40) C dX6_placing_32 (by decide) rfl (fun c32 => ?_) (fun c32 => ?_)
        · skip
          have c32 := bI_n c32
          refine v_aload_n C dX6_placing_40 rfl rfl rfl ?_
          refine v_getI C (Nat.le_of_ble_eq_true rfl) rfl rfl hinX6 8 (Nat.le_of_ble_eq_true rfl) lkX6_65 rfl dX6_placing_41 rfl ?_
          refine V.tp hn ?_
          refine v_iconst (v := 5) C dX6_placing_44 (by decide) rfl ?_
          refine v_icmp_le (tgt := 53) C dX6_placing_45 (by decide) rfl (fun c45 => ?_) (fun c45 => ?_)
          · skip
            have c45 := mt (nI_ltI (a := 5) (b := n) (by omega) (by omega)).mpr c45
            refine v_iload_n C dX6_placing_53 rfl rfl rfl ?_
            refine v_aload_n C dX6_placing_54 rfl rfl rfl ?_
            refine v_getI C (Nat.le_of_ble_eq_true rfl) rfl rfl hinX6 8 (Nat.le_of_ble_eq_true rfl) lkX6_65 rfl dX6_placing_55 rfl ?_
            refine V.tp hn ?_
            refine v_icmp_lt (tgt := 65) C dX6_placing_58 (by decide) rfl (fun c58 => ?_) (fun c58 => ?_)
            · skip
              refine v_iconst (v := 0) C dX6_placing_65 (by decide) rfl ?_
              refine v_istore (lv' := [(4, .int 0), (0, .ref 0), (1, .int v), (2, .int w), (3, .int z)]) C dX6_placing_66 (Nat.le_of_ble_eq_true rfl) rfl rfl ?_
              refine v_iload C dX6_placing_68 rfl rfl ?_
              refine v_if_eq (tgt := 80) C dX6_placing_70 (by decide) rfl (fun _ => ?_) (fun q => absurd q (by decide))
              refine v_aload_n C dX6_placing_80 rfl rfl rfl ?_
              refine v_iload_n C dX6_placing_81 rfl rfl rfl ?_
              refine v_iload_n C dX6_placing_82 rfl rfl rfl ?_
              refine v_callV C (Nat.le_of_ble_eq_true rfl) rfl rfl (As := [.int v, .int w]) (rest := []) (kX6_findPlacing v w n σ hn (by omega)) rfl (Nat.le_of_ble_eq_true rfl) (Nat.le_of_ble_eq_true rfl) ⟨mlX6_203, mfX6_findPlacing⟩ dkX6_findPlacing (Nat.le_of_ble_eq_true rfl) dX6_placing_83 rfl (krV (fun τ86_1 h86_1 => ?_))
              have hq23 : τ86_1 0 23 = (plQ σ n v w).2 := h86_1.2.1
              refine v_iload_n C dX6_placing_86 rfl rfl rfl ?_
              refine v_if_lt (tgt := 97) C dX6_placing_87 (by decide) rfl (fun c87 => ?_) (fun c87 => ?_)
              · skip
                refine v_aload_n C dX6_placing_97 rfl rfl rfl ?_
                refine v_getI C (Nat.le_of_ble_eq_true rfl) rfl rfl hinX6 23 (Nat.le_of_ble_eq_true rfl) lkX6_187 rfl dX6_placing_98 rfl ?_
                refine V.tp hq23 ?_
                refine v_goto (tgt := 110) C dX6_placing_101 (by decide) ?_
                exact v_iret C dX6_placing_110 (by rw [hX]; exact ⟨_, rfl, by rw [plaA, if_pos (show plaW n v w z = 0 by simp [plaW, cI, c2, c7, c18, c32, c45, c58]), if_pos (Or.inl c87)], by rw [Rf, if_pos (show plaW n v w z = 0 by simp [plaW, cI, c2, c7, c18, c32, c45, c58])]; exact h86_1.1⟩)
              · skip
                refine v_aload_n C dX6_placing_90 rfl rfl rfl ?_
                refine v_getI C (Nat.le_of_ble_eq_true rfl) rfl rfl hinX6 23 (Nat.le_of_ble_eq_true rfl) lkX6_187 rfl dX6_placing_91 rfl ?_
                refine V.tp hq23 ?_
                refine v_if_ge (tgt := 104) C dX6_placing_94 (by decide) rfl (fun c94 => ?_) (fun c94 => ?_)
                · skip
                  have hv1 : z = nI (tn z) ∧ tn z < n := piece_nat (by omega) ⟨c87, c58⟩
                  have hv2 := hv1.2
                  refine v_aload_n C dX6_placing_104 rfl rfl rfl ?_
                  refine v_getR C (Nat.le_of_ble_eq_true rfl) rfl rfl hinX6 22 (Nat.le_of_ble_eq_true rfl) lkX6_49 rfl dX6_placing_105 rfl ?_
                  refine v_iload_n C dX6_placing_108 rfl rfl rfl ?_
                  refine V.tp hv1.1 ?_
                  refine v_iald (i := tn z) C (Nat.le_of_ble_eq_true rfl) rfl rfl (by omega) (by decide) dX6_placing_109 rfl ?_
                  exact v_iret C dX6_placing_110 (by rw [hX]; exact ⟨_, rfl, by rw [plaA, if_pos (show plaW n v w z = 0 by simp [plaW, cI, c2, c7, c18, c32, c45, c58]), if_neg (fun q => q.elim c87 c94)]; exact h86_1.2.2 c94 _ hv2, by rw [Rf, if_pos (show plaW n v w z = 0 by simp [plaW, cI, c2, c7, c18, c32, c45, c58])]; exact h86_1.1⟩)
                · skip
                  refine v_aload_n C dX6_placing_97 rfl rfl rfl ?_
                  refine v_getI C (Nat.le_of_ble_eq_true rfl) rfl rfl hinX6 23 (Nat.le_of_ble_eq_true rfl) lkX6_187 rfl dX6_placing_98 rfl ?_
                  refine V.tp hq23 ?_
                  refine v_goto (tgt := 110) C dX6_placing_101 (by decide) ?_
                  exact v_iret C dX6_placing_110 (by rw [hX]; exact ⟨_, rfl, by rw [plaA, if_pos (show plaW n v w z = 0 by simp [plaW, cI, c2, c7, c18, c32, c45, c58]), if_pos (Or.inr c94)], by rw [Rf, if_pos (show plaW n v w z = 0 by simp [plaW, cI, c2, c7, c18, c32, c45, c58])]; exact h86_1.1⟩)
            · skip
              refine v_iconst (v := -1) C dX6_placing_61 (by decide) rfl ?_
              refine v_goto (tgt := 66) C dX6_placing_62 (by decide) ?_
              refine v_istore (lv' := [(4, .int (-1)), (0, .ref 0), (1, .int v), (2, .int w), (3, .int z)]) C dX6_placing_66 (Nat.le_of_ble_eq_true rfl) rfl rfl ?_
              refine v_iload C dX6_placing_68 rfl rfl ?_
              refine v_if_eq (tgt := 80) C dX6_placing_70 (by decide) rfl (fun q => absurd q (by decide)) (fun _ => ?_)
              refine v_aload_n C dX6_placing_73 rfl rfl rfl ?_
              refine v_iload C dX6_placing_74 rfl rfl ?_
              refine v_callV C (Nat.le_of_ble_eq_true rfl) rfl rfl (As := [.int (-1)]) (rest := []) (kX6_no (-1) 1 σ (by decide) (by decide)) rfl (Nat.le_of_ble_eq_true rfl) (Nat.le_of_ble_eq_true rfl) ⟨mlX6_79, mfX6_no⟩ dkX6_no (Nat.le_of_ble_eq_true rfl) dX6_placing_76 rfl (kI ?_)
              exact v_iret C dX6_placing_79 (by rw [hX]; exact ⟨_, rfl, by rw [plaA, (show plaW n v w z = 1 by simp [plaW, cI, c2, c7, c18, c32, c45, c58])]; rfl, by rw [(show plaW n v w z = 1 by simp [plaW, cI, c2, c7, c18, c32, c45, c58])]; rfl⟩)
          · skip
            have c45 := (nI_ltI (a := 5) (b := n) (by omega) (by omega)).mp c45
            refine v_bipush (v := -3) C dX6_placing_48 (by decide) rfl ?_
            refine v_goto (tgt := 66) C dX6_placing_50 (by decide) ?_
            refine v_istore (lv' := [(4, .int (-3)), (0, .ref 0), (1, .int v), (2, .int w), (3, .int z)]) C dX6_placing_66 (Nat.le_of_ble_eq_true rfl) rfl rfl ?_
            refine v_iload C dX6_placing_68 rfl rfl ?_
            refine v_if_eq (tgt := 80) C dX6_placing_70 (by decide) rfl (fun q => absurd q (by decide)) (fun _ => ?_)
            refine v_aload_n C dX6_placing_73 rfl rfl rfl ?_
            refine v_iload C dX6_placing_74 rfl rfl ?_
            refine v_callV C (Nat.le_of_ble_eq_true rfl) rfl rfl (As := [.int (-3)]) (rest := []) (kX6_no (-3) 3 σ (by decide) (by decide)) rfl (Nat.le_of_ble_eq_true rfl) (Nat.le_of_ble_eq_true rfl) ⟨mlX6_79, mfX6_no⟩ dkX6_no (Nat.le_of_ble_eq_true rfl) dX6_placing_76 rfl (kI ?_)
            exact v_iret C dX6_placing_79 (by rw [hX]; exact ⟨_, rfl, by rw [plaA, (show plaW n v w z = 3 by simp [plaW, cI, c2, c7, c18, c32, c45])]; rfl, by rw [(show plaW n v w z = 3 by simp [plaW, cI, c2, c7, c18, c32, c45])]; rfl⟩)
        · skip
          have c32 := bI_0 c32
          refine v_bipush (v := -2) C dX6_placing_35 (by decide) rfl ?_
          refine v_goto (tgt := 66) C dX6_placing_37 (by decide) ?_
          refine v_istore (lv' := [(4, .int (-2)), (0, .ref 0), (1, .int v), (2, .int w), (3, .int z)]) C dX6_placing_66 (Nat.le_of_ble_eq_true rfl) rfl rfl ?_
          refine v_iload C dX6_placing_68 rfl rfl ?_
          refine v_if_eq (tgt := 80) C dX6_placing_70 (by decide) rfl (fun q => absurd q (by decide)) (fun _ => ?_)
          refine v_aload_n C dX6_placing_73 rfl rfl rfl ?_
          refine v_iload C dX6_placing_74 rfl rfl ?_
          refine v_callV C (Nat.le_of_ble_eq_true rfl) rfl rfl (As := [.int (-2)]) (rest := []) (kX6_no (-2) 2 σ (by decide) (by decide)) rfl (Nat.le_of_ble_eq_true rfl) (Nat.le_of_ble_eq_true rfl) ⟨mlX6_79, mfX6_no⟩ dkX6_no (Nat.le_of_ble_eq_true rfl) dX6_placing_76 rfl (kI ?_)
          exact v_iret C dX6_placing_79 (by rw [hX]; exact ⟨_, rfl, by rw [plaA, (show plaW n v w z = 2 by simp [plaW, cI, c2, c7, c18, c32])]; rfl, by rw [(show plaW n v w z = 2 by simp [plaW, cI, c2, c7, c18, c32])]; rfl⟩)
      · skip
        refine v_bipush (v := -6) C dX6_placing_21 (by decide) rfl ?_
        refine v_goto (tgt := 66) C dX6_placing_23 (by decide) ?_
        refine v_istore (lv' := [(4, .int (-6)), (0, .ref 0), (1, .int v), (2, .int w), (3, .int z)]) C dX6_placing_66 (Nat.le_of_ble_eq_true rfl) rfl rfl ?_
        refine v_iload C dX6_placing_68 rfl rfl ?_
        refine v_if_eq (tgt := 80) C dX6_placing_70 (by decide) rfl (fun q => absurd q (by decide)) (fun _ => ?_)
        refine v_aload_n C dX6_placing_73 rfl rfl rfl ?_
        refine v_iload C dX6_placing_74 rfl rfl ?_
        refine v_callV C (Nat.le_of_ble_eq_true rfl) rfl rfl (As := [.int (-6)]) (rest := []) (kX6_no (-6) 6 σ (by decide) (by decide)) rfl (Nat.le_of_ble_eq_true rfl) (Nat.le_of_ble_eq_true rfl) ⟨mlX6_79, mfX6_no⟩ dkX6_no (Nat.le_of_ble_eq_true rfl) dX6_placing_76 rfl (kI ?_)
        exact v_iret C dX6_placing_79 (by rw [hX]; exact ⟨_, rfl, by rw [plaA, (show plaW n v w z = 6 by simp [plaW, cI, c2, c7, c18])]; rfl, by rw [(show plaW n v w z = 6 by simp [plaW, cI, c2, c7, c18])]; rfl⟩)
    · skip
      refine v_bipush (v := -4) C dX6_placing_10 (by decide) rfl ?_
      refine v_goto (tgt := 66) C dX6_placing_12 (by decide) ?_
      refine v_istore (lv' := [(4, .int (-4)), (0, .ref 0), (1, .int v), (2, .int w), (3, .int z)]) C dX6_placing_66 (Nat.le_of_ble_eq_true rfl) rfl rfl ?_
      refine v_iload C dX6_placing_68 rfl rfl ?_
      refine v_if_eq (tgt := 80) C dX6_placing_70 (by decide) rfl (fun q => absurd q (by decide)) (fun _ => ?_)
      refine v_aload_n C dX6_placing_73 rfl rfl rfl ?_
      refine v_iload C dX6_placing_74 rfl rfl ?_
      refine v_callV C (Nat.le_of_ble_eq_true rfl) rfl rfl (As := [.int (-4)]) (rest := []) (kX6_no (-4) 4 σ (by decide) (by decide)) rfl (Nat.le_of_ble_eq_true rfl) (Nat.le_of_ble_eq_true rfl) ⟨mlX6_79, mfX6_no⟩ dkX6_no (Nat.le_of_ble_eq_true rfl) dX6_placing_76 rfl (kI ?_)
      exact v_iret C dX6_placing_79 (by rw [hX]; exact ⟨_, rfl, by rw [plaA, (show plaW n v w z = 4 by simp [plaW, cI, c2, c7])]; rfl, by rw [(show plaW n v w z = 4 by simp [plaW, cI, c2, c7])]; rfl⟩)
noncomputable def innA (σ : St) (n : Nat) : Int32 := if 5 < n then -3 else if (plQ σ n 63 1).2 < 0 then -9 else 6 - (plQ σ n 63 1).2
theorem kX6_innocent (n : Nat) (σ : St) (hn : σ 0 8 = nI n) (h7 : n ≤ 7) : Ct yX6_innocent cX6_innocent 1 (some .int) 5 [.ref 0] σ (rI (fun r τ => r = innA σ n ∧ Rf (if 5 < n then 3 else 0) σ τ)) := by
  refine ct_of plX6 rfl (Nat.le_of_ble_eq_true rfl) (fun X hX C => ?_)
  show V X 0 [(0, .ref 0)] [] σ
  refine v_aload_n C dX6_innocent_0 rfl rfl rfl ?_
  refine v_getI C (Nat.le_of_ble_eq_true rfl) rfl rfl hinX6 8 (Nat.le_of_ble_eq_true rfl) lkX6_65 rfl dX6_innocent_1 rfl ?_
  refine V.tp hn ?_
  refine v_iconst (v := 5) C dX6_innocent_4 (by decide) rfl ?_
  refine v_icmp_le (tgt := 15) C dX6_innocent_5 (by decide) rfl (fun c5 => ?_) (fun c5 => ?_)
  · skip
    have c5 := mt (nI_ltI (a := 5) (b := n) (by omega) (by omega)).mpr c5
    refine v_aload_n C dX6_innocent_15 rfl rfl rfl ?_
    refine v_bipush (v := 63) C dX6_innocent_16 (by decide) rfl ?_
    refine v_iconst (v := 1) C dX6_innocent_18 (by decide) rfl ?_
    refine v_callV C (Nat.le_of_ble_eq_true rfl) rfl rfl (As := [.int 63, .int 1]) (rest := []) (kX6_findPlacing 63 1 n σ hn (by omega)) rfl (Nat.le_of_ble_eq_true rfl) (Nat.le_of_ble_eq_true rfl) ⟨mlX6_203, mfX6_findPlacing⟩ dkX6_findPlacing (Nat.le_of_ble_eq_true rfl) dX6_innocent_19 rfl (krV (fun τ22_1 h22_1 => ?_))
    have hq23 : τ22_1 0 23 = (plQ σ n 63 1).2 := h22_1.2.1
    refine v_aload_n C dX6_innocent_22 rfl rfl rfl ?_
    refine v_getI C (Nat.le_of_ble_eq_true rfl) rfl rfl hinX6 23 (Nat.le_of_ble_eq_true rfl) lkX6_187 rfl dX6_innocent_23 rfl ?_
    refine V.tp hq23 ?_
    refine v_if_ge (tgt := 34) C dX6_innocent_26 (by decide) rfl (fun c26 => ?_) (fun c26 => ?_)
    · skip
      refine v_bipush (v := 6) C dX6_innocent_34 (by decide) rfl ?_
      refine v_aload_n C dX6_innocent_36 rfl rfl rfl ?_
      refine v_getI C (Nat.le_of_ble_eq_true rfl) rfl rfl hinX6 23 (Nat.le_of_ble_eq_true rfl) lkX6_187 rfl dX6_innocent_37 rfl ?_
      refine V.tp hq23 ?_
      refine v_isub C dX6_innocent_40 rfl ?_
      exact v_iret C dX6_innocent_41 (by rw [hX]; exact ⟨_, rfl, by rw [innA, if_neg (by omega), if_neg c26], by rw [Rf, if_neg (show ¬ 5 < n by omega)]; exact h22_1.1⟩)
    · skip
      refine v_bipush (v := -9) C dX6_innocent_29 (by decide) rfl ?_
      refine v_goto (tgt := 41) C dX6_innocent_31 (by decide) ?_
      exact v_iret C dX6_innocent_41 (by rw [hX]; exact ⟨_, rfl, by rw [innA, if_neg (by omega), if_pos c26], by rw [Rf, if_neg (show ¬ 5 < n by omega)]; exact h22_1.1⟩)
  · skip
    have c5 := (nI_ltI (a := 5) (b := n) (by omega) (by omega)).mp c5
    refine v_aload_n C dX6_innocent_8 rfl rfl rfl ?_
    refine v_bipush (v := -3) C dX6_innocent_9 (by decide) rfl ?_
    refine v_callV C (Nat.le_of_ble_eq_true rfl) rfl rfl (As := [.int (-3)]) (rest := []) (kX6_no (-3) 3 σ (by decide) (by decide)) rfl (Nat.le_of_ble_eq_true rfl) (Nat.le_of_ble_eq_true rfl) ⟨mlX6_79, mfX6_no⟩ dkX6_no (Nat.le_of_ble_eq_true rfl) dX6_innocent_11 rfl (kI ?_)
    exact v_iret C dX6_innocent_14 (by rw [hX]; exact ⟨_, rfl, by rw [innA, if_pos (by omega)], by rw [Rf, if_pos (show 5 < n by omega)]; rfl⟩)
def zN (z : Int32) : Nat → Int32
  | 0 => z
  | k + 1 => zN z k * 1664525 + 1013904223
def drw (x : Int32) : Int32 := (x &&& 2147483647) / 256 - (x &&& 2147483647) / 256 / 6 * 6
def lpl (z : Int32) (n i : Nat) : Nat → Int32 := fun p => drw (zN z (i * n + p + 1))
def loF (σ : St) (n : Nat) (z : Int32) (i : Nat) : Int32 := binF (σ 4) (σ 6) (σ 7) (lpl z n i) n (worN (binF (σ 4) (σ 6) (σ 7) (lpl z n i) n) 6)
def lotA (σ : St) (n : Nat) (v z : Int32) : Int32 := if v < 1 then -4 else if 20 < v then -6 else sumN (loF σ n z) (tn v)
def Ltr (σ τ : St) : Prop := (∀ a, a ≠ 8 → τ a = σ a) ∧ (∀ j, 7 ≤ j → τ 8 j = σ 8 j)
theorem Ltr_put {σ τ : St} (h : Ltr σ τ) {q : Nat} (hq : q < 7) (v : Int32) : Ltr σ (s2 τ 8 q v) :=
  ⟨fun a ha => by rw [s2_ne ha]; exact h.1 a ha, fun j hj => by rw [s2_get, if_neg (by omega)]; exact h.2 j hj⟩
theorem kX6_lots (v z : Int32) (n : Nat) (σ : St) (hn : σ 0 8 = nI n) (h7 : n ≤ 7) : Ct yX6_lots cX6_lots 8 (some .int) 4 [.ref 0, .int v, .int z] σ (rI (fun r τ => r = lotA σ n v z ∧ ((v < 1 ∧ τ = noS σ 4) ∨ (¬ v < 1 ∧ 20 < v ∧ τ = noS σ 6) ∨ (¬ v < 1 ∧ ¬ 20 < v ∧ Sm σ τ)))) := by
  refine ct_of plX6 rfl (Nat.le_of_ble_eq_true rfl) (fun X hX C => ?_)
  show V X 0 [(0, .ref 0), (1, .int v), (2, .int z)] [] σ
  refine v_iload_n C dX6_lots_0 rfl rfl rfl ?_
  refine v_iconst (v := 1) C dX6_lots_1 (by decide) rfl ?_
  refine v_bipush (v := 20) C dX6_lots_2 (by decide) rfl ?_
  refine v_callS C (As := [.int v, .int 1, .int 20]) (rest := []) (kX6_bound v 1 20 σ) rfl (Nat.le_of_ble_eq_true rfl) (Nat.le_of_ble_eq_true rfl) ⟨mlX6_72, mfX6_bound⟩ dkX6_bound (Nat.le_of_ble_eq_true rfl) dX6_lots_4 rfl (kI ?_)
  rcases bnd_cases v 1 20 with ⟨hb, q1⟩ | ⟨hb, q1, q2⟩ | ⟨hb, q1, q2⟩
  · refine V.tp hb ?_
    refine v_istore_n (lv' := [(3, .int (-4)), (0, .ref 0), (1, .int v), (2, .int z)]) C dX6_lots_7 rfl (Nat.le_of_ble_eq_true rfl) rfl rfl ?_
    refine v_iload_n C dX6_lots_8 rfl rfl rfl ?_
    refine v_if_eq (tgt := 18) C dX6_lots_9 (by decide) rfl (fun q => absurd q (by decide)) (fun _ => ?_)
    refine v_aload_n C dX6_lots_12 rfl rfl rfl ?_
    refine v_iload_n C dX6_lots_13 rfl rfl rfl ?_
    refine v_callV C (Nat.le_of_ble_eq_true rfl) rfl rfl (As := [.int (-4)]) (rest := []) (kX6_no (-4) 4 σ (by decide) (by decide)) rfl (Nat.le_of_ble_eq_true rfl) (Nat.le_of_ble_eq_true rfl) ⟨mlX6_79, mfX6_no⟩ dkX6_no (Nat.le_of_ble_eq_true rfl) dX6_lots_14 rfl (kI ?_)
    exact v_iret C dX6_lots_17 (by rw [hX]; exact ⟨_, rfl, by simp [lotA, q1], Or.inl ⟨q1, rfl⟩⟩)
  · refine V.tp hb ?_
    refine v_istore_n (lv' := [(3, .int (-6)), (0, .ref 0), (1, .int v), (2, .int z)]) C dX6_lots_7 rfl (Nat.le_of_ble_eq_true rfl) rfl rfl ?_
    refine v_iload_n C dX6_lots_8 rfl rfl rfl ?_
    refine v_if_eq (tgt := 18) C dX6_lots_9 (by decide) rfl (fun q => absurd q (by decide)) (fun _ => ?_)
    refine v_aload_n C dX6_lots_12 rfl rfl rfl ?_
    refine v_iload_n C dX6_lots_13 rfl rfl rfl ?_
    refine v_callV C (Nat.le_of_ble_eq_true rfl) rfl rfl (As := [.int (-6)]) (rest := []) (kX6_no (-6) 6 σ (by decide) (by decide)) rfl (Nat.le_of_ble_eq_true rfl) (Nat.le_of_ble_eq_true rfl) ⟨mlX6_79, mfX6_no⟩ dkX6_no (Nat.le_of_ble_eq_true rfl) dX6_lots_14 rfl (kI ?_)
    exact v_iret C dX6_lots_17 (by rw [hX]; exact ⟨_, rfl, by simp [lotA, q1, q2], Or.inr (Or.inl ⟨q1, q2, rfl⟩)⟩)
  · refine V.tp hb ?_
    refine v_istore_n (lv' := [(3, .int 0), (0, .ref 0), (1, .int v), (2, .int z)]) C dX6_lots_7 rfl (Nat.le_of_ble_eq_true rfl) rfl rfl ?_
    refine v_iload_n C dX6_lots_8 rfl rfl rfl ?_
    refine v_if_eq (tgt := 18) C dX6_lots_9 (by decide) rfl (fun _ => ?_) (fun q => absurd q (by decide))
    have hv1 := (nat_of (v := v) (a := 1) (b := 20) (by decide) (by decide) q1 q2)
    have hv2 := hv1.2
    refine v_aload_n C dX6_lots_18 rfl rfl rfl ?_
    refine v_iconst (v := 1) C dX6_lots_19 (by decide) rfl ?_
    refine v_iconst (v := 1) C dX6_lots_20 (by decide) rfl ?_
    refine v_callV C (Nat.le_of_ble_eq_true rfl) rfl rfl (As := [.int 1, .int 1]) (rest := []) (kX6_passesAllK1 σ) rfl (Nat.le_of_ble_eq_true rfl) (Nat.le_of_ble_eq_true rfl) ⟨mlX6_139, mfX6_passesAll⟩ dkX6_passesAll (Nat.le_of_ble_eq_true rfl) dX6_lots_21 rfl (krV (fun τ24_1 h24_1 => ?_))
    have hnτ24_1 : τ24_1 0 8 = nI n := by rw [h24_1.2.1 8 (by decide) (by decide)]; exact hn
    refine v_iload_n C dX6_lots_24 rfl rfl rfl ?_
    refine v_istore (lv' := [(4, .int z), (3, .int 0), (0, .ref 0), (1, .int v), (2, .int z)]) C dX6_lots_25 (Nat.le_of_ble_eq_true rfl) rfl rfl ?_
    refine v_iconst (v := 0) C dX6_lots_27 (by decide) rfl ?_
    refine v_istore (lv' := [(5, .int 0), (4, .int z), (3, .int 0), (0, .ref 0), (1, .int v), (2, .int z)]) C dX6_lots_28 (Nat.le_of_ble_eq_true rfl) rfl rfl ?_
    refine v_iconst (v := 0) C dX6_lots_30 (by decide) rfl ?_
    refine v_istore (lv' := [(6, .int 0), (5, .int 0), (4, .int z), (3, .int 0), (0, .ref 0), (1, .int v), (2, .int z)]) C dX6_lots_31 (Nat.le_of_ble_eq_true rfl) rfl rfl ?_
    have lp33 : ∀ (kf i : Nat) (x4 : Int32) (x5 : Int32) (τ : St), (tn v) < i + kf → i ≤ (tn v) → x4 = zN z (i * n) → x5 = sumN (loF σ n z) i → Ltr τ24_1 τ → V X 33 [(6, .int (nI i)), (5, .int x5), (4, .int x4), (0, .ref 0), (1, .int v), (2, .int z)] [] τ := by
      intro kf
      induction kf with
      | zero => intro i x4 x5 τ h1 h2; omega
      | succ kf ih33 =>
        intro i x4 x5 τ h1 h2 ex4 ex5 eτ
        have hnτ : τ 0 8 = nI n := by rw [eτ.1 0 (by decide)]; exact hnτ24_1
        refine v_iload C dX6_lots_33 rfl rfl ?_
        refine v_iload_n C dX6_lots_35 rfl rfl rfl ?_
        refine V.tp hv1.1 ?_
        refine v_icmp_ge (tgt := 107) C dX6_lots_36 (by decide) rfl (fun c36 => ?_) (fun c36 => ?_)
        · skip
          have c36 := mt (nI_ltI (a := i) (b := (tn v)) (by omega) (by omega)).mpr c36
          refine v_aload_n C dX6_lots_107 rfl rfl rfl ?_
          refine v_iconst (v := 1) C dX6_lots_108 (by decide) rfl ?_
          refine v_iconst (v := 0) C dX6_lots_109 (by decide) rfl ?_
          refine v_callV C (Nat.le_of_ble_eq_true rfl) rfl rfl (As := [.int 1, .int 0]) (rest := []) (kX6_passesAllB1 τ) rfl (Nat.le_of_ble_eq_true rfl) (Nat.le_of_ble_eq_true rfl) ⟨mlX6_139, mfX6_passesAll⟩ dkX6_passesAll (Nat.le_of_ble_eq_true rfl) dX6_lots_110 rfl (krV (fun τ113_2 h113_2 => ?_))
          refine v_iload C dX6_lots_113 rfl rfl ?_
          exact v_iret C dX6_lots_115 (by rw [hX]; exact ⟨_, rfl, by rw [lotA, if_neg q1, if_neg q2, ex5, show i = tn v by omega], Or.inr (Or.inr ⟨q1, q2, KB h24_1 h113_2 (eτ.1 13 (by decide)) (fun k h2 h8 j hj => (Classical.em (k = 8)).elim (fun e => by subst e; rw [eτ.2 j hj, h24_1.1 8 (by decide) (by decide)]) (fun e => by rw [eτ.1 k e, h24_1.1 k (by omega) (by omega)])) (fun a ha => by rw [eτ.1 a (by omega)]; exact h24_1.1 a (by omega) (by omega)) (fun j hj => by rw [eτ.1 0 (by decide)]; exact h24_1.2.1 j (by omega) (by omega))⟩)⟩)
        · skip
          have c36 := (nI_ltI (a := i) (b := (tn v)) (by omega) (by omega)).mp c36
          refine v_iconst (v := 0) C dX6_lots_39 (by decide) rfl ?_
          refine v_istore (lv' := [(7, .int 0), (6, .int (nI i)), (5, .int x5), (4, .int x4), (0, .ref 0), (1, .int v), (2, .int z)]) C dX6_lots_40 (Nat.le_of_ble_eq_true rfl) rfl rfl ?_
          have lp42 : ∀ (kf q : Nat) (y4 : Int32) (υ : St), n < q + kf → q ≤ n → y4 = zN z (i * n + q) → (Ltr τ24_1 υ ∧ ∀ p, p < q → υ 8 p = lpl z n i p) → V X 42 [(7, .int (nI q)), (6, .int (nI i)), (5, .int x5), (4, .int y4), (0, .ref 0), (1, .int v), (2, .int z)] [] υ := by
            intro kf
            induction kf with
            | zero => intro q y4 υ h1 h2; omega
            | succ kf ih42 =>
              intro q y4 υ h1 h2 ey4 eυ
              have hnυ : υ 0 8 = nI n := by rw [eυ.1.1 0 (by decide)]; exact hnτ24_1
              refine v_iload C dX6_lots_42 rfl rfl ?_
              refine v_aload_n C dX6_lots_44 rfl rfl rfl ?_
              refine v_getI C (Nat.le_of_ble_eq_true rfl) rfl rfl hinX6 8 (Nat.le_of_ble_eq_true rfl) lkX6_65 rfl dX6_lots_45 rfl ?_
              refine V.tp hnυ ?_
              refine v_icmp_ge (tgt := 88) C dX6_lots_48 (by decide) rfl (fun c48 => ?_) (fun c48 => ?_)
              · skip
                have c48 := mt (nI_ltI (a := q) (b := n) (by omega) (by omega)).mpr c48
                refine v_iload C dX6_lots_88 rfl rfl ?_
                refine v_aload_n C dX6_lots_90 rfl rfl rfl ?_
                refine v_aload_n C dX6_lots_91 rfl rfl rfl ?_
                refine v_callV C (Nat.le_of_ble_eq_true rfl) rfl rfl (As := []) (rest := [.ref 0, .int x5]) (kX6_worst n υ hnυ h7) rfl (Nat.le_of_ble_eq_true rfl) (Nat.le_of_ble_eq_true rfl) ⟨mlX6_197, mfX6_worst⟩ dkX6_worst (Nat.le_of_ble_eq_true rfl) dX6_lots_92 rfl (kI ?_)
                refine v_callV C (Nat.le_of_ble_eq_true rfl) rfl rfl (As := [.int (worN (binF (υ 4) (υ 6) (υ 7) (υ 8) n) 6)]) (rest := [.int x5]) (kX6_blameIn n (worN (binF (υ 4) (υ 6) (υ 7) (υ 8) n) 6) υ hnυ h7) rfl (Nat.le_of_ble_eq_true rfl) (Nat.le_of_ble_eq_true rfl) ⟨mlX6_178, mfX6_blameIn⟩ dkX6_blameIn (Nat.le_of_ble_eq_true rfl) dX6_lots_95 rfl (kI ?_)
                have h8u : ∀ p, p < n → υ 8 p = lpl z n i p := fun p hp => eυ.2 p (by omega)
                have r4 : υ 4 = σ 4 := (eυ.1.1 4 (by decide)).trans (h24_1.1 4 (by decide) (by decide))
                have r6 : υ 6 = σ 6 := (eυ.1.1 6 (by decide)).trans (h24_1.1 6 (by decide) (by decide))
                have r7 : υ 7 = σ 7 := (eυ.1.1 7 (by decide)).trans (h24_1.1 7 (by decide) (by decide))
                refine V.tp (show binF (υ 4) (υ 6) (υ 7) (υ 8) n (worN (binF (υ 4) (υ 6) (υ 7) (υ 8) n) 6) = loF σ n z i from by rw [loF, r4, r6, r7, binF_cg h8u, show binF (σ 4) (σ 6) (σ 7) (υ 8) n = binF (σ 4) (σ 6) (σ 7) (lpl z n i) n from funext (fun r => binF_cg h8u r)]) ?_
                refine v_iadd C dX6_lots_98 rfl ?_
                refine V.top (fun v99_3 ev99_3 => ?_)
                refine v_istore (lv' := [(5, .int v99_3), (7, .int (nI q)), (6, .int (nI i)), (4, .int y4), (0, .ref 0), (1, .int v), (2, .int z)]) C dX6_lots_99 (Nat.le_of_ble_eq_true rfl) rfl rfl ?_
                refine v_iinc (lv' := [(6, .int (nI (i + 1))), (5, .int v99_3), (7, .int (nI q)), (4, .int y4), (0, .ref 0), (1, .int v), (2, .int z)]) C dX6_lots_101 rfl (nI_inc i) (Nat.le_of_ble_eq_true rfl) rfl rfl ?_
                refine v_goto (tgt := 33) C dX6_lots_104 (by decide) ?_
                exact V.sub [0, 1, 3, 4, 5, 6] rfl (ih33 (i + 1) _ _ _ (by omega) (by omega) (by rw [Nat.succ_mul, ey4, show q = n by omega]) (by rw [ev99_3, ex5]; rfl) (eυ.1))
              · skip
                have c48 := (nI_ltI (a := q) (b := n) (by omega) (by omega)).mp c48
                refine v_iload C dX6_lots_51 rfl rfl ?_
                refine v_ldc C kcX6_255 dX6_lots_53 rfl ?_
                refine v_imul C dX6_lots_55 rfl ?_
                refine v_ldcw C kcX6_256 dX6_lots_56 rfl ?_
                refine v_iadd C dX6_lots_59 rfl ?_
                refine V.top (fun v60_4 ev60_4 => ?_)
                refine v_istore (lv' := [(4, .int v60_4), (7, .int (nI q)), (6, .int (nI i)), (5, .int x5), (0, .ref 0), (1, .int v), (2, .int z)]) C dX6_lots_60 (Nat.le_of_ble_eq_true rfl) rfl rfl ?_
                refine v_aload_n C dX6_lots_62 rfl rfl rfl ?_
                refine v_getR C (Nat.le_of_ble_eq_true rfl) rfl rfl hinX6 7 (Nat.le_of_ble_eq_true rfl) lkX6_31 rfl dX6_lots_63 rfl ?_
                refine v_iload C dX6_lots_66 rfl rfl ?_
                refine v_iload C dX6_lots_68 rfl rfl ?_
                refine v_ldcw C kcX6_257 dX6_lots_70 rfl ?_
                refine v_iand C dX6_lots_73 rfl ?_
                refine v_sipush (v := 256) C dX6_lots_74 (by decide) rfl ?_
                refine v_idiv C dX6_lots_77 (by decide) rfl ?_
                refine v_bipush (v := 6) C dX6_lots_78 (by decide) rfl ?_
                refine v_irem C dX6_lots_80 (by decide) rfl ?_
                refine v_iast (i := q) C (Nat.le_of_ble_eq_true rfl) rfl rfl (by omega) (by decide) dX6_lots_81 rfl ?_
                refine V.nm (fun τ81_5 eτ81_5 => ?_)
                refine v_iinc (lv' := [(7, .int (nI (q + 1))), (4, .int v60_4), (6, .int (nI i)), (5, .int x5), (0, .ref 0), (1, .int v), (2, .int z)]) C dX6_lots_82 rfl (nI_inc q) (Nat.le_of_ble_eq_true rfl) rfl rfl ?_
                refine v_goto (tgt := 42) C dX6_lots_85 (by decide) ?_
                exact V.sub [0, 2, 3, 1, 4, 5, 6] rfl (ih42 (q + 1) _ _ (by omega) (by omega) (by rw [ev60_4, ey4]; rfl) (by rw [eτ81_5]; exact ⟨Ltr_put eυ.1 (by omega) _, fun p hp => (Classical.em (p = q)).elim (fun e => by rw [e, s2_get, if_pos ⟨rfl, rfl⟩, ev60_4, ey4]; rfl) (fun e => by rw [s2_get, if_neg (fun z => e z.2)]; exact eυ.2 p (by omega))⟩))
          exact V.sub [0, 1, 2, 3, 4, 5, 6] rfl (lp42 (n + 1) 0 x4 _ (by omega) (by omega) (ex4) (⟨eτ, fun p hp => by omega⟩))
    exact V.sub [0, 1, 2, 4, 5, 6] rfl (lp33 ((tn v) + 1) 0 z 0 _ (by omega) (by omega) (by rw [Nat.zero_mul]; rfl) (rfl) (⟨fun _ _ => rfl, fun _ _ => rfl⟩))
