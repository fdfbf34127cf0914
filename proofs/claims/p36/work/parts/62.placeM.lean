/-! the class: placing, innocent -/
def Sm19 (σ : St) (n : Nat) : Prop := Sml (σ (19 + 1)) (σ (19 + 2)) (σ (19 + 3)) (σ (19 + 4)) (σ (19 + 6)) n
def okR (bk sz : Nat → Int32) (n : Nat) (v : Int32) (k : Nat) : Prop := (∀ p, p < n → hasP v (plc n k p)) ∧ (∀ r, r < 6 → ¬ sz r < bulF bk (plc n k) n (nI r))
def FR (kd ft ag : Nat → Int32) (n : Nat) (w : Int32) (k : Nat) : Int32 := if w = 0 then binF kd ft ag (plc n k) n (worN (binF kd ft ag (plc n k) n) 6) else useF (plc n k) n
noncomputable def pQ (σ : St) (n : Nat) (v w : Int32) : Nat × Int32 := fpN (okR (σ (19 + 2)) (σ (19 + 6)) n v) (FR (σ (19 + 1)) (σ (19 + 3)) (σ (19 + 4)) n w) (6 ^ n)
theorem worN_cg {F G : Int32 → Int32} : ∀ i, (∀ r, r < i → F (nI r) = G (nI r)) → worN F i = worN G i
  | 0, _ => rfl
  | i + 1, h => by
    rw [worN, worN, worN_cg i (fun r hr => h r (by omega)), h i (by omega)]
    by_cases e : i = 0
    · rw [if_pos e, if_pos e]
    · obtain ⟨⟨r, hr, er⟩, _⟩ := worN_is G i (by omega)
      rw [if_neg e, if_neg e, er, h r (by omega)]
theorem nI_n10 {r : Nat} (h : r < 6) : ¬ nI r = 10 := fun e => by
  have := (nI_eq (a := r) (b := 10) (by omega) (by omega)).mp e; omega
theorem wor_in (kd ft ag pl : Nat → Int32) (n : Nat) : worN (binF kd ft ag pl n) 6 = worN (inF kd ft ag pl n) 6 := worN_cg 6 (fun r hr => (inF_eq (nI_n10 hr)).symm)
theorem wor_bin (kd ft ag pl : Nat → Int32) (n : Nat) : binF kd ft ag pl n (worN (binF kd ft ag pl n) 6) = inF kd ft ag pl n (worN (inF kd ft ag pl n) 6) := by
  obtain ⟨⟨r, hr, er⟩, _⟩ := worN_is (inF kd ft ag pl n) 6 (by decide)
  rw [wor_in, er]; exact (inF_eq (nI_n10 hr)).symm
theorem bulF_cg2 {bk bk' pl pl' : Nat → Int32} {n : Nat} (h : ∀ p, p < n → bk p = bk' p ∧ pl p = pl' p) (r : Int32) : bulF bk pl n r = bulF bk' pl' n r :=
  sumN_congr (fun p hp => by rw [bulG, bulG, (h p hp).1, (h p hp).2])
theorem sm_cop {σ υ : St} {n : Nat} (c : Cop σ 27 19 υ) (h7 : n ≤ 7) (h : Sm19 σ n) : Sm27 υ n :=
  ⟨fun p hp => by rw [c.r2 (by omega), c.r3 (by omega), c.r4 (by omega)]; exact h.1 p hp, fun r hr => by rw [c.r6 hr]; exact h.2 r hr⟩
theorem plt_plc (n k : Nat) {j : Nat} (hj : j < n) : plt (dig 6 n k) n j = plc n k j := by rw [plt, if_pos hj]; rfl
theorem pq_cop {σ υ : St} {n : Nat} {v w : Int32} (c : Cop σ 27 19 υ) (h7 : n ≤ 7) (h : Sm19 σ n) : fpN (okP υ n v) (fP υ n w) (6 ^ n) = pQ σ n v w := by
  have hs := sm_cop c h7 h
  refine fp_cg (6 ^ n) (fun k _ => ⟨?_, fun _ => ?_⟩)
  · rw [okP, okS_full hs h7 (dig6 n k), okR]
    refine and_congr Iff.rfl ⟨fun z r hr => ?_, fun z r hr => ?_⟩
    · have := z r hr
      rw [c.r6 hr, bulF_cg2 (bk' := σ (19 + 2)) (pl' := plc n k) (fun p hp => ⟨c.r2 (by omega), plt_plc n k hp⟩)] at this
      exact this
    · rw [c.r6 hr, bulF_cg2 (bk' := σ (19 + 2)) (pl' := plc n k) (fun p hp => ⟨c.r2 (by omega), plt_plc n k hp⟩)]
      exact z r hr
  · rw [fP, cst, FR]
    by_cases e : w = 0
    · rw [if_pos e, if_pos e, ← cWo_n hs h7, wor_bin, inF_cg4 (kd' := σ (19 + 1)) (ft' := σ (19 + 3)) (ag' := σ (19 + 4)) (pl' := plc n k) (fun p hp => ⟨c.r1 (by omega), c.r3 (by omega), c.r4 (by omega), plt_plc n k hp⟩)]
    · rw [if_neg e, if_neg e]; exact (use_cFe (dig6 n k) (fun j _ => rfl)).symm
def Plk (σ τ : St) : Prop := ∀ a, (a < 27 ∨ 34 < a) → a ≠ 47 → a ≠ 48 → τ a = σ a
theorem plk_of {σ υ ψ : St} (c : Cop σ 27 19 υ) (h : ∀ a, a ≠ 47 → a ≠ 48 → a ≠ 27 + 5 → ψ a = υ a) : Plk σ ψ := fun a h1 h2 h3 => (h a h2 h3 (by omega)).trans (c.thk a h1)
noncomputable def plaH (σ : St) (n : Nat) (v w z : Int32) : Int32 := if plaW n v w z = 0 then (if z < 0 ∨ (pQ σ n v w).2 < 0 then (pQ σ n v w).2 else plc n (pQ σ n v w).1 (tn z)) else -(nI (plaW n v w z))
noncomputable def innH (σ : St) (n : Nat) : Int32 := if 5 < n then -3 else if (pQ σ n 63 1).2 < 0 then -9 else 6 - (pQ σ n 63 1).2
theorem in01 {w : Int32} (h : isInP w 0 1) : w = 0 ∨ w = 1 := by
  have := nat_of (v := w) (a := 0) (b := 1) (by decide) (by decide) h.1 h.2
  rcases (by omega : tn w = 0 ∨ tn w = 1) with q | q
  · exact Or.inl (by rw [this.1, q]; rfl)
  · exact Or.inr (by rw [this.1, q]; rfl)
theorem m1_pos {z : Int32} (h1 : ¬ z < -1) (h2 : ¬ z = -1) : ¬ z < 0 := by
  rw [i32_lt] at h1
  rw [i32_z]
  have e : (-1 : Int32).toInt = -1 := rfl
  intro h
  exact h2 (Int32.toInt_inj.mp (by omega))
theorem plw_4 {n : Nat} {v w z : Int32} (h : v < 1 ∨ z < -1) : plaW n v w z = 4 := by rw [plaW, if_pos h]
theorem plw_6 {n : Nat} {v w z : Int32} (h : ¬ (v < 1 ∨ z < -1)) (h2 : 63 < v) : plaW n v w z = 6 := by rw [plaW, if_neg h, if_pos h2]
theorem plw_2 {n : Nat} {v w z : Int32} (h : ¬ (v < 1 ∨ z < -1)) (h2 : ¬ 63 < v) (h3 : ¬ (w = 0 ∨ w = 1)) : plaW n v w z = 2 := by rw [plaW, if_neg h, if_neg h2, cI_f (fun q => h3 (in01 q))]
theorem plw_c {n : Nat} {v w z : Int32} (h : ¬ (v < 1 ∨ z < -1)) (h2 : ¬ 63 < v) (h3 : w = 0 ∨ w = 1) : plaW n v w z = if 5 < n then 3 else if z < nI n then 0 else 1 := by
  rw [plaW, if_neg h, if_neg h2, cI_t (show isInP w 0 1 by rcases h3 with rfl | rfl <;> exact ⟨by decide, by decide⟩)]
theorem m1_lt (n : Nat) (h7 : n ≤ 7) : (-1 : Int32) < nI n := by
  rw [i32_lt, nI_toInt (by omega)]
  have e : (-1 : Int32).toInt = -1 := rfl
  omega
theorem kX5_placing (v w z : Int32) (n : Nat) (σ : St) (hn : σ 19 7 = nI n) (h7 : n ≤ 7) (hs : Sm19 σ n) : Ct yX5_placing cX5_placing 5 (some .int) 12 [.ref 18, .int v, .int w, .int z] σ (rI (fun r τ => r = plaH σ n v w z ∧ ((plaW n v w z ≠ 0 ∧ τ = ansS σ (-(nI (plaW n v w z)))) ∨ (plaW n v w z = 0 ∧ Plk σ τ)))) := by
  refine ct_of plX5 rfl (Nat.le_of_ble_eq_true rfl) (fun X hX C => ?_)
  show V X 0 [(0, .ref 18), (1, .int v), (2, .int w), (3, .int z)] [] σ
  refine v_iload_n C dX5_placing_0 rfl rfl rfl ?_
  refine v_iconst (v := 1) C dX5_placing_1 (by decide) rfl ?_
  refine v_icmp_lt (tgt := 10) C dX5_placing_2 (by decide) rfl (fun c2 => ?_) (fun c2 => ?_)
  · skip
    refine v_aload_n C dX5_placing_10 rfl rfl rfl ?_
    refine v_bipush (v := -4) C dX5_placing_11 (by decide) rfl ?_
    refine v_callV C (Nat.le_of_ble_eq_true rfl) rfl rfl (As := [.int (-4)]) (rest := []) (kX5_answer (-4) σ) rfl (Nat.le_of_ble_eq_true rfl) (Nat.le_of_ble_eq_true rfl) ⟨mlX5_64, mfX5_answer⟩ dkX5_answer (Nat.le_of_ble_eq_true rfl) dX5_placing_13 rfl (kI ?_)
    exact v_iret C dX5_placing_16 (by rw [hX]; have e := plw_4 (n := n) (w := w) (Or.inl c2 : v < 1 ∨ z < -1); exact ⟨_, rfl, by rw [plaH, e]; rfl, Or.inl ⟨by rw [e]; decide, by rw [e]; rfl⟩⟩)
  · skip
    refine v_iload_n C dX5_placing_5 rfl rfl rfl ?_
    refine v_iconst (v := -1) C dX5_placing_6 (by decide) rfl ?_
    refine v_icmp_ge (tgt := 17) C dX5_placing_7 (by decide) rfl (fun c7 => ?_) (fun c7 => ?_)
    · skip
      refine v_iload_n C dX5_placing_17 rfl rfl rfl ?_
      refine v_bipush (v := 63) C dX5_placing_18 (by decide) rfl ?_
      refine v_icmp_le (tgt := 30) C dX5_placing_20 (by decide) rfl (fun c20 => ?_) (fun c20 => ?_)
      · skip
        refine v_iload_n C dX5_placing_30 rfl rfl rfl ?_
        refine v_if_eq (tgt := 46) C dX5_placing_31 (by decide) rfl (fun c31 => ?_) (fun c31 => ?_)
        · skip
          refine v_aload_n C dX5_placing_46 rfl rfl rfl ?_
          refine v_getR C (Nat.le_of_ble_eq_true rfl) rfl rfl hinX5 0 (Nat.le_of_ble_eq_true rfl) lkX5_10 rfl dX5_placing_47 rfl ?_
          refine v_getNI C hh19.l0 hh19.s0 rfl hinX0 7 (Nat.le_of_ble_eq_true rfl) lkX5_126 rfl dX5_placing_50 rfl ?_
          refine V.tp hn ?_
          refine v_iconst (v := 5) C dX5_placing_53 (by decide) rfl ?_
          refine v_icmp_le (tgt := 64) C dX5_placing_54 (by decide) rfl (fun c54 => ?_) (fun c54 => ?_)
          · skip
            have c54 := mt (nI_ltI (a := 5) (b := n) (by omega) (by omega)).mpr c54
            refine v_iload_n C dX5_placing_64 rfl rfl rfl ?_
            refine v_iconst (v := -1) C dX5_placing_65 (by decide) rfl ?_
            refine v_icmp_eq (tgt := 86) C dX5_placing_66 (by decide) rfl (fun c66 => ?_) (fun c66 => ?_)
            · skip
              have c01 : w = 0 ∨ w = 1 := (Or.inl c31)
              have c54n : ¬ 5 < n := c54
              have h5 : n ≤ 5 := by omega
              have hzn : z < nI n := by rw [c66]; exact m1_lt n h7
              refine v_aload_n C dX5_placing_86 rfl rfl rfl ?_
              refine v_callV C (Nat.le_of_ble_eq_true rfl) rfl rfl (As := []) (rest := []) (kX5_thoughtOfNow σ) rfl (Nat.le_of_ble_eq_true rfl) (Nat.le_of_ble_eq_true rfl) ⟨mlX5_67, mfX5_thoughtOfNow⟩ dkX5_thoughtOfNow (Nat.le_of_ble_eq_true rfl) dX5_placing_87 rfl (krR (fun υ hC => ?_))
              have hnυ : υ 27 7 = nI n := hC.2.1.1.trans hn
              refine v_pop C dX5_placing_90 rfl rfl ?_
              refine v_aload_n C dX5_placing_91 rfl rfl rfl ?_
              refine v_getR C (Nat.le_of_ble_eq_true rfl) rfl rfl hinX5 6 (Nat.le_of_ble_eq_true rfl) lkX5_45 rfl dX5_placing_92 rfl ?_
              refine v_iload_n C dX5_placing_95 rfl rfl rfl ?_
              refine v_iload_n C dX5_placing_96 rfl rfl rfl ?_
              refine v_iconst (v := 1) C dX5_placing_97 (by decide) rfl ?_
              refine v_icmp_ne (tgt := 105) C dX5_placing_98 (by decide) rfl (fun c98 => ?_) (fun c98 => ?_)
              · skip
                refine v_iconst (v := 0) C dX5_placing_105 (by decide) rfl ?_
                refine v_callVN C (Nat.le_of_ble_eq_true rfl) rfl rfl (As := [.int v, .int 0]) (rest := []) (kX1_search υ n v 0 (Or.inl rfl) (sm_cop hC h7 hs) hnυ h5) rfl (Nat.le_of_ble_eq_true rfl) (Nat.le_of_ble_eq_true rfl) ⟨mlX5_130, mfX1_search⟩ dkX1_search (Nat.le_of_ble_eq_true rfl) dX5_placing_106 rfl (krI (fun r ψ hR => ?_))
                have hq : fpN (okP υ n v) (fP υ n 0) (6 ^ n) = pQ σ n v w := by rw [show w = 0 from (c01.resolve_right c98)]; exact pq_cop hC h7 hs
                have hm : (pQ σ n v w).2 < 0 → (pQ σ n v w).2 = -9 := by rw [← hq]; exact fp_neg (fun k _ => (fP_b (sm_cop hC h7 hs) h7 0 k).1) (6 ^ n)
                rw [hq] at hR
                have hK : Plk σ ψ := plk_of hC hR.2.2
                have hnψ : ψ 27 7 = nI n := (congrFun (hR.2.2 27 (by decide) (by decide) (by decide)) 7).trans hnυ
                refine v_istore (lv' := [(4, .int r), (0, .ref 18), (1, .int v), (2, .int w), (3, .int z)]) C dX5_placing_109 (Nat.le_of_ble_eq_true rfl) rfl rfl ?_
                refine v_iload_n C dX5_placing_111 rfl rfl rfl ?_
                refine v_iconst (v := -1) C dX5_placing_112 (by decide) rfl ?_
                refine v_icmp_eq (tgt := 123) C dX5_placing_113 (by decide) rfl (fun c113 => ?_) (fun c113 => ?_)
                · skip
                  refine v_iload C dX5_placing_123 rfl rfl ?_
                  refine v_goto (tgt := 136) C dX5_placing_125 (by decide) ?_
                  exact v_iret C dX5_placing_136 (by rw [hX]; have e : plaW n v w z = 0 := ((plw_c (n := n) (w := w) (v := v) (z := z) (fun q => q.elim c2 c7) c20 c01).trans (if_neg c54n)).trans (if_pos hzn); exact ⟨_, rfl, by rw [plaH, if_pos e, if_pos (Or.inl (by rw [c113]; decide))]; exact hR.1, Or.inr ⟨e, hK⟩⟩)
                · skip
                  refine v_iload C dX5_placing_116 rfl rfl ?_
                  refine v_bipush (v := -9) C dX5_placing_118 (by decide) rfl ?_
                  refine v_icmp_ne (tgt := 128) C dX5_placing_120 (by decide) rfl (fun c120 => ?_) (fun c120 => ?_)
                  · skip
                    refine v_aload_n C dX5_placing_128 rfl rfl rfl ?_
                    refine v_getR C (Nat.le_of_ble_eq_true rfl) rfl rfl hinX5 6 (Nat.le_of_ble_eq_true rfl) lkX5_45 rfl dX5_placing_129 rfl ?_
                    refine v_iload_n C dX5_placing_132 rfl rfl rfl ?_
                    refine v_callVN C (Nat.le_of_ble_eq_true rfl) rfl rfl (As := [.int z]) (rest := []) (kX1_roomOf z n ψ hnψ h7) rfl (Nat.le_of_ble_eq_true rfl) (Nat.le_of_ble_eq_true rfl) ⟨mlX5_134, mfX1_roomOf⟩ dkX1_roomOf (Nat.le_of_ble_eq_true rfl) dX5_placing_133 rfl (kI ?_)
                    exact v_iret C dX5_placing_136 (by rw [hX]; exact absurd c66 c113)
                  · skip
                    refine v_iload C dX5_placing_123 rfl rfl ?_
                    refine v_goto (tgt := 136) C dX5_placing_125 (by decide) ?_
                    exact v_iret C dX5_placing_136 (by rw [hX]; exact absurd c66 c113)
              · skip
                refine v_iconst (v := 1) C dX5_placing_101 (by decide) rfl ?_
                refine v_goto (tgt := 106) C dX5_placing_102 (by decide) ?_
                refine v_callVN C (Nat.le_of_ble_eq_true rfl) rfl rfl (As := [.int v, .int 1]) (rest := []) (kX1_search υ n v 1 (Or.inr rfl) (sm_cop hC h7 hs) hnυ h5) rfl (Nat.le_of_ble_eq_true rfl) (Nat.le_of_ble_eq_true rfl) ⟨mlX5_130, mfX1_search⟩ dkX1_search (Nat.le_of_ble_eq_true rfl) dX5_placing_106 rfl (krI (fun r ψ hR => ?_))
                have hq : fpN (okP υ n v) (fP υ n 1) (6 ^ n) = pQ σ n v w := by rw [show w = 1 from c98]; exact pq_cop hC h7 hs
                have hm : (pQ σ n v w).2 < 0 → (pQ σ n v w).2 = -9 := by rw [← hq]; exact fp_neg (fun k _ => (fP_b (sm_cop hC h7 hs) h7 1 k).1) (6 ^ n)
                rw [hq] at hR
                have hK : Plk σ ψ := plk_of hC hR.2.2
                have hnψ : ψ 27 7 = nI n := (congrFun (hR.2.2 27 (by decide) (by decide) (by decide)) 7).trans hnυ
                refine v_istore (lv' := [(4, .int r), (0, .ref 18), (1, .int v), (2, .int w), (3, .int z)]) C dX5_placing_109 (Nat.le_of_ble_eq_true rfl) rfl rfl ?_
                refine v_iload_n C dX5_placing_111 rfl rfl rfl ?_
                refine v_iconst (v := -1) C dX5_placing_112 (by decide) rfl ?_
                refine v_icmp_eq (tgt := 123) C dX5_placing_113 (by decide) rfl (fun c113 => ?_) (fun c113 => ?_)
                · skip
                  refine v_iload C dX5_placing_123 rfl rfl ?_
                  refine v_goto (tgt := 136) C dX5_placing_125 (by decide) ?_
                  exact v_iret C dX5_placing_136 (by rw [hX]; have e : plaW n v w z = 0 := ((plw_c (n := n) (w := w) (v := v) (z := z) (fun q => q.elim c2 c7) c20 c01).trans (if_neg c54n)).trans (if_pos hzn); exact ⟨_, rfl, by rw [plaH, if_pos e, if_pos (Or.inl (by rw [c113]; decide))]; exact hR.1, Or.inr ⟨e, hK⟩⟩)
                · skip
                  refine v_iload C dX5_placing_116 rfl rfl ?_
                  refine v_bipush (v := -9) C dX5_placing_118 (by decide) rfl ?_
                  refine v_icmp_ne (tgt := 128) C dX5_placing_120 (by decide) rfl (fun c120 => ?_) (fun c120 => ?_)
                  · skip
                    refine v_aload_n C dX5_placing_128 rfl rfl rfl ?_
                    refine v_getR C (Nat.le_of_ble_eq_true rfl) rfl rfl hinX5 6 (Nat.le_of_ble_eq_true rfl) lkX5_45 rfl dX5_placing_129 rfl ?_
                    refine v_iload_n C dX5_placing_132 rfl rfl rfl ?_
                    refine v_callVN C (Nat.le_of_ble_eq_true rfl) rfl rfl (As := [.int z]) (rest := []) (kX1_roomOf z n ψ hnψ h7) rfl (Nat.le_of_ble_eq_true rfl) (Nat.le_of_ble_eq_true rfl) ⟨mlX5_134, mfX1_roomOf⟩ dkX1_roomOf (Nat.le_of_ble_eq_true rfl) dX5_placing_133 rfl (kI ?_)
                    exact v_iret C dX5_placing_136 (by rw [hX]; exact absurd c66 c113)
                  · skip
                    refine v_iload C dX5_placing_123 rfl rfl ?_
                    refine v_goto (tgt := 136) C dX5_placing_125 (by decide) ?_
                    exact v_iret C dX5_placing_136 (by rw [hX]; exact absurd c66 c113)
            · skip
              refine v_aload_n C dX5_placing_69 rfl rfl rfl ?_
              refine v_getR C (Nat.le_of_ble_eq_true rfl) rfl rfl hinX5 0 (Nat.le_of_ble_eq_true rfl) lkX5_10 rfl dX5_placing_70 rfl ?_
              refine v_iload_n C dX5_placing_73 rfl rfl rfl ?_
              refine v_callVN C hh19.l0 hh19.s0 rfl (As := [.int z]) (rest := []) (kX0_hasPiece z 19 n hh19 σ hn h7) rfl (Nat.le_of_ble_eq_true rfl) (Nat.le_of_ble_eq_true rfl) ⟨mlX5_87, mfX0_hasPiece⟩ dkX0_hasPiece (Nat.le_of_ble_eq_true rfl) dX5_placing_74 rfl (kI ?_)
              refine v_if_ne (tgt := 86) C dX5_placing_77 (by decide) rfl (fun c77 => ?_) (fun c77 => ?_)
              · skip
                have c77 := bI_n c77
                have c01 : w = 0 ∨ w = 1 := (Or.inl c31)
                have c54n : ¬ 5 < n := c54
                have h5 : n ≤ 5 := by omega
                have hzn : z < nI n := c77.2
                refine v_aload_n C dX5_placing_86 rfl rfl rfl ?_
                refine v_callV C (Nat.le_of_ble_eq_true rfl) rfl rfl (As := []) (rest := []) (kX5_thoughtOfNow σ) rfl (Nat.le_of_ble_eq_true rfl) (Nat.le_of_ble_eq_true rfl) ⟨mlX5_67, mfX5_thoughtOfNow⟩ dkX5_thoughtOfNow (Nat.le_of_ble_eq_true rfl) dX5_placing_87 rfl (krR (fun υ hC => ?_))
                have hnυ : υ 27 7 = nI n := hC.2.1.1.trans hn
                refine v_pop C dX5_placing_90 rfl rfl ?_
                refine v_aload_n C dX5_placing_91 rfl rfl rfl ?_
                refine v_getR C (Nat.le_of_ble_eq_true rfl) rfl rfl hinX5 6 (Nat.le_of_ble_eq_true rfl) lkX5_45 rfl dX5_placing_92 rfl ?_
                refine v_iload_n C dX5_placing_95 rfl rfl rfl ?_
                refine v_iload_n C dX5_placing_96 rfl rfl rfl ?_
                refine v_iconst (v := 1) C dX5_placing_97 (by decide) rfl ?_
                refine v_icmp_ne (tgt := 105) C dX5_placing_98 (by decide) rfl (fun c98 => ?_) (fun c98 => ?_)
                · skip
                  refine v_iconst (v := 0) C dX5_placing_105 (by decide) rfl ?_
                  refine v_callVN C (Nat.le_of_ble_eq_true rfl) rfl rfl (As := [.int v, .int 0]) (rest := []) (kX1_search υ n v 0 (Or.inl rfl) (sm_cop hC h7 hs) hnυ h5) rfl (Nat.le_of_ble_eq_true rfl) (Nat.le_of_ble_eq_true rfl) ⟨mlX5_130, mfX1_search⟩ dkX1_search (Nat.le_of_ble_eq_true rfl) dX5_placing_106 rfl (krI (fun r ψ hR => ?_))
                  have hq : fpN (okP υ n v) (fP υ n 0) (6 ^ n) = pQ σ n v w := by rw [show w = 0 from (c01.resolve_right c98)]; exact pq_cop hC h7 hs
                  have hm : (pQ σ n v w).2 < 0 → (pQ σ n v w).2 = -9 := by rw [← hq]; exact fp_neg (fun k _ => (fP_b (sm_cop hC h7 hs) h7 0 k).1) (6 ^ n)
                  rw [hq] at hR
                  have hK : Plk σ ψ := plk_of hC hR.2.2
                  have hnψ : ψ 27 7 = nI n := (congrFun (hR.2.2 27 (by decide) (by decide) (by decide)) 7).trans hnυ
                  refine v_istore (lv' := [(4, .int r), (0, .ref 18), (1, .int v), (2, .int w), (3, .int z)]) C dX5_placing_109 (Nat.le_of_ble_eq_true rfl) rfl rfl ?_
                  refine v_iload_n C dX5_placing_111 rfl rfl rfl ?_
                  refine v_iconst (v := -1) C dX5_placing_112 (by decide) rfl ?_
                  refine v_icmp_eq (tgt := 123) C dX5_placing_113 (by decide) rfl (fun c113 => ?_) (fun c113 => ?_)
                  · skip
                    refine v_iload C dX5_placing_123 rfl rfl ?_
                    refine v_goto (tgt := 136) C dX5_placing_125 (by decide) ?_
                    exact v_iret C dX5_placing_136 (by rw [hX]; have e : plaW n v w z = 0 := ((plw_c (n := n) (w := w) (v := v) (z := z) (fun q => q.elim c2 c7) c20 c01).trans (if_neg c54n)).trans (if_pos hzn); exact ⟨_, rfl, by rw [plaH, if_pos e, if_pos (Or.inl (by rw [c113]; decide))]; exact hR.1, Or.inr ⟨e, hK⟩⟩)
                  · skip
                    refine v_iload C dX5_placing_116 rfl rfl ?_
                    refine v_bipush (v := -9) C dX5_placing_118 (by decide) rfl ?_
                    refine v_icmp_ne (tgt := 128) C dX5_placing_120 (by decide) rfl (fun c120 => ?_) (fun c120 => ?_)
                    · skip
                      refine v_aload_n C dX5_placing_128 rfl rfl rfl ?_
                      refine v_getR C (Nat.le_of_ble_eq_true rfl) rfl rfl hinX5 6 (Nat.le_of_ble_eq_true rfl) lkX5_45 rfl dX5_placing_129 rfl ?_
                      refine v_iload_n C dX5_placing_132 rfl rfl rfl ?_
                      refine v_callVN C (Nat.le_of_ble_eq_true rfl) rfl rfl (As := [.int z]) (rest := []) (kX1_roomOf z n ψ hnψ h7) rfl (Nat.le_of_ble_eq_true rfl) (Nat.le_of_ble_eq_true rfl) ⟨mlX5_134, mfX1_roomOf⟩ dkX1_roomOf (Nat.le_of_ble_eq_true rfl) dX5_placing_133 rfl (kI ?_)
                      exact v_iret C dX5_placing_136 (by rw [hX]; have e : plaW n v w z = 0 := ((plw_c (n := n) (w := w) (v := v) (z := z) (fun q => q.elim c2 c7) c20 c01).trans (if_neg c54n)).trans (if_pos hzn); have hz : ¬ (pQ σ n v w).2 < 0 := fun q => c120 (hR.1.trans (hm q)); exact ⟨_, rfl, by rw [plaH, if_pos e, if_neg (fun q => q.elim (m1_pos c7 c66) hz), cI_t c77]; exact hR.2.1 hz _ (piece_nat h7 c77).2, Or.inr ⟨e, hK⟩⟩)
                    · skip
                      refine v_iload C dX5_placing_123 rfl rfl ?_
                      refine v_goto (tgt := 136) C dX5_placing_125 (by decide) ?_
                      exact v_iret C dX5_placing_136 (by rw [hX]; have e : plaW n v w z = 0 := ((plw_c (n := n) (w := w) (v := v) (z := z) (fun q => q.elim c2 c7) c20 c01).trans (if_neg c54n)).trans (if_pos hzn); exact ⟨_, rfl, by rw [plaH, if_pos e, if_pos (Or.inr (by rw [← hR.1, c120]; decide))]; exact hR.1, Or.inr ⟨e, hK⟩⟩)
                · skip
                  refine v_iconst (v := 1) C dX5_placing_101 (by decide) rfl ?_
                  refine v_goto (tgt := 106) C dX5_placing_102 (by decide) ?_
                  refine v_callVN C (Nat.le_of_ble_eq_true rfl) rfl rfl (As := [.int v, .int 1]) (rest := []) (kX1_search υ n v 1 (Or.inr rfl) (sm_cop hC h7 hs) hnυ h5) rfl (Nat.le_of_ble_eq_true rfl) (Nat.le_of_ble_eq_true rfl) ⟨mlX5_130, mfX1_search⟩ dkX1_search (Nat.le_of_ble_eq_true rfl) dX5_placing_106 rfl (krI (fun r ψ hR => ?_))
                  have hq : fpN (okP υ n v) (fP υ n 1) (6 ^ n) = pQ σ n v w := by rw [show w = 1 from c98]; exact pq_cop hC h7 hs
                  have hm : (pQ σ n v w).2 < 0 → (pQ σ n v w).2 = -9 := by rw [← hq]; exact fp_neg (fun k _ => (fP_b (sm_cop hC h7 hs) h7 1 k).1) (6 ^ n)
                  rw [hq] at hR
                  have hK : Plk σ ψ := plk_of hC hR.2.2
                  have hnψ : ψ 27 7 = nI n := (congrFun (hR.2.2 27 (by decide) (by decide) (by decide)) 7).trans hnυ
                  refine v_istore (lv' := [(4, .int r), (0, .ref 18), (1, .int v), (2, .int w), (3, .int z)]) C dX5_placing_109 (Nat.le_of_ble_eq_true rfl) rfl rfl ?_
                  refine v_iload_n C dX5_placing_111 rfl rfl rfl ?_
                  refine v_iconst (v := -1) C dX5_placing_112 (by decide) rfl ?_
                  refine v_icmp_eq (tgt := 123) C dX5_placing_113 (by decide) rfl (fun c113 => ?_) (fun c113 => ?_)
                  · skip
                    refine v_iload C dX5_placing_123 rfl rfl ?_
                    refine v_goto (tgt := 136) C dX5_placing_125 (by decide) ?_
                    exact v_iret C dX5_placing_136 (by rw [hX]; have e : plaW n v w z = 0 := ((plw_c (n := n) (w := w) (v := v) (z := z) (fun q => q.elim c2 c7) c20 c01).trans (if_neg c54n)).trans (if_pos hzn); exact ⟨_, rfl, by rw [plaH, if_pos e, if_pos (Or.inl (by rw [c113]; decide))]; exact hR.1, Or.inr ⟨e, hK⟩⟩)
                  · skip
                    refine v_iload C dX5_placing_116 rfl rfl ?_
                    refine v_bipush (v := -9) C dX5_placing_118 (by decide) rfl ?_
                    refine v_icmp_ne (tgt := 128) C dX5_placing_120 (by decide) rfl (fun c120 => ?_) (fun c120 => ?_)
                    · skip
                      refine v_aload_n C dX5_placing_128 rfl rfl rfl ?_
                      refine v_getR C (Nat.le_of_ble_eq_true rfl) rfl rfl hinX5 6 (Nat.le_of_ble_eq_true rfl) lkX5_45 rfl dX5_placing_129 rfl ?_
                      refine v_iload_n C dX5_placing_132 rfl rfl rfl ?_
                      refine v_callVN C (Nat.le_of_ble_eq_true rfl) rfl rfl (As := [.int z]) (rest := []) (kX1_roomOf z n ψ hnψ h7) rfl (Nat.le_of_ble_eq_true rfl) (Nat.le_of_ble_eq_true rfl) ⟨mlX5_134, mfX1_roomOf⟩ dkX1_roomOf (Nat.le_of_ble_eq_true rfl) dX5_placing_133 rfl (kI ?_)
                      exact v_iret C dX5_placing_136 (by rw [hX]; have e : plaW n v w z = 0 := ((plw_c (n := n) (w := w) (v := v) (z := z) (fun q => q.elim c2 c7) c20 c01).trans (if_neg c54n)).trans (if_pos hzn); have hz : ¬ (pQ σ n v w).2 < 0 := fun q => c120 (hR.1.trans (hm q)); exact ⟨_, rfl, by rw [plaH, if_pos e, if_neg (fun q => q.elim (m1_pos c7 c66) hz), cI_t c77]; exact hR.2.1 hz _ (piece_nat h7 c77).2, Or.inr ⟨e, hK⟩⟩)
                    · skip
                      refine v_iload C dX5_placing_123 rfl rfl ?_
                      refine v_goto (tgt := 136) C dX5_placing_125 (by decide) ?_
                      exact v_iret C dX5_placing_136 (by rw [hX]; have e : plaW n v w z = 0 := ((plw_c (n := n) (w := w) (v := v) (z := z) (fun q => q.elim c2 c7) c20 c01).trans (if_neg c54n)).trans (if_pos hzn); exact ⟨_, rfl, by rw [plaH, if_pos e, if_pos (Or.inr (by rw [← hR.1, c120]; decide))]; exact hR.1, Or.inr ⟨e, hK⟩⟩)
              · skip
                have c77 := bI_0 c77
                refine v_aload_n C dX5_placing_80 rfl rfl rfl ?_
                refine v_iconst (v := -1) C dX5_placing_81 (by decide) rfl ?_
                refine v_callV C (Nat.le_of_ble_eq_true rfl) rfl rfl (As := [.int (-1)]) (rest := []) (kX5_answer (-1) σ) rfl (Nat.le_of_ble_eq_true rfl) (Nat.le_of_ble_eq_true rfl) ⟨mlX5_64, mfX5_answer⟩ dkX5_answer (Nat.le_of_ble_eq_true rfl) dX5_placing_82 rfl (kI ?_)
                exact v_iret C dX5_placing_85 (by rw [hX]; have e := ((plw_c (n := n) (w := w) (v := v) (z := z) (fun q => q.elim c2 c7) c20 (Or.inl c31)).trans (if_neg c54)).trans (if_neg (fun q => c77 ⟨m1_pos c7 c66, q⟩)); exact ⟨_, rfl, by rw [plaH, e]; rfl, Or.inl ⟨by rw [e]; decide, by rw [e]; rfl⟩⟩)
          · skip
            have c54 := (nI_ltI (a := 5) (b := n) (by omega) (by omega)).mp c54
            refine v_aload_n C dX5_placing_57 rfl rfl rfl ?_
            refine v_bipush (v := -3) C dX5_placing_58 (by decide) rfl ?_
            refine v_callV C (Nat.le_of_ble_eq_true rfl) rfl rfl (As := [.int (-3)]) (rest := []) (kX5_answer (-3) σ) rfl (Nat.le_of_ble_eq_true rfl) (Nat.le_of_ble_eq_true rfl) ⟨mlX5_64, mfX5_answer⟩ dkX5_answer (Nat.le_of_ble_eq_true rfl) dX5_placing_60 rfl (kI ?_)
            exact v_iret C dX5_placing_63 (by rw [hX]; have e := (plw_c (n := n) (w := w) (v := v) (z := z) (fun q => q.elim c2 c7) c20 (Or.inl c31)).trans (if_pos c54); exact ⟨_, rfl, by rw [plaH, e]; rfl, Or.inl ⟨by rw [e]; decide, by rw [e]; rfl⟩⟩)
        · skip
          refine v_iload_n C dX5_placing_34 rfl rfl rfl ?_
          refine v_iconst (v := 1) C dX5_placing_35 (by decide) rfl ?_
          refine v_icmp_eq (tgt := 46) C dX5_placing_36 (by decide) rfl (fun c36 => ?_) (fun c36 => ?_)
          · skip
            refine v_aload_n C dX5_placing_46 rfl rfl rfl ?_
            refine v_getR C (Nat.le_of_ble_eq_true rfl) rfl rfl hinX5 0 (Nat.le_of_ble_eq_true rfl) lkX5_10 rfl dX5_placing_47 rfl ?_
            refine v_getNI C hh19.l0 hh19.s0 rfl hinX0 7 (Nat.le_of_ble_eq_true rfl) lkX5_126 rfl dX5_placing_50 rfl ?_
            refine V.tp hn ?_
            refine v_iconst (v := 5) C dX5_placing_53 (by decide) rfl ?_
            refine v_icmp_le (tgt := 64) C dX5_placing_54 (by decide) rfl (fun c54 => ?_) (fun c54 => ?_)
            · skip
              have c54 := mt (nI_ltI (a := 5) (b := n) (by omega) (by omega)).mpr c54
              refine v_iload_n C dX5_placing_64 rfl rfl rfl ?_
              refine v_iconst (v := -1) C dX5_placing_65 (by decide) rfl ?_
              refine v_icmp_eq (tgt := 86) C dX5_placing_66 (by decide) rfl (fun c66 => ?_) (fun c66 => ?_)
              · skip
                have c01 : w = 0 ∨ w = 1 := (Or.inr c36)
                have c54n : ¬ 5 < n := c54
                have h5 : n ≤ 5 := by omega
                have hzn : z < nI n := by rw [c66]; exact m1_lt n h7
                refine v_aload_n C dX5_placing_86 rfl rfl rfl ?_
                refine v_callV C (Nat.le_of_ble_eq_true rfl) rfl rfl (As := []) (rest := []) (kX5_thoughtOfNow σ) rfl (Nat.le_of_ble_eq_true rfl) (Nat.le_of_ble_eq_true rfl) ⟨mlX5_67, mfX5_thoughtOfNow⟩ dkX5_thoughtOfNow (Nat.le_of_ble_eq_true rfl) dX5_placing_87 rfl (krR (fun υ hC => ?_))
                have hnυ : υ 27 7 = nI n := hC.2.1.1.trans hn
                refine v_pop C dX5_placing_90 rfl rfl ?_
                refine v_aload_n C dX5_placing_91 rfl rfl rfl ?_
                refine v_getR C (Nat.le_of_ble_eq_true rfl) rfl rfl hinX5 6 (Nat.le_of_ble_eq_true rfl) lkX5_45 rfl dX5_placing_92 rfl ?_
                refine v_iload_n C dX5_placing_95 rfl rfl rfl ?_
                refine v_iload_n C dX5_placing_96 rfl rfl rfl ?_
                refine v_iconst (v := 1) C dX5_placing_97 (by decide) rfl ?_
                refine v_icmp_ne (tgt := 105) C dX5_placing_98 (by decide) rfl (fun c98 => ?_) (fun c98 => ?_)
                · skip
                  refine v_iconst (v := 0) C dX5_placing_105 (by decide) rfl ?_
                  refine v_callVN C (Nat.le_of_ble_eq_true rfl) rfl rfl (As := [.int v, .int 0]) (rest := []) (kX1_search υ n v 0 (Or.inl rfl) (sm_cop hC h7 hs) hnυ h5) rfl (Nat.le_of_ble_eq_true rfl) (Nat.le_of_ble_eq_true rfl) ⟨mlX5_130, mfX1_search⟩ dkX1_search (Nat.le_of_ble_eq_true rfl) dX5_placing_106 rfl (krI (fun r ψ hR => ?_))
                  have hq : fpN (okP υ n v) (fP υ n 0) (6 ^ n) = pQ σ n v w := by rw [show w = 0 from (c01.resolve_right c98)]; exact pq_cop hC h7 hs
                  have hm : (pQ σ n v w).2 < 0 → (pQ σ n v w).2 = -9 := by rw [← hq]; exact fp_neg (fun k _ => (fP_b (sm_cop hC h7 hs) h7 0 k).1) (6 ^ n)
                  rw [hq] at hR
                  have hK : Plk σ ψ := plk_of hC hR.2.2
                  have hnψ : ψ 27 7 = nI n := (congrFun (hR.2.2 27 (by decide) (by decide) (by decide)) 7).trans hnυ
                  refine v_istore (lv' := [(4, .int r), (0, .ref 18), (1, .int v), (2, .int w), (3, .int z)]) C dX5_placing_109 (Nat.le_of_ble_eq_true rfl) rfl rfl ?_
                  refine v_iload_n C dX5_placing_111 rfl rfl rfl ?_
                  refine v_iconst (v := -1) C dX5_placing_112 (by decide) rfl ?_
                  refine v_icmp_eq (tgt := 123) C dX5_placing_113 (by decide) rfl (fun c113 => ?_) (fun c113 => ?_)
                  · skip
                    refine v_iload C dX5_placing_123 rfl rfl ?_
                    refine v_goto (tgt := 136) C dX5_placing_125 (by decide) ?_
                    exact v_iret C dX5_placing_136 (by rw [hX]; have e : plaW n v w z = 0 := ((plw_c (n := n) (w := w) (v := v) (z := z) (fun q => q.elim c2 c7) c20 c01).trans (if_neg c54n)).trans (if_pos hzn); exact ⟨_, rfl, by rw [plaH, if_pos e, if_pos (Or.inl (by rw [c113]; decide))]; exact hR.1, Or.inr ⟨e, hK⟩⟩)
                  · skip
                    refine v_iload C dX5_placing_116 rfl rfl ?_
                    refine v_bipush (v := -9) C dX5_placing_118 (by decide) rfl ?_
                    refine v_icmp_ne (tgt := 128) C dX5_placing_120 (by decide) rfl (fun c120 => ?_) (fun c120 => ?_)
                    · skip
                      refine v_aload_n C dX5_placing_128 rfl rfl rfl ?_
                      refine v_getR C (Nat.le_of_ble_eq_true rfl) rfl rfl hinX5 6 (Nat.le_of_ble_eq_true rfl) lkX5_45 rfl dX5_placing_129 rfl ?_
                      refine v_iload_n C dX5_placing_132 rfl rfl rfl ?_
                      refine v_callVN C (Nat.le_of_ble_eq_true rfl) rfl rfl (As := [.int z]) (rest := []) (kX1_roomOf z n ψ hnψ h7) rfl (Nat.le_of_ble_eq_true rfl) (Nat.le_of_ble_eq_true rfl) ⟨mlX5_134, mfX1_roomOf⟩ dkX1_roomOf (Nat.le_of_ble_eq_true rfl) dX5_placing_133 rfl (kI ?_)
                      exact v_iret C dX5_placing_136 (by rw [hX]; exact absurd c66 c113)
                    · skip
                      refine v_iload C dX5_placing_123 rfl rfl ?_
                      refine v_goto (tgt := 136) C dX5_placing_125 (by decide) ?_
                      exact v_iret C dX5_placing_136 (by rw [hX]; exact absurd c66 c113)
                · skip
                  refine v_iconst (v := 1) C dX5_placing_101 (by decide) rfl ?_
                  refine v_goto (tgt := 106) C dX5_placing_102 (by decide) ?_
                  refine v_callVN C (Nat.le_of_ble_eq_true rfl) rfl rfl (As := [.int v, .int 1]) (rest := []) (kX1_search υ n v 1 (Or.inr rfl) (sm_cop hC h7 hs) hnυ h5) rfl (Nat.le_of_ble_eq_true rfl) (Nat.le_of_ble_eq_true rfl) ⟨mlX5_130, mfX1_search⟩ dkX1_search (Nat.le_of_ble_eq_true rfl) dX5_placing_106 rfl (krI (fun r ψ hR => ?_))
                  have hq : fpN (okP υ n v) (fP υ n 1) (6 ^ n) = pQ σ n v w := by rw [show w = 1 from c98]; exact pq_cop hC h7 hs
                  have hm : (pQ σ n v w).2 < 0 → (pQ σ n v w).2 = -9 := by rw [← hq]; exact fp_neg (fun k _ => (fP_b (sm_cop hC h7 hs) h7 1 k).1) (6 ^ n)
                  rw [hq] at hR
                  have hK : Plk σ ψ := plk_of hC hR.2.2
                  have hnψ : ψ 27 7 = nI n := (congrFun (hR.2.2 27 (by decide) (by decide) (by decide)) 7).trans hnυ
                  refine v_istore (lv' := [(4, .int r), (0, .ref 18), (1, .int v), (2, .int w), (3, .int z)]) C dX5_placing_109 (Nat.le_of_ble_eq_true rfl) rfl rfl ?_
                  refine v_iload_n C dX5_placing_111 rfl rfl rfl ?_
                  refine v_iconst (v := -1) C dX5_placing_112 (by decide) rfl ?_
                  refine v_icmp_eq (tgt := 123) C dX5_placing_113 (by decide) rfl (fun c113 => ?_) (fun c113 => ?_)
                  · skip
                    refine v_iload C dX5_placing_123 rfl rfl ?_
                    refine v_goto (tgt := 136) C dX5_placing_125 (by decide) ?_
                    exact v_iret C dX5_placing_136 (by rw [hX]; have e : plaW n v w z = 0 := ((plw_c (n := n) (w := w) (v := v) (z := z) (fun q => q.elim c2 c7) c20 c01).trans (if_neg c54n)).trans (if_pos hzn); exact ⟨_, rfl, by rw [plaH, if_pos e, if_pos (Or.inl (by rw [c113]; decide))]; exact hR.1, Or.inr ⟨e, hK⟩⟩)
                  · skip
                    refine v_iload C dX5_placing_116 rfl rfl ?_
                    refine v_bipush (v := -9) C dX5_placing_118 (by decide) rfl ?_
                    refine v_icmp_ne (tgt := 128) C dX5_placing_120 (by decide) rfl (fun c120 => ?_) (fun c120 => ?_)
                    · skip
                      refine v_aload_n C dX5_placing_128 rfl rfl rfl ?_
                      refine v_getR C (Nat.le_of_ble_eq_true rfl) rfl rfl hinX5 6 (Nat.le_of_ble_eq_true rfl) lkX5_45 rfl dX5_placing_129 rfl ?_
                      refine v_iload_n C dX5_placing_132 rfl rfl rfl ?_
                      refine v_callVN C (Nat.le_of_ble_eq_true rfl) rfl rfl (As := [.int z]) (rest := []) (kX1_roomOf z n ψ hnψ h7) rfl (Nat.le_of_ble_eq_true rfl) (Nat.le_of_ble_eq_true rfl) ⟨mlX5_134, mfX1_roomOf⟩ dkX1_roomOf (Nat.le_of_ble_eq_true rfl) dX5_placing_133 rfl (kI ?_)
                      exact v_iret C dX5_placing_136 (by rw [hX]; exact absurd c66 c113)
                    · skip
                      refine v_iload C dX5_placing_123 rfl rfl ?_
                      refine v_goto (tgt := 136) C dX5_placing_125 (by decide) ?_
                      exact v_iret C dX5_placing_136 (by rw [hX]; exact absurd c66 c113)
              · skip
                refine v_aload_n C dX5_placing_69 rfl rfl rfl ?_
                refine v_getR C (Nat.le_of_ble_eq_true rfl) rfl rfl hinX5 0 (Nat.le_of_ble_eq_true rfl) lkX5_10 rfl dX5_placing_70 rfl ?_
                refine v_iload_n C dX5_placing_73 rfl rfl rfl ?_
                refine v_callVN C hh19.l0 hh19.s0 rfl (As := [.int z]) (rest := []) (kX0_hasPiece z 19 n hh19 σ hn h7) rfl (Nat.le_of_ble_eq_true rfl) (Nat.le_of_ble_eq_true rfl) ⟨mlX5_87, mfX0_hasPiece⟩ dkX0_hasPiece (Nat.le_of_ble_eq_true rfl) dX5_placing_74 rfl (kI ?_)
                refine v_if_ne (tgt := 86) C dX5_placing_77 (by decide) rfl (fun c77 => ?_) (fun c77 => ?_)
                · skip
                  have c77 := bI_n c77
                  have c01 : w = 0 ∨ w = 1 := (Or.inr c36)
                  have c54n : ¬ 5 < n := c54
                  have h5 : n ≤ 5 := by omega
                  have hzn : z < nI n := c77.2
                  refine v_aload_n C dX5_placing_86 rfl rfl rfl ?_
                  refine v_callV C (Nat.le_of_ble_eq_true rfl) rfl rfl (As := []) (rest := []) (kX5_thoughtOfNow σ) rfl (Nat.le_of_ble_eq_true rfl) (Nat.le_of_ble_eq_true rfl) ⟨mlX5_67, mfX5_thoughtOfNow⟩ dkX5_thoughtOfNow (Nat.le_of_ble_eq_true rfl) dX5_placing_87 rfl (krR (fun υ hC => ?_))
                  have hnυ : υ 27 7 = nI n := hC.2.1.1.trans hn
                  refine v_pop C dX5_placing_90 rfl rfl ?_
                  refine v_aload_n C dX5_placing_91 rfl rfl rfl ?_
                  refine v_getR C (Nat.le_of_ble_eq_true rfl) rfl rfl hinX5 6 (Nat.le_of_ble_eq_true rfl) lkX5_45 rfl dX5_placing_92 rfl ?_
                  refine v_iload_n C dX5_placing_95 rfl rfl rfl ?_
                  refine v_iload_n C dX5_placing_96 rfl rfl rfl ?_
                  refine v_iconst (v := 1) C dX5_placing_97 (by decide) rfl ?_
                  refine v_icmp_ne (tgt := 105) C dX5_placing_98 (by decide) rfl (fun c98 => ?_) (fun c98 => ?_)
                  · skip
                    refine v_iconst (v := 0) C dX5_placing_105 (by decide) rfl ?_
                    refine v_callVN C (Nat.le_of_ble_eq_true rfl) rfl rfl (As := [.int v, .int 0]) (rest := []) (kX1_search υ n v 0 (Or.inl rfl) (sm_cop hC h7 hs) hnυ h5) rfl (Nat.le_of_ble_eq_true rfl) (Nat.le_of_ble_eq_true rfl) ⟨mlX5_130, mfX1_search⟩ dkX1_search (Nat.le_of_ble_eq_true rfl) dX5_placing_106 rfl (krI (fun r ψ hR => ?_))
                    have hq : fpN (okP υ n v) (fP υ n 0) (6 ^ n) = pQ σ n v w := by rw [show w = 0 from (c01.resolve_right c98)]; exact pq_cop hC h7 hs
                    have hm : (pQ σ n v w).2 < 0 → (pQ σ n v w).2 = -9 := by rw [← hq]; exact fp_neg (fun k _ => (fP_b (sm_cop hC h7 hs) h7 0 k).1) (6 ^ n)
                    rw [hq] at hR
                    have hK : Plk σ ψ := plk_of hC hR.2.2
                    have hnψ : ψ 27 7 = nI n := (congrFun (hR.2.2 27 (by decide) (by decide) (by decide)) 7).trans hnυ
                    refine v_istore (lv' := [(4, .int r), (0, .ref 18), (1, .int v), (2, .int w), (3, .int z)]) C dX5_placing_109 (Nat.le_of_ble_eq_true rfl) rfl rfl ?_
                    refine v_iload_n C dX5_placing_111 rfl rfl rfl ?_
                    refine v_iconst (v := -1) C dX5_placing_112 (by decide) rfl ?_
                    refine v_icmp_eq (tgt := 123) C dX5_placing_113 (by decide) rfl (fun c113 => ?_) (fun c113 => ?_)
                    · skip
                      refine v_iload C dX5_placing_123 rfl rfl ?_
                      refine v_goto (tgt := 136) C dX5_placing_125 (by decide) ?_
                      exact v_iret C dX5_placing_136 (by rw [hX]; have e : plaW n v w z = 0 := ((plw_c (n := n) (w := w) (v := v) (z := z) (fun q => q.elim c2 c7) c20 c01).trans (if_neg c54n)).trans (if_pos hzn); exact ⟨_, rfl, by rw [plaH, if_pos e, if_pos (Or.inl (by rw [c113]; decide))]; exact hR.1, Or.inr ⟨e, hK⟩⟩)
                    · skip
                      refine v_iload C dX5_placing_116 rfl rfl ?_
                      refine v_bipush (v := -9) C dX5_placing_118 (by decide) rfl ?_
                      refine v_icmp_ne (tgt := 128) C dX5_placing_120 (by decide) rfl (fun c120 => ?_) (fun c120 => ?_)
                      · skip
                        refine v_aload_n C dX5_placing_128 rfl rfl rfl ?_
                        refine v_getR C (Nat.le_of_ble_eq_true rfl) rfl rfl hinX5 6 (Nat.le_of_ble_eq_true rfl) lkX5_45 rfl dX5_placing_129 rfl ?_
                        refine v_iload_n C dX5_placing_132 rfl rfl rfl ?_
                        refine v_callVN C (Nat.le_of_ble_eq_true rfl) rfl rfl (As := [.int z]) (rest := []) (kX1_roomOf z n ψ hnψ h7) rfl (Nat.le_of_ble_eq_true rfl) (Nat.le_of_ble_eq_true rfl) ⟨mlX5_134, mfX1_roomOf⟩ dkX1_roomOf (Nat.le_of_ble_eq_true rfl) dX5_placing_133 rfl (kI ?_)
                        exact v_iret C dX5_placing_136 (by rw [hX]; have e : plaW n v w z = 0 := ((plw_c (n := n) (w := w) (v := v) (z := z) (fun q => q.elim c2 c7) c20 c01).trans (if_neg c54n)).trans (if_pos hzn); have hz : ¬ (pQ σ n v w).2 < 0 := fun q => c120 (hR.1.trans (hm q)); exact ⟨_, rfl, by rw [plaH, if_pos e, if_neg (fun q => q.elim (m1_pos c7 c66) hz), cI_t c77]; exact hR.2.1 hz _ (piece_nat h7 c77).2, Or.inr ⟨e, hK⟩⟩)
                      · skip
                        refine v_iload C dX5_placing_123 rfl rfl ?_
                        refine v_goto (tgt := 136) C dX5_placing_125 (by decide) ?_
                        exact v_iret C dX5_placing_136 (by rw [hX]; have e : plaW n v w z = 0 := ((plw_c (n := n) (w := w) (v := v) (z := z) (fun q => q.elim c2 c7) c20 c01).trans (if_neg c54n)).trans (if_pos hzn); exact ⟨_, rfl, by rw [plaH, if_pos e, if_pos (Or.inr (by rw [← hR.1, c120]; decide))]; exact hR.1, Or.inr ⟨e, hK⟩⟩)
                  · skip
                    refine v_iconst (v := 1) C dX5_placing_101 (by decide) rfl ?_
                    refine v_goto (tgt := 106) C dX5_placing_102 (by decide) ?_
                    refine v_callVN C (Nat.le_of_ble_eq_true rfl) rfl rfl (As := [.int v, .int 1]) (rest := []) (kX1_search υ n v 1 (Or.inr rfl) (sm_cop hC h7 hs) hnυ h5) rfl (Nat.le_of_ble_eq_true rfl) (Nat.le_of_ble_eq_true rfl) ⟨mlX5_130, mfX1_search⟩ dkX1_search (Nat.le_of_ble_eq_true rfl) dX5_placing_106 rfl (krI (fun r ψ hR => ?_))
                    have hq : fpN (okP υ n v) (fP υ n 1) (6 ^ n) = pQ σ n v w := by rw [show w = 1 from c98]; exact pq_cop hC h7 hs
                    have hm : (pQ σ n v w).2 < 0 → (pQ σ n v w).2 = -9 := by rw [← hq]; exact fp_neg (fun k _ => (fP_b (sm_cop hC h7 hs) h7 1 k).1) (6 ^ n)
                    rw [hq] at hR
                    have hK : Plk σ ψ := plk_of hC hR.2.2
                    have hnψ : ψ 27 7 = nI n := (congrFun (hR.2.2 27 (by decide) (by decide) (by decide)) 7).trans hnυ
                    refine v_istore (lv' := [(4, .int r), (0, .ref 18), (1, .int v), (2, .int w), (3, .int z)]) C dX5_placing_109 (Nat.le_of_ble_eq_true rfl) rfl rfl ?_
                    refine v_iload_n C dX5_placing_111 rfl rfl rfl ?_
                    refine v_iconst (v := -1) C dX5_placing_112 (by decide) rfl ?_
                    refine v_icmp_eq (tgt := 123) C dX5_placing_113 (by decide) rfl (fun c113 => ?_) (fun c113 => ?_)
                    · skip
                      refine v_iload C dX5_placing_123 rfl rfl ?_
                      refine v_goto (tgt := 136) C dX5_placing_125 (by decide) ?_
                      exact v_iret C dX5_placing_136 (by rw [hX]; have e : plaW n v w z = 0 := ((plw_c (n := n) (w := w) (v := v) (z := z) (fun q => q.elim c2 c7) c20 c01).trans (if_neg c54n)).trans (if_pos hzn); exact ⟨_, rfl, by rw [plaH, if_pos e, if_pos (Or.inl (by rw [c113]; decide))]; exact hR.1, Or.inr ⟨e, hK⟩⟩)
                    · skip
                      refine v_iload C dX5_placing_116 rfl rfl ?_
                      refine v_bipush (v := -9) C dX5_placing_118 (by decide) rfl ?_
                      refine v_icmp_ne (tgt := 128) C dX5_placing_120 (by decide) rfl (fun c120 => ?_) (fun c120 => ?_)
                      · skip
                        refine v_aload_n C dX5_placing_128 rfl rfl rfl ?_
                        refine v_getR C (Nat.le_of_ble_eq_true rfl) rfl rfl hinX5 6 (Nat.le_of_ble_eq_true rfl) lkX5_45 rfl dX5_placing_129 rfl ?_
                        refine v_iload_n C dX5_placing_132 rfl rfl rfl ?_
                        refine v_callVN C (Nat.le_of_ble_eq_true rfl) rfl rfl (As := [.int z]) (rest := []) (kX1_roomOf z n ψ hnψ h7) rfl (Nat.le_of_ble_eq_true rfl) (Nat.le_of_ble_eq_true rfl) ⟨mlX5_134, mfX1_roomOf⟩ dkX1_roomOf (Nat.le_of_ble_eq_true rfl) dX5_placing_133 rfl (kI ?_)
                        exact v_iret C dX5_placing_136 (by rw [hX]; have e : plaW n v w z = 0 := ((plw_c (n := n) (w := w) (v := v) (z := z) (fun q => q.elim c2 c7) c20 c01).trans (if_neg c54n)).trans (if_pos hzn); have hz : ¬ (pQ σ n v w).2 < 0 := fun q => c120 (hR.1.trans (hm q)); exact ⟨_, rfl, by rw [plaH, if_pos e, if_neg (fun q => q.elim (m1_pos c7 c66) hz), cI_t c77]; exact hR.2.1 hz _ (piece_nat h7 c77).2, Or.inr ⟨e, hK⟩⟩)
                      · skip
                        refine v_iload C dX5_placing_123 rfl rfl ?_
                        refine v_goto (tgt := 136) C dX5_placing_125 (by decide) ?_
                        exact v_iret C dX5_placing_136 (by rw [hX]; have e : plaW n v w z = 0 := ((plw_c (n := n) (w := w) (v := v) (z := z) (fun q => q.elim c2 c7) c20 c01).trans (if_neg c54n)).trans (if_pos hzn); exact ⟨_, rfl, by rw [plaH, if_pos e, if_pos (Or.inr (by rw [← hR.1, c120]; decide))]; exact hR.1, Or.inr ⟨e, hK⟩⟩)
                · skip
                  have c77 := bI_0 c77
                  refine v_aload_n C dX5_placing_80 rfl rfl rfl ?_
                  refine v_iconst (v := -1) C dX5_placing_81 (by decide) rfl ?_
                  refine v_callV C (Nat.le_of_ble_eq_true rfl) rfl rfl (As := [.int (-1)]) (rest := []) (kX5_answer (-1) σ) rfl (Nat.le_of_ble_eq_true rfl) (Nat.le_of_ble_eq_true rfl) ⟨mlX5_64, mfX5_answer⟩ dkX5_answer (Nat.le_of_ble_eq_true rfl) dX5_placing_82 rfl (kI ?_)
                  exact v_iret C dX5_placing_85 (by rw [hX]; have e := ((plw_c (n := n) (w := w) (v := v) (z := z) (fun q => q.elim c2 c7) c20 (Or.inr c36)).trans (if_neg c54)).trans (if_neg (fun q => c77 ⟨m1_pos c7 c66, q⟩)); exact ⟨_, rfl, by rw [plaH, e]; rfl, Or.inl ⟨by rw [e]; decide, by rw [e]; rfl⟩⟩)
            · skip
              have c54 := (nI_ltI (a := 5) (b := n) (by omega) (by omega)).mp c54
              refine v_aload_n C dX5_placing_57 rfl rfl rfl ?_
              refine v_bipush (v := -3) C dX5_placing_58 (by decide) rfl ?_
              refine v_callV C (Nat.le_of_ble_eq_true rfl) rfl rfl (As := [.int (-3)]) (rest := []) (kX5_answer (-3) σ) rfl (Nat.le_of_ble_eq_true rfl) (Nat.le_of_ble_eq_true rfl) ⟨mlX5_64, mfX5_answer⟩ dkX5_answer (Nat.le_of_ble_eq_true rfl) dX5_placing_60 rfl (kI ?_)
              exact v_iret C dX5_placing_63 (by rw [hX]; have e := (plw_c (n := n) (w := w) (v := v) (z := z) (fun q => q.elim c2 c7) c20 (Or.inr c36)).trans (if_pos c54); exact ⟨_, rfl, by rw [plaH, e]; rfl, Or.inl ⟨by rw [e]; decide, by rw [e]; rfl⟩⟩)
          · skip
            refine v_aload_n C dX5_placing_39 rfl rfl rfl ?_
            refine v_bipush (v := -2) C dX5_placing_40 (by decide) rfl ?_
            refine v_callV C (Nat.le_of_ble_eq_true rfl) rfl rfl (As := [.int (-2)]) (rest := []) (kX5_answer (-2) σ) rfl (Nat.le_of_ble_eq_true rfl) (Nat.le_of_ble_eq_true rfl) ⟨mlX5_64, mfX5_answer⟩ dkX5_answer (Nat.le_of_ble_eq_true rfl) dX5_placing_42 rfl (kI ?_)
            exact v_iret C dX5_placing_45 (by rw [hX]; have e := plw_2 (n := n) (w := w) (v := v) (z := z) (fun q => q.elim c2 c7) c20 (fun q => q.elim c31 c36); exact ⟨_, rfl, by rw [plaH, e]; rfl, Or.inl ⟨by rw [e]; decide, by rw [e]; rfl⟩⟩)
      · skip
        refine v_aload_n C dX5_placing_23 rfl rfl rfl ?_
        refine v_bipush (v := -6) C dX5_placing_24 (by decide) rfl ?_
        refine v_callV C (Nat.le_of_ble_eq_true rfl) rfl rfl (As := [.int (-6)]) (rest := []) (kX5_answer (-6) σ) rfl (Nat.le_of_ble_eq_true rfl) (Nat.le_of_ble_eq_true rfl) ⟨mlX5_64, mfX5_answer⟩ dkX5_answer (Nat.le_of_ble_eq_true rfl) dX5_placing_26 rfl (kI ?_)
        exact v_iret C dX5_placing_29 (by rw [hX]; have e := plw_6 (n := n) (w := w) (v := v) (z := z) (fun q => q.elim c2 c7) c20; exact ⟨_, rfl, by rw [plaH, e]; rfl, Or.inl ⟨by rw [e]; decide, by rw [e]; rfl⟩⟩)
    · skip
      refine v_aload_n C dX5_placing_10 rfl rfl rfl ?_
      refine v_bipush (v := -4) C dX5_placing_11 (by decide) rfl ?_
      refine v_callV C (Nat.le_of_ble_eq_true rfl) rfl rfl (As := [.int (-4)]) (rest := []) (kX5_answer (-4) σ) rfl (Nat.le_of_ble_eq_true rfl) (Nat.le_of_ble_eq_true rfl) ⟨mlX5_64, mfX5_answer⟩ dkX5_answer (Nat.le_of_ble_eq_true rfl) dX5_placing_13 rfl (kI ?_)
      exact v_iret C dX5_placing_16 (by rw [hX]; have e := plw_4 (n := n) (w := w) (Or.inr c7 : v < 1 ∨ z < -1); exact ⟨_, rfl, by rw [plaH, e]; rfl, Or.inl ⟨by rw [e]; decide, by rw [e]; rfl⟩⟩)
theorem kX5_innocent (n : Nat) (σ : St) (hn : σ 19 7 = nI n) (h7 : n ≤ 7) (hs : Sm19 σ n) : Ct yX5_innocent cX5_innocent 2 (some .int) 12 [.ref 18] σ (rI (fun r τ => r = innH σ n ∧ ((5 < n ∧ τ = ansS σ (-3)) ∨ (¬ 5 < n ∧ Plk σ τ)))) := by
  refine ct_of plX5 rfl (Nat.le_of_ble_eq_true rfl) (fun X hX C => ?_)
  show V X 0 [(0, .ref 18)] [] σ
  refine v_aload_n C dX5_innocent_0 rfl rfl rfl ?_
  refine v_getR C (Nat.le_of_ble_eq_true rfl) rfl rfl hinX5 0 (Nat.le_of_ble_eq_true rfl) lkX5_10 rfl dX5_innocent_1 rfl ?_
  refine v_getNI C hh19.l0 hh19.s0 rfl hinX0 7 (Nat.le_of_ble_eq_true rfl) lkX5_126 rfl dX5_innocent_4 rfl ?_
  refine V.tp hn ?_
  refine v_iconst (v := 5) C dX5_innocent_7 (by decide) rfl ?_
  refine v_icmp_le (tgt := 18) C dX5_innocent_8 (by decide) rfl (fun c8 => ?_) (fun c8 => ?_)
  · skip
    have c8 := mt (nI_ltI (a := 5) (b := n) (by omega) (by omega)).mpr c8
    have h5 : n ≤ 5 := by have := c8; omega
    refine v_aload_n C dX5_innocent_18 rfl rfl rfl ?_
    refine v_callV C (Nat.le_of_ble_eq_true rfl) rfl rfl (As := []) (rest := []) (kX5_thoughtOfNow σ) rfl (Nat.le_of_ble_eq_true rfl) (Nat.le_of_ble_eq_true rfl) ⟨mlX5_67, mfX5_thoughtOfNow⟩ dkX5_thoughtOfNow (Nat.le_of_ble_eq_true rfl) dX5_innocent_19 rfl (krR (fun υ hC => ?_))
    have hnυ : υ 27 7 = nI n := hC.2.1.1.trans hn
    refine v_pop C dX5_innocent_22 rfl rfl ?_
    refine v_aload_n C dX5_innocent_23 rfl rfl rfl ?_
    refine v_getR C (Nat.le_of_ble_eq_true rfl) rfl rfl hinX5 6 (Nat.le_of_ble_eq_true rfl) lkX5_45 rfl dX5_innocent_24 rfl ?_
    refine v_bipush (v := 63) C dX5_innocent_27 (by decide) rfl ?_
    refine v_iconst (v := 1) C dX5_innocent_29 (by decide) rfl ?_
    refine v_callVN C (Nat.le_of_ble_eq_true rfl) rfl rfl (As := [.int 63, .int 1]) (rest := []) (kX1_search υ n 63 1 (Or.inr rfl) (sm_cop hC h7 hs) hnυ h5) rfl (Nat.le_of_ble_eq_true rfl) (Nat.le_of_ble_eq_true rfl) ⟨mlX5_130, mfX1_search⟩ dkX1_search (Nat.le_of_ble_eq_true rfl) dX5_innocent_30 rfl (krI (fun r ψ hR => ?_))
    have hq : fpN (okP υ n 63) (fP υ n 1) (6 ^ n) = pQ σ n 63 1 := pq_cop hC h7 hs
    have hm : (pQ σ n 63 1).2 < 0 → (pQ σ n 63 1).2 = -9 := by rw [← hq]; exact fp_neg (fun k _ => (fP_b (sm_cop hC h7 hs) h7 1 k).1) (6 ^ n)
    rw [hq] at hR
    have hK : Plk σ ψ := plk_of hC hR.2.2
    have hnψ : ψ 27 7 = nI n := (congrFun (hR.2.2 27 (by decide) (by decide) (by decide)) 7).trans hnυ
    refine v_istore_n (lv' := [(1, .int r), (0, .ref 18)]) C dX5_innocent_33 rfl (Nat.le_of_ble_eq_true rfl) rfl rfl ?_
    refine v_iload_n C dX5_innocent_34 rfl rfl rfl ?_
    refine v_bipush (v := -9) C dX5_innocent_35 (by decide) rfl ?_
    refine v_icmp_ne (tgt := 45) C dX5_innocent_37 (by decide) rfl (fun c37 => ?_) (fun c37 => ?_)
    · skip
      refine v_bipush (v := 6) C dX5_innocent_45 (by decide) rfl ?_
      refine v_iload_n C dX5_innocent_47 rfl rfl rfl ?_
      refine v_isub C dX5_innocent_48 rfl ?_
      exact v_iret C dX5_innocent_49 (by rw [hX]; have hz : ¬ (pQ σ n 63 1).2 < 0 := fun q => c37 (hR.1.trans (hm q)); exact ⟨_, rfl, by rw [innH, if_neg c8, if_neg hz, hR.1], Or.inr ⟨c8, hK⟩⟩)
    · skip
      refine v_bipush (v := -9) C dX5_innocent_40 (by decide) rfl ?_
      refine v_goto (tgt := 49) C dX5_innocent_42 (by decide) ?_
      exact v_iret C dX5_innocent_49 (by rw [hX]; exact ⟨_, rfl, by rw [innH, if_neg c8, if_pos (by rw [← hR.1, c37]; decide)], Or.inr ⟨c8, hK⟩⟩)
  · skip
    have c8 := (nI_ltI (a := 5) (b := n) (by omega) (by omega)).mp c8
    refine v_aload_n C dX5_innocent_11 rfl rfl rfl ?_
    refine v_bipush (v := -3) C dX5_innocent_12 (by decide) rfl ?_
    refine v_callV C (Nat.le_of_ble_eq_true rfl) rfl rfl (As := [.int (-3)]) (rest := []) (kX5_answer (-3) σ) rfl (Nat.le_of_ble_eq_true rfl) (Nat.le_of_ble_eq_true rfl) ⟨mlX5_64, mfX5_answer⟩ dkX5_answer (Nat.le_of_ble_eq_true rfl) dX5_innocent_14 rfl (kI ?_)
    exact v_iret C dX5_innocent_17 (by rw [hX]; exact ⟨_, rfl, by rw [innH, if_pos c8], Or.inl ⟨c8, rfl⟩⟩)
