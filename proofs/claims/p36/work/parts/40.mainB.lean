/-! the class: main, crowded, guest, count, image, on -/
def cntH (σ : St) (n : Nat) (v : Int32) : Int32 := if v = 0 then nI n else if v = 1 then σ 19 9 else if v = 2 then σ 19 8 else if v = 3 then sumN (σ (19 + 2)) n else if v = 4 then sumN (σ (19 + 3)) n else if v = 5 then nI n - pinF (σ (19 + 5)) n 9 else if v = 6 then sumN (σ (19 + 6)) 6 else if v = 7 then σ 45 1 else if v = 8 then σ 43 1 else if ¬ v < 11 ∧ ¬ 16 < v then σ 54 (tn v - 10) else -9
noncomputable def gueH (σ : St) (n : Nat) (r : Int32) : Int32 := cI (placeP r) (oI (minN (fun p => σ (19 + 5) p = r) (blH σ 19 n) n)) (-1)
noncomputable def gueT (σ : St) (r : Int32) : St := cI (placeP r) σ (ansS σ (-1))
theorem room_nI {i : Nat} (h : i < 6) : roomP (nI i) := ⟨nI_pos (by omega), (nI_ltI (a := i) (b := 6) (by omega) (by decide)).mpr h⟩
theorem cro_no {bk pl sz : Nat → Int32} {n i : Nat} (c : spaP bk pl sz n (nI i) 1) (h : i < 6 := by omega) : orN (croH bk pl sz n) i = orN (croH bk pl sz n) (i + 1) := by
  have c2 := c.2
  rw [tn_nI (n := i) (by omega)] at c2
  rw [orN, croH, if_neg c2]; simp
theorem cro_yes {bk pl sz : Nat → Int32} {n i : Nat} (h : i < 6) (c : ¬ spaP bk pl sz n (nI i) 1) : orN (croH bk pl sz n) i ||| (1 : Int32) <<< (nI i &&& 31) = orN (croH bk pl sz n) (i + 1) := by
  have c2 : sz i < bulF bk pl n (nI i) + 1 := by
    refine Classical.byContradiction (fun z => c ⟨room_nI h, ?_⟩)
    rw [tn_nI (n := i) (by omega)]; exact z
  rw [orN, croH, if_pos c2]
theorem kX5_crowded (n : Nat) (σ : St) (hn : σ 19 7 = nI n) (h7 : n ≤ 7) : Ct yX5_crowded cX5_crowded 3 (some .int) 2 [.ref 18] σ (fI (orN (croH (σ (19 + 2)) (σ (19 + 5)) (σ (19 + 6)) n) 6) (σ)) := by
  refine ct_of plX5 rfl (Nat.le_of_ble_eq_true rfl) (fun X hX C => ?_)
  show V X 0 [(0, .ref 18)] [] σ
  refine v_iconst (v := 0) C dX5_crowded_0 (by decide) rfl ?_
  refine v_istore_n (lv' := [(1, .int 0), (0, .ref 18)]) C dX5_crowded_1 rfl (Nat.le_of_ble_eq_true rfl) rfl rfl ?_
  refine v_iconst (v := 0) C dX5_crowded_2 (by decide) rfl ?_
  refine v_istore_n (lv' := [(2, .int 0), (1, .int 0), (0, .ref 18)]) C dX5_crowded_3 rfl (Nat.le_of_ble_eq_true rfl) rfl rfl ?_
  have lp4 : ∀ (kf i : Nat) (x1 : Int32) , 6 < i + kf → i ≤ 6 → x1 = orN (croH (σ (19 + 2)) (σ (19 + 5)) (σ (19 + 6)) n) i → V X 4 [(2, .int (nI i)), (1, .int x1), (0, .ref 18)] [] σ := by
    intro kf
    induction kf with
    | zero => intro i x1 h1 h2; omega
    | succ kf ih4 =>
      intro i x1 h1 h2 ex1
      refine v_iload_n C dX5_crowded_4 rfl rfl rfl ?_
      refine v_bipush (v := 6) C dX5_crowded_5 (by decide) rfl ?_
      refine v_icmp_ge (tgt := 34) C dX5_crowded_7 (by decide) rfl (fun c7 => ?_) (fun c7 => ?_)
      · skip
        have c7 := mt (nI_ltI (a := i) (b := 6) (by omega) (by omega)).mpr c7
        refine v_iload_n C dX5_crowded_34 rfl rfl rfl ?_
        exact v_iret C dX5_crowded_35 (by rw [hX]; exact fI_of (by rw [ex1, show i = 6 from by omega]) rfl)
      · skip
        have c7 := (nI_ltI (a := i) (b := 6) (by omega) (by omega)).mp c7
        refine v_aload_n C dX5_crowded_10 rfl rfl rfl ?_
        refine v_getR C (Nat.le_of_ble_eq_true rfl) rfl rfl hinX5 0 (Nat.le_of_ble_eq_true rfl) lkX5_10 rfl dX5_crowded_11 rfl ?_
        refine v_iload_n C dX5_crowded_14 rfl rfl rfl ?_
        refine v_iconst (v := 1) C dX5_crowded_15 (by decide) rfl ?_
        refine v_callVN C hh19.l0 hh19.s0 rfl (As := [.int (nI i), .int 1]) (rest := []) (kX0_hasSpace (nI i) 1 19 n hh19 σ hn h7) rfl (Nat.le_of_ble_eq_true rfl) (Nat.le_of_ble_eq_true rfl) ⟨mlX5_123, mfX0_hasSpace⟩ dkX0_hasSpace (Nat.le_of_ble_eq_true rfl) dX5_crowded_16 rfl (kI ?_)
        refine v_if_ne (tgt := 28) C dX5_crowded_19 (by decide) rfl (fun c19 => ?_) (fun c19 => ?_)
        · skip
          have c19 := bI_n c19
          refine v_iinc (lv' := [(2, .int (nI (i + 1))), (1, .int x1), (0, .ref 18)]) C dX5_crowded_28 rfl (nI_inc i) (Nat.le_of_ble_eq_true rfl) rfl rfl ?_
          refine v_goto (tgt := 4) C dX5_crowded_31 (by decide) ?_
          exact V.sub [0, 1, 2] rfl (ih4 (i + 1) _ (by omega) (by omega) (by rw [ex1]; exact cro_no c19))
        · skip
          have c19 := bI_0 c19
          refine v_iload_n C dX5_crowded_22 rfl rfl rfl ?_
          refine v_iconst (v := 1) C dX5_crowded_23 (by decide) rfl ?_
          refine v_iload_n C dX5_crowded_24 rfl rfl rfl ?_
          refine v_ishl C dX5_crowded_25 rfl ?_
          refine v_ior C dX5_crowded_26 rfl ?_
          refine V.top (fun v27_1 ev27_1 => ?_)
          refine v_istore_n (lv' := [(1, .int v27_1), (2, .int (nI i)), (0, .ref 18)]) C dX5_crowded_27 rfl (Nat.le_of_ble_eq_true rfl) rfl rfl ?_
          refine v_iinc (lv' := [(2, .int (nI (i + 1))), (1, .int v27_1), (0, .ref 18)]) C dX5_crowded_28 rfl (nI_inc i) (Nat.le_of_ble_eq_true rfl) rfl rfl ?_
          refine v_goto (tgt := 4) C dX5_crowded_31 (by decide) ?_
          exact V.sub [0, 1, 2] rfl (ih4 (i + 1) _ (by omega) (by omega) (by rw [ev27_1, ex1]; exact cro_yes (by omega) c19))
  exact V.sub [0, 1, 2] rfl (lp4 (6 + 1) 0 0 (by omega) (by omega) (rfl))
theorem gue_sk {P : Nat → Prop} {f : Nat → Int32} {i : Nat} {x2 x3 : Int32} (e2 : x2 = oI (minN P f i)) (e3 : x3 = ofO f (-9) (minN P f i)) (c : ¬ P i) : x2 = oI (minN P f (i + 1)) ∧ x3 = ofO f (-9) (minN P f (i + 1)) := by
  have : minN P f (i + 1) = minN P f i := by
    rw [minN]
    rcases hq : minN P f i with _ | b
    · exact cI_f c
    · exact cI_f (fun z => c z.1)
  rw [this]; exact ⟨e2, e3⟩
theorem gue_new {P : Nat → Prop} {f : Nat → Int32} {i : Nat} {x2 x3 v : Int32} (e2 : x2 = oI (minN P f i)) (e3 : x3 = ofO f (-9) (minN P f i)) (hi : i < 100) (ev : v = f i) (c : P i) (k : x2 = -9 ∨ v < x3) : nI i = oI (minN P f (i + 1)) ∧ v = ofO f (-9) (minN P f (i + 1)) := by
  have : minN P f (i + 1) = some i := by
    rw [minN]
    rcases hq : minN P f i with _ | b
    · exact cI_t c
    · have hb := minN_lt hq
      refine cI_t ⟨c, ?_⟩
      rcases k with k | k
      · rw [e2, hq] at k; exact absurd k (nI_n9 (by omega))
      · rw [e3, hq, ev] at k; exact k
  rw [this]; exact ⟨rfl, ev⟩
theorem gue_old {P : Nat → Prop} {f : Nat → Int32} {i : Nat} {x2 x3 v : Int32} (e2 : x2 = oI (minN P f i)) (e3 : x3 = ofO f (-9) (minN P f i)) (ev : v = f i) (k : ¬ x2 = -9) (k2 : ¬ v < x3) : x2 = oI (minN P f (i + 1)) ∧ x3 = ofO f (-9) (minN P f (i + 1)) := by
  have : minN P f (i + 1) = minN P f i := by
    rw [minN]
    rcases hq : minN P f i with _ | b
    · rw [e2, hq] at k; exact absurd rfl k
    · refine cI_f (fun z => k2 ?_)
      rw [e3, hq, ev]; exact z.2
  rw [this]; exact ⟨e2, e3⟩
theorem kX5_guest (r : Int32) (n : Nat) (σ : St) (hn : σ 19 7 = nI n) (h7 : n ≤ 7) : Ct yX5_guest cX5_guest 6 (some .int) 3 [.ref 18, .int r] σ (fI (gueH σ n r) (gueT σ r)) := by
  refine ct_of plX5 rfl (Nat.le_of_ble_eq_true rfl) (fun X hX C => ?_)
  show V X 0 [(0, .ref 18), (1, .int r)] [] σ
  refine v_iload_n C dX5_guest_0 rfl rfl rfl ?_
  refine v_callS C (As := [.int r]) (rest := []) (kX5_isPlace r σ) rfl (Nat.le_of_ble_eq_true rfl) (Nat.le_of_ble_eq_true rfl) ⟨mlX5_91, mfX5_isPlace⟩ dkX5_isPlace (Nat.le_of_ble_eq_true rfl) dX5_guest_1 rfl (kI ?_)
  refine v_if_ne (tgt := 13) C dX5_guest_4 (by decide) rfl (fun c4 => ?_) (fun c4 => ?_)
  · skip
    have c4 := bI_n c4
    refine v_bipush (v := -9) C dX5_guest_13 (by decide) rfl ?_
    refine v_istore_n (lv' := [(2, .int (-9)), (0, .ref 18), (1, .int r)]) C dX5_guest_15 rfl (Nat.le_of_ble_eq_true rfl) rfl rfl ?_
    refine v_bipush (v := -9) C dX5_guest_16 (by decide) rfl ?_
    refine v_istore_n (lv' := [(3, .int (-9)), (2, .int (-9)), (0, .ref 18), (1, .int r)]) C dX5_guest_18 rfl (Nat.le_of_ble_eq_true rfl) rfl rfl ?_
    refine v_iconst (v := 0) C dX5_guest_19 (by decide) rfl ?_
    refine v_istore (lv' := [(4, .int 0), (3, .int (-9)), (2, .int (-9)), (0, .ref 18), (1, .int r)]) C dX5_guest_20 (Nat.le_of_ble_eq_true rfl) rfl rfl ?_
    have lp22 : ∀ (kf i : Nat) (x2 : Int32) (x3 : Int32) , n < i + kf → i ≤ n → x2 = oI (minN (fun p => σ (19 + 5) p = r) (blH σ 19 n) i) → x3 = ofO (blH σ 19 n) (-9) (minN (fun p => σ (19 + 5) p = r) (blH σ 19 n) i) → V X 22 [(4, .int (nI i)), (3, .int x3), (2, .int x2), (0, .ref 18), (1, .int r)] [] σ := by
      intro kf
      induction kf with
      | zero => intro i x2 x3 h1 h2; omega
      | succ kf ih22 =>
        intro i x2 x3 h1 h2 ex2 ex3
        refine v_iload C dX5_guest_22 rfl rfl ?_
        refine v_aload_n C dX5_guest_24 rfl rfl rfl ?_
        refine v_getR C (Nat.le_of_ble_eq_true rfl) rfl rfl hinX5 0 (Nat.le_of_ble_eq_true rfl) lkX5_10 rfl dX5_guest_25 rfl ?_
        refine v_getNI C hh19.l0 hh19.s0 rfl hinX0 7 (Nat.le_of_ble_eq_true rfl) lkX5_126 rfl dX5_guest_28 rfl ?_
        refine V.tp hn ?_
        refine v_icmp_ge (tgt := 83) C dX5_guest_31 (by decide) rfl (fun c31 => ?_) (fun c31 => ?_)
        · skip
          have c31 := mt (nI_ltI (a := i) (b := n) (by omega) (by omega)).mpr c31
          refine v_iload_n C dX5_guest_83 rfl rfl rfl ?_
          exact v_iret C dX5_guest_84 (by rw [hX]; exact fI_of (by rw [gueH, cI_t c4, ex2, show i = n from by omega]) (by rw [gueT, cI_t c4]))
        · skip
          have c31 := (nI_ltI (a := i) (b := n) (by omega) (by omega)).mp c31
          refine v_aload_n C dX5_guest_34 rfl rfl rfl ?_
          refine v_getR C (Nat.le_of_ble_eq_true rfl) rfl rfl hinX5 0 (Nat.le_of_ble_eq_true rfl) lkX5_10 rfl dX5_guest_35 rfl ?_
          refine v_getNR C hh19.l0 hh19.s0 rfl hinX0 4 (Nat.le_of_ble_eq_true rfl) lkX5_204 rfl dX5_guest_38 rfl ?_
          refine v_iload C dX5_guest_41 rfl rfl ?_
          refine v_iald (i := i) C hh19.l5 hh19.s5 rfl (by omega) (by decide) dX5_guest_43 rfl ?_
          refine v_iload_n C dX5_guest_44 rfl rfl rfl ?_
          refine v_icmp_ne (tgt := 77) C dX5_guest_45 (by decide) rfl (fun c45 => ?_) (fun c45 => ?_)
          · skip
            refine v_iinc (lv' := [(4, .int (nI (i + 1))), (3, .int x3), (2, .int x2), (0, .ref 18), (1, .int r)]) C dX5_guest_77 rfl (nI_inc i) (Nat.le_of_ble_eq_true rfl) rfl rfl ?_
            refine v_goto (tgt := 22) C dX5_guest_80 (by decide) ?_
            exact V.sub [0, 1, 2, 3, 4] rfl (ih22 (i + 1) _ _ (by omega) (by omega) ((gue_sk (P := (fun p => σ (19 + 5) p = r)) ex2 ex3 c45).1) ((gue_sk (P := (fun p => σ (19 + 5) p = r)) ex2 ex3 c45).2))
          · skip
            refine v_aload_n C dX5_guest_48 rfl rfl rfl ?_
            refine v_getR C (Nat.le_of_ble_eq_true rfl) rfl rfl hinX5 0 (Nat.le_of_ble_eq_true rfl) lkX5_10 rfl dX5_guest_49 rfl ?_
            refine v_iload C dX5_guest_52 rfl rfl ?_
            refine v_callVN C hh19.l0 hh19.s0 rfl (As := [.int (nI i)]) (rest := []) (kX0_blameOfPiece i 19 n hh19 σ hn h7 (by omega)) rfl (Nat.le_of_ble_eq_true rfl) (Nat.le_of_ble_eq_true rfl) ⟨mlX5_207, mfX0_blameOfPiece⟩ dkX0_blameOfPiece (Nat.le_of_ble_eq_true rfl) dX5_guest_54 rfl (kI ?_)
            refine V.top (fun v57_1 ev57_1 => ?_)
            refine v_istore (lv' := [(5, .int v57_1), (4, .int (nI i)), (3, .int x3), (2, .int x2), (0, .ref 18), (1, .int r)]) C dX5_guest_57 (Nat.le_of_ble_eq_true rfl) rfl rfl ?_
            refine v_iload_n C dX5_guest_59 rfl rfl rfl ?_
            refine v_bipush (v := -9) C dX5_guest_60 (by decide) rfl ?_
            refine v_icmp_eq (tgt := 71) C dX5_guest_62 (by decide) rfl (fun c62 => ?_) (fun c62 => ?_)
            · skip
              refine v_iload C dX5_guest_71 rfl rfl ?_
              refine v_istore_n (lv' := [(2, .int (nI i)), (5, .int v57_1), (4, .int (nI i)), (3, .int x3), (0, .ref 18), (1, .int r)]) C dX5_guest_73 rfl (Nat.le_of_ble_eq_true rfl) rfl rfl ?_
              refine v_iload C dX5_guest_74 rfl rfl ?_
              refine v_istore_n (lv' := [(3, .int v57_1), (2, .int (nI i)), (5, .int v57_1), (4, .int (nI i)), (0, .ref 18), (1, .int r)]) C dX5_guest_76 rfl (Nat.le_of_ble_eq_true rfl) rfl rfl ?_
              refine v_iinc (lv' := [(4, .int (nI (i + 1))), (3, .int v57_1), (2, .int (nI i)), (5, .int v57_1), (0, .ref 18), (1, .int r)]) C dX5_guest_77 rfl (nI_inc i) (Nat.le_of_ble_eq_true rfl) rfl rfl ?_
              refine v_goto (tgt := 22) C dX5_guest_80 (by decide) ?_
              exact V.sub [0, 1, 2, 4, 5] rfl (ih22 (i + 1) _ _ (by omega) (by omega) ((gue_new (P := (fun p => σ (19 + 5) p = r)) ex2 ex3 (by omega) (show _ = (blH σ 19 n) i from ev57_1) c45 (Or.inl c62)).1) ((gue_new (P := (fun p => σ (19 + 5) p = r)) ex2 ex3 (by omega) (show _ = (blH σ 19 n) i from ev57_1) c45 (Or.inl c62)).2))
            · skip
              refine v_iload C dX5_guest_65 rfl rfl ?_
              refine v_iload_n C dX5_guest_67 rfl rfl rfl ?_
              refine v_icmp_ge (tgt := 77) C dX5_guest_68 (by decide) rfl (fun c68 => ?_) (fun c68 => ?_)
              · skip
                refine v_iinc (lv' := [(4, .int (nI (i + 1))), (5, .int v57_1), (3, .int x3), (2, .int x2), (0, .ref 18), (1, .int r)]) C dX5_guest_77 rfl (nI_inc i) (Nat.le_of_ble_eq_true rfl) rfl rfl ?_
                refine v_goto (tgt := 22) C dX5_guest_80 (by decide) ?_
                exact V.sub [0, 2, 3, 4, 5] rfl (ih22 (i + 1) _ _ (by omega) (by omega) ((gue_old (P := (fun p => σ (19 + 5) p = r)) ex2 ex3 (show _ = (blH σ 19 n) i from ev57_1) c62 c68).1) ((gue_old (P := (fun p => σ (19 + 5) p = r)) ex2 ex3 (show _ = (blH σ 19 n) i from ev57_1) c62 c68).2))
              · skip
                refine v_iload C dX5_guest_71 rfl rfl ?_
                refine v_istore_n (lv' := [(2, .int (nI i)), (5, .int v57_1), (4, .int (nI i)), (3, .int x3), (0, .ref 18), (1, .int r)]) C dX5_guest_73 rfl (Nat.le_of_ble_eq_true rfl) rfl rfl ?_
                refine v_iload C dX5_guest_74 rfl rfl ?_
                refine v_istore_n (lv' := [(3, .int v57_1), (2, .int (nI i)), (5, .int v57_1), (4, .int (nI i)), (0, .ref 18), (1, .int r)]) C dX5_guest_76 rfl (Nat.le_of_ble_eq_true rfl) rfl rfl ?_
                refine v_iinc (lv' := [(4, .int (nI (i + 1))), (3, .int v57_1), (2, .int (nI i)), (5, .int v57_1), (0, .ref 18), (1, .int r)]) C dX5_guest_77 rfl (nI_inc i) (Nat.le_of_ble_eq_true rfl) rfl rfl ?_
                refine v_goto (tgt := 22) C dX5_guest_80 (by decide) ?_
                exact V.sub [0, 1, 2, 4, 5] rfl (ih22 (i + 1) _ _ (by omega) (by omega) ((gue_new (P := (fun p => σ (19 + 5) p = r)) ex2 ex3 (by omega) (show _ = (blH σ 19 n) i from ev57_1) c45 (Or.inr c68)).1) ((gue_new (P := (fun p => σ (19 + 5) p = r)) ex2 ex3 (by omega) (show _ = (blH σ 19 n) i from ev57_1) c45 (Or.inr c68)).2))
    exact V.sub [0, 1, 2, 3, 4] rfl (lp22 (n + 1) 0 _ _ (by omega) (by omega) (rfl) (rfl))
  · skip
    have c4 := bI_0 c4
    refine v_aload_n C dX5_guest_7 rfl rfl rfl ?_
    refine v_iconst (v := -1) C dX5_guest_8 (by decide) rfl ?_
    refine v_callV C (Nat.le_of_ble_eq_true rfl) rfl rfl (As := [.int (-1)]) (rest := []) (kX5_answer (-1) σ) rfl (Nat.le_of_ble_eq_true rfl) (Nat.le_of_ble_eq_true rfl) ⟨mlX5_64, mfX5_answer⟩ dkX5_answer (Nat.le_of_ble_eq_true rfl) dX5_guest_9 rfl (kI ?_)
    exact v_iret C dX5_guest_12 (by rw [hX]; exact fI_of (by rw [gueH, cI_f c4]) (by rw [gueT, cI_f c4]))
theorem kX5_count (v : Int32) (n : Nat) (σ : St) (hn : σ 19 7 = nI n) (h7 : n ≤ 7) : Ct yX5_count cX5_count 2 (some .int) 1 [.ref 18, .int v] σ (fI (cntH σ n v) (σ)) := by
  refine ct_of plX5 rfl (Nat.le_of_ble_eq_true rfl) (fun X hX C => ?_)
  show V X 0 [(0, .ref 18), (1, .int v)] [] σ
  refine v_iload_n C dX5_count_0 rfl rfl rfl ?_
  by_cases s1_0 : v = 0
  · refine V.tp s1_0 ?_
    refine v_tableIn (off := 51) (tgt := 52) C dX5_count_1 (by decide) (by decide) rfl (by decide) ?_
    refine v_aload_n C dX5_count_52 rfl rfl rfl ?_
    refine v_getR C (Nat.le_of_ble_eq_true rfl) rfl rfl hinX5 0 (Nat.le_of_ble_eq_true rfl) lkX5_10 rfl dX5_count_53 rfl ?_
    refine v_getNI C hh19.l0 hh19.s0 rfl hinX0 7 (Nat.le_of_ble_eq_true rfl) lkX5_126 rfl dX5_count_56 rfl ?_
    refine V.tp hn ?_
    exact v_iret C dX5_count_59 (by rw [hX]; exact fI_of (by simp [cntH, s1_0]) rfl)
  by_cases s1_1 : v = 1
  · refine V.tp s1_1 ?_
    refine v_tableIn (off := 59) (tgt := 60) C dX5_count_1 (by decide) (by decide) rfl (by decide) ?_
    refine v_aload_n C dX5_count_60 rfl rfl rfl ?_
    refine v_getR C (Nat.le_of_ble_eq_true rfl) rfl rfl hinX5 0 (Nat.le_of_ble_eq_true rfl) lkX5_10 rfl dX5_count_61 rfl ?_
    refine v_getNI C hh19.l0 hh19.s0 rfl hinX0 9 (Nat.le_of_ble_eq_true rfl) lkX5_224 rfl dX5_count_64 rfl ?_
    exact v_iret C dX5_count_67 (by rw [hX]; exact fI_of (by simp [cntH, s1_0, s1_1]) rfl)
  by_cases s1_2 : v = 2
  · refine V.tp s1_2 ?_
    refine v_tableIn (off := 67) (tgt := 68) C dX5_count_1 (by decide) (by decide) rfl (by decide) ?_
    refine v_aload_n C dX5_count_68 rfl rfl rfl ?_
    refine v_getR C (Nat.le_of_ble_eq_true rfl) rfl rfl hinX5 0 (Nat.le_of_ble_eq_true rfl) lkX5_10 rfl dX5_count_69 rfl ?_
    refine v_getNI C hh19.l0 hh19.s0 rfl hinX0 8 (Nat.le_of_ble_eq_true rfl) lkX5_155 rfl dX5_count_72 rfl ?_
    exact v_iret C dX5_count_75 (by rw [hX]; exact fI_of (by simp [cntH, s1_0, s1_1, s1_2]) rfl)
  by_cases s1_3 : v = 3
  · refine V.tp s1_3 ?_
    refine v_tableIn (off := 75) (tgt := 76) C dX5_count_1 (by decide) (by decide) rfl (by decide) ?_
    refine v_aload_n C dX5_count_76 rfl rfl rfl ?_
    refine v_getR C (Nat.le_of_ble_eq_true rfl) rfl rfl hinX5 0 (Nat.le_of_ble_eq_true rfl) lkX5_10 rfl dX5_count_77 rfl ?_
    refine v_getNR C hh19.l0 hh19.s0 rfl hinX0 1 (Nat.le_of_ble_eq_true rfl) lkX5_227 rfl dX5_count_80 rfl ?_
    refine v_aload_n C dX5_count_83 rfl rfl rfl ?_
    refine v_getR C (Nat.le_of_ble_eq_true rfl) rfl rfl hinX5 0 (Nat.le_of_ble_eq_true rfl) lkX5_10 rfl dX5_count_84 rfl ?_
    refine v_getNI C hh19.l0 hh19.s0 rfl hinX0 7 (Nat.le_of_ble_eq_true rfl) lkX5_126 rfl dX5_count_87 rfl ?_
    refine V.tp hn ?_
    refine v_callS C (As := [.ref (19 + 2), .int (nI n)]) (rest := []) (kX5_sumOfFirst (19 + 2) 7 n σ hh19.l2 hh19.s2 (by decide) (by omega)) rfl (Nat.le_of_ble_eq_true rfl) (Nat.le_of_ble_eq_true rfl) ⟨mlX5_230, mfX5_sumOfFirst⟩ dkX5_sumOfFirst (Nat.le_of_ble_eq_true rfl) dX5_count_90 rfl (kI ?_)
    exact v_iret C dX5_count_93 (by rw [hX]; exact fI_of (by simp [cntH, s1_0, s1_1, s1_2, s1_3]) rfl)
  by_cases s1_4 : v = 4
  · refine V.tp s1_4 ?_
    refine v_tableIn (off := 93) (tgt := 94) C dX5_count_1 (by decide) (by decide) rfl (by decide) ?_
    refine v_aload_n C dX5_count_94 rfl rfl rfl ?_
    refine v_getR C (Nat.le_of_ble_eq_true rfl) rfl rfl hinX5 0 (Nat.le_of_ble_eq_true rfl) lkX5_10 rfl dX5_count_95 rfl ?_
    refine v_getNR C hh19.l0 hh19.s0 rfl hinX0 2 (Nat.le_of_ble_eq_true rfl) lkX5_173 rfl dX5_count_98 rfl ?_
    refine v_aload_n C dX5_count_101 rfl rfl rfl ?_
    refine v_getR C (Nat.le_of_ble_eq_true rfl) rfl rfl hinX5 0 (Nat.le_of_ble_eq_true rfl) lkX5_10 rfl dX5_count_102 rfl ?_
    refine v_getNI C hh19.l0 hh19.s0 rfl hinX0 7 (Nat.le_of_ble_eq_true rfl) lkX5_126 rfl dX5_count_105 rfl ?_
    refine V.tp hn ?_
    refine v_callS C (As := [.ref (19 + 3), .int (nI n)]) (rest := []) (kX5_sumOfFirst (19 + 3) 7 n σ hh19.l3 hh19.s3 (by decide) (by omega)) rfl (Nat.le_of_ble_eq_true rfl) (Nat.le_of_ble_eq_true rfl) ⟨mlX5_230, mfX5_sumOfFirst⟩ dkX5_sumOfFirst (Nat.le_of_ble_eq_true rfl) dX5_count_108 rfl (kI ?_)
    exact v_iret C dX5_count_111 (by rw [hX]; exact fI_of (by simp [cntH, s1_0, s1_1, s1_2, s1_3, s1_4]) rfl)
  by_cases s1_5 : v = 5
  · refine V.tp s1_5 ?_
    refine v_tableIn (off := 111) (tgt := 112) C dX5_count_1 (by decide) (by decide) rfl (by decide) ?_
    refine v_aload_n C dX5_count_112 rfl rfl rfl ?_
    refine v_getR C (Nat.le_of_ble_eq_true rfl) rfl rfl hinX5 0 (Nat.le_of_ble_eq_true rfl) lkX5_10 rfl dX5_count_113 rfl ?_
    refine v_getNI C hh19.l0 hh19.s0 rfl hinX0 7 (Nat.le_of_ble_eq_true rfl) lkX5_126 rfl dX5_count_116 rfl ?_
    refine V.tp hn ?_
    refine v_aload_n C dX5_count_119 rfl rfl rfl ?_
    refine v_getR C (Nat.le_of_ble_eq_true rfl) rfl rfl hinX5 0 (Nat.le_of_ble_eq_true rfl) lkX5_10 rfl dX5_count_120 rfl ?_
    refine v_bipush (v := 9) C dX5_count_123 (by decide) rfl ?_
    refine v_callVN C hh19.l0 hh19.s0 rfl (As := [.int 9]) (rest := [.int (nI n)]) (kX0_piecesIn 9 19 n hh19 σ hn h7) rfl (Nat.le_of_ble_eq_true rfl) (Nat.le_of_ble_eq_true rfl) ⟨mlX5_234, mfX0_piecesIn⟩ dkX0_piecesIn (Nat.le_of_ble_eq_true rfl) dX5_count_125 rfl (kI ?_)
    refine v_isub C dX5_count_128 rfl ?_
    exact v_iret C dX5_count_129 (by rw [hX]; exact fI_of (by simp [cntH, s1_0, s1_1, s1_2, s1_3, s1_4, s1_5]) rfl)
  by_cases s1_6 : v = 6
  · refine V.tp s1_6 ?_
    refine v_tableIn (off := 129) (tgt := 130) C dX5_count_1 (by decide) (by decide) rfl (by decide) ?_
    refine v_aload_n C dX5_count_130 rfl rfl rfl ?_
    refine v_getR C (Nat.le_of_ble_eq_true rfl) rfl rfl hinX5 0 (Nat.le_of_ble_eq_true rfl) lkX5_10 rfl dX5_count_131 rfl ?_
    refine v_getNR C hh19.l0 hh19.s0 rfl hinX0 5 (Nat.le_of_ble_eq_true rfl) lkX5_201 rfl dX5_count_134 rfl ?_
    refine v_bipush (v := 6) C dX5_count_137 (by decide) rfl ?_
    refine v_callS C (As := [.ref (19 + 6), .int 6]) (rest := []) (kX5_sumOfFirst (19 + 6) 6 6 σ hh19.l6 hh19.s6 (by decide) (by omega)) rfl (Nat.le_of_ble_eq_true rfl) (Nat.le_of_ble_eq_true rfl) ⟨mlX5_230, mfX5_sumOfFirst⟩ dkX5_sumOfFirst (Nat.le_of_ble_eq_true rfl) dX5_count_139 rfl (kI ?_)
    exact v_iret C dX5_count_142 (by rw [hX]; exact fI_of (by simp [cntH, s1_0, s1_1, s1_2, s1_3, s1_4, s1_5, s1_6]) rfl)
  by_cases s1_7 : v = 7
  · refine V.tp s1_7 ?_
    refine v_tableIn (off := 142) (tgt := 143) C dX5_count_1 (by decide) (by decide) rfl (by decide) ?_
    refine v_aload_n C dX5_count_143 rfl rfl rfl ?_
    refine v_getR C (Nat.le_of_ble_eq_true rfl) rfl rfl hinX5 5 (Nat.le_of_ble_eq_true rfl) lkX5_36 rfl dX5_count_144 rfl ?_
    refine v_getNI C (Nat.le_of_ble_eq_true rfl) rfl rfl hinX2 1 (Nat.le_of_ble_eq_true rfl) lkX5_237 rfl dX5_count_147 rfl ?_
    exact v_iret C dX5_count_150 (by rw [hX]; exact fI_of (by simp [cntH, s1_0, s1_1, s1_2, s1_3, s1_4, s1_5, s1_6, s1_7]) rfl)
  by_cases s1_8 : v = 8
  · refine V.tp s1_8 ?_
    refine v_tableIn (off := 150) (tgt := 151) C dX5_count_1 (by decide) (by decide) rfl (by decide) ?_
    refine v_aload_n C dX5_count_151 rfl rfl rfl ?_
    refine v_getR C (Nat.le_of_ble_eq_true rfl) rfl rfl hinX5 4 (Nat.le_of_ble_eq_true rfl) lkX5_29 rfl dX5_count_152 rfl ?_
    refine v_getNI C (Nat.le_of_ble_eq_true rfl) rfl rfl hinX4 1 (Nat.le_of_ble_eq_true rfl) lkX5_240 rfl dX5_count_155 rfl ?_
    exact v_iret C dX5_count_158 (by rw [hX]; exact fI_of (by simp [cntH, s1_0, s1_1, s1_2, s1_3, s1_4, s1_5, s1_6, s1_7, s1_8]) rfl)
  refine v_tableOut (tgt := 159) C dX5_count_1 (by have e0 := lv_neT s1_0 (a := 0) (by decide); have e1 := lv_neT s1_1 (a := 1) (by decide); have e2 := lv_neT s1_2 (a := 2) (by decide); have e3 := lv_neT s1_3 (a := 3) (by decide); have e4 := lv_neT s1_4 (a := 4) (by decide); have e5 := lv_neT s1_5 (a := 5) (by decide); have e6 := lv_neT s1_6 (a := 6) (by decide); have e7 := lv_neT s1_7 (a := 7) (by decide); have e8 := lv_neT s1_8 (a := 8) (by decide); omega) (by decide) ?_
  refine v_iload_n C dX5_count_159 rfl rfl rfl ?_
  refine v_bipush (v := 11) C dX5_count_160 (by decide) rfl ?_
  refine v_icmp_lt (tgt := 183) C dX5_count_162 (by decide) rfl (fun c162 => ?_) (fun c162 => ?_)
  · skip
    refine v_bipush (v := -9) C dX5_count_183 (by decide) rfl ?_
    exact v_iret C dX5_count_185 (by rw [hX]; exact fI_of (by simp [cntH, s1_0, s1_1, s1_2, s1_3, s1_4, s1_5, s1_6, s1_7, s1_8, c162]) rfl)
  · skip
    refine v_iload_n C dX5_count_165 rfl rfl rfl ?_
    refine v_bipush (v := 16) C dX5_count_166 (by decide) rfl ?_
    refine v_icmp_gt (tgt := 183) C dX5_count_168 (by decide) rfl (fun c168 => ?_) (fun c168 => ?_)
    · skip
      refine v_bipush (v := -9) C dX5_count_183 (by decide) rfl ?_
      exact v_iret C dX5_count_185 (by rw [hX]; exact fI_of (by simp [cntH, s1_0, s1_1, s1_2, s1_3, s1_4, s1_5, s1_6, s1_7, s1_8, c162, c168]) rfl)
    · skip
      have hv1 := nat_of (v := v) (a := 11) (b := 16) (by decide) (by decide) c162 c168
      have hv2 := hv1.2
      refine v_aload_n C dX5_count_171 rfl rfl rfl ?_
      refine v_getR C (Nat.le_of_ble_eq_true rfl) rfl rfl hinX5 8 (Nat.le_of_ble_eq_true rfl) lkX5_56 rfl dX5_count_172 rfl ?_
      refine v_iload_n C dX5_count_175 rfl rfl rfl ?_
      refine V.tp hv1.1 ?_
      refine v_bipush (v := 10) C dX5_count_176 (by decide) rfl ?_
      refine v_isub C dX5_count_178 rfl ?_
      refine V.tp (pk_sub (a := (tn v)) (b := 10) (by omega)) ?_
      refine v_iald (i := (tn v) - 10) C (Nat.le_of_ble_eq_true rfl) rfl rfl (by omega) (by decide) dX5_count_179 rfl ?_
      refine v_goto (tgt := 185) C dX5_count_180 (by decide) ?_
      exact v_iret C dX5_count_185 (by rw [hX]; exact fI_of (by simp [cntH, s1_0, s1_1, s1_2, s1_3, s1_4, s1_5, s1_6, s1_7, s1_8, c162, c168]) rfl)
