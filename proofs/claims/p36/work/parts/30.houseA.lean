/-! the class: a house, what it answers -/
def isH (h : Nat) : Prop := h = 19 ∨ h = 27 ∨ h = 35
theorem isH.s0 {h : Nat} (q : isH h) : shp h = .inl (1, [some (h + 1), some (h + 2), some (h + 3), some (h + 4), some (h + 5), some (h + 6), some (h + 7), none, none, none]) := by rcases q with rfl | rfl | rfl <;> rfl
theorem isH.l0 {h : Nat} (q : isH h) : h < NC := by rcases q with rfl | rfl | rfl <;> decide
theorem isH.s1 {h : Nat} (q : isH h) : shp (h + 1) = .inr 7 := by rcases q with rfl | rfl | rfl <;> rfl
theorem isH.l1 {h : Nat} (q : isH h) : h + 1 < NC := by rcases q with rfl | rfl | rfl <;> decide
theorem isH.s2 {h : Nat} (q : isH h) : shp (h + 2) = .inr 7 := by rcases q with rfl | rfl | rfl <;> rfl
theorem isH.l2 {h : Nat} (q : isH h) : h + 2 < NC := by rcases q with rfl | rfl | rfl <;> decide
theorem isH.s3 {h : Nat} (q : isH h) : shp (h + 3) = .inr 7 := by rcases q with rfl | rfl | rfl <;> rfl
theorem isH.l3 {h : Nat} (q : isH h) : h + 3 < NC := by rcases q with rfl | rfl | rfl <;> decide
theorem isH.s4 {h : Nat} (q : isH h) : shp (h + 4) = .inr 7 := by rcases q with rfl | rfl | rfl <;> rfl
theorem isH.l4 {h : Nat} (q : isH h) : h + 4 < NC := by rcases q with rfl | rfl | rfl <;> decide
theorem isH.s5 {h : Nat} (q : isH h) : shp (h + 5) = .inr 7 := by rcases q with rfl | rfl | rfl <;> rfl
theorem isH.l5 {h : Nat} (q : isH h) : h + 5 < NC := by rcases q with rfl | rfl | rfl <;> decide
theorem isH.s6 {h : Nat} (q : isH h) : shp (h + 6) = .inr 6 := by rcases q with rfl | rfl | rfl <;> rfl
theorem isH.l6 {h : Nat} (q : isH h) : h + 6 < NC := by rcases q with rfl | rfl | rfl <;> decide
theorem isH.s7 {h : Nat} (q : isH h) : shp (h + 7) = .inr 3 := by rcases q with rfl | rfl | rfl <;> rfl
theorem isH.l7 {h : Nat} (q : isH h) : h + 7 < NC := by rcases q with rfl | rfl | rfl <;> decide
theorem i32_lt {x y : Int32} : x < y ↔ x.toInt < y.toInt := Int32.lt_iff_toInt_lt
theorem flo_t {v : Int32} (h1 : ¬ v < 1) (h2 : v < 3) : floorP v := by
  have h3 : ¬ nI 2 < v := by
    rw [i32_lt] at h2 ⊢
    rw [nI_toInt (by decide)]
    have : (3 : Int32).toInt = 3 := rfl
    omega
  have h4 := nat_of (v := v) (a := 1) (b := 2) (by decide) (by decide) h1 h3
  rcases (by omega : tn v = 1 ∨ tn v = 2) with q | q
  · exact Or.inl (by rw [h4.1, q]; rfl)
  · exact Or.inr (by rw [h4.1, q]; rfl)
theorem flo_f1 {v : Int32} (h1 : v < 1) : ¬ floorP v := by
  rintro (rfl | rfl)
  · exact absurd h1 (by decide)
  · exact absurd h1 (by decide)
theorem flo_f2 {v : Int32} (h1 : ¬ v < 3) : ¬ floorP v := by
  rintro (rfl | rfl)
  · exact h1 (by decide)
  · exact h1 (by decide)
theorem pie_7 {p : Int32} {n : Nat} (h : p < nI n) (h7 : n ≤ 7) : p < 7 := by
  rw [i32_lt] at h ⊢
  rw [nI_toInt (by omega)] at h
  have : (7 : Int32).toInt = 7 := rfl
  omega
theorem kX5_isRoom (v : Int32) (σ : St) : Ct yX5_isRoom cX5_isRoom 1 (some .boolean) 0 [.int v] σ (fI (bI (roomP v)) σ) := by
  refine ct_of plX5 rfl (Nat.le_of_ble_eq_true rfl) (fun X hX C => ?_)
  show V X 0 [(0, .int v)] [] σ
  refine v_iload_n C dX5_isRoom_0 rfl rfl rfl ?_
  refine v_if_lt (tgt := 14) C dX5_isRoom_1 (by decide) rfl (fun c1 => ?_) (fun c1 => ?_)
  · skip
    refine v_iconst (v := 0) C dX5_isRoom_14 (by decide) rfl ?_
    exact v_zret C rfl dX5_isRoom_15 (by rw [hX]; exact fI_of (by first | exact bI_t (by simp [roomP, c1]; done) | exact bI_f (by simp [roomP, c1]; done)) rfl)
  · skip
    refine v_iload_n C dX5_isRoom_4 rfl rfl rfl ?_
    refine v_bipush (v := 6) C dX5_isRoom_5 (by decide) rfl ?_
    refine v_icmp_ge (tgt := 14) C dX5_isRoom_7 (by decide) rfl (fun c7 => ?_) (fun c7 => ?_)
    · skip
      refine v_iconst (v := 0) C dX5_isRoom_14 (by decide) rfl ?_
      exact v_zret C rfl dX5_isRoom_15 (by rw [hX]; exact fI_of (by first | exact bI_t (by simp [roomP, c1, c7]; done) | exact bI_f (by simp [roomP, c1, c7]; done)) rfl)
    · skip
      refine v_iconst (v := 1) C dX5_isRoom_10 (by decide) rfl ?_
      refine v_goto (tgt := 15) C dX5_isRoom_11 (by decide) ?_
      exact v_zret C rfl dX5_isRoom_15 (by rw [hX]; exact fI_of (by first | exact bI_t (by simp [roomP, c1, c7]; done) | exact bI_f (by simp [roomP, c1, c7]; done)) rfl)
theorem kX5_isPlace (v : Int32) (σ : St) : Ct yX5_isPlace cX5_isPlace 1 (some .boolean) 1 [.int v] σ (fI (bI (placeP v)) σ) := by
  refine ct_of plX5 rfl (Nat.le_of_ble_eq_true rfl) (fun X hX C => ?_)
  show V X 0 [(0, .int v)] [] σ
  refine v_iload_n C dX5_isPlace_0 rfl rfl rfl ?_
  refine v_callS C (As := [.int v]) (rest := []) (kX5_isRoom v σ) rfl (Nat.le_of_ble_eq_true rfl) (Nat.le_of_ble_eq_true rfl) ⟨mlX5_198, mfX5_isRoom⟩ dkX5_isRoom (Nat.le_of_ble_eq_true rfl) dX5_isPlace_1 rfl (kI ?_)
  refine v_if_ne (tgt := 13) C dX5_isPlace_4 (by decide) rfl (fun c4 => ?_) (fun c4 => ?_)
  · skip
    have c4 := bI_n c4
    refine v_iconst (v := 1) C dX5_isPlace_13 (by decide) rfl ?_
    refine v_goto (tgt := 18) C dX5_isPlace_14 (by decide) ?_
    exact v_zret C rfl dX5_isPlace_18 (by rw [hX]; exact fI_of (by first | exact bI_t (by simp [placeP, c4]; done) | exact bI_f (by simp [placeP, c4]; done)) rfl)
  · skip
    have c4 := bI_0 c4
    refine v_iload_n C dX5_isPlace_7 rfl rfl rfl ?_
    refine v_bipush (v := 9) C dX5_isPlace_8 (by decide) rfl ?_
    refine v_icmp_ne (tgt := 17) C dX5_isPlace_10 (by decide) rfl (fun c10 => ?_) (fun c10 => ?_)
    · skip
      refine v_iconst (v := 0) C dX5_isPlace_17 (by decide) rfl ?_
      exact v_zret C rfl dX5_isPlace_18 (by rw [hX]; exact fI_of (by first | exact bI_t (by simp [placeP, c4, c10]; done) | exact bI_f (by simp [placeP, c4, c10]; done)) rfl)
    · skip
      refine v_iconst (v := 1) C dX5_isPlace_13 (by decide) rfl ?_
      refine v_goto (tgt := 18) C dX5_isPlace_14 (by decide) ?_
      exact v_zret C rfl dX5_isPlace_18 (by rw [hX]; exact fI_of (by first | exact bI_t (by simp [placeP, c4, c10]; done) | exact bI_f (by simp [placeP, c4, c10]; done)) rfl)
theorem kX5_hasStairs (v : Int32) (σ : St) : Ct yX5_hasStairs cX5_hasStairs 1 (some .boolean) 0 [.int v] σ (fI (bI (floorP v)) σ) := by
  refine ct_of plX5 rfl (Nat.le_of_ble_eq_true rfl) (fun X hX C => ?_)
  show V X 0 [(0, .int v)] [] σ
  refine v_iload_n C dX5_hasStairs_0 rfl rfl rfl ?_
  refine v_iconst (v := 1) C dX5_hasStairs_1 (by decide) rfl ?_
  refine v_icmp_lt (tgt := 14) C dX5_hasStairs_2 (by decide) rfl (fun c2 => ?_) (fun c2 => ?_)
  · skip
    refine v_iconst (v := 0) C dX5_hasStairs_14 (by decide) rfl ?_
    exact v_zret C rfl dX5_hasStairs_15 (by rw [hX]; exact fI_of (bI_f (flo_f1 c2)) rfl)
  · skip
    refine v_iload_n C dX5_hasStairs_5 rfl rfl rfl ?_
    refine v_iconst (v := 3) C dX5_hasStairs_6 (by decide) rfl ?_
    refine v_icmp_ge (tgt := 14) C dX5_hasStairs_7 (by decide) rfl (fun c7 => ?_) (fun c7 => ?_)
    · skip
      refine v_iconst (v := 0) C dX5_hasStairs_14 (by decide) rfl ?_
      exact v_zret C rfl dX5_hasStairs_15 (by rw [hX]; exact fI_of (bI_f (flo_f2 c7)) rfl)
    · skip
      refine v_iconst (v := 1) C dX5_hasStairs_10 (by decide) rfl ?_
      refine v_goto (tgt := 15) C dX5_hasStairs_11 (by decide) ?_
      exact v_zret C rfl dX5_hasStairs_15 (by rw [hX]; exact fI_of (bI_t (flo_t c2 c7)) rfl)
theorem kX5_refusalOutside (v a b : Int32) (σ : St) : Ct yX5_refusalOutside cX5_refusalOutside 3 (some .int) 0 [.int v, .int a, .int b] σ (fI (bnd v a b) σ) := by
  refine ct_of plX5 rfl (Nat.le_of_ble_eq_true rfl) (fun X hX C => ?_)
  show V X 0 [(0, .int v), (1, .int a), (2, .int b)] [] σ
  refine v_iload_n C dX5_refusalOutside_0 rfl rfl rfl ?_
  refine v_iload_n C dX5_refusalOutside_1 rfl rfl rfl ?_
  refine v_icmp_ge (tgt := 8) C dX5_refusalOutside_2 (by decide) rfl (fun c2 => ?_) (fun c2 => ?_)
  · skip
    refine v_iload_n C dX5_refusalOutside_8 rfl rfl rfl ?_
    refine v_iload_n C dX5_refusalOutside_9 rfl rfl rfl ?_
    refine v_icmp_le (tgt := 18) C dX5_refusalOutside_10 (by decide) rfl (fun c10 => ?_) (fun c10 => ?_)
    · skip
      refine v_iconst (v := 0) C dX5_refusalOutside_18 (by decide) rfl ?_
      exact v_iret C dX5_refusalOutside_19 (by rw [hX]; exact fI_of (by first | rfl | (simp [bnd, c2, c10]; done)) rfl)
    · skip
      refine v_bipush (v := -6) C dX5_refusalOutside_13 (by decide) rfl ?_
      refine v_goto (tgt := 19) C dX5_refusalOutside_15 (by decide) ?_
      exact v_iret C dX5_refusalOutside_19 (by rw [hX]; exact fI_of (by first | rfl | (simp [bnd, c2, c10]; done)) rfl)
  · skip
    refine v_bipush (v := -4) C dX5_refusalOutside_5 (by decide) rfl ?_
    exact v_iret C dX5_refusalOutside_7 (by rw [hX]; exact fI_of (by first | rfl | (simp [bnd, c2]; done)) rfl)
theorem kX0_hasPiece (p : Int32) (h n : Nat) (hh : isH h) (σ : St) (hn : σ h 7 = nI n) (h7 : n ≤ 7) : Ct yX0_hasPiece cX0_hasPiece 2 (some .boolean) 0 [.ref h, .int p] σ (fI (bI (pieceP p (nI n))) σ) := by
  refine ct_of plX0 rfl (Nat.le_of_ble_eq_true rfl) (fun X hX C => ?_)
  show V X 0 [(0, .ref h), (1, .int p)] [] σ
  refine v_iload_n C dX0_hasPiece_0 rfl rfl rfl ?_
  refine v_if_lt (tgt := 22) C dX0_hasPiece_1 (by decide) rfl (fun c1 => ?_) (fun c1 => ?_)
  · skip
    refine v_iconst (v := 0) C dX0_hasPiece_22 (by decide) rfl ?_
    exact v_zret C rfl dX0_hasPiece_23 (by rw [hX]; exact fI_of (bI_f (fun q => q.1 c1)) rfl)
  · skip
    refine v_iload_n C dX0_hasPiece_4 rfl rfl rfl ?_
    refine v_aload_n C dX0_hasPiece_5 rfl rfl rfl ?_
    refine v_getI C hh.l0 hh.s0 rfl hinX0 7 (Nat.le_of_ble_eq_true rfl) lkX0_33 rfl dX0_hasPiece_6 rfl ?_
    refine V.tp hn ?_
    refine v_icmp_ge (tgt := 22) C dX0_hasPiece_9 (by decide) rfl (fun c9 => ?_) (fun c9 => ?_)
    · skip
      refine v_iconst (v := 0) C dX0_hasPiece_22 (by decide) rfl ?_
      exact v_zret C rfl dX0_hasPiece_23 (by rw [hX]; exact fI_of (bI_f (fun q => c9 q.2)) rfl)
    · skip
      refine v_iload_n C dX0_hasPiece_12 rfl rfl rfl ?_
      refine v_bipush (v := 7) C dX0_hasPiece_13 (by decide) rfl ?_
      refine v_icmp_ge (tgt := 22) C dX0_hasPiece_15 (by decide) rfl (fun c15 => ?_) (fun c15 => ?_)
      · skip
        refine v_iconst (v := 0) C dX0_hasPiece_22 (by decide) rfl ?_
        exact v_zret C rfl dX0_hasPiece_23 (by rw [hX]; exact absurd (pie_7 c9 h7) c15)
      · skip
        refine v_iconst (v := 1) C dX0_hasPiece_18 (by decide) rfl ?_
        refine v_goto (tgt := 23) C dX0_hasPiece_19 (by decide) ?_
        exact v_zret C rfl dX0_hasPiece_23 (by rw [hX]; exact fI_of (bI_t ⟨c1, c9⟩) rfl)
theorem pie_nI {p n : Nat} (h : p < n) (h7 : n ≤ 7) : pieceP (nI p) (nI n) := ⟨nI_pos (by omega), (nI_ltI (by omega) (by omega)).mpr h⟩
theorem kX0_wideOfPiece (p : Nat) (h n : Nat) (hh : isH h) (σ : St) (hn : σ h 7 = nI n) (h7 : n ≤ 7) (hp : p < n) : Ct yX0_wideOfPiece cX0_wideOfPiece 2 (some .int) 1 [.ref h, .int (nI p)] σ (fI (widF (σ (h + 1)) (σ (h + 2)) p) σ) := by
  refine ct_of plX0 rfl (Nat.le_of_ble_eq_true rfl) (fun X hX C => ?_)
  show V X 0 [(0, .ref h), (1, .int (nI p))] [] σ
  refine v_aload_n C dX0_wideOfPiece_0 rfl rfl rfl ?_
  refine v_iload_n C dX0_wideOfPiece_1 rfl rfl rfl ?_
  refine v_callV C hh.l0 hh.s0 rfl (As := [.int (nI p)]) (rest := []) (kX0_hasPiece (nI p) h n hh σ hn h7) rfl (Nat.le_of_ble_eq_true rfl) (Nat.le_of_ble_eq_true rfl) ⟨mlX0_55, mfX0_hasPiece⟩ dkX0_hasPiece (Nat.le_of_ble_eq_true rfl) dX0_wideOfPiece_2 rfl (kI ?_)
  refine V.tp (show bI (pieceP (nI p) (nI n)) = 1 from (bI_t (pie_nI (by omega) h7)).symm) ?_
  refine v_if_ne (tgt := 10) C dX0_wideOfPiece_5 (by decide) rfl (fun _ => ?_) (fun q => absurd q (by decide))
  refine v_aload_n C dX0_wideOfPiece_10 rfl rfl rfl ?_
  refine v_getR C hh.l0 hh.s0 rfl hinX0 0 (Nat.le_of_ble_eq_true rfl) lkX0_9 rfl dX0_wideOfPiece_11 rfl ?_
  refine v_iload_n C dX0_wideOfPiece_14 rfl rfl rfl ?_
  refine v_iald (i := p) C hh.l1 hh.s1 rfl (by omega) (by decide) dX0_wideOfPiece_15 rfl ?_
  by_cases s16_2 : σ (h + 1) p = 2
  · refine V.tp s16_2 ?_
    refine v_tableIn (off := 28) (tgt := 44) C dX0_wideOfPiece_16 (by decide) (by decide) rfl (by decide) ?_
    refine v_aload_n C dX0_wideOfPiece_44 rfl rfl rfl ?_
    refine v_getR C hh.l0 hh.s0 rfl hinX0 1 (Nat.le_of_ble_eq_true rfl) lkX0_15 rfl dX0_wideOfPiece_45 rfl ?_
    refine v_iload_n C dX0_wideOfPiece_48 rfl rfl rfl ?_
    refine v_iald (i := p) C hh.l2 hh.s2 rfl (by omega) (by decide) dX0_wideOfPiece_49 rfl ?_
    refine v_iconst (v := 1) C dX0_wideOfPiece_50 (by decide) rfl ?_
    refine v_isub C dX0_wideOfPiece_51 rfl ?_
    exact v_iret C dX0_wideOfPiece_52 (by rw [hX]; exact fI_of (by simp [widF, s16_2]) rfl)
  by_cases s16_3 : σ (h + 1) p = 3
  · refine V.tp s16_3 ?_
    refine v_tableIn (off := 37) (tgt := 53) C dX0_wideOfPiece_16 (by decide) (by decide) rfl (by decide) ?_
    refine v_aload_n C dX0_wideOfPiece_53 rfl rfl rfl ?_
    refine v_getR C hh.l0 hh.s0 rfl hinX0 1 (Nat.le_of_ble_eq_true rfl) lkX0_15 rfl dX0_wideOfPiece_54 rfl ?_
    refine v_iload_n C dX0_wideOfPiece_57 rfl rfl rfl ?_
    refine v_iald (i := p) C hh.l2 hh.s2 rfl (by omega) (by decide) dX0_wideOfPiece_58 rfl ?_
    refine v_iconst (v := 2) C dX0_wideOfPiece_59 (by decide) rfl ?_
    refine v_idiv C dX0_wideOfPiece_60 (by decide) rfl ?_
    exact v_iret C dX0_wideOfPiece_61 (by rw [hX]; exact fI_of (by simp [widF, s16_2, s16_3]) rfl)
  by_cases s16_4 : σ (h + 1) p = 4
  · refine V.tp s16_4 ?_
    refine v_tableIn (off := 46) (tgt := 62) C dX0_wideOfPiece_16 (by decide) (by decide) rfl (by decide) ?_
    refine v_bipush (v := 10) C dX0_wideOfPiece_62 (by decide) rfl ?_
    exact v_iret C dX0_wideOfPiece_64 (by rw [hX]; exact fI_of (by simp [widF, s16_2, s16_3, s16_4]) rfl)
  refine v_tableOut (tgt := 65) C dX0_wideOfPiece_16 (by have e0 := lv_neT s16_2 (a := 2) (by decide); have e1 := lv_neT s16_3 (a := 3) (by decide); have e2 := lv_neT s16_4 (a := 4) (by decide); omega) (by decide) ?_
  refine v_aload_n C dX0_wideOfPiece_65 rfl rfl rfl ?_
  refine v_getR C hh.l0 hh.s0 rfl hinX0 1 (Nat.le_of_ble_eq_true rfl) lkX0_15 rfl dX0_wideOfPiece_66 rfl ?_
  refine v_iload_n C dX0_wideOfPiece_69 rfl rfl rfl ?_
  refine v_iald (i := p) C hh.l2 hh.s2 rfl (by omega) (by decide) dX0_wideOfPiece_70 rfl ?_
  exact v_iret C dX0_wideOfPiece_71 (by rw [hX]; exact fI_of (by simp [widF, s16_2, s16_3, s16_4]) rfl)
theorem kX0_bulkIn (r : Int32) (h n : Nat) (hh : isH h) (σ : St) (hn : σ h 7 = nI n) (h7 : n ≤ 7) : Ct yX0_bulkIn cX0_bulkIn 4 (some .int) 0 [.ref h, .int r] σ (fI (bulF (σ (h + 2)) (σ (h + 5)) n r) σ) := by
  refine ct_of plX0 rfl (Nat.le_of_ble_eq_true rfl) (fun X hX C => ?_)
  show V X 0 [(0, .ref h), (1, .int r)] [] σ
  refine v_iconst (v := 0) C dX0_bulkIn_0 (by decide) rfl ?_
  refine v_istore_n (lv' := [(2, .int 0), (0, .ref h), (1, .int r)]) C dX0_bulkIn_1 rfl (Nat.le_of_ble_eq_true rfl) rfl rfl ?_
  refine v_iconst (v := 0) C dX0_bulkIn_2 (by decide) rfl ?_
  refine v_istore_n (lv' := [(3, .int 0), (2, .int 0), (0, .ref h), (1, .int r)]) C dX0_bulkIn_3 rfl (Nat.le_of_ble_eq_true rfl) rfl rfl ?_
  have lp4 : ∀ (kf i : Nat) (x2 : Int32) , n < i + kf → i ≤ n → x2 = sumN (bulG (σ (h + 2)) (σ (h + 5)) r) i → V X 4 [(3, .int (nI i)), (2, .int x2), (0, .ref h), (1, .int r)] [] σ := by
    intro kf
    induction kf with
    | zero => intro i x2 h1 h2; omega
    | succ kf ih4 =>
      intro i x2 h1 h2 ex2
      refine v_iload_n C dX0_bulkIn_4 rfl rfl rfl ?_
      refine v_aload_n C dX0_bulkIn_5 rfl rfl rfl ?_
      refine v_getI C hh.l0 hh.s0 rfl hinX0 7 (Nat.le_of_ble_eq_true rfl) lkX0_33 rfl dX0_bulkIn_6 rfl ?_
      refine V.tp hn ?_
      refine v_icmp_ge (tgt := 37) C dX0_bulkIn_9 (by decide) rfl (fun c9 => ?_) (fun c9 => ?_)
      · skip
        have c9 := mt (nI_ltI (a := i) (b := n) (by omega) (by omega)).mpr c9
        refine v_iload_n C dX0_bulkIn_37 rfl rfl rfl ?_
        exact v_iret C dX0_bulkIn_38 (by rw [hX]; exact fI_of (by rw [ex2, bulF, show i = n by omega]) rfl)
      · skip
        have c9 := (nI_ltI (a := i) (b := n) (by omega) (by omega)).mp c9
        refine v_aload_n C dX0_bulkIn_12 rfl rfl rfl ?_
        refine v_getR C hh.l0 hh.s0 rfl hinX0 4 (Nat.le_of_ble_eq_true rfl) lkX0_24 rfl dX0_bulkIn_13 rfl ?_
        refine v_iload_n C dX0_bulkIn_16 rfl rfl rfl ?_
        refine v_iald (i := i) C hh.l5 hh.s5 rfl (by omega) (by decide) dX0_bulkIn_17 rfl ?_
        refine v_iload_n C dX0_bulkIn_18 rfl rfl rfl ?_
        refine v_icmp_ne (tgt := 31) C dX0_bulkIn_19 (by decide) rfl (fun c19 => ?_) (fun c19 => ?_)
        · skip
          refine v_iinc (lv' := [(3, .int (nI (i + 1))), (2, .int x2), (0, .ref h), (1, .int r)]) C dX0_bulkIn_31 rfl (nI_inc i) (Nat.le_of_ble_eq_true rfl) rfl rfl ?_
          refine v_goto (tgt := 4) C dX0_bulkIn_34 (by decide) ?_
          exact V.sub [0, 1, 2, 3] rfl (ih4 (i + 1) _ (by omega) (by omega) (by rw [ex2]; simp [sumN, bulG, Int32.add_assoc, c9, c19]))
        · skip
          refine v_iload_n C dX0_bulkIn_22 rfl rfl rfl ?_
          refine v_aload_n C dX0_bulkIn_23 rfl rfl rfl ?_
          refine v_getR C hh.l0 hh.s0 rfl hinX0 1 (Nat.le_of_ble_eq_true rfl) lkX0_15 rfl dX0_bulkIn_24 rfl ?_
          refine v_iload_n C dX0_bulkIn_27 rfl rfl rfl ?_
          refine v_iald (i := i) C hh.l2 hh.s2 rfl (by omega) (by decide) dX0_bulkIn_28 rfl ?_
          refine v_iadd C dX0_bulkIn_29 rfl ?_
          refine V.top (fun v30_1 ev30_1 => ?_)
          refine v_istore_n (lv' := [(2, .int v30_1), (3, .int (nI i)), (0, .ref h), (1, .int r)]) C dX0_bulkIn_30 rfl (Nat.le_of_ble_eq_true rfl) rfl rfl ?_
          refine v_iinc (lv' := [(3, .int (nI (i + 1))), (2, .int v30_1), (0, .ref h), (1, .int r)]) C dX0_bulkIn_31 rfl (nI_inc i) (Nat.le_of_ble_eq_true rfl) rfl rfl ?_
          refine v_goto (tgt := 4) C dX0_bulkIn_34 (by decide) ?_
          exact V.sub [0, 1, 2, 3] rfl (ih4 (i + 1) _ (by omega) (by omega) (by rw [ev30_1, ex2]; simp [sumN, bulG, Int32.add_assoc, c9, c19]))
  exact V.sub [0, 1, 2, 3] rfl (lp4 (n + 1) 0 0 (by omega) (by omega) (rfl))
def spaP (bk pl sz : Nat → Int32) (n : Nat) (r b : Int32) : Prop := roomP r ∧ ¬ sz (tn r) < bulF bk pl n r + b
theorem kX0_hasSpace (r b : Int32) (h n : Nat) (hh : isH h) (σ : St) (hn : σ h 7 = nI n) (h7 : n ≤ 7) : Ct yX0_hasSpace cX0_hasSpace 3 (some .boolean) 1 [.ref h, .int r, .int b] σ (fI (bI (spaP (σ (h + 2)) (σ (h + 5)) (σ (h + 6)) n r b)) σ) := by
  refine ct_of plX0 rfl (Nat.le_of_ble_eq_true rfl) (fun X hX C => ?_)
  show V X 0 [(0, .ref h), (1, .int r), (2, .int b)] [] σ
  refine v_iload_n C dX0_hasSpace_0 rfl rfl rfl ?_
  refine v_callSN C (As := [.int r]) (rest := []) (kX5_isRoom r σ) rfl (Nat.le_of_ble_eq_true rfl) (Nat.le_of_ble_eq_true rfl) ⟨mlX0_78, mfX5_isRoom⟩ dkX5_isRoom (Nat.le_of_ble_eq_true rfl) dX0_hasSpace_1 rfl (kI ?_)
  refine v_if_eq (tgt := 27) C dX0_hasSpace_4 (by decide) rfl (fun c4 => ?_) (fun c4 => ?_)
  · skip
    have c4 := bI_0 c4
    refine v_iconst (v := 0) C dX0_hasSpace_27 (by decide) rfl ?_
    exact v_zret C rfl dX0_hasSpace_28 (by rw [hX]; exact fI_of (by first | exact bI_t (by simp [spaP, c4]; done) | exact bI_f (by simp [spaP, c4]; done)) rfl)
  · skip
    have c4 := bI_n c4
    refine v_aload_n C dX0_hasSpace_7 rfl rfl rfl ?_
    refine v_iload_n C dX0_hasSpace_8 rfl rfl rfl ?_
    refine v_callV C hh.l0 hh.s0 rfl (As := [.int r]) (rest := []) (kX0_bulkIn r h n hh σ hn h7) rfl (Nat.le_of_ble_eq_true rfl) (Nat.le_of_ble_eq_true rfl) ⟨mlX0_81, mfX0_bulkIn⟩ dkX0_bulkIn (Nat.le_of_ble_eq_true rfl) dX0_hasSpace_9 rfl (kI ?_)
    refine v_iload_n C dX0_hasSpace_12 rfl rfl rfl ?_
    refine v_iadd C dX0_hasSpace_13 rfl ?_
    refine v_aload_n C dX0_hasSpace_14 rfl rfl rfl ?_
    refine v_getR C hh.l0 hh.s0 rfl hinX0 5 (Nat.le_of_ble_eq_true rfl) lkX0_27 rfl dX0_hasSpace_15 rfl ?_
    refine v_iload_n C dX0_hasSpace_18 rfl rfl rfl ?_
    refine v_iald (i := (tn r)) C hh.l6 hh.s6 (room_nat c4).1 (room_nat c4).2 (by decide) dX0_hasSpace_19 rfl ?_
    refine v_icmp_gt (tgt := 27) C dX0_hasSpace_20 (by decide) rfl (fun c20 => ?_) (fun c20 => ?_)
    · skip
      refine v_iconst (v := 0) C dX0_hasSpace_27 (by decide) rfl ?_
      exact v_zret C rfl dX0_hasSpace_28 (by rw [hX]; exact fI_of (by first | exact bI_t (by simp [spaP, c4, c20]; done) | exact bI_f (by simp [spaP, c4, c20]; done)) rfl)
    · skip
      refine v_iconst (v := 1) C dX0_hasSpace_23 (by decide) rfl ?_
      refine v_goto (tgt := 28) C dX0_hasSpace_24 (by decide) ?_
      exact v_zret C rfl dX0_hasSpace_28 (by rw [hX]; exact fI_of (by first | exact bI_t (by simp [spaP, c4, c20]; done) | exact bI_f (by simp [spaP, c4, c20]; done)) rfl)
