/-! the check's class: small ones -/
def bnd (v a b : Int32) : Int32 := if v < a then -4 else if b < v then -6 else 0
def isInP (v a b : Int32) : Prop := ¬ v < a ∧ ¬ b < v
def roomP (r : Int32) : Prop := ¬ r < 0 ∧ r < 6
def placeP (r : Int32) : Prop := roomP r ∨ r = 9
def floorP (f : Int32) : Prop := f = 1 ∨ f = 2
def pieceP (p n : Int32) : Prop := ¬ p < 0 ∧ p < n
def hasP (s k : Int32) : Prop := s >>> (k &&& 31) &&& 1 = 1
theorem kX6_isIn (v a b : Int32) (σ : St) : Ct yX6_isIn cX6_isIn 3 (some .boolean) 0 [.int v, .int a, .int b] σ (fI (bI (isInP v a b)) σ) := by
  refine ct_of plX6 rfl (Nat.le_of_ble_eq_true rfl) (fun X hX C => ?_)
  show V X 0 [(0, .int v), (1, .int a), (2, .int b)] [] σ
  refine v_iload_n C dX6_isIn_0 rfl rfl rfl ?_
  refine v_iload_n C dX6_isIn_1 rfl rfl rfl ?_
  refine v_icmp_lt (tgt := 14) C dX6_isIn_2 (by decide) rfl (fun c2 => ?_) (fun c2 => ?_)
  · skip
    refine v_iconst (v := 0) C dX6_isIn_14 (by decide) rfl ?_
    exact v_zret C rfl dX6_isIn_15 (by rw [hX]; exact fI_of (by first | exact bI_t (by simp [isInP, c2]; done) | exact bI_f (by simp [isInP, c2]; done)) rfl)
  · skip
    refine v_iload_n C dX6_isIn_5 rfl rfl rfl ?_
    refine v_iload_n C dX6_isIn_6 rfl rfl rfl ?_
    refine v_icmp_gt (tgt := 14) C dX6_isIn_7 (by decide) rfl (fun c7 => ?_) (fun c7 => ?_)
    · skip
      refine v_iconst (v := 0) C dX6_isIn_14 (by decide) rfl ?_
      exact v_zret C rfl dX6_isIn_15 (by rw [hX]; exact fI_of (by first | exact bI_t (by simp [isInP, c2, c7]; done) | exact bI_f (by simp [isInP, c2, c7]; done)) rfl)
    · skip
      refine v_iconst (v := 1) C dX6_isIn_10 (by decide) rfl ?_
      refine v_goto (tgt := 15) C dX6_isIn_11 (by decide) ?_
      exact v_zret C rfl dX6_isIn_15 (by rw [hX]; exact fI_of (by first | exact bI_t (by simp [isInP, c2, c7]; done) | exact bI_f (by simp [isInP, c2, c7]; done)) rfl)
theorem kX6_bound (v a b : Int32) (σ : St) : Ct yX6_bound cX6_bound 3 (some .int) 0 [.int v, .int a, .int b] σ (fI (bnd v a b) σ) := by
  refine ct_of plX6 rfl (Nat.le_of_ble_eq_true rfl) (fun X hX C => ?_)
  show V X 0 [(0, .int v), (1, .int a), (2, .int b)] [] σ
  refine v_iload_n C dX6_bound_0 rfl rfl rfl ?_
  refine v_iload_n C dX6_bound_1 rfl rfl rfl ?_
  refine v_icmp_ge (tgt := 10) C dX6_bound_2 (by decide) rfl (fun c2 => ?_) (fun c2 => ?_)
  · skip
    refine v_iload_n C dX6_bound_10 rfl rfl rfl ?_
    refine v_iload_n C dX6_bound_11 rfl rfl rfl ?_
    refine v_icmp_le (tgt := 20) C dX6_bound_12 (by decide) rfl (fun c12 => ?_) (fun c12 => ?_)
    · skip
      refine v_iconst (v := 0) C dX6_bound_20 (by decide) rfl ?_
      exact v_iret C dX6_bound_21 (by rw [hX]; exact fI_of (by first | rfl | (simp [bnd, c2, c12]; done)) rfl)
    · skip
      refine v_bipush (v := -6) C dX6_bound_15 (by decide) rfl ?_
      refine v_goto (tgt := 21) C dX6_bound_17 (by decide) ?_
      exact v_iret C dX6_bound_21 (by rw [hX]; exact fI_of (by first | rfl | (simp [bnd, c2, c12]; done)) rfl)
  · skip
    refine v_bipush (v := -4) C dX6_bound_5 (by decide) rfl ?_
    refine v_goto (tgt := 21) C dX6_bound_7 (by decide) ?_
    exact v_iret C dX6_bound_21 (by rw [hX]; exact fI_of (by first | rfl | (simp [bnd, c2]; done)) rfl)
theorem kX6_has (v a : Int32) (σ : St) : Ct yX6_has cX6_has 2 (some .boolean) 0 [.int v, .int a] σ (fI (bI (hasP v a)) σ) := by
  refine ct_of plX6 rfl (Nat.le_of_ble_eq_true rfl) (fun X hX C => ?_)
  show V X 0 [(0, .int v), (1, .int a)] [] σ
  refine v_iload_n C dX6_has_0 rfl rfl rfl ?_
  refine v_iload_n C dX6_has_1 rfl rfl rfl ?_
  refine v_ishr C dX6_has_2 rfl ?_
  refine v_iconst (v := 1) C dX6_has_3 (by decide) rfl ?_
  refine v_iand C dX6_has_4 rfl ?_
  refine v_iconst (v := 1) C dX6_has_5 (by decide) rfl ?_
  refine v_icmp_ne (tgt := 13) C dX6_has_6 (by decide) rfl (fun c6 => ?_) (fun c6 => ?_)
  · skip
    refine v_iconst (v := 0) C dX6_has_13 (by decide) rfl ?_
    exact v_zret C rfl dX6_has_14 (by rw [hX]; exact fI_of (by first | exact bI_t (by simp [hasP, c6]; done) | exact bI_f (by simp [hasP, c6]; done)) rfl)
  · skip
    refine v_iconst (v := 1) C dX6_has_9 (by decide) rfl ?_
    refine v_goto (tgt := 14) C dX6_has_10 (by decide) ?_
    exact v_zret C rfl dX6_has_14 (by rw [hX]; exact fI_of (by first | exact bI_t (by simp [hasP, c6]; done) | exact bI_f (by simp [hasP, c6]; done)) rfl)
theorem kX6_isRoom (v : Int32) (σ : St) : Ct yX6_isRoom cX6_isRoom 1 (some .boolean) 0 [.int v] σ (fI (bI (roomP v)) σ) := by
  refine ct_of plX6 rfl (Nat.le_of_ble_eq_true rfl) (fun X hX C => ?_)
  show V X 0 [(0, .int v)] [] σ
  refine v_iload_n C dX6_isRoom_0 rfl rfl rfl ?_
  refine v_if_lt (tgt := 14) C dX6_isRoom_1 (by decide) rfl (fun c1 => ?_) (fun c1 => ?_)
  · skip
    refine v_iconst (v := 0) C dX6_isRoom_14 (by decide) rfl ?_
    exact v_zret C rfl dX6_isRoom_15 (by rw [hX]; exact fI_of (by first | exact bI_t (by simp [roomP, c1]; done) | exact bI_f (by simp [roomP, c1]; done)) rfl)
  · skip
    refine v_iload_n C dX6_isRoom_4 rfl rfl rfl ?_
    refine v_bipush (v := 6) C dX6_isRoom_5 (by decide) rfl ?_
    refine v_icmp_ge (tgt := 14) C dX6_isRoom_7 (by decide) rfl (fun c7 => ?_) (fun c7 => ?_)
    · skip
      refine v_iconst (v := 0) C dX6_isRoom_14 (by decide) rfl ?_
      exact v_zret C rfl dX6_isRoom_15 (by rw [hX]; exact fI_of (by first | exact bI_t (by simp [roomP, c1, c7]; done) | exact bI_f (by simp [roomP, c1, c7]; done)) rfl)
    · skip
      refine v_iconst (v := 1) C dX6_isRoom_10 (by decide) rfl ?_
      refine v_goto (tgt := 15) C dX6_isRoom_11 (by decide) ?_
      exact v_zret C rfl dX6_isRoom_15 (by rw [hX]; exact fI_of (by first | exact bI_t (by simp [roomP, c1, c7]; done) | exact bI_f (by simp [roomP, c1, c7]; done)) rfl)
theorem kX6_isPlace (v : Int32) (σ : St) : Ct yX6_isPlace cX6_isPlace 1 (some .boolean) 1 [.int v] σ (fI (bI (placeP v)) σ) := by
  refine ct_of plX6 rfl (Nat.le_of_ble_eq_true rfl) (fun X hX C => ?_)
  show V X 0 [(0, .int v)] [] σ
  refine v_iload_n C dX6_isPlace_0 rfl rfl rfl ?_
  refine v_callS C (As := [.int v]) (rest := []) (kX6_isRoom v σ) rfl (Nat.le_of_ble_eq_true rfl) (Nat.le_of_ble_eq_true rfl) ⟨mlX6_68, mfX6_isRoom⟩ dkX6_isRoom (Nat.le_of_ble_eq_true rfl) dX6_isPlace_1 rfl (kI ?_)
  refine v_if_ne (tgt := 13) C dX6_isPlace_4 (by decide) rfl (fun c4 => ?_) (fun c4 => ?_)
  · skip
    have c4 := bI_n c4
    refine v_iconst (v := 1) C dX6_isPlace_13 (by decide) rfl ?_
    refine v_goto (tgt := 18) C dX6_isPlace_14 (by decide) ?_
    exact v_zret C rfl dX6_isPlace_18 (by rw [hX]; exact fI_of (by first | exact bI_t (by simp [placeP, c4]; done) | exact bI_f (by simp [placeP, c4]; done)) rfl)
  · skip
    have c4 := bI_0 c4
    refine v_iload_n C dX6_isPlace_7 rfl rfl rfl ?_
    refine v_bipush (v := 9) C dX6_isPlace_8 (by decide) rfl ?_
    refine v_icmp_ne (tgt := 17) C dX6_isPlace_10 (by decide) rfl (fun c10 => ?_) (fun c10 => ?_)
    · skip
      refine v_iconst (v := 0) C dX6_isPlace_17 (by decide) rfl ?_
      exact v_zret C rfl dX6_isPlace_18 (by rw [hX]; exact fI_of (by first | exact bI_t (by simp [placeP, c4, c10]; done) | exact bI_f (by simp [placeP, c4, c10]; done)) rfl)
    · skip
      refine v_iconst (v := 1) C dX6_isPlace_13 (by decide) rfl ?_
      refine v_goto (tgt := 18) C dX6_isPlace_14 (by decide) ?_
      exact v_zret C rfl dX6_isPlace_18 (by rw [hX]; exact fI_of (by first | exact bI_t (by simp [placeP, c4, c10]; done) | exact bI_f (by simp [placeP, c4, c10]; done)) rfl)
theorem kX6_isFloor (v : Int32) (σ : St) : Ct yX6_isFloor cX6_isFloor 1 (some .boolean) 0 [.int v] σ (fI (bI (floorP v)) σ) := by
  refine ct_of plX6 rfl (Nat.le_of_ble_eq_true rfl) (fun X hX C => ?_)
  show V X 0 [(0, .int v)] [] σ
  refine v_iload_n C dX6_isFloor_0 rfl rfl rfl ?_
  refine v_iconst (v := 1) C dX6_isFloor_1 (by decide) rfl ?_
  refine v_icmp_eq (tgt := 10) C dX6_isFloor_2 (by decide) rfl (fun c2 => ?_) (fun c2 => ?_)
  · skip
    refine v_iconst (v := 1) C dX6_isFloor_10 (by decide) rfl ?_
    refine v_goto (tgt := 15) C dX6_isFloor_11 (by decide) ?_
    exact v_zret C rfl dX6_isFloor_15 (by rw [hX]; exact fI_of (by first | exact bI_t (by simp [floorP, c2]; done) | exact bI_f (by simp [floorP, c2]; done)) rfl)
  · skip
    refine v_iload_n C dX6_isFloor_5 rfl rfl rfl ?_
    refine v_iconst (v := 2) C dX6_isFloor_6 (by decide) rfl ?_
    refine v_icmp_ne (tgt := 14) C dX6_isFloor_7 (by decide) rfl (fun c7 => ?_) (fun c7 => ?_)
    · skip
      refine v_iconst (v := 0) C dX6_isFloor_14 (by decide) rfl ?_
      exact v_zret C rfl dX6_isFloor_15 (by rw [hX]; exact fI_of (by first | exact bI_t (by simp [floorP, c2, c7]; done) | exact bI_f (by simp [floorP, c2, c7]; done)) rfl)
    · skip
      refine v_iconst (v := 1) C dX6_isFloor_10 (by decide) rfl ?_
      refine v_goto (tgt := 15) C dX6_isFloor_11 (by decide) ?_
      exact v_zret C rfl dX6_isFloor_15 (by rw [hX]; exact fI_of (by first | exact bI_t (by simp [floorP, c2, c7]; done) | exact bI_f (by simp [floorP, c2, c7]; done)) rfl)
theorem kX6_isPiece (v : Int32) (σ : St) : Ct yX6_isPiece cX6_isPiece 2 (some .boolean) 0 [.ref 0, .int v] σ (fI (bI (pieceP v (σ 0 8))) σ) := by
  refine ct_of plX6 rfl (Nat.le_of_ble_eq_true rfl) (fun X hX C => ?_)
  show V X 0 [(0, .ref 0), (1, .int v)] [] σ
  refine v_iload_n C dX6_isPiece_0 rfl rfl rfl ?_
  refine v_if_lt (tgt := 16) C dX6_isPiece_1 (by decide) rfl (fun c1 => ?_) (fun c1 => ?_)
  · skip
    refine v_iconst (v := 0) C dX6_isPiece_16 (by decide) rfl ?_
    exact v_zret C rfl dX6_isPiece_17 (by rw [hX]; exact fI_of (by first | exact bI_t (by simp [pieceP, c1]; done) | exact bI_f (by simp [pieceP, c1]; done)) rfl)
  · skip
    refine v_iload_n C dX6_isPiece_4 rfl rfl rfl ?_
    refine v_aload_n C dX6_isPiece_5 rfl rfl rfl ?_
    refine v_getI C (Nat.le_of_ble_eq_true rfl) rfl rfl hinX6 8 (Nat.le_of_ble_eq_true rfl) lkX6_65 rfl dX6_isPiece_6 rfl ?_
    refine v_icmp_ge (tgt := 16) C dX6_isPiece_9 (by decide) rfl (fun c9 => ?_) (fun c9 => ?_)
    · skip
      refine v_iconst (v := 0) C dX6_isPiece_16 (by decide) rfl ?_
      exact v_zret C rfl dX6_isPiece_17 (by rw [hX]; exact fI_of (by first | exact bI_t (by simp [pieceP, c1, c9]; done) | exact bI_f (by simp [pieceP, c1, c9]; done)) rfl)
    · skip
      refine v_iconst (v := 1) C dX6_isPiece_12 (by decide) rfl ?_
      refine v_goto (tgt := 17) C dX6_isPiece_13 (by decide) ?_
      exact v_zret C rfl dX6_isPiece_17 (by rw [hX]; exact fI_of (by first | exact bI_t (by simp [pieceP, c1, c9]; done) | exact bI_f (by simp [pieceP, c1, c9]; done)) rfl)
theorem kX6_notShare (v : Int32) (σ : St) : Ct yX6_notShare cX6_notShare 2 (some .int) 0 [.ref 0, .int v] σ (fI (if v < -1 then -4 else if v < σ 0 8 then 0 else -1) σ) := by
  refine ct_of plX6 rfl (Nat.le_of_ble_eq_true rfl) (fun X hX C => ?_)
  show V X 0 [(0, .ref 0), (1, .int v)] [] σ
  refine v_iload_n C dX6_notShare_0 rfl rfl rfl ?_
  refine v_iconst (v := -1) C dX6_notShare_1 (by decide) rfl ?_
  refine v_icmp_ge (tgt := 10) C dX6_notShare_2 (by decide) rfl (fun c2 => ?_) (fun c2 => ?_)
  · skip
    refine v_iload_n C dX6_notShare_10 rfl rfl rfl ?_
    refine v_aload_n C dX6_notShare_11 rfl rfl rfl ?_
    refine v_getI C (Nat.le_of_ble_eq_true rfl) rfl rfl hinX6 8 (Nat.le_of_ble_eq_true rfl) lkX6_65 rfl dX6_notShare_12 rfl ?_
    refine v_icmp_lt (tgt := 22) C dX6_notShare_15 (by decide) rfl (fun c15 => ?_) (fun c15 => ?_)
    · skip
      refine v_iconst (v := 0) C dX6_notShare_22 (by decide) rfl ?_
      exact v_iret C dX6_notShare_23 (by rw [hX]; exact fI_of (by first | rfl | (simp [c2, c15]; done)) rfl)
    · skip
      refine v_iconst (v := -1) C dX6_notShare_18 (by decide) rfl ?_
      refine v_goto (tgt := 23) C dX6_notShare_19 (by decide) ?_
      exact v_iret C dX6_notShare_23 (by rw [hX]; exact fI_of (by first | rfl | (simp [c2, c15]; done)) rfl)
  · skip
    refine v_bipush (v := -4) C dX6_notShare_5 (by decide) rfl ?_
    refine v_goto (tgt := 23) C dX6_notShare_7 (by decide) ?_
    exact v_iret C dX6_notShare_23 (by rw [hX]; exact fI_of (by first | rfl | (simp [c2]; done)) rfl)
