/-! the class: what a house does -/
theorem gb_mm (x y F : Int32) : ¬ (x < F ↔ y < F) ↔ (minI x y < F ∧ ¬ maxI x y < F) := by
  unfold minI maxI
  simp only [i32_lt]
  split <;> split <;> omega
def tolF (kd bk ft ag pl : Nat → Int32) (n p : Nat) (w : Int32) : Int32 := if w = 0 then kd p else if w = 1 then bk p else if w = 2 then ft p else if w = 3 then ag p else if w = 4 then pl p else if w = 5 then blaF kd ft ag pl n p else if w = 6 then widF kd bk p else -2
def carH (σ : St) (h n p : Nat) (r : Int32) : Prop := carP (σ (h + 1)) (σ (h + 2)) (σ (h + 5)) (σ (h + 6)) (σ (h + 7)) n p r
noncomputable def hCarA (σ : St) (h n : Nat) (p r : Int32) : Int32 := cI (pieceP p (nI n) ∧ placeP r) (cI (carH σ h n (tn p) r) (σ (h + 5) (tn p)) (-3)) (-1)
noncomputable def hCarS (σ : St) (h n : Nat) (p r : Int32) : St := cI (pieceP p (nI n) ∧ placeP r) (cI (carH σ h n (tn p) r) (s2 σ (h + 5) (tn p) r) σ) σ
noncomputable def hPolA (σ : St) (h n : Nat) (p : Int32) : Int32 := cI (pieceP p (nI n)) (if σ (h + 3) (tn p) < 9 then σ (h + 3) (tn p) + 1 else -3) (-1)
noncomputable def hPolS (σ : St) (h n : Nat) (p : Int32) : St := cI (pieceP p (nI n)) (if σ (h + 3) (tn p) < 9 then s2 σ (h + 3) (tn p) (σ (h + 3) (tn p) + 1) else σ) σ
noncomputable def hSizA (σ : St) (h n : Nat) (r v : Int32) : Int32 := cI (roomP r) (if v < 0 then -4 else if 20 < v then -6 else if v < bulF (σ (h + 2)) (σ (h + 5)) n r then -3 else σ (h + 6) (tn r)) (-1)
noncomputable def hSizS (σ : St) (h n : Nat) (r v : Int32) : St := cI (roomP r) (if v < 0 then σ else if 20 < v then σ else if v < bulF (σ (h + 2)) (σ (h + 5)) n r then σ else s2 σ (h + 6) (tn r) v) σ
noncomputable def hWidA (σ : St) (h : Nat) (f v : Int32) : Int32 := cI (floorP f) (if v < 0 then -4 else if 9 < v then -6 else σ (h + 7) (tn f)) (-1)
noncomputable def hWidS (σ : St) (h : Nat) (f v : Int32) : St := cI (floorP f) (if v < 0 then σ else if 9 < v then σ else s2 σ (h + 7) (tn f) v) σ
def hHeiA (σ : St) (h : Nat) (v : Int32) : Int32 := if v < 2 then -4 else if 4 < v then -6 else σ h 8
def hHeiS (σ : St) (h : Nat) (v : Int32) : St := if v < 2 then σ else if 4 < v then σ else s2 σ h 8 v
def hAddA (n : Nat) (b : Int32) : Int32 := if b < 1 then -4 else if n < 7 then nI (n + 1) else -6
def hAddS (σ : St) (h n : Nat) (k b f a : Int32) : St := if b < 1 then σ else if n < 7 then s2 (s2 (s2 (s2 (s2 (s2 σ (h + 1) n k) (h + 2) n b) (h + 3) n f) (h + 4) n a) (h + 5) n 9) h 7 (nI (n + 1)) else σ
theorem kX0_passesStairs (p : Nat) (r : Int32) (h n : Nat) (hh : isH h) (σ : St) (hn : σ h 7 = nI n) (h7 : n ≤ 7) (hp : p < n) : Ct yX0_passesStairs cX0_passesStairs 8 (some .boolean) 2 [.ref h, .int (nI p), .int r] σ (fI (bI (∀ f, 1 ≤ f → f < 3 → ¬ blkP (σ (h + 1)) (σ (h + 2)) (σ (h + 7)) (σ (h + 5) p) r p f)) σ) := by
  refine ct_of plX0 rfl (Nat.le_of_ble_eq_true rfl) (fun X hX C => ?_)
  show V X 0 [(0, .ref h), (1, .int (nI p)), (2, .int r)] [] σ
  refine v_aload_n C dX0_passesStairs_0 rfl rfl rfl ?_
  refine v_getR C hh.l0 hh.s0 rfl hinX0 4 (Nat.le_of_ble_eq_true rfl) lkX0_24 rfl dX0_passesStairs_1 rfl ?_
  refine v_iload_n C dX0_passesStairs_4 rfl rfl rfl ?_
  refine v_iald (i := p) C hh.l5 hh.s5 rfl (by omega) (by decide) dX0_passesStairs_5 rfl ?_
  refine v_bipush (v := 9) C dX0_passesStairs_6 (by decide) rfl ?_
  refine v_icmp_ne (tgt := 13) C dX0_passesStairs_8 (by decide) rfl (fun c8 => ?_) (fun c8 => ?_)
  · skip
    refine v_aload_n C dX0_passesStairs_13 rfl rfl rfl ?_
    refine v_getR C hh.l0 hh.s0 rfl hinX0 4 (Nat.le_of_ble_eq_true rfl) lkX0_24 rfl dX0_passesStairs_14 rfl ?_
    refine v_iload_n C dX0_passesStairs_17 rfl rfl rfl ?_
    refine v_iald (i := p) C hh.l5 hh.s5 rfl (by omega) (by decide) dX0_passesStairs_18 rfl ?_
    refine v_iconst (v := 2) C dX0_passesStairs_19 (by decide) rfl ?_
    refine v_idiv C dX0_passesStairs_20 (by decide) rfl ?_
    refine v_istore_n (lv' := [(3, .int ((σ (h + 5) p) / 2)), (0, .ref h), (1, .int (nI p)), (2, .int r)]) C dX0_passesStairs_21 rfl (Nat.le_of_ble_eq_true rfl) rfl rfl ?_
    refine v_iload_n C dX0_passesStairs_22 rfl rfl rfl ?_
    refine v_iconst (v := 2) C dX0_passesStairs_23 (by decide) rfl ?_
    refine v_idiv C dX0_passesStairs_24 (by decide) rfl ?_
    refine v_istore (lv' := [(4, .int (r / 2)), (3, .int ((σ (h + 5) p) / 2)), (0, .ref h), (1, .int (nI p)), (2, .int r)]) C dX0_passesStairs_25 (Nat.le_of_ble_eq_true rfl) rfl rfl ?_
    refine v_aload_n C dX0_passesStairs_27 rfl rfl rfl ?_
    refine v_iload_n C dX0_passesStairs_28 rfl rfl rfl ?_
    refine v_callV C hh.l0 hh.s0 rfl (As := [.int (nI p)]) (rest := []) (kX0_wideOfPiece p h n hh σ hn h7 (by omega)) rfl (Nat.le_of_ble_eq_true rfl) (Nat.le_of_ble_eq_true rfl) ⟨mlX0_63, mfX0_wideOfPiece⟩ dkX0_wideOfPiece (Nat.le_of_ble_eq_true rfl) dX0_passesStairs_29 rfl (kI ?_)
    refine v_istore (lv' := [(5, .int (widF (σ (h + 1)) (σ (h + 2)) p)), (4, .int (r / 2)), (3, .int ((σ (h + 5) p) / 2)), (0, .ref h), (1, .int (nI p)), (2, .int r)]) C dX0_passesStairs_32 (Nat.le_of_ble_eq_true rfl) rfl rfl ?_
    refine v_iconst (v := 1) C dX0_passesStairs_34 (by decide) rfl ?_
    refine v_istore (lv' := [(6, .int 1), (5, .int (widF (σ (h + 1)) (σ (h + 2)) p)), (4, .int (r / 2)), (3, .int ((σ (h + 5) p) / 2)), (0, .ref h), (1, .int (nI p)), (2, .int r)]) C dX0_passesStairs_35 (Nat.le_of_ble_eq_true rfl) rfl rfl ?_
    have lp37 : ∀ (kf i : Nat)  , 3 < i + kf → i ≤ 3 → (1 ≤ i) → (∀ g, 1 ≤ g → g < i → ¬ blkP (σ (h + 1)) (σ (h + 2)) (σ (h + 7)) (σ (h + 5) p) r p g) → V X 37 [(6, .int (nI i)), (5, .int (widF (σ (h + 1)) (σ (h + 2)) p)), (4, .int (r / 2)), (3, .int ((σ (h + 5) p) / 2)), (0, .ref h), (1, .int (nI p)), (2, .int r)] [] σ := by
      intro kf
      induction kf with
      | zero => intro i  h1 h2; omega
      | succ kf ih37 =>
        intro i  h1 h2  hi1 hal
        refine v_iload C dX0_passesStairs_37 rfl rfl ?_
        refine v_iconst (v := 3) C dX0_passesStairs_39 (by decide) rfl ?_
        refine v_icmp_ge (tgt := 97) C dX0_passesStairs_40 (by decide) rfl (fun c40 => ?_) (fun c40 => ?_)
        · skip
          have c40 := mt (nI_ltI (a := i) (b := 3) (by omega) (by omega)).mpr c40
          refine v_iconst (v := 1) C dX0_passesStairs_97 (by decide) rfl ?_
          exact v_zret C rfl dX0_passesStairs_98 (by rw [hX]; exact fI_of (bI_t (fun f fa fb => hal f fa (by omega))) rfl)
        · skip
          have c40 := (nI_ltI (a := i) (b := 3) (by omega) (by omega)).mp c40
          refine v_iload C dX0_passesStairs_43 rfl rfl ?_
          refine v_iload_n C dX0_passesStairs_45 rfl rfl rfl ?_
          refine v_iload C dX0_passesStairs_46 rfl rfl ?_
          refine v_mmin C (Nat.le_of_ble_eq_true rfl) maX0_91 (Nat.le_of_ble_eq_true rfl) dX0_passesStairs_48 rfl ?_
          refine v_icmp_le (tgt := 69) C dX0_passesStairs_51 (by decide) rfl (fun c51 => ?_) (fun c51 => ?_)
          · skip
            refine v_iconst (v := 0) C dX0_passesStairs_69 (by decide) rfl ?_
            refine v_istore (lv' := [(7, .int 0), (6, .int (nI i)), (5, .int (widF (σ (h + 1)) (σ (h + 2)) p)), (4, .int (r / 2)), (3, .int ((σ (h + 5) p) / 2)), (0, .ref h), (1, .int (nI p)), (2, .int r)]) C dX0_passesStairs_70 (Nat.le_of_ble_eq_true rfl) rfl rfl ?_
            refine v_iload C dX0_passesStairs_72 rfl rfl ?_
            refine v_if_eq (tgt := 91) C dX0_passesStairs_74 (by decide) rfl (fun _ => ?_) (fun q => absurd q (by decide))
            refine v_iinc (lv' := [(6, .int (nI (i + 1))), (7, .int 0), (5, .int (widF (σ (h + 1)) (σ (h + 2)) p)), (4, .int (r / 2)), (3, .int ((σ (h + 5) p) / 2)), (0, .ref h), (1, .int (nI p)), (2, .int r)]) C dX0_passesStairs_91 rfl (nI_inc i) (Nat.le_of_ble_eq_true rfl) rfl rfl ?_
            refine v_goto (tgt := 37) C dX0_passesStairs_94 (by decide) ?_
            exact V.sub [0, 2, 3, 4, 5, 6, 7] rfl (ih37 (i + 1)  (by omega) (by omega)  (by omega) (fun g ga gb => (Nat.lt_succ_iff_lt_or_eq.mp gb).elim (hal g ga) (fun z => by subst z; exact (fun q => c51 ((gb_mm _ _ _).mp q.1.2).1))))
          · skip
            refine v_iload C dX0_passesStairs_54 rfl rfl ?_
            refine v_iload_n C dX0_passesStairs_56 rfl rfl rfl ?_
            refine v_iload C dX0_passesStairs_57 rfl rfl ?_
            refine v_mmax C (Nat.le_of_ble_eq_true rfl) maX0_97 (Nat.le_of_ble_eq_true rfl) dX0_passesStairs_59 rfl ?_
            refine v_icmp_gt (tgt := 69) C dX0_passesStairs_62 (by decide) rfl (fun c62 => ?_) (fun c62 => ?_)
            · skip
              refine v_iconst (v := 0) C dX0_passesStairs_69 (by decide) rfl ?_
              refine v_istore (lv' := [(7, .int 0), (6, .int (nI i)), (5, .int (widF (σ (h + 1)) (σ (h + 2)) p)), (4, .int (r / 2)), (3, .int ((σ (h + 5) p) / 2)), (0, .ref h), (1, .int (nI p)), (2, .int r)]) C dX0_passesStairs_70 (Nat.le_of_ble_eq_true rfl) rfl rfl ?_
              refine v_iload C dX0_passesStairs_72 rfl rfl ?_
              refine v_if_eq (tgt := 91) C dX0_passesStairs_74 (by decide) rfl (fun _ => ?_) (fun q => absurd q (by decide))
              refine v_iinc (lv' := [(6, .int (nI (i + 1))), (7, .int 0), (5, .int (widF (σ (h + 1)) (σ (h + 2)) p)), (4, .int (r / 2)), (3, .int ((σ (h + 5) p) / 2)), (0, .ref h), (1, .int (nI p)), (2, .int r)]) C dX0_passesStairs_91 rfl (nI_inc i) (Nat.le_of_ble_eq_true rfl) rfl rfl ?_
              refine v_goto (tgt := 37) C dX0_passesStairs_94 (by decide) ?_
              exact V.sub [0, 2, 3, 4, 5, 6, 7] rfl (ih37 (i + 1)  (by omega) (by omega)  (by omega) (fun g ga gb => (Nat.lt_succ_iff_lt_or_eq.mp gb).elim (hal g ga) (fun z => by subst z; exact (fun q => ((gb_mm _ _ _).mp q.1.2).2 c62))))
            · skip
              refine v_iconst (v := 1) C dX0_passesStairs_65 (by decide) rfl ?_
              refine v_goto (tgt := 70) C dX0_passesStairs_66 (by decide) ?_
              refine v_istore (lv' := [(7, .int 1), (6, .int (nI i)), (5, .int (widF (σ (h + 1)) (σ (h + 2)) p)), (4, .int (r / 2)), (3, .int ((σ (h + 5) p) / 2)), (0, .ref h), (1, .int (nI p)), (2, .int r)]) C dX0_passesStairs_70 (Nat.le_of_ble_eq_true rfl) rfl rfl ?_
              refine v_iload C dX0_passesStairs_72 rfl rfl ?_
              refine v_if_eq (tgt := 91) C dX0_passesStairs_74 (by decide) rfl (fun q => absurd q (by decide)) (fun _ => ?_)
              refine v_iload C dX0_passesStairs_77 rfl rfl ?_
              refine v_aload_n C dX0_passesStairs_79 rfl rfl rfl ?_
              refine v_getR C hh.l0 hh.s0 rfl hinX0 6 (Nat.le_of_ble_eq_true rfl) lkX0_30 rfl dX0_passesStairs_80 rfl ?_
              refine v_iload C dX0_passesStairs_83 rfl rfl ?_
              refine v_iald (i := i) C hh.l7 hh.s7 rfl (by omega) (by decide) dX0_passesStairs_85 rfl ?_
              refine v_icmp_le (tgt := 91) C dX0_passesStairs_86 (by decide) rfl (fun c86 => ?_) (fun c86 => ?_)
              · skip
                refine v_iinc (lv' := [(6, .int (nI (i + 1))), (7, .int 1), (5, .int (widF (σ (h + 1)) (σ (h + 2)) p)), (4, .int (r / 2)), (3, .int ((σ (h + 5) p) / 2)), (0, .ref h), (1, .int (nI p)), (2, .int r)]) C dX0_passesStairs_91 rfl (nI_inc i) (Nat.le_of_ble_eq_true rfl) rfl rfl ?_
                refine v_goto (tgt := 37) C dX0_passesStairs_94 (by decide) ?_
                exact V.sub [0, 2, 3, 4, 5, 6, 7] rfl (ih37 (i + 1)  (by omega) (by omega)  (by omega) (fun g ga gb => (Nat.lt_succ_iff_lt_or_eq.mp gb).elim (hal g ga) (fun z => by subst z; exact (fun q => c86 q.2))))
              · skip
                refine v_iconst (v := 0) C dX0_passesStairs_89 (by decide) rfl ?_
                exact v_zret C rfl dX0_passesStairs_90 (by rw [hX]; exact fI_of (bI_f (fun q => q i hi1 (by omega) ⟨⟨c8, (gb_mm _ _ _).mpr ⟨c51, c62⟩⟩, c86⟩)) rfl)
    exact V.sub [0, 1, 2, 3, 4, 5, 6] rfl (lp37 (3 + 1) 1  (by omega) (by omega)  (by omega) (fun g a b => absurd b (by omega)))
  · skip
    refine v_iconst (v := 1) C dX0_passesStairs_11 (by decide) rfl ?_
    exact v_zret C rfl dX0_passesStairs_12 (by rw [hX]; exact fI_of (bI_t (fun f _ _ q => q.1.1 c8)) rfl)
theorem kX0_canBeCarried (p : Nat) (r : Int32) (h n : Nat) (hh : isH h) (σ : St) (hn : σ h 7 = nI n) (h7 : n ≤ 7) (hp : p < n) (hr : placeP r) : Ct yX0_canBeCarried cX0_canBeCarried 3 (some .boolean) 3 [.ref h, .int (nI p), .int r] σ (fI (bI (carH σ h n p r)) σ) := by
  refine ct_of plX0 rfl (Nat.le_of_ble_eq_true rfl) (fun X hX C => ?_)
  show V X 0 [(0, .ref h), (1, .int (nI p)), (2, .int r)] [] σ
  refine v_aload_n C dX0_canBeCarried_0 rfl rfl rfl ?_
  refine v_iload_n C dX0_canBeCarried_1 rfl rfl rfl ?_
  refine v_callV C hh.l0 hh.s0 rfl (As := [.int (nI p)]) (rest := []) (kX0_hasPiece (nI p) h n hh σ hn h7) rfl (Nat.le_of_ble_eq_true rfl) (Nat.le_of_ble_eq_true rfl) ⟨mlX0_55, mfX0_hasPiece⟩ dkX0_hasPiece (Nat.le_of_ble_eq_true rfl) dX0_canBeCarried_2 rfl (kI ?_)
  refine V.tp (show bI (pieceP (nI p) (nI n)) = 1 from (bI_t (pie_nI (by omega) h7)).symm) ?_
  refine v_if_eq (tgt := 18) C dX0_canBeCarried_5 (by decide) rfl (fun q => absurd q (by decide)) (fun _ => ?_)
  refine v_aload_n C dX0_canBeCarried_8 rfl rfl rfl ?_
  refine v_getR C hh.l0 hh.s0 rfl hinX0 4 (Nat.le_of_ble_eq_true rfl) lkX0_24 rfl dX0_canBeCarried_9 rfl ?_
  refine v_iload_n C dX0_canBeCarried_12 rfl rfl rfl ?_
  refine v_iald (i := p) C hh.l5 hh.s5 rfl (by omega) (by decide) dX0_canBeCarried_13 rfl ?_
  refine v_iload_n C dX0_canBeCarried_14 rfl rfl rfl ?_
  refine v_icmp_ne (tgt := 20) C dX0_canBeCarried_15 (by decide) rfl (fun c15 => ?_) (fun c15 => ?_)
  · skip
    refine v_iload_n C dX0_canBeCarried_20 rfl rfl rfl ?_
    refine v_bipush (v := 9) C dX0_canBeCarried_21 (by decide) rfl ?_
    refine v_icmp_ne (tgt := 28) C dX0_canBeCarried_23 (by decide) rfl (fun c23 => ?_) (fun c23 => ?_)
    · skip
      refine v_aload_n C dX0_canBeCarried_28 rfl rfl rfl ?_
      refine v_iload_n C dX0_canBeCarried_29 rfl rfl rfl ?_
      refine v_aload_n C dX0_canBeCarried_30 rfl rfl rfl ?_
      refine v_getR C hh.l0 hh.s0 rfl hinX0 1 (Nat.le_of_ble_eq_true rfl) lkX0_15 rfl dX0_canBeCarried_31 rfl ?_
      refine v_iload_n C dX0_canBeCarried_34 rfl rfl rfl ?_
      refine v_iald (i := p) C hh.l2 hh.s2 rfl (by omega) (by decide) dX0_canBeCarried_35 rfl ?_
      refine v_callV C hh.l0 hh.s0 rfl (As := [.int r, .int (σ (h + 2) p)]) (rest := []) (kX0_hasSpace r (σ (h + 2) p) h n hh σ hn h7) rfl (Nat.le_of_ble_eq_true rfl) (Nat.le_of_ble_eq_true rfl) ⟨mlX0_84, mfX0_hasSpace⟩ dkX0_hasSpace (Nat.le_of_ble_eq_true rfl) dX0_canBeCarried_36 rfl (kI ?_)
      refine v_if_eq (tgt := 55) C dX0_canBeCarried_39 (by decide) rfl (fun c39 => ?_) (fun c39 => ?_)
      · skip
        have c39 := bI_0 c39
        refine v_iconst (v := 0) C dX0_canBeCarried_55 (by decide) rfl ?_
        exact v_zret C rfl dX0_canBeCarried_56 (by rw [hX]; exact fI_of (bI_f (fun q => q.2.elim c23 (fun z => c39 ⟨hr.resolve_right c23, z.1⟩))) rfl)
      · skip
        have c39 := bI_n c39
        refine v_aload_n C dX0_canBeCarried_42 rfl rfl rfl ?_
        refine v_iload_n C dX0_canBeCarried_43 rfl rfl rfl ?_
        refine v_iload_n C dX0_canBeCarried_44 rfl rfl rfl ?_
        refine v_callV C hh.l0 hh.s0 rfl (As := [.int (nI p), .int r]) (rest := []) (kX0_passesStairs p r h n hh σ hn h7 (by omega)) rfl (Nat.le_of_ble_eq_true rfl) (Nat.le_of_ble_eq_true rfl) ⟨mlX0_88, mfX0_passesStairs⟩ dkX0_passesStairs (Nat.le_of_ble_eq_true rfl) dX0_canBeCarried_45 rfl (kI ?_)
        refine v_if_eq (tgt := 55) C dX0_canBeCarried_48 (by decide) rfl (fun c48 => ?_) (fun c48 => ?_)
        · skip
          have c48 := bI_0 c48
          refine v_iconst (v := 0) C dX0_canBeCarried_55 (by decide) rfl ?_
          exact v_zret C rfl dX0_canBeCarried_56 (by rw [hX]; exact fI_of (bI_f (fun q => q.2.elim c23 (fun z => c48 z.2))) rfl)
        · skip
          have c48 := bI_n c48
          refine v_iconst (v := 1) C dX0_canBeCarried_51 (by decide) rfl ?_
          refine v_goto (tgt := 56) C dX0_canBeCarried_52 (by decide) ?_
          exact v_zret C rfl dX0_canBeCarried_56 (by rw [hX]; exact fI_of (bI_t ⟨fun e => c15 e.symm, Or.inr ⟨c39.2, c48⟩⟩) rfl)
    · skip
      refine v_iconst (v := 1) C dX0_canBeCarried_26 (by decide) rfl ?_
      exact v_zret C rfl dX0_canBeCarried_27 (by rw [hX]; exact fI_of (bI_t ⟨fun e => c15 e.symm, Or.inl c23⟩) rfl)
  · skip
    refine v_iconst (v := 0) C dX0_canBeCarried_18 (by decide) rfl ?_
    exact v_zret C rfl dX0_canBeCarried_19 (by rw [hX]; exact fI_of (bI_f (fun q => q.1 c15.symm)) rfl)
theorem kX0_told (p w : Int32) (h n : Nat) (hh : isH h) (σ : St) (hn : σ h 7 = nI n) (h7 : n ≤ 7) : Ct yX0_told cX0_told 3 (some .int) 3 [.ref h, .int p, .int w] σ (fI (cI (pieceP p (nI n)) (tolF (σ (h + 1)) (σ (h + 2)) (σ (h + 3)) (σ (h + 4)) (σ (h + 5)) n (tn p) w) (-1)) σ) := by
  refine ct_of plX0 rfl (Nat.le_of_ble_eq_true rfl) (fun X hX C => ?_)
  show V X 0 [(0, .ref h), (1, .int p), (2, .int w)] [] σ
  refine v_aload_n C dX0_told_0 rfl rfl rfl ?_
  refine v_iload_n C dX0_told_1 rfl rfl rfl ?_
  refine v_callV C hh.l0 hh.s0 rfl (As := [.int p]) (rest := []) (kX0_hasPiece p h n hh σ hn h7) rfl (Nat.le_of_ble_eq_true rfl) (Nat.le_of_ble_eq_true rfl) ⟨mlX0_55, mfX0_hasPiece⟩ dkX0_hasPiece (Nat.le_of_ble_eq_true rfl) dX0_told_2 rfl (kI ?_)
  refine v_if_ne (tgt := 10) C dX0_told_5 (by decide) rfl (fun c5 => ?_) (fun c5 => ?_)
  · skip
    have c5 := bI_n c5
    have hp1 : p = nI (tn p) := (piece_nat h7 c5).1
    have hp2 : tn p < n := (piece_nat h7 c5).2
    refine v_iload_n C dX0_told_10 rfl rfl rfl ?_
    by_cases s11_0 : w = 0
    · refine V.tp s11_0 ?_
      refine v_tableIn (off := 41) (tgt := 52) C dX0_told_11 (by decide) (by decide) rfl (by decide) ?_
      refine v_aload_n C dX0_told_52 rfl rfl rfl ?_
      refine v_getR C hh.l0 hh.s0 rfl hinX0 0 (Nat.le_of_ble_eq_true rfl) lkX0_9 rfl dX0_told_53 rfl ?_
      refine v_iload_n C dX0_told_56 rfl rfl rfl ?_
      refine V.tp hp1 ?_
      refine v_iald (i := tn p) C hh.l1 hh.s1 rfl (by omega) (by decide) dX0_told_57 rfl ?_
      exact v_iret C dX0_told_58 (by rw [hX]; exact fI_of (by simp [tolF, cI, c5, s11_0]) (by simp [tolF, cI, c5, s11_0]))
    by_cases s11_1 : w = 1
    · refine V.tp s11_1 ?_
      refine v_tableIn (off := 48) (tgt := 59) C dX0_told_11 (by decide) (by decide) rfl (by decide) ?_
      refine v_aload_n C dX0_told_59 rfl rfl rfl ?_
      refine v_getR C hh.l0 hh.s0 rfl hinX0 1 (Nat.le_of_ble_eq_true rfl) lkX0_15 rfl dX0_told_60 rfl ?_
      refine v_iload_n C dX0_told_63 rfl rfl rfl ?_
      refine V.tp hp1 ?_
      refine v_iald (i := tn p) C hh.l2 hh.s2 rfl (by omega) (by decide) dX0_told_64 rfl ?_
      exact v_iret C dX0_told_65 (by rw [hX]; exact fI_of (by simp [tolF, cI, c5, s11_0, s11_1]) (by simp [tolF, cI, c5, s11_0, s11_1]))
    by_cases s11_2 : w = 2
    · refine V.tp s11_2 ?_
      refine v_tableIn (off := 55) (tgt := 66) C dX0_told_11 (by decide) (by decide) rfl (by decide) ?_
      refine v_aload_n C dX0_told_66 rfl rfl rfl ?_
      refine v_getR C hh.l0 hh.s0 rfl hinX0 2 (Nat.le_of_ble_eq_true rfl) lkX0_18 rfl dX0_told_67 rfl ?_
      refine v_iload_n C dX0_told_70 rfl rfl rfl ?_
      refine V.tp hp1 ?_
      refine v_iald (i := tn p) C hh.l3 hh.s3 rfl (by omega) (by decide) dX0_told_71 rfl ?_
      exact v_iret C dX0_told_72 (by rw [hX]; exact fI_of (by simp [tolF, cI, c5, s11_0, s11_1, s11_2]) (by simp [tolF, cI, c5, s11_0, s11_1, s11_2]))
    by_cases s11_3 : w = 3
    · refine V.tp s11_3 ?_
      refine v_tableIn (off := 62) (tgt := 73) C dX0_told_11 (by decide) (by decide) rfl (by decide) ?_
      refine v_aload_n C dX0_told_73 rfl rfl rfl ?_
      refine v_getR C hh.l0 hh.s0 rfl hinX0 3 (Nat.le_of_ble_eq_true rfl) lkX0_21 rfl dX0_told_74 rfl ?_
      refine v_iload_n C dX0_told_77 rfl rfl rfl ?_
      refine V.tp hp1 ?_
      refine v_iald (i := tn p) C hh.l4 hh.s4 rfl (by omega) (by decide) dX0_told_78 rfl ?_
      exact v_iret C dX0_told_79 (by rw [hX]; exact fI_of (by simp [tolF, cI, c5, s11_0, s11_1, s11_2, s11_3]) (by simp [tolF, cI, c5, s11_0, s11_1, s11_2, s11_3]))
    by_cases s11_4 : w = 4
    · refine V.tp s11_4 ?_
      refine v_tableIn (off := 69) (tgt := 80) C dX0_told_11 (by decide) (by decide) rfl (by decide) ?_
      refine v_aload_n C dX0_told_80 rfl rfl rfl ?_
      refine v_getR C hh.l0 hh.s0 rfl hinX0 4 (Nat.le_of_ble_eq_true rfl) lkX0_24 rfl dX0_told_81 rfl ?_
      refine v_iload_n C dX0_told_84 rfl rfl rfl ?_
      refine V.tp hp1 ?_
      refine v_iald (i := tn p) C hh.l5 hh.s5 rfl (by omega) (by decide) dX0_told_85 rfl ?_
      exact v_iret C dX0_told_86 (by rw [hX]; exact fI_of (by simp [tolF, cI, c5, s11_0, s11_1, s11_2, s11_3, s11_4]) (by simp [tolF, cI, c5, s11_0, s11_1, s11_2, s11_3, s11_4]))
    by_cases s11_5 : w = 5
    · refine V.tp s11_5 ?_
      refine v_tableIn (off := 76) (tgt := 87) C dX0_told_11 (by decide) (by decide) rfl (by decide) ?_
      refine v_aload_n C dX0_told_87 rfl rfl rfl ?_
      refine v_iload_n C dX0_told_88 rfl rfl rfl ?_
      refine V.tp hp1 ?_
      refine v_callV C hh.l0 hh.s0 rfl (As := [.int (nI (tn p))]) (rest := []) (kX0_blameOfPiece (tn p) h n hh σ hn h7 (by omega)) rfl (Nat.le_of_ble_eq_true rfl) (Nat.le_of_ble_eq_true rfl) ⟨mlX0_59, mfX0_blameOfPiece⟩ dkX0_blameOfPiece (Nat.le_of_ble_eq_true rfl) dX0_told_89 rfl (kI ?_)
      exact v_iret C dX0_told_92 (by rw [hX]; exact fI_of (by simp [tolF, cI, c5, s11_0, s11_1, s11_2, s11_3, s11_4, s11_5]) (by simp [tolF, cI, c5, s11_0, s11_1, s11_2, s11_3, s11_4, s11_5]))
    by_cases s11_6 : w = 6
    · refine V.tp s11_6 ?_
      refine v_tableIn (off := 82) (tgt := 93) C dX0_told_11 (by decide) (by decide) rfl (by decide) ?_
      refine v_aload_n C dX0_told_93 rfl rfl rfl ?_
      refine v_iload_n C dX0_told_94 rfl rfl rfl ?_
      refine V.tp hp1 ?_
      refine v_callV C hh.l0 hh.s0 rfl (As := [.int (nI (tn p))]) (rest := []) (kX0_wideOfPiece (tn p) h n hh σ hn h7 (by omega)) rfl (Nat.le_of_ble_eq_true rfl) (Nat.le_of_ble_eq_true rfl) ⟨mlX0_63, mfX0_wideOfPiece⟩ dkX0_wideOfPiece (Nat.le_of_ble_eq_true rfl) dX0_told_95 rfl (kI ?_)
      exact v_iret C dX0_told_98 (by rw [hX]; exact fI_of (by simp [tolF, cI, c5, s11_0, s11_1, s11_2, s11_3, s11_4, s11_5, s11_6]) (by simp [tolF, cI, c5, s11_0, s11_1, s11_2, s11_3, s11_4, s11_5, s11_6]))
    refine v_tableOut (tgt := 99) C dX0_told_11 (by have e0 := lv_neT s11_0 (a := 0) (by decide); have e1 := lv_neT s11_1 (a := 1) (by decide); have e2 := lv_neT s11_2 (a := 2) (by decide); have e3 := lv_neT s11_3 (a := 3) (by decide); have e4 := lv_neT s11_4 (a := 4) (by decide); have e5 := lv_neT s11_5 (a := 5) (by decide); have e6 := lv_neT s11_6 (a := 6) (by decide); omega) (by decide) ?_
    refine v_bipush (v := -2) C dX0_told_99 (by decide) rfl ?_
    exact v_iret C dX0_told_101 (by rw [hX]; exact fI_of (by simp [tolF, cI, c5, s11_0, s11_1, s11_2, s11_3, s11_4, s11_5, s11_6]) (by simp [tolF, cI, c5, s11_0, s11_1, s11_2, s11_3, s11_4, s11_5, s11_6]))
  · skip
    have c5 := bI_0 c5
    refine v_iconst (v := -1) C dX0_told_8 (by decide) rfl ?_
    exact v_iret C dX0_told_9 (by rw [hX]; exact fI_of (by simp [tolF, cI, c5]) (by simp [tolF, cI, c5]))
theorem kX0_carryTo (p r : Int32) (h n : Nat) (hh : isH h) (σ : St) (hn : σ h 7 = nI n) (h7 : n ≤ 7) : Ct yX0_carryTo cX0_carryTo 4 (some .int) 4 [.ref h, .int p, .int r] σ (fI (hCarA σ h n p r) (hCarS σ h n p r)) := by
  refine ct_of plX0 rfl (Nat.le_of_ble_eq_true rfl) (fun X hX C => ?_)
  show V X 0 [(0, .ref h), (1, .int p), (2, .int r)] [] σ
  refine v_aload_n C dX0_carryTo_0 rfl rfl rfl ?_
  refine v_iload_n C dX0_carryTo_1 rfl rfl rfl ?_
  refine v_callV C hh.l0 hh.s0 rfl (As := [.int p]) (rest := []) (kX0_hasPiece p h n hh σ hn h7) rfl (Nat.le_of_ble_eq_true rfl) (Nat.le_of_ble_eq_true rfl) ⟨mlX0_55, mfX0_hasPiece⟩ dkX0_hasPiece (Nat.le_of_ble_eq_true rfl) dX0_carryTo_2 rfl (kI ?_)
  refine v_if_eq (tgt := 15) C dX0_carryTo_5 (by decide) rfl (fun c5 => ?_) (fun c5 => ?_)
  · skip
    have c5 := bI_0 c5
    refine v_iconst (v := -1) C dX0_carryTo_15 (by decide) rfl ?_
    exact v_iret C dX0_carryTo_16 (by rw [hX]; exact fI_of (by simp [hCarA, hCarS, cI, c5]) (by simp [hCarA, hCarS, cI, c5]))
  · skip
    have c5 := bI_n c5
    refine v_iload_n C dX0_carryTo_8 rfl rfl rfl ?_
    refine v_callSN C (As := [.int r]) (rest := []) (kX5_isPlace r σ) rfl (Nat.le_of_ble_eq_true rfl) (Nat.le_of_ble_eq_true rfl) ⟨mlX0_100, mfX5_isPlace⟩ dkX5_isPlace (Nat.le_of_ble_eq_true rfl) dX0_carryTo_9 rfl (kI ?_)
    refine v_if_ne (tgt := 17) C dX0_carryTo_12 (by decide) rfl (fun c12 => ?_) (fun c12 => ?_)
    · skip
      have c12 := bI_n c12
      have hp1 : p = nI (tn p) := (piece_nat h7 c5).1
      have hp2 : tn p < n := (piece_nat h7 c5).2
      have hr : placeP r := c12
      refine v_aload_n C dX0_carryTo_17 rfl rfl rfl ?_
      refine v_iload_n C dX0_carryTo_18 rfl rfl rfl ?_
      refine V.tp hp1 ?_
      refine v_iload_n C dX0_carryTo_19 rfl rfl rfl ?_
      refine v_callV C hh.l0 hh.s0 rfl (As := [.int (nI (tn p)), .int r]) (rest := []) (kX0_canBeCarried (tn p) r h n hh σ hn h7 (by omega) hr) rfl (Nat.le_of_ble_eq_true rfl) (Nat.le_of_ble_eq_true rfl) ⟨mlX0_103, mfX0_canBeCarried⟩ dkX0_canBeCarried (Nat.le_of_ble_eq_true rfl) dX0_carryTo_20 rfl (kI ?_)
      refine v_if_ne (tgt := 29) C dX0_carryTo_23 (by decide) rfl (fun c23 => ?_) (fun c23 => ?_)
      · skip
        have c23 := bI_n c23
        refine v_aload_n C dX0_carryTo_29 rfl rfl rfl ?_
        refine v_getR C hh.l0 hh.s0 rfl hinX0 4 (Nat.le_of_ble_eq_true rfl) lkX0_24 rfl dX0_carryTo_30 rfl ?_
        refine v_iload_n C dX0_carryTo_33 rfl rfl rfl ?_
        refine V.tp hp1 ?_
        refine v_iald (i := tn p) C hh.l5 hh.s5 rfl (by omega) (by decide) dX0_carryTo_34 rfl ?_
        refine v_istore_n (lv' := [(3, .int (σ (h + 5) (tn p))), (0, .ref h), (1, .int p), (2, .int r)]) C dX0_carryTo_35 rfl (Nat.le_of_ble_eq_true rfl) rfl rfl ?_
        refine v_aload_n C dX0_carryTo_36 rfl rfl rfl ?_
        refine v_getR C hh.l0 hh.s0 rfl hinX0 4 (Nat.le_of_ble_eq_true rfl) lkX0_24 rfl dX0_carryTo_37 rfl ?_
        refine v_iload_n C dX0_carryTo_40 rfl rfl rfl ?_
        refine V.tp hp1 ?_
        refine v_iload_n C dX0_carryTo_41 rfl rfl rfl ?_
        refine v_iast (i := tn p) C hh.l5 hh.s5 rfl (by omega) (by decide) dX0_carryTo_42 rfl ?_
        refine V.nm (fun τ42_1 eτ42_1 => ?_)
        refine v_iload_n C dX0_carryTo_43 rfl rfl rfl ?_
        exact v_iret C dX0_carryTo_44 (by rw [hX]; exact fI_of (by simp [hCarA, hCarS, cI, c5, c12, c23, eτ42_1, s2_get]) (by simp [hCarA, hCarS, cI, c5, c12, c23, eτ42_1]))
      · skip
        have c23 := bI_0 c23
        refine v_bipush (v := -3) C dX0_carryTo_26 (by decide) rfl ?_
        exact v_iret C dX0_carryTo_28 (by rw [hX]; exact fI_of (by simp [hCarA, hCarS, cI, c5, c12, c23]) (by simp [hCarA, hCarS, cI, c5, c12, c23]))
    · skip
      have c12 := bI_0 c12
      refine v_iconst (v := -1) C dX0_carryTo_15 (by decide) rfl ?_
      exact v_iret C dX0_carryTo_16 (by rw [hX]; exact fI_of (by simp [hCarA, hCarS, cI, c5, c12]) (by simp [hCarA, hCarS, cI, c5, c12]))
theorem kX0_polishPiece (p : Int32) (h n : Nat) (hh : isH h) (σ : St) (hn : σ h 7 = nI n) (h7 : n ≤ 7) : Ct yX0_polishPiece cX0_polishPiece 2 (some .int) 1 [.ref h, .int p] σ (fI (hPolA σ h n p) (hPolS σ h n p)) := by
  refine ct_of plX0 rfl (Nat.le_of_ble_eq_true rfl) (fun X hX C => ?_)
  show V X 0 [(0, .ref h), (1, .int p)] [] σ
  refine v_aload_n C dX0_polishPiece_0 rfl rfl rfl ?_
  refine v_iload_n C dX0_polishPiece_1 rfl rfl rfl ?_
  refine v_callV C hh.l0 hh.s0 rfl (As := [.int p]) (rest := []) (kX0_hasPiece p h n hh σ hn h7) rfl (Nat.le_of_ble_eq_true rfl) (Nat.le_of_ble_eq_true rfl) ⟨mlX0_55, mfX0_hasPiece⟩ dkX0_hasPiece (Nat.le_of_ble_eq_true rfl) dX0_polishPiece_2 rfl (kI ?_)
  refine v_if_ne (tgt := 10) C dX0_polishPiece_5 (by decide) rfl (fun c5 => ?_) (fun c5 => ?_)
  · skip
    have c5 := bI_n c5
    have hp1 : p = nI (tn p) := (piece_nat h7 c5).1
    have hp2 : tn p < n := (piece_nat h7 c5).2
    refine v_aload_n C dX0_polishPiece_10 rfl rfl rfl ?_
    refine v_getR C hh.l0 hh.s0 rfl hinX0 2 (Nat.le_of_ble_eq_true rfl) lkX0_18 rfl dX0_polishPiece_11 rfl ?_
    refine v_iload_n C dX0_polishPiece_14 rfl rfl rfl ?_
    refine V.tp hp1 ?_
    refine v_iald (i := tn p) C hh.l3 hh.s3 rfl (by omega) (by decide) dX0_polishPiece_15 rfl ?_
    refine v_bipush (v := 9) C dX0_polishPiece_16 (by decide) rfl ?_
    refine v_icmp_lt (tgt := 24) C dX0_polishPiece_18 (by decide) rfl (fun c18 => ?_) (fun c18 => ?_)
    · skip
      refine v_aload_n C dX0_polishPiece_24 rfl rfl rfl ?_
      refine v_getR C hh.l0 hh.s0 rfl hinX0 2 (Nat.le_of_ble_eq_true rfl) lkX0_18 rfl dX0_polishPiece_25 rfl ?_
      refine v_iload_n C dX0_polishPiece_28 rfl rfl rfl ?_
      refine V.tp hp1 ?_
      refine v_dup2 C dX0_polishPiece_29 rfl rfl rfl ?_
      refine v_iald (i := tn p) C hh.l3 hh.s3 rfl (by omega) (by decide) dX0_polishPiece_30 rfl ?_
      refine v_iconst (v := 1) C dX0_polishPiece_31 (by decide) rfl ?_
      refine v_iadd C dX0_polishPiece_32 rfl ?_
      refine v_iast (i := tn p) C hh.l3 hh.s3 rfl (by omega) (by decide) dX0_polishPiece_33 rfl ?_
      refine V.nm (fun τ33_1 eτ33_1 => ?_)
      refine v_aload_n C dX0_polishPiece_34 rfl rfl rfl ?_
      refine v_getR C hh.l0 hh.s0 rfl hinX0 2 (Nat.le_of_ble_eq_true rfl) lkX0_18 rfl dX0_polishPiece_35 rfl ?_
      refine v_iload_n C dX0_polishPiece_38 rfl rfl rfl ?_
      refine V.tp hp1 ?_
      refine v_iald (i := tn p) C hh.l3 hh.s3 rfl (by omega) (by decide) dX0_polishPiece_39 rfl ?_
      exact v_iret C dX0_polishPiece_40 (by rw [hX]; exact fI_of (by simp [hPolA, hPolS, cI, c5, c18, eτ33_1, s2_get]) (by simp [hPolA, hPolS, cI, c5, c18, eτ33_1]))
    · skip
      refine v_bipush (v := -3) C dX0_polishPiece_21 (by decide) rfl ?_
      exact v_iret C dX0_polishPiece_23 (by rw [hX]; exact fI_of (by simp [hPolA, hPolS, cI, c5, c18]) (by simp [hPolA, hPolS, cI, c5, c18]))
  · skip
    have c5 := bI_0 c5
    refine v_iconst (v := -1) C dX0_polishPiece_8 (by decide) rfl ?_
    exact v_iret C dX0_polishPiece_9 (by rw [hX]; exact fI_of (by simp [hPolA, hPolS, cI, c5]) (by simp [hPolA, hPolS, cI, c5]))
theorem kX0_resize (r v : Int32) (h n : Nat) (hh : isH h) (σ : St) (hn : σ h 7 = nI n) (h7 : n ≤ 7) : Ct yX0_resize cX0_resize 5 (some .int) 1 [.ref h, .int r, .int v] σ (fI (hSizA σ h n r v) (hSizS σ h n r v)) := by
  refine ct_of plX0 rfl (Nat.le_of_ble_eq_true rfl) (fun X hX C => ?_)
  show V X 0 [(0, .ref h), (1, .int r), (2, .int v)] [] σ
  refine v_iload_n C dX0_resize_0 rfl rfl rfl ?_
  refine v_callSN C (As := [.int r]) (rest := []) (kX5_isRoom r σ) rfl (Nat.le_of_ble_eq_true rfl) (Nat.le_of_ble_eq_true rfl) ⟨mlX0_78, mfX5_isRoom⟩ dkX5_isRoom (Nat.le_of_ble_eq_true rfl) dX0_resize_1 rfl (kI ?_)
  refine v_if_ne (tgt := 9) C dX0_resize_4 (by decide) rfl (fun c4 => ?_) (fun c4 => ?_)
  · skip
    have c4 := bI_n c4
    refine v_iload_n C dX0_resize_9 rfl rfl rfl ?_
    refine v_iconst (v := 0) C dX0_resize_10 (by decide) rfl ?_
    refine v_bipush (v := 20) C dX0_resize_11 (by decide) rfl ?_
    refine v_callSN C (As := [.int v, .int 0, .int 20]) (rest := []) (kX5_refusalOutside v 0 20 σ) rfl (Nat.le_of_ble_eq_true rfl) (Nat.le_of_ble_eq_true rfl) ⟨mlX0_106, mfX5_refusalOutside⟩ dkX5_refusalOutside (Nat.le_of_ble_eq_true rfl) dX0_resize_13 rfl (kI ?_)
    rcases bnd_cases v 0 20 with ⟨hb, q1⟩ | ⟨hb, q1, q2⟩ | ⟨hb, q1, q2⟩
    · refine V.tp hb ?_
      refine v_istore_n (lv' := [(3, .int (-4)), (0, .ref h), (1, .int r), (2, .int v)]) C dX0_resize_16 rfl (Nat.le_of_ble_eq_true rfl) rfl rfl ?_
      refine v_iload_n C dX0_resize_17 rfl rfl rfl ?_
      refine v_if_eq (tgt := 23) C dX0_resize_18 (by decide) rfl (fun q => absurd q (by decide)) (fun _ => ?_)
      refine v_iload_n C dX0_resize_21 rfl rfl rfl ?_
      exact v_iret C dX0_resize_22 (by rw [hX]; exact fI_of (by simp [hSizA, hSizS, cI, c4, q1]) (by simp [hSizA, hSizS, cI, c4, q1]))
    · refine V.tp hb ?_
      refine v_istore_n (lv' := [(3, .int (-6)), (0, .ref h), (1, .int r), (2, .int v)]) C dX0_resize_16 rfl (Nat.le_of_ble_eq_true rfl) rfl rfl ?_
      refine v_iload_n C dX0_resize_17 rfl rfl rfl ?_
      refine v_if_eq (tgt := 23) C dX0_resize_18 (by decide) rfl (fun q => absurd q (by decide)) (fun _ => ?_)
      refine v_iload_n C dX0_resize_21 rfl rfl rfl ?_
      exact v_iret C dX0_resize_22 (by rw [hX]; exact fI_of (by simp [hSizA, hSizS, cI, c4, q1, q2]) (by simp [hSizA, hSizS, cI, c4, q1, q2]))
    · refine V.tp hb ?_
      refine v_istore_n (lv' := [(3, .int 0), (0, .ref h), (1, .int r), (2, .int v)]) C dX0_resize_16 rfl (Nat.le_of_ble_eq_true rfl) rfl rfl ?_
      refine v_iload_n C dX0_resize_17 rfl rfl rfl ?_
      refine v_if_eq (tgt := 23) C dX0_resize_18 (by decide) rfl (fun _ => ?_) (fun q => absurd q (by decide))
      refine v_iload_n C dX0_resize_23 rfl rfl rfl ?_
      refine v_aload_n C dX0_resize_24 rfl rfl rfl ?_
      refine v_iload_n C dX0_resize_25 rfl rfl rfl ?_
      refine v_callV C hh.l0 hh.s0 rfl (As := [.int r]) (rest := [.int v]) (kX0_bulkIn r h n hh σ hn h7) rfl (Nat.le_of_ble_eq_true rfl) (Nat.le_of_ble_eq_true rfl) ⟨mlX0_81, mfX0_bulkIn⟩ dkX0_bulkIn (Nat.le_of_ble_eq_true rfl) dX0_resize_26 rfl (kI ?_)
      refine v_icmp_ge (tgt := 35) C dX0_resize_29 (by decide) rfl (fun c29 => ?_) (fun c29 => ?_)
      · skip
        refine v_aload_n C dX0_resize_35 rfl rfl rfl ?_
        refine v_getR C hh.l0 hh.s0 rfl hinX0 5 (Nat.le_of_ble_eq_true rfl) lkX0_27 rfl dX0_resize_36 rfl ?_
        refine v_iload_n C dX0_resize_39 rfl rfl rfl ?_
        refine v_iald (i := (tn r)) C hh.l6 hh.s6 (room_nat c4).1 (room_nat c4).2 (by decide) dX0_resize_40 rfl ?_
        refine v_istore (lv' := [(4, .int (σ (h + 6) (tn r))), (3, .int 0), (0, .ref h), (1, .int r), (2, .int v)]) C dX0_resize_41 (Nat.le_of_ble_eq_true rfl) rfl rfl ?_
        refine v_aload_n C dX0_resize_43 rfl rfl rfl ?_
        refine v_getR C hh.l0 hh.s0 rfl hinX0 5 (Nat.le_of_ble_eq_true rfl) lkX0_27 rfl dX0_resize_44 rfl ?_
        refine v_iload_n C dX0_resize_47 rfl rfl rfl ?_
        refine v_iload_n C dX0_resize_48 rfl rfl rfl ?_
        refine v_iast (i := (tn r)) C hh.l6 hh.s6 (room_nat c4).1 (room_nat c4).2 (by decide) dX0_resize_49 rfl ?_
        refine V.nm (fun τ49_1 eτ49_1 => ?_)
        refine v_iload C dX0_resize_50 rfl rfl ?_
        exact v_iret C dX0_resize_52 (by rw [hX]; exact fI_of (by simp [hSizA, hSizS, cI, c4, q1, q2, c29, eτ49_1, s2_get]) (by simp [hSizA, hSizS, cI, c4, q1, q2, c29, eτ49_1]))
      · skip
        refine v_bipush (v := -3) C dX0_resize_32 (by decide) rfl ?_
        exact v_iret C dX0_resize_34 (by rw [hX]; exact fI_of (by simp [hSizA, hSizS, cI, c4, q1, q2, c29]) (by simp [hSizA, hSizS, cI, c4, q1, q2, c29]))
  · skip
    have c4 := bI_0 c4
    refine v_iconst (v := -1) C dX0_resize_7 (by decide) rfl ?_
    exact v_iret C dX0_resize_8 (by rw [hX]; exact fI_of (by simp [hSizA, hSizS, cI, c4]) (by simp [hSizA, hSizS, cI, c4]))
theorem flo_nat {f : Int32} (h : floorP f) : f = nI (tn f) ∧ tn f < 3 := by
  rcases h with rfl | rfl
  · exact ⟨rfl, by decide⟩
  · exact ⟨rfl, by decide⟩
theorem kX0_widen (f v : Int32) (h : Nat) (hh : isH h) (σ : St) : Ct yX0_widen cX0_widen 5 (some .int) 1 [.ref h, .int f, .int v] σ (fI (hWidA σ h f v) (hWidS σ h f v)) := by
  refine ct_of plX0 rfl (Nat.le_of_ble_eq_true rfl) (fun X hX C => ?_)
  show V X 0 [(0, .ref h), (1, .int f), (2, .int v)] [] σ
  refine v_iload_n C dX0_widen_0 rfl rfl rfl ?_
  refine v_callSN C (As := [.int f]) (rest := []) (kX5_hasStairs f σ) rfl (Nat.le_of_ble_eq_true rfl) (Nat.le_of_ble_eq_true rfl) ⟨mlX0_110, mfX5_hasStairs⟩ dkX5_hasStairs (Nat.le_of_ble_eq_true rfl) dX0_widen_1 rfl (kI ?_)
  refine v_if_ne (tgt := 9) C dX0_widen_4 (by decide) rfl (fun c4 => ?_) (fun c4 => ?_)
  · skip
    have c4 := bI_n c4
    refine v_iload_n C dX0_widen_9 rfl rfl rfl ?_
    refine v_iconst (v := 0) C dX0_widen_10 (by decide) rfl ?_
    refine v_bipush (v := 9) C dX0_widen_11 (by decide) rfl ?_
    refine v_callSN C (As := [.int v, .int 0, .int 9]) (rest := []) (kX5_refusalOutside v 0 9 σ) rfl (Nat.le_of_ble_eq_true rfl) (Nat.le_of_ble_eq_true rfl) ⟨mlX0_106, mfX5_refusalOutside⟩ dkX5_refusalOutside (Nat.le_of_ble_eq_true rfl) dX0_widen_13 rfl (kI ?_)
    rcases bnd_cases v 0 9 with ⟨hb, q1⟩ | ⟨hb, q1, q2⟩ | ⟨hb, q1, q2⟩
    · refine V.tp hb ?_
      refine v_istore_n (lv' := [(3, .int (-4)), (0, .ref h), (1, .int f), (2, .int v)]) C dX0_widen_16 rfl (Nat.le_of_ble_eq_true rfl) rfl rfl ?_
      refine v_iload_n C dX0_widen_17 rfl rfl rfl ?_
      refine v_if_eq (tgt := 23) C dX0_widen_18 (by decide) rfl (fun q => absurd q (by decide)) (fun _ => ?_)
      refine v_iload_n C dX0_widen_21 rfl rfl rfl ?_
      exact v_iret C dX0_widen_22 (by rw [hX]; exact fI_of (by simp [hWidA, hWidS, cI, c4, q1]) (by simp [hWidA, hWidS, cI, c4, q1]))
    · refine V.tp hb ?_
      refine v_istore_n (lv' := [(3, .int (-6)), (0, .ref h), (1, .int f), (2, .int v)]) C dX0_widen_16 rfl (Nat.le_of_ble_eq_true rfl) rfl rfl ?_
      refine v_iload_n C dX0_widen_17 rfl rfl rfl ?_
      refine v_if_eq (tgt := 23) C dX0_widen_18 (by decide) rfl (fun q => absurd q (by decide)) (fun _ => ?_)
      refine v_iload_n C dX0_widen_21 rfl rfl rfl ?_
      exact v_iret C dX0_widen_22 (by rw [hX]; exact fI_of (by simp [hWidA, hWidS, cI, c4, q1, q2]) (by simp [hWidA, hWidS, cI, c4, q1, q2]))
    · refine V.tp hb ?_
      refine v_istore_n (lv' := [(3, .int 0), (0, .ref h), (1, .int f), (2, .int v)]) C dX0_widen_16 rfl (Nat.le_of_ble_eq_true rfl) rfl rfl ?_
      refine v_iload_n C dX0_widen_17 rfl rfl rfl ?_
      refine v_if_eq (tgt := 23) C dX0_widen_18 (by decide) rfl (fun _ => ?_) (fun q => absurd q (by decide))
      refine v_aload_n C dX0_widen_23 rfl rfl rfl ?_
      refine v_getR C hh.l0 hh.s0 rfl hinX0 6 (Nat.le_of_ble_eq_true rfl) lkX0_30 rfl dX0_widen_24 rfl ?_
      refine v_iload_n C dX0_widen_27 rfl rfl rfl ?_
      refine v_iald (i := (tn f)) C hh.l7 hh.s7 (flo_nat c4).1 (flo_nat c4).2 (by decide) dX0_widen_28 rfl ?_
      refine v_istore (lv' := [(4, .int (σ (h + 7) (tn f))), (3, .int 0), (0, .ref h), (1, .int f), (2, .int v)]) C dX0_widen_29 (Nat.le_of_ble_eq_true rfl) rfl rfl ?_
      refine v_aload_n C dX0_widen_31 rfl rfl rfl ?_
      refine v_getR C hh.l0 hh.s0 rfl hinX0 6 (Nat.le_of_ble_eq_true rfl) lkX0_30 rfl dX0_widen_32 rfl ?_
      refine v_iload_n C dX0_widen_35 rfl rfl rfl ?_
      refine v_iload_n C dX0_widen_36 rfl rfl rfl ?_
      refine v_iast (i := (tn f)) C hh.l7 hh.s7 (flo_nat c4).1 (flo_nat c4).2 (by decide) dX0_widen_37 rfl ?_
      refine V.nm (fun τ37_1 eτ37_1 => ?_)
      refine v_iload C dX0_widen_38 rfl rfl ?_
      exact v_iret C dX0_widen_40 (by rw [hX]; exact fI_of (by simp [hWidA, hWidS, cI, c4, q1, q2, eτ37_1, s2_get]) (by simp [hWidA, hWidS, cI, c4, q1, q2, eτ37_1]))
  · skip
    have c4 := bI_0 c4
    refine v_iconst (v := -1) C dX0_widen_7 (by decide) rfl ?_
    exact v_iret C dX0_widen_8 (by rw [hX]; exact fI_of (by simp [hWidA, hWidS, cI, c4]) (by simp [hWidA, hWidS, cI, c4]))
theorem kX0_nameHeirs (v : Int32) (h : Nat) (hh : isH h) (σ : St) : Ct yX0_nameHeirs cX0_nameHeirs 4 (some .int) 1 [.ref h, .int v] σ (fI (hHeiA σ h v) (hHeiS σ h v)) := by
  refine ct_of plX0 rfl (Nat.le_of_ble_eq_true rfl) (fun X hX C => ?_)
  show V X 0 [(0, .ref h), (1, .int v)] [] σ
  refine v_iload_n C dX0_nameHeirs_0 rfl rfl rfl ?_
  refine v_iconst (v := 2) C dX0_nameHeirs_1 (by decide) rfl ?_
  refine v_iconst (v := 4) C dX0_nameHeirs_2 (by decide) rfl ?_
  refine v_callSN C (As := [.int v, .int 2, .int 4]) (rest := []) (kX5_refusalOutside v 2 4 σ) rfl (Nat.le_of_ble_eq_true rfl) (Nat.le_of_ble_eq_true rfl) ⟨mlX0_106, mfX5_refusalOutside⟩ dkX5_refusalOutside (Nat.le_of_ble_eq_true rfl) dX0_nameHeirs_3 rfl (kI ?_)
  rcases bnd_cases v 2 4 with ⟨hb, q1⟩ | ⟨hb, q1, q2⟩ | ⟨hb, q1, q2⟩
  · refine V.tp hb ?_
    refine v_istore_n (lv' := [(2, .int (-4)), (0, .ref h), (1, .int v)]) C dX0_nameHeirs_6 rfl (Nat.le_of_ble_eq_true rfl) rfl rfl ?_
    refine v_iload_n C dX0_nameHeirs_7 rfl rfl rfl ?_
    refine v_if_eq (tgt := 13) C dX0_nameHeirs_8 (by decide) rfl (fun q => absurd q (by decide)) (fun _ => ?_)
    refine v_iload_n C dX0_nameHeirs_11 rfl rfl rfl ?_
    exact v_iret C dX0_nameHeirs_12 (by rw [hX]; exact fI_of (by simp [hHeiA, hHeiS, cI, q1]) (by simp [hHeiA, hHeiS, cI, q1]))
  · refine V.tp hb ?_
    refine v_istore_n (lv' := [(2, .int (-6)), (0, .ref h), (1, .int v)]) C dX0_nameHeirs_6 rfl (Nat.le_of_ble_eq_true rfl) rfl rfl ?_
    refine v_iload_n C dX0_nameHeirs_7 rfl rfl rfl ?_
    refine v_if_eq (tgt := 13) C dX0_nameHeirs_8 (by decide) rfl (fun q => absurd q (by decide)) (fun _ => ?_)
    refine v_iload_n C dX0_nameHeirs_11 rfl rfl rfl ?_
    exact v_iret C dX0_nameHeirs_12 (by rw [hX]; exact fI_of (by simp [hHeiA, hHeiS, cI, q1, q2]) (by simp [hHeiA, hHeiS, cI, q1, q2]))
  · refine V.tp hb ?_
    refine v_istore_n (lv' := [(2, .int 0), (0, .ref h), (1, .int v)]) C dX0_nameHeirs_6 rfl (Nat.le_of_ble_eq_true rfl) rfl rfl ?_
    refine v_iload_n C dX0_nameHeirs_7 rfl rfl rfl ?_
    refine v_if_eq (tgt := 13) C dX0_nameHeirs_8 (by decide) rfl (fun _ => ?_) (fun q => absurd q (by decide))
    refine v_aload_n C dX0_nameHeirs_13 rfl rfl rfl ?_
    refine v_getI C hh.l0 hh.s0 rfl hinX0 8 (Nat.le_of_ble_eq_true rfl) lkX0_37 rfl dX0_nameHeirs_14 rfl ?_
    refine v_istore_n (lv' := [(3, .int (σ h 8)), (2, .int 0), (0, .ref h), (1, .int v)]) C dX0_nameHeirs_17 rfl (Nat.le_of_ble_eq_true rfl) rfl rfl ?_
    refine v_aload_n C dX0_nameHeirs_18 rfl rfl rfl ?_
    refine v_iload_n C dX0_nameHeirs_19 rfl rfl rfl ?_
    refine v_put (ty := .int) C hh.l0 hh.s0 rfl hinX0 tyX0_ok nmX0 8 (Nat.le_of_ble_eq_true rfl) lkX0_37 rfl (by decide +kernel) rfl rfl rfl dX0_nameHeirs_20 rfl ?_
    refine V.nm (fun τ20_1 eτ20_1 => ?_)
    refine v_iload_n C dX0_nameHeirs_23 rfl rfl rfl ?_
    exact v_iret C dX0_nameHeirs_24 (by rw [hX]; exact fI_of (by simp [hHeiA, hHeiS, cI, q1, q2, eτ20_1, s2_get]) (by simp [hHeiA, hHeiS, cI, q1, q2, eτ20_1]))
theorem kX0_emptyRooms (h : Nat) (hh : isH h) (σ : St) : Ct yX0_emptyRooms cX0_emptyRooms 1 none 1 [.ref h] σ (fV (setR σ (h + 5) (pre 7 (fun _ => 9) (σ (h + 5))))) := by
  refine ct_of plX0 rfl (Nat.le_of_ble_eq_true rfl) (fun X hX C => ?_)
  show V X 0 [(0, .ref h)] [] σ
  refine v_aload_n C dX0_emptyRooms_0 rfl rfl rfl ?_
  refine v_getR C hh.l0 hh.s0 rfl hinX0 4 (Nat.le_of_ble_eq_true rfl) lkX0_24 rfl dX0_emptyRooms_1 rfl ?_
  refine v_bipush (v := 9) C dX0_emptyRooms_4 (by decide) rfl ?_
  refine v_callS C (As := [.ref (h + 5), .int 9]) (rest := []) (kJ7_fill_53178 (h + 5) 7 9 σ hh.l5 hh.s5 (by decide)) rfl (Nat.le_of_ble_eq_true rfl) (Nat.le_of_ble_eq_true rfl) ⟨mlX0_43, mfJ7_fill_53178⟩ dkJ7_fill_53178 (Nat.le_of_ble_eq_true rfl) dX0_emptyRooms_6 rfl (kV ?_)
  exact v_vret C dX0_emptyRooms_9 (by rw [hX]; exact fV_of rfl)
