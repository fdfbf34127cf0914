/-! the class: wider, bigger, judge -/
theorem carP_cg1 {kd bk pl sz sr kd' bk' pl' sz' sr' : Nat → Int32} {n p : Nat} {r : Int32} (hp : p < n) (hr : placeP r) (h1 : ∀ q, q < n → kd q = kd' q ∧ bk q = bk' q ∧ pl q = pl' q) (h2 : ∀ q, q < 6 → sz q = sz' q) (h3 : ∀ q, q < 3 → sr q = sr' q) (h : carP kd bk pl sz sr n p r) : carP kd' bk' pl' sz' sr' n p r := by
  have hw : widF kd bk p = widF kd' bk' p := by rw [widF, widF, (h1 p hp).1, (h1 p hp).2.1]
  have hb : bulF bk pl n r = bulF bk' pl' n r := sumN_congr (fun q hq => by rw [bulG, bulG, (h1 q hq).2.1, (h1 q hq).2.2])
  refine ⟨by rw [← (h1 p hp).2.2]; exact h.1, ?_⟩
  by_cases e : r = 9
  · exact Or.inl e
  · have z := h.2.resolve_left e
    have hm := room_nat (hr.resolve_right e)
    refine Or.inr ⟨by rw [← h2 _ hm.2, ← hb, ← (h1 p hp).2.1]; exact z.1, fun f f1 f3 q => z.2 f f1 f3 ?_⟩
    unfold blkP at q ⊢
    rw [(h1 p hp).2.2, h3 f f3, hw]; exact q
theorem carP_cg {kd bk pl sz sr kd' bk' pl' sz' sr' : Nat → Int32} {n p : Nat} {r : Int32} (hp : p < n) (hr : placeP r) (h1 : ∀ q, q < n → kd q = kd' q ∧ bk q = bk' q ∧ pl q = pl' q) (h2 : ∀ q, q < 6 → sz q = sz' q) (h3 : ∀ q, q < 3 → sr q = sr' q) : carP kd bk pl sz sr n p r ↔ carP kd' bk' pl' sz' sr' n p r :=
  ⟨carP_cg1 hp hr h1 h2 h3, carP_cg1 hp hr (fun q hq => ⟨(h1 q hq).1.symm, (h1 q hq).2.1.symm, (h1 q hq).2.2.symm⟩) (fun q hq => (h2 q hq).symm) (fun q hq => (h3 q hq).symm)⟩
def wdP (σ : St) (n p : Nat) (r : Int32) (f k : Nat) : Prop := carP (σ (19 + 1)) (σ (19 + 2)) (σ (19 + 5)) (σ (19 + 6)) (upd (σ (19 + 7)) f (nI k)) n p r
def bgP (σ : St) (n p : Nat) (r : Int32) (k : Nat) : Prop := carP (σ (19 + 1)) (σ (19 + 2)) (σ (19 + 5)) (upd (σ (19 + 6)) (tn r) (nI k)) (σ (19 + 7)) n p r
theorem wd_ok {σ υ : St} {n p f k : Nat} {r : Int32} (c : Cop σ 27 19 υ) (h7 : n ≤ 7) (hp : p < n) (hr : placeP r) : carH (s2 υ (27 + 7) f (nI k)) 27 n p r ↔ wdP σ n p r f k := by
  unfold carH wdP
  rw [s2_ne (by decide), s2_ne (by decide), s2_ne (by decide), s2_ne (by decide), s2_eq]
  refine carP_cg hp hr (fun q hq => ⟨c.r1 (by omega), c.r2 (by omega), c.r5 (by omega)⟩) (fun q hq => c.r6 hq) (fun q hq => ?_)
  unfold upd
  split
  · rfl
  · exact c.r7 hq
theorem bg_ok {σ υ : St} {n p k : Nat} {r : Int32} (c : Cop σ 27 19 υ) (h7 : n ≤ 7) (hp : p < n) (hr : placeP r) : carH (s2 υ (27 + 6) (tn r) (nI k)) 27 n p r ↔ bgP σ n p r k := by
  unfold carH bgP
  rw [s2_ne (by decide), s2_ne (by decide), s2_ne (by decide), s2_eq, s2_ne (by decide)]
  refine carP_cg hp hr (fun q hq => ⟨c.r1 (by omega), c.r2 (by omega), c.r5 (by omega)⟩) (fun q hq => ?_) (fun q hq => c.r7 hq)
  unfold upd
  split
  · rfl
  · exact c.r6 hq
noncomputable def wdrH (σ : St) (n : Nat) (f p r : Int32) : Int32 := cI (floorP f ∧ pieceP p (nI n) ∧ placeP r) (fstN (wdP σ n (tn p) r (tn f)) 10) (-1)
noncomputable def bigH (σ : St) (n : Nat) (p r : Int32) : Int32 := cI (pieceP p (nI n) ∧ roomP r) (fstN (bgP σ n (tn p) r) 21) (-1)
def othH (σ : St) (n u : Nat) : Nat → Prop := fun k => ¬ minI (laH σ 19 n k) 99 = σ 46 k
theorem oth_ok {σ υ : St} {n u : Nat} (c : Cop σ 27 19 υ) (h7 : n ≤ 7) : fstN (rwP υ n) u = fstN (othH σ n u) u := by
  have : rwP υ n = othH σ n u := funext (fun k => by rw [rwP, othH, laH_cop c h7, c.2.2 46 (Or.inr (by decide))])
  rw [this]
theorem kX5_wider (f p r : Int32) (n : Nat) (σ : St) (hn : σ 19 7 = nI n) (h7 : n ≤ 7) : Ct yX5_wider cX5_wider 6 (some .int) 4 [.ref 18, .int f, .int p, .int r] σ (rI (fun z τ => z = wdrH σ n f p r ∧ ((¬ (floorP f ∧ pieceP p (nI n) ∧ placeP r) ∧ τ = ansS σ (-1)) ∨ ((floorP f ∧ pieceP p (nI n) ∧ placeP r) ∧ Thk σ τ)))) := by
  refine ct_of plX5 rfl (Nat.le_of_ble_eq_true rfl) (fun X hX C => ?_)
  show V X 0 [(0, .ref 18), (1, .int f), (2, .int p), (3, .int r)] [] σ
  refine v_iload_n C dX5_wider_0 rfl rfl rfl ?_
  refine v_callS C (As := [.int f]) (rest := []) (kX5_hasStairs f σ) rfl (Nat.le_of_ble_eq_true rfl) (Nat.le_of_ble_eq_true rfl) ⟨mlX5_192, mfX5_hasStairs⟩ dkX5_hasStairs (Nat.le_of_ble_eq_true rfl) dX5_wider_1 rfl (kI ?_)
  refine v_if_eq (tgt := 25) C dX5_wider_4 (by decide) rfl (fun c4 => ?_) (fun c4 => ?_)
  · skip
    have c4 := bI_0 c4
    refine v_aload_n C dX5_wider_25 rfl rfl rfl ?_
    refine v_iconst (v := -1) C dX5_wider_26 (by decide) rfl ?_
    refine v_callV C (Nat.le_of_ble_eq_true rfl) rfl rfl (As := [.int (-1)]) (rest := []) (kX5_answer (-1) σ) rfl (Nat.le_of_ble_eq_true rfl) (Nat.le_of_ble_eq_true rfl) ⟨mlX5_64, mfX5_answer⟩ dkX5_answer (Nat.le_of_ble_eq_true rfl) dX5_wider_27 rfl (kI ?_)
    exact v_iret C dX5_wider_30 (by rw [hX]; exact ⟨_, rfl, by rw [wdrH, cI_f (fun z => c4 z.1)], Or.inl ⟨fun z => c4 z.1, rfl⟩⟩)
  · skip
    have c4 := bI_n c4
    refine v_aload_n C dX5_wider_7 rfl rfl rfl ?_
    refine v_getR C (Nat.le_of_ble_eq_true rfl) rfl rfl hinX5 0 (Nat.le_of_ble_eq_true rfl) lkX5_10 rfl dX5_wider_8 rfl ?_
    refine v_iload_n C dX5_wider_11 rfl rfl rfl ?_
    refine v_callVN C hh19.l0 hh19.s0 rfl (As := [.int p]) (rest := []) (kX0_hasPiece p 19 n hh19 σ hn h7) rfl (Nat.le_of_ble_eq_true rfl) (Nat.le_of_ble_eq_true rfl) ⟨mlX5_87, mfX0_hasPiece⟩ dkX0_hasPiece (Nat.le_of_ble_eq_true rfl) dX5_wider_12 rfl (kI ?_)
    refine v_if_eq (tgt := 25) C dX5_wider_15 (by decide) rfl (fun c15 => ?_) (fun c15 => ?_)
    · skip
      have c15 := bI_0 c15
      refine v_aload_n C dX5_wider_25 rfl rfl rfl ?_
      refine v_iconst (v := -1) C dX5_wider_26 (by decide) rfl ?_
      refine v_callV C (Nat.le_of_ble_eq_true rfl) rfl rfl (As := [.int (-1)]) (rest := []) (kX5_answer (-1) σ) rfl (Nat.le_of_ble_eq_true rfl) (Nat.le_of_ble_eq_true rfl) ⟨mlX5_64, mfX5_answer⟩ dkX5_answer (Nat.le_of_ble_eq_true rfl) dX5_wider_27 rfl (kI ?_)
      exact v_iret C dX5_wider_30 (by rw [hX]; exact ⟨_, rfl, by rw [wdrH, cI_f (fun z => c15 z.2.1)], Or.inl ⟨fun z => c15 z.2.1, rfl⟩⟩)
    · skip
      have c15 := bI_n c15
      refine v_iload_n C dX5_wider_18 rfl rfl rfl ?_
      refine v_callS C (As := [.int r]) (rest := []) (kX5_isPlace r σ) rfl (Nat.le_of_ble_eq_true rfl) (Nat.le_of_ble_eq_true rfl) ⟨mlX5_91, mfX5_isPlace⟩ dkX5_isPlace (Nat.le_of_ble_eq_true rfl) dX5_wider_19 rfl (kI ?_)
      refine v_if_ne (tgt := 31) C dX5_wider_22 (by decide) rfl (fun c22 => ?_) (fun c22 => ?_)
      · skip
        have c22 := bI_n c22
        have hp1 : p = nI (tn p) := (piece_nat h7 c15).1
        have hp2 : tn p < n := (piece_nat h7 c15).2
        have hr : placeP r := c22
        refine v_aload_n C dX5_wider_31 rfl rfl rfl ?_
        refine v_callV C (Nat.le_of_ble_eq_true rfl) rfl rfl (As := []) (rest := []) (kX5_thoughtOfNow σ) rfl (Nat.le_of_ble_eq_true rfl) (Nat.le_of_ble_eq_true rfl) ⟨mlX5_67, mfX5_thoughtOfNow⟩ dkX5_thoughtOfNow (Nat.le_of_ble_eq_true rfl) dX5_wider_32 rfl (krR (fun υ hC => ?_))
        have hnυ : υ 27 7 = nI n := hC.2.1.1.trans hn
        refine v_astore (lv' := [(4, .ref 27), (0, .ref 18), (1, .int f), (2, .int p), (3, .int r)]) C dX5_wider_35 (Nat.le_of_ble_eq_true rfl) rfl rfl ?_
        refine v_iconst (v := 0) C dX5_wider_37 (by decide) rfl ?_
        refine v_istore (lv' := [(5, .int 0), (4, .ref 27), (0, .ref 18), (1, .int f), (2, .int p), (3, .int r)]) C dX5_wider_38 (Nat.le_of_ble_eq_true rfl) rfl rfl ?_
        have lp40 : ∀ (kf i : Nat)  (τ : St), 10 < i + kf → i ≤ 10 → (∃ x, τ = s2 υ (27 + 7) (tn f) x) → (∀ j, j < i → ¬ wdP σ n (tn p) r (tn f) j) → V X 40 [(5, .int (nI i)), (4, .ref 27), (0, .ref 18), (1, .int f), (2, .int p), (3, .int r)] [] τ := by
          intro kf
          induction kf with
          | zero => intro i  τ h1 h2; omega
          | succ kf ih40 =>
            intro i  τ h1 h2  eτ hal
            have hTτ : Thk σ τ := fun a ha => by obtain ⟨x, ex⟩ := eτ; rw [ex, s2_ne (by omega)]; exact hC.thk a ha
            refine v_iload C dX5_wider_40 rfl rfl ?_
            refine v_bipush (v := 9) C dX5_wider_42 (by decide) rfl ?_
            refine v_icmp_gt (tgt := 75) C dX5_wider_44 (by decide) rfl (fun c44 => ?_) (fun c44 => ?_)
            · skip
              have c44 := (nI_ltI (a := 9) (b := i) (by omega) (by omega)).mp c44
              refine v_bipush (v := -9) C dX5_wider_75 (by decide) rfl ?_
              exact v_iret C dX5_wider_77 (by rw [hX]; exact ⟨_, rfl, by rw [wdrH, cI_t ⟨c4, c15, c22⟩]; exact fst_none (fun j hj => hal j (by omega)), Or.inr ⟨⟨c4, c15, c22⟩, hTτ⟩⟩)
            · skip
              have c44 := mt (nI_ltI (a := 9) (b := i) (by omega) (by omega)).mpr c44
              refine v_aload C dX5_wider_47 rfl rfl ?_
              refine v_getNR C hh27.l0 hh27.s0 rfl hinX0 6 (Nat.le_of_ble_eq_true rfl) lkX5_195 rfl dX5_wider_49 rfl ?_
              refine v_iload_n C dX5_wider_52 rfl rfl rfl ?_
              refine v_iload C dX5_wider_53 rfl rfl ?_
              refine v_iast (i := (tn f)) C hh27.l7 hh27.s7 (flo_nat c4).1 (flo_nat c4).2 (by decide) dX5_wider_55 rfl ?_
              refine V.nm (fun τ55_1 eτ55_1 => ?_)
              have eω : τ55_1 = s2 υ (27 + 7) (tn f) (nI i) := by obtain ⟨x, ex⟩ := eτ; rw [eτ55_1, ex, s2_s2]
              have hnω : τ55_1 27 7 = nI n := by rw [eω, s2_ne (by decide)]; exact hnυ
              have hT : Thk σ τ55_1 := fun a ha => by rw [eω, s2_ne (by omega)]; exact hC.thk a ha
              refine v_aload C dX5_wider_56 rfl rfl ?_
              refine v_iload_n C dX5_wider_58 rfl rfl rfl ?_
              refine V.tp hp1 ?_
              refine v_iload_n C dX5_wider_59 rfl rfl rfl ?_
              refine v_callVN C hh27.l0 hh27.s0 rfl (As := [.int (nI (tn p)), .int r]) (rest := []) (kX0_canBeCarried (tn p) r 27 n hh27 τ55_1 hnω h7 (by omega) hr) rfl (Nat.le_of_ble_eq_true rfl) (Nat.le_of_ble_eq_true rfl) ⟨mlX5_94, mfX0_canBeCarried⟩ dkX0_canBeCarried (Nat.le_of_ble_eq_true rfl) dX5_wider_60 rfl (kI ?_)
              refine V.tp (show bI (carH τ55_1 27 n (tn p) r) = bI (wdP σ n (tn p) r (tn f) i) from by rw [eω]; exact congrArg bI (propext (wd_ok hC h7 hp2 hr))) ?_
              refine v_if_eq (tgt := 69) C dX5_wider_63 (by decide) rfl (fun c63 => ?_) (fun c63 => ?_)
              · skip
                have c63 := bI_0 c63
                refine v_iinc (lv' := [(5, .int (nI (i + 1))), (4, .ref 27), (0, .ref 18), (1, .int f), (2, .int p), (3, .int r)]) C dX5_wider_69 rfl (nI_inc i) (Nat.le_of_ble_eq_true rfl) rfl rfl ?_
                refine v_goto (tgt := 40) C dX5_wider_72 (by decide) ?_
                exact V.sub [0, 1, 2, 3, 4, 5] rfl (ih40 (i + 1)  _ (by omega) (by omega)  (⟨_, eω⟩) (fun j hj => (Nat.lt_succ_iff_lt_or_eq.mp hj).elim (hal j) (fun q => by rw [q]; exact c63)))
              · skip
                have c63 := bI_n c63
                refine v_iload C dX5_wider_66 rfl rfl ?_
                exact v_iret C dX5_wider_68 (by rw [hX]; exact ⟨_, rfl, by rw [wdrH, cI_t ⟨c4, c15, c22⟩]; exact fst_some hal c63 (by omega), Or.inr ⟨⟨c4, c15, c22⟩, hT⟩⟩)
        exact V.sub [0, 1, 2, 3, 4, 5] rfl (lp40 (10 + 1) 0  _ (by omega) (by omega)  (⟨υ (27 + 7) (tn f), (s2_self _ _ _).symm⟩) (fun j hj => absurd hj (Nat.not_lt_zero j)))
      · skip
        have c22 := bI_0 c22
        refine v_aload_n C dX5_wider_25 rfl rfl rfl ?_
        refine v_iconst (v := -1) C dX5_wider_26 (by decide) rfl ?_
        refine v_callV C (Nat.le_of_ble_eq_true rfl) rfl rfl (As := [.int (-1)]) (rest := []) (kX5_answer (-1) σ) rfl (Nat.le_of_ble_eq_true rfl) (Nat.le_of_ble_eq_true rfl) ⟨mlX5_64, mfX5_answer⟩ dkX5_answer (Nat.le_of_ble_eq_true rfl) dX5_wider_27 rfl (kI ?_)
        exact v_iret C dX5_wider_30 (by rw [hX]; exact ⟨_, rfl, by rw [wdrH, cI_f (fun z => c22 z.2.2)], Or.inl ⟨fun z => c22 z.2.2, rfl⟩⟩)
theorem kX5_bigger (p r : Int32) (n : Nat) (σ : St) (hn : σ 19 7 = nI n) (h7 : n ≤ 7) : Ct yX5_bigger cX5_bigger 5 (some .int) 4 [.ref 18, .int p, .int r] σ (rI (fun z τ => z = bigH σ n p r ∧ ((¬ (pieceP p (nI n) ∧ roomP r) ∧ τ = ansS σ (-1)) ∨ ((pieceP p (nI n) ∧ roomP r) ∧ Thk σ τ)))) := by
  refine ct_of plX5 rfl (Nat.le_of_ble_eq_true rfl) (fun X hX C => ?_)
  show V X 0 [(0, .ref 18), (1, .int p), (2, .int r)] [] σ
  refine v_aload_n C dX5_bigger_0 rfl rfl rfl ?_
  refine v_getR C (Nat.le_of_ble_eq_true rfl) rfl rfl hinX5 0 (Nat.le_of_ble_eq_true rfl) lkX5_10 rfl dX5_bigger_1 rfl ?_
  refine v_iload_n C dX5_bigger_4 rfl rfl rfl ?_
  refine v_callVN C hh19.l0 hh19.s0 rfl (As := [.int p]) (rest := []) (kX0_hasPiece p 19 n hh19 σ hn h7) rfl (Nat.le_of_ble_eq_true rfl) (Nat.le_of_ble_eq_true rfl) ⟨mlX5_87, mfX0_hasPiece⟩ dkX0_hasPiece (Nat.le_of_ble_eq_true rfl) dX5_bigger_5 rfl (kI ?_)
  refine v_if_eq (tgt := 18) C dX5_bigger_8 (by decide) rfl (fun c8 => ?_) (fun c8 => ?_)
  · skip
    have c8 := bI_0 c8
    refine v_aload_n C dX5_bigger_18 rfl rfl rfl ?_
    refine v_iconst (v := -1) C dX5_bigger_19 (by decide) rfl ?_
    refine v_callV C (Nat.le_of_ble_eq_true rfl) rfl rfl (As := [.int (-1)]) (rest := []) (kX5_answer (-1) σ) rfl (Nat.le_of_ble_eq_true rfl) (Nat.le_of_ble_eq_true rfl) ⟨mlX5_64, mfX5_answer⟩ dkX5_answer (Nat.le_of_ble_eq_true rfl) dX5_bigger_20 rfl (kI ?_)
    exact v_iret C dX5_bigger_23 (by rw [hX]; exact ⟨_, rfl, by rw [bigH, cI_f (fun z => c8 z.1)], Or.inl ⟨fun z => c8 z.1, rfl⟩⟩)
  · skip
    have c8 := bI_n c8
    refine v_iload_n C dX5_bigger_11 rfl rfl rfl ?_
    refine v_callS C (As := [.int r]) (rest := []) (kX5_isRoom r σ) rfl (Nat.le_of_ble_eq_true rfl) (Nat.le_of_ble_eq_true rfl) ⟨mlX5_198, mfX5_isRoom⟩ dkX5_isRoom (Nat.le_of_ble_eq_true rfl) dX5_bigger_12 rfl (kI ?_)
    refine v_if_ne (tgt := 24) C dX5_bigger_15 (by decide) rfl (fun c15 => ?_) (fun c15 => ?_)
    · skip
      have c15 := bI_n c15
      have hp1 : p = nI (tn p) := (piece_nat h7 c8).1
      have hp2 : tn p < n := (piece_nat h7 c8).2
      have hr : placeP r := Or.inl c15
      refine v_aload_n C dX5_bigger_24 rfl rfl rfl ?_
      refine v_callV C (Nat.le_of_ble_eq_true rfl) rfl rfl (As := []) (rest := []) (kX5_thoughtOfNow σ) rfl (Nat.le_of_ble_eq_true rfl) (Nat.le_of_ble_eq_true rfl) ⟨mlX5_67, mfX5_thoughtOfNow⟩ dkX5_thoughtOfNow (Nat.le_of_ble_eq_true rfl) dX5_bigger_25 rfl (krR (fun υ hC => ?_))
      have hnυ : υ 27 7 = nI n := hC.2.1.1.trans hn
      refine v_astore_n (lv' := [(3, .ref 27), (0, .ref 18), (1, .int p), (2, .int r)]) C dX5_bigger_28 rfl (Nat.le_of_ble_eq_true rfl) rfl rfl ?_
      refine v_iconst (v := 0) C dX5_bigger_29 (by decide) rfl ?_
      refine v_istore (lv' := [(4, .int 0), (3, .ref 27), (0, .ref 18), (1, .int p), (2, .int r)]) C dX5_bigger_30 (Nat.le_of_ble_eq_true rfl) rfl rfl ?_
      have lp32 : ∀ (kf i : Nat)  (τ : St), 21 < i + kf → i ≤ 21 → (∃ x, τ = s2 υ (27 + 6) (tn r) x) → (∀ j, j < i → ¬ bgP σ n (tn p) r j) → V X 32 [(4, .int (nI i)), (3, .ref 27), (0, .ref 18), (1, .int p), (2, .int r)] [] τ := by
        intro kf
        induction kf with
        | zero => intro i  τ h1 h2; omega
        | succ kf ih32 =>
          intro i  τ h1 h2  eτ hal
          have hTτ : Thk σ τ := fun a ha => by obtain ⟨x, ex⟩ := eτ; rw [ex, s2_ne (by omega)]; exact hC.thk a ha
          refine v_iload C dX5_bigger_32 rfl rfl ?_
          refine v_bipush (v := 20) C dX5_bigger_34 (by decide) rfl ?_
          refine v_icmp_gt (tgt := 65) C dX5_bigger_36 (by decide) rfl (fun c36 => ?_) (fun c36 => ?_)
          · skip
            have c36 := (nI_ltI (a := 20) (b := i) (by omega) (by omega)).mp c36
            refine v_bipush (v := -9) C dX5_bigger_65 (by decide) rfl ?_
            exact v_iret C dX5_bigger_67 (by rw [hX]; exact ⟨_, rfl, by rw [bigH, cI_t ⟨c8, c15⟩]; exact fst_none (fun j hj => hal j (by omega)), Or.inr ⟨⟨c8, c15⟩, hTτ⟩⟩)
          · skip
            have c36 := mt (nI_ltI (a := 20) (b := i) (by omega) (by omega)).mpr c36
            refine v_aload_n C dX5_bigger_39 rfl rfl rfl ?_
            refine v_getNR C hh27.l0 hh27.s0 rfl hinX0 5 (Nat.le_of_ble_eq_true rfl) lkX5_201 rfl dX5_bigger_40 rfl ?_
            refine v_iload_n C dX5_bigger_43 rfl rfl rfl ?_
            refine v_iload C dX5_bigger_44 rfl rfl ?_
            refine v_iast (i := (tn r)) C hh27.l6 hh27.s6 (room_nat c15).1 (room_nat c15).2 (by decide) dX5_bigger_46 rfl ?_
            refine V.nm (fun τ46_1 eτ46_1 => ?_)
            have eω : τ46_1 = s2 υ (27 + 6) (tn r) (nI i) := by obtain ⟨x, ex⟩ := eτ; rw [eτ46_1, ex, s2_s2]
            have hnω : τ46_1 27 7 = nI n := by rw [eω, s2_ne (by decide)]; exact hnυ
            have hT : Thk σ τ46_1 := fun a ha => by rw [eω, s2_ne (by omega)]; exact hC.thk a ha
            refine v_aload_n C dX5_bigger_47 rfl rfl rfl ?_
            refine v_iload_n C dX5_bigger_48 rfl rfl rfl ?_
            refine V.tp hp1 ?_
            refine v_iload_n C dX5_bigger_49 rfl rfl rfl ?_
            refine v_callVN C hh27.l0 hh27.s0 rfl (As := [.int (nI (tn p)), .int r]) (rest := []) (kX0_canBeCarried (tn p) r 27 n hh27 τ46_1 hnω h7 (by omega) hr) rfl (Nat.le_of_ble_eq_true rfl) (Nat.le_of_ble_eq_true rfl) ⟨mlX5_94, mfX0_canBeCarried⟩ dkX0_canBeCarried (Nat.le_of_ble_eq_true rfl) dX5_bigger_50 rfl (kI ?_)
            refine V.tp (show bI (carH τ46_1 27 n (tn p) r) = bI (bgP σ n (tn p) r i) from by rw [eω]; exact congrArg bI (propext (bg_ok hC h7 hp2 hr))) ?_
            refine v_if_eq (tgt := 59) C dX5_bigger_53 (by decide) rfl (fun c53 => ?_) (fun c53 => ?_)
            · skip
              have c53 := bI_0 c53
              refine v_iinc (lv' := [(4, .int (nI (i + 1))), (3, .ref 27), (0, .ref 18), (1, .int p), (2, .int r)]) C dX5_bigger_59 rfl (nI_inc i) (Nat.le_of_ble_eq_true rfl) rfl rfl ?_
              refine v_goto (tgt := 32) C dX5_bigger_62 (by decide) ?_
              exact V.sub [0, 1, 2, 3, 4] rfl (ih32 (i + 1)  _ (by omega) (by omega)  (⟨_, eω⟩) (fun j hj => (Nat.lt_succ_iff_lt_or_eq.mp hj).elim (hal j) (fun q => by rw [q]; exact c53)))
            · skip
              have c53 := bI_n c53
              refine v_iload C dX5_bigger_56 rfl rfl ?_
              exact v_iret C dX5_bigger_58 (by rw [hX]; exact ⟨_, rfl, by rw [bigH, cI_t ⟨c8, c15⟩]; exact fst_some hal c53 (by omega), Or.inr ⟨⟨c8, c15⟩, hT⟩⟩)
      exact V.sub [0, 1, 2, 3, 4] rfl (lp32 (21 + 1) 0  _ (by omega) (by omega)  (⟨υ (27 + 6) (tn r), (s2_self _ _ _).symm⟩) (fun j hj => absurd hj (Nat.not_lt_zero j)))
    · skip
      have c15 := bI_0 c15
      refine v_aload_n C dX5_bigger_18 rfl rfl rfl ?_
      refine v_iconst (v := -1) C dX5_bigger_19 (by decide) rfl ?_
      refine v_callV C (Nat.le_of_ble_eq_true rfl) rfl rfl (As := [.int (-1)]) (rest := []) (kX5_answer (-1) σ) rfl (Nat.le_of_ble_eq_true rfl) (Nat.le_of_ble_eq_true rfl) ⟨mlX5_64, mfX5_answer⟩ dkX5_answer (Nat.le_of_ble_eq_true rfl) dX5_bigger_20 rfl (kI ?_)
      exact v_iret C dX5_bigger_23 (by rw [hX]; exact ⟨_, rfl, by rw [bigH, cI_f (fun z => c15 z.2)], Or.inl ⟨fun z => c15 z.2, rfl⟩⟩)
theorem kX5_judge (u : Nat) (n : Nat) (σ : St) (hn : σ 19 7 = nI n) (h7 : n ≤ 7) (hu : σ 45 1 = nI u) (h12 : u ≤ 12) : Ct yX5_judge cX5_judge 2 (some .int) 5 [.ref 18] σ (rI (fun z τ => z = fstN (othH σ n u) u ∧ ∃ υ, Thk σ υ ∧ τ = s2 υ 45 1 0)) := by
  refine ct_of plX5 rfl (Nat.le_of_ble_eq_true rfl) (fun X hX C => ?_)
  show V X 0 [(0, .ref 18)] [] σ
  refine v_aload_n C dX5_judge_0 rfl rfl rfl ?_
  refine v_getR C (Nat.le_of_ble_eq_true rfl) rfl rfl hinX5 5 (Nat.le_of_ble_eq_true rfl) lkX5_36 rfl dX5_judge_1 rfl ?_
  refine v_aload_n C dX5_judge_4 rfl rfl rfl ?_
  refine v_callV C (Nat.le_of_ble_eq_true rfl) rfl rfl (As := []) (rest := [.ref 45]) (kX5_thoughtOfNow σ) rfl (Nat.le_of_ble_eq_true rfl) (Nat.le_of_ble_eq_true rfl) ⟨mlX5_67, mfX5_thoughtOfNow⟩ dkX5_thoughtOfNow (Nat.le_of_ble_eq_true rfl) dX5_judge_5 rfl (krR (fun υ hC => ?_))
  have hnυ : υ 27 7 = nI n := hC.2.1.1.trans hn
  refine v_callVN C (Nat.le_of_ble_eq_true rfl) rfl rfl (As := [.ref 27]) (rest := []) (kX2_firstWrong n u υ hnυ h7 ((congrFun (hC.2.2 45 (Or.inr (by decide))) 1).trans hu) h12) rfl (Nat.le_of_ble_eq_true rfl) (Nat.le_of_ble_eq_true rfl) ⟨mlX5_214, mfX2_firstWrong⟩ dkX2_firstWrong (Nat.le_of_ble_eq_true rfl) dX5_judge_8 rfl (krI (fun r ω hω => ?_))
  have hr : r = fstN (othH σ n u) u := hω.1.trans (oth_ok hC h7)
  have hT : Thk σ ω := by obtain ⟨k, e⟩ := hω.2; rw [e]; exact thk_yrs hC
  refine v_istore_n (lv' := [(1, .int r), (0, .ref 18)]) C dX5_judge_11 rfl (Nat.le_of_ble_eq_true rfl) rfl rfl ?_
  refine v_aload_n C dX5_judge_12 rfl rfl rfl ?_
  refine v_getR C (Nat.le_of_ble_eq_true rfl) rfl rfl hinX5 5 (Nat.le_of_ble_eq_true rfl) lkX5_36 rfl dX5_judge_13 rfl ?_
  refine v_callVN C (Nat.le_of_ble_eq_true rfl) rfl rfl (As := []) (rest := []) (kX2_clear ω) rfl (Nat.le_of_ble_eq_true rfl) (Nat.le_of_ble_eq_true rfl) ⟨mlX5_217, mfX2_clear⟩ dkX2_clear (Nat.le_of_ble_eq_true rfl) dX5_judge_16 rfl (kV ?_)
  refine v_iload_n C dX5_judge_19 rfl rfl rfl ?_
  exact v_iret C dX5_judge_20 (by rw [hX]; exact ⟨_, rfl, hr, ω, hT, rfl⟩)
