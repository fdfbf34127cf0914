/-! the class: heavier, whose, ask -/
theorem bwf_thk {σ τ : St} (h : Thk σ τ) (n p : Nat) (f : Int32) : bwfH τ n p f = bwfH σ n p f := by
  rw [bwfH, bwfH, h (19 + 1) (Or.inl (by decide)), h (19 + 3) (Or.inl (by decide)), h (19 + 4) (Or.inl (by decide)), h (19 + 5) (Or.inl (by decide))]
def heaH (σ : St) (n : Nat) : Nat → Int32 × Int32
  | 0 => (-9, -9)
  | i + 1 => if σ (19 + 3) i < 9 then (if (heaH σ n i).2 < bwfH σ n i (σ (19 + 3) i + 1) then (nI i, bwfH σ n i (σ (19 + 3) i + 1)) else heaH σ n i) else heaH σ n i
def mkG (σ : St) (n p : Nat) (v : Int32) (f : Nat) : Prop := ¬ nI f = σ (19 + 3) p ∧ bwfH σ n p (nI f) = v
def mkH (σ : St) (n p : Nat) (v : Int32) : Prop := ∃ f, f < 10 ∧ mkG σ n p v f
noncomputable def whgH (σ : St) (n : Nat) (v : Int32) (p : Nat) : Int32 := cI (mkH σ n p v) ((1 : Int32) <<< (nI p &&& 31)) 0
noncomputable def whsH (σ : St) (n : Nat) (v : Int32) : Int32 := if v < 0 then -4 else if 999 < v then -6 else orN (whgH σ n v) n
def lesG (σ : St) (n p : Nat) (v : Int32) (f : Nat) : Int32 := if bwfH σ n p (nI f) < v then 1 else 0
def lesH (σ : St) (n : Nat) (v : Int32) (p : Nat) : Int32 := minI (sumN (lesG σ n p v) 10) (10 - sumN (lesG σ n p v) 10)
def askN (σ : St) (n : Nat) (v : Int32) : Nat → Int32 × Int32
  | 0 => (-9, -9)
  | i + 1 => if (askN σ n v i).2 < lesH σ n v i then (nI i, lesH σ n v i) else askN σ n v i
def askH (σ : St) (n : Nat) (v : Int32) : Int32 := if v < 0 then -4 else if 999 < v then -6 else (askN σ n v n).1
theorem kX5_heavier (n : Nat) (σ : St) (hn : σ 19 7 = nI n) (h7 : n ≤ 7) : Ct yX5_heavier cX5_heavier 5 (some .int) 5 [.ref 18] σ (rI (fun r τ => r = (heaH σ n n).1 ∧ Thk σ τ)) := by
  refine ct_of plX5 rfl (Nat.le_of_ble_eq_true rfl) (fun X hX C => ?_)
  show V X 0 [(0, .ref 18)] [] σ
  refine v_bipush (v := -9) C dX5_heavier_0 (by decide) rfl ?_
  refine v_istore_n (lv' := [(1, .int (-9)), (0, .ref 18)]) C dX5_heavier_2 rfl (Nat.le_of_ble_eq_true rfl) rfl rfl ?_
  refine v_bipush (v := -9) C dX5_heavier_3 (by decide) rfl ?_
  refine v_istore_n (lv' := [(2, .int (-9)), (1, .int (-9)), (0, .ref 18)]) C dX5_heavier_5 rfl (Nat.le_of_ble_eq_true rfl) rfl rfl ?_
  refine v_iconst (v := 0) C dX5_heavier_6 (by decide) rfl ?_
  refine v_istore_n (lv' := [(3, .int 0), (2, .int (-9)), (1, .int (-9)), (0, .ref 18)]) C dX5_heavier_7 rfl (Nat.le_of_ble_eq_true rfl) rfl rfl ?_
  have lp8 : ∀ (kf i : Nat) (x1 : Int32) (x2 : Int32) (τ : St), n < i + kf → i ≤ n → x1 = (heaH σ n i).1 → x2 = (heaH σ n i).2 → Thk σ τ → V X 8 [(3, .int (nI i)), (2, .int x2), (1, .int x1), (0, .ref 18)] [] τ := by
    intro kf
    induction kf with
    | zero => intro i x1 x2 τ h1 h2; omega
    | succ kf ih8 =>
      intro i x1 x2 τ h1 h2 ex1 ex2 eτ
      have hnτ : τ 19 7 = nI n := by rw [eτ 19 (Or.inl (by decide))]; exact hn
      have hfτ : τ (19 + 3) i = σ (19 + 3) i := by rw [eτ (19 + 3) (Or.inl (by decide))]
      refine v_iload_n C dX5_heavier_8 rfl rfl rfl ?_
      refine v_aload_n C dX5_heavier_9 rfl rfl rfl ?_
      refine v_getR C (Nat.le_of_ble_eq_true rfl) rfl rfl hinX5 0 (Nat.le_of_ble_eq_true rfl) lkX5_10 rfl dX5_heavier_10 rfl ?_
      refine v_getNI C hh19.l0 hh19.s0 rfl hinX0 7 (Nat.le_of_ble_eq_true rfl) lkX5_126 rfl dX5_heavier_13 rfl ?_
      refine V.tp hnτ ?_
      refine v_icmp_ge (tgt := 68) C dX5_heavier_16 (by decide) rfl (fun c16 => ?_) (fun c16 => ?_)
      · skip
        have c16 := mt (nI_ltI (a := i) (b := n) (by omega) (by omega)).mpr c16
        refine v_iload_n C dX5_heavier_68 rfl rfl rfl ?_
        exact v_iret C dX5_heavier_69 (by rw [hX]; exact ⟨_, rfl, by rw [ex1, show i = n from by omega], eτ⟩)
      · skip
        have c16 := (nI_ltI (a := i) (b := n) (by omega) (by omega)).mp c16
        refine v_aload_n C dX5_heavier_19 rfl rfl rfl ?_
        refine v_getR C (Nat.le_of_ble_eq_true rfl) rfl rfl hinX5 0 (Nat.le_of_ble_eq_true rfl) lkX5_10 rfl dX5_heavier_20 rfl ?_
        refine v_getNR C hh19.l0 hh19.s0 rfl hinX0 2 (Nat.le_of_ble_eq_true rfl) lkX5_173 rfl dX5_heavier_23 rfl ?_
        refine v_iload_n C dX5_heavier_26 rfl rfl rfl ?_
        refine v_iald (i := i) C hh19.l3 hh19.s3 rfl (by omega) (by decide) dX5_heavier_27 rfl ?_
        refine V.tp hfτ ?_
        refine v_bipush (v := 9) C dX5_heavier_28 (by decide) rfl ?_
        refine v_icmp_ge (tgt := 62) C dX5_heavier_30 (by decide) rfl (fun c30 => ?_) (fun c30 => ?_)
        · skip
          refine v_iinc (lv' := [(3, .int (nI (i + 1))), (2, .int x2), (1, .int x1), (0, .ref 18)]) C dX5_heavier_62 rfl (nI_inc i) (Nat.le_of_ble_eq_true rfl) rfl rfl ?_
          refine v_goto (tgt := 8) C dX5_heavier_65 (by decide) ?_
          exact V.sub [0, 1, 2, 3] rfl (ih8 (i + 1) _ _ _ (by omega) (by omega) (by rw [heaH, if_neg c30]; exact ex1) (by rw [heaH, if_neg c30]; exact ex2) (eτ))
        · skip
          refine v_aload_n C dX5_heavier_33 rfl rfl rfl ?_
          refine v_iload_n C dX5_heavier_34 rfl rfl rfl ?_
          refine v_aload_n C dX5_heavier_35 rfl rfl rfl ?_
          refine v_getR C (Nat.le_of_ble_eq_true rfl) rfl rfl hinX5 0 (Nat.le_of_ble_eq_true rfl) lkX5_10 rfl dX5_heavier_36 rfl ?_
          refine v_getNR C hh19.l0 hh19.s0 rfl hinX0 2 (Nat.le_of_ble_eq_true rfl) lkX5_173 rfl dX5_heavier_39 rfl ?_
          refine v_iload_n C dX5_heavier_42 rfl rfl rfl ?_
          refine v_iald (i := i) C hh19.l3 hh19.s3 rfl (by omega) (by decide) dX5_heavier_43 rfl ?_
          refine V.tp hfτ ?_
          refine v_iconst (v := 1) C dX5_heavier_44 (by decide) rfl ?_
          refine v_iadd C dX5_heavier_45 rfl ?_
          refine v_callV C (Nat.le_of_ble_eq_true rfl) rfl rfl (As := [.int (nI i), .int ((σ (19 + 3) i) + 1)]) (rest := []) (kX5_blameWithFault i ((σ (19 + 3) i) + 1) n τ hnτ h7 (by omega)) rfl (Nat.le_of_ble_eq_true rfl) (Nat.le_of_ble_eq_true rfl) ⟨mlX5_176, mfX5_blameWithFault⟩ dkX5_blameWithFault (Nat.le_of_ble_eq_true rfl) dX5_heavier_46 rfl (krI (fun r49_1 τ49_1 h49_1 => ?_))
          have hr : r49_1 = bwfH σ n i ((σ (19 + 3) i) + 1) := h49_1.1.trans (bwf_thk eτ n i ((σ (19 + 3) i) + 1))
          have hT : Thk σ τ49_1 := eτ.tr h49_1.2
          refine v_istore (lv' := [(4, .int r49_1), (3, .int (nI i)), (2, .int x2), (1, .int x1), (0, .ref 18)]) C dX5_heavier_49 (Nat.le_of_ble_eq_true rfl) rfl rfl ?_
          refine v_iload C dX5_heavier_51 rfl rfl ?_
          refine v_iload_n C dX5_heavier_53 rfl rfl rfl ?_
          refine v_icmp_le (tgt := 62) C dX5_heavier_54 (by decide) rfl (fun c54 => ?_) (fun c54 => ?_)
          · skip
            refine v_iinc (lv' := [(3, .int (nI (i + 1))), (4, .int r49_1), (2, .int x2), (1, .int x1), (0, .ref 18)]) C dX5_heavier_62 rfl (nI_inc i) (Nat.le_of_ble_eq_true rfl) rfl rfl ?_
            refine v_goto (tgt := 8) C dX5_heavier_65 (by decide) ?_
            exact V.sub [0, 2, 3, 4] rfl (ih8 (i + 1) _ _ _ (by omega) (by omega) (by rw [heaH, if_pos c30, if_neg (by rw [← ex2, ← hr]; exact c54)]; exact ex1) (by rw [heaH, if_pos c30, if_neg (by rw [← ex2, ← hr]; exact c54)]; exact ex2) (hT))
          · skip
            refine v_iload_n C dX5_heavier_57 rfl rfl rfl ?_
            refine v_istore_n (lv' := [(1, .int (nI i)), (4, .int r49_1), (3, .int (nI i)), (2, .int x2), (0, .ref 18)]) C dX5_heavier_58 rfl (Nat.le_of_ble_eq_true rfl) rfl rfl ?_
            refine v_iload C dX5_heavier_59 rfl rfl ?_
            refine v_istore_n (lv' := [(2, .int r49_1), (1, .int (nI i)), (4, .int r49_1), (3, .int (nI i)), (0, .ref 18)]) C dX5_heavier_61 rfl (Nat.le_of_ble_eq_true rfl) rfl rfl ?_
            refine v_iinc (lv' := [(3, .int (nI (i + 1))), (2, .int r49_1), (1, .int (nI i)), (4, .int r49_1), (0, .ref 18)]) C dX5_heavier_62 rfl (nI_inc i) (Nat.le_of_ble_eq_true rfl) rfl rfl ?_
            refine v_goto (tgt := 8) C dX5_heavier_65 (by decide) ?_
            exact V.sub [0, 1, 2, 4] rfl (ih8 (i + 1) _ _ _ (by omega) (by omega) (by rw [heaH, if_pos c30, if_pos (by rw [← ex2, ← hr]; exact c54)]) (by rw [heaH, if_pos c30, if_pos (by rw [← ex2, ← hr]; exact c54)]; exact hr) (hT))
  exact V.sub [0, 1, 2, 3] rfl (lp8 (n + 1) 0 _ _ _ (by omega) (by omega) (rfl) (rfl) (Thk.rf σ))
theorem kX5_anotherFaultMakes (p : Nat) (v : Int32) (n : Nat) (σ : St) (hn : σ 19 7 = nI n) (h7 : n ≤ 7) (hp : p < n) : Ct yX5_anotherFaultMakes cX5_anotherFaultMakes 4 (some .boolean) 5 [.ref 18, .int (nI p), .int v] σ (rI (fun r τ => r = bI (mkH σ n p v) ∧ Thk σ τ)) := by
  refine ct_of plX5 rfl (Nat.le_of_ble_eq_true rfl) (fun X hX C => ?_)
  show V X 0 [(0, .ref 18), (1, .int (nI p)), (2, .int v)] [] σ
  refine v_iconst (v := 0) C dX5_anotherFaultMakes_0 (by decide) rfl ?_
  refine v_istore_n (lv' := [(3, .int 0), (0, .ref 18), (1, .int (nI p)), (2, .int v)]) C dX5_anotherFaultMakes_1 rfl (Nat.le_of_ble_eq_true rfl) rfl rfl ?_
  have lp2 : ∀ (kf i : Nat)  (τ : St), 10 < i + kf → i ≤ 10 → Thk σ τ → (∀ j, j < i → ¬ mkG σ n p v j) → V X 2 [(3, .int (nI i)), (0, .ref 18), (1, .int (nI p)), (2, .int v)] [] τ := by
    intro kf
    induction kf with
    | zero => intro i  τ h1 h2; omega
    | succ kf ih2 =>
      intro i  τ h1 h2  eτ hal
      have hnτ : τ 19 7 = nI n := by rw [eτ 19 (Or.inl (by decide))]; exact hn
      have hfτ : τ (19 + 3) p = σ (19 + 3) p := by rw [eτ (19 + 3) (Or.inl (by decide))]
      have hfe : σ (19 + 3) p = σ (19 + 3) p := rfl
      refine v_iload_n C dX5_anotherFaultMakes_2 rfl rfl rfl ?_
      refine v_bipush (v := 9) C dX5_anotherFaultMakes_3 (by decide) rfl ?_
      refine v_icmp_gt (tgt := 39) C dX5_anotherFaultMakes_5 (by decide) rfl (fun c5 => ?_) (fun c5 => ?_)
      · skip
        have c5 := (nI_ltI (a := 9) (b := i) (by omega) (by omega)).mp c5
        refine v_iconst (v := 0) C dX5_anotherFaultMakes_39 (by decide) rfl ?_
        exact v_zret C rfl dX5_anotherFaultMakes_40 (by rw [hX]; exact ⟨_, rfl, bI_f (fun z => z.elim (fun f q => hal f (by omega) q.2)), eτ⟩)
      · skip
        have c5 := mt (nI_ltI (a := 9) (b := i) (by omega) (by omega)).mpr c5
        refine v_iload_n C dX5_anotherFaultMakes_8 rfl rfl rfl ?_
        refine v_aload_n C dX5_anotherFaultMakes_9 rfl rfl rfl ?_
        refine v_getR C (Nat.le_of_ble_eq_true rfl) rfl rfl hinX5 0 (Nat.le_of_ble_eq_true rfl) lkX5_10 rfl dX5_anotherFaultMakes_10 rfl ?_
        refine v_getNR C hh19.l0 hh19.s0 rfl hinX0 2 (Nat.le_of_ble_eq_true rfl) lkX5_173 rfl dX5_anotherFaultMakes_13 rfl ?_
        refine v_iload_n C dX5_anotherFaultMakes_16 rfl rfl rfl ?_
        refine v_iald (i := p) C hh19.l3 hh19.s3 rfl (by omega) (by decide) dX5_anotherFaultMakes_17 rfl ?_
        refine V.tp hfτ ?_
        refine v_icmp_eq (tgt := 33) C dX5_anotherFaultMakes_18 (by decide) rfl (fun c18 => ?_) (fun c18 => ?_)
        · skip
          refine v_iinc (lv' := [(3, .int (nI (i + 1))), (0, .ref 18), (1, .int (nI p)), (2, .int v)]) C dX5_anotherFaultMakes_33 rfl (nI_inc i) (Nat.le_of_ble_eq_true rfl) rfl rfl ?_
          refine v_goto (tgt := 2) C dX5_anotherFaultMakes_36 (by decide) ?_
          exact V.sub [0, 1, 2, 3] rfl (ih2 (i + 1)  _ (by omega) (by omega)  (eτ) (fun j hj => (Nat.lt_succ_iff_lt_or_eq.mp hj).elim (hal j) (fun q => by subst q; exact fun z => z.1 (hfe ▸ c18))))
        · skip
          refine v_aload_n C dX5_anotherFaultMakes_21 rfl rfl rfl ?_
          refine v_iload_n C dX5_anotherFaultMakes_22 rfl rfl rfl ?_
          refine v_iload_n C dX5_anotherFaultMakes_23 rfl rfl rfl ?_
          refine v_callV C (Nat.le_of_ble_eq_true rfl) rfl rfl (As := [.int (nI p), .int (nI i)]) (rest := []) (kX5_blameWithFault p (nI i) n τ hnτ h7 (by omega)) rfl (Nat.le_of_ble_eq_true rfl) (Nat.le_of_ble_eq_true rfl) ⟨mlX5_176, mfX5_blameWithFault⟩ dkX5_blameWithFault (Nat.le_of_ble_eq_true rfl) dX5_anotherFaultMakes_24 rfl (krI (fun r27_1 τ27_1 h27_1 => ?_))
          have hr : r27_1 = bwfH σ n p (nI i) := h27_1.1.trans (bwf_thk eτ n p (nI i))
          have hT : Thk σ τ27_1 := eτ.tr h27_1.2
          refine v_iload_n C dX5_anotherFaultMakes_27 rfl rfl rfl ?_
          refine v_icmp_ne (tgt := 33) C dX5_anotherFaultMakes_28 (by decide) rfl (fun c28 => ?_) (fun c28 => ?_)
          · skip
            refine v_iinc (lv' := [(3, .int (nI (i + 1))), (0, .ref 18), (1, .int (nI p)), (2, .int v)]) C dX5_anotherFaultMakes_33 rfl (nI_inc i) (Nat.le_of_ble_eq_true rfl) rfl rfl ?_
            refine v_goto (tgt := 2) C dX5_anotherFaultMakes_36 (by decide) ?_
            exact V.sub [0, 1, 2, 3] rfl (ih2 (i + 1)  _ (by omega) (by omega)  (hT) (fun j hj => (Nat.lt_succ_iff_lt_or_eq.mp hj).elim (hal j) (fun q => by subst q; exact fun z => c28 (hr.trans z.2))))
          · skip
            refine v_iconst (v := 1) C dX5_anotherFaultMakes_31 (by decide) rfl ?_
            exact v_zret C rfl dX5_anotherFaultMakes_32 (by rw [hX]; exact ⟨_, rfl, bI_t ⟨i, by omega, c18, hr.symm.trans c28⟩, hT⟩)
  exact V.sub [0, 1, 2, 3] rfl (lp2 (10 + 1) 0  _ (by omega) (by omega)  (Thk.rf σ) (fun j hj => absurd hj (Nat.not_lt_zero j)))
theorem mkH_thk {σ τ : St} (h : Thk σ τ) (n p : Nat) (v : Int32) : mkH τ n p v = mkH σ n p v := by
  have e : ∀ f, mkG τ n p v f = mkG σ n p v f := fun f => by rw [mkG, mkG, bwf_thk h, h (19 + 3) (Or.inl (by decide))]
  unfold mkH
  simp only [e]
theorem les_thk {σ τ : St} (h : Thk σ τ) (n p : Nat) (v : Int32) : lesH τ n v p = lesH σ n v p := by
  have e : sumN (lesG τ n p v) 10 = sumN (lesG σ n p v) 10 := sumN_congr (fun f _ => by rw [lesG, lesG, bwf_thk h])
  rw [lesH, lesH, e]
theorem kX5_whose (v : Int32) (n : Nat) (σ : St) (hn : σ 19 7 = nI n) (h7 : n ≤ 7) : Ct yX5_whose cX5_whose 5 (some .int) 6 [.ref 18, .int v] σ (rI (fun r τ => r = whsH σ n v ∧ Asks σ τ 0 999 v)) := by
  refine ct_of plX5 rfl (Nat.le_of_ble_eq_true rfl) (fun X hX C => ?_)
  show V X 0 [(0, .ref 18), (1, .int v)] [] σ
  refine v_iload_n C dX5_whose_0 rfl rfl rfl ?_
  refine v_iconst (v := 0) C dX5_whose_1 (by decide) rfl ?_
  refine v_sipush (v := 999) C dX5_whose_2 (by decide) rfl ?_
  refine v_callS C (As := [.int v, .int 0, .int 999]) (rest := []) (kX5_refusalOutside v 0 999 σ) rfl (Nat.le_of_ble_eq_true rfl) (Nat.le_of_ble_eq_true rfl) ⟨mlX5_179, mfX5_refusalOutside⟩ dkX5_refusalOutside (Nat.le_of_ble_eq_true rfl) dX5_whose_5 rfl (kI ?_)
  rcases bnd_cases v 0 999 with ⟨hb, q1⟩ | ⟨hb, q1, q2⟩ | ⟨hb, q1, q2⟩
  · refine V.tp hb ?_
    refine v_istore_n (lv' := [(2, .int (-4)), (0, .ref 18), (1, .int v)]) C dX5_whose_8 rfl (Nat.le_of_ble_eq_true rfl) rfl rfl ?_
    refine v_iload_n C dX5_whose_9 rfl rfl rfl ?_
    refine v_if_eq (tgt := 19) C dX5_whose_10 (by decide) rfl (fun q => absurd q (by decide)) (fun _ => ?_)
    refine v_aload_n C dX5_whose_13 rfl rfl rfl ?_
    refine v_iload_n C dX5_whose_14 rfl rfl rfl ?_
    refine v_callV C (Nat.le_of_ble_eq_true rfl) rfl rfl (As := [.int (-4)]) (rest := []) (kX5_answer (-4) σ) rfl (Nat.le_of_ble_eq_true rfl) (Nat.le_of_ble_eq_true rfl) ⟨mlX5_64, mfX5_answer⟩ dkX5_answer (Nat.le_of_ble_eq_true rfl) dX5_whose_15 rfl (kI ?_)
    exact v_iret C dX5_whose_18 (by rw [hX]; exact ⟨_, rfl, by simp [whsH, q1], Or.inl ⟨q1, rfl⟩⟩)
  · refine V.tp hb ?_
    refine v_istore_n (lv' := [(2, .int (-6)), (0, .ref 18), (1, .int v)]) C dX5_whose_8 rfl (Nat.le_of_ble_eq_true rfl) rfl rfl ?_
    refine v_iload_n C dX5_whose_9 rfl rfl rfl ?_
    refine v_if_eq (tgt := 19) C dX5_whose_10 (by decide) rfl (fun q => absurd q (by decide)) (fun _ => ?_)
    refine v_aload_n C dX5_whose_13 rfl rfl rfl ?_
    refine v_iload_n C dX5_whose_14 rfl rfl rfl ?_
    refine v_callV C (Nat.le_of_ble_eq_true rfl) rfl rfl (As := [.int (-6)]) (rest := []) (kX5_answer (-6) σ) rfl (Nat.le_of_ble_eq_true rfl) (Nat.le_of_ble_eq_true rfl) ⟨mlX5_64, mfX5_answer⟩ dkX5_answer (Nat.le_of_ble_eq_true rfl) dX5_whose_15 rfl (kI ?_)
    exact v_iret C dX5_whose_18 (by rw [hX]; exact ⟨_, rfl, by simp [whsH, q1, q2], Or.inr (Or.inl ⟨q1, q2, rfl⟩)⟩)
  · refine V.tp hb ?_
    refine v_istore_n (lv' := [(2, .int 0), (0, .ref 18), (1, .int v)]) C dX5_whose_8 rfl (Nat.le_of_ble_eq_true rfl) rfl rfl ?_
    refine v_iload_n C dX5_whose_9 rfl rfl rfl ?_
    refine v_if_eq (tgt := 19) C dX5_whose_10 (by decide) rfl (fun _ => ?_) (fun q => absurd q (by decide))
    refine v_iconst (v := 0) C dX5_whose_19 (by decide) rfl ?_
    refine v_istore_n (lv' := [(3, .int 0), (2, .int 0), (0, .ref 18), (1, .int v)]) C dX5_whose_20 rfl (Nat.le_of_ble_eq_true rfl) rfl rfl ?_
    refine v_iconst (v := 0) C dX5_whose_21 (by decide) rfl ?_
    refine v_istore (lv' := [(4, .int 0), (3, .int 0), (2, .int 0), (0, .ref 18), (1, .int v)]) C dX5_whose_22 (Nat.le_of_ble_eq_true rfl) rfl rfl ?_
    have lp24 : ∀ (kf i : Nat) (x3 : Int32) (τ : St), n < i + kf → i ≤ n → x3 = orN (whgH σ n v) i → Thk σ τ → V X 24 [(4, .int (nI i)), (3, .int x3), (0, .ref 18), (1, .int v)] [] τ := by
      intro kf
      induction kf with
      | zero => intro i x3 τ h1 h2; omega
      | succ kf ih24 =>
        intro i x3 τ h1 h2 ex3 eτ
        have hnτ : τ 19 7 = nI n := by rw [eτ 19 (Or.inl (by decide))]; exact hn
        refine v_iload C dX5_whose_24 rfl rfl ?_
        refine v_aload_n C dX5_whose_26 rfl rfl rfl ?_
        refine v_getR C (Nat.le_of_ble_eq_true rfl) rfl rfl hinX5 0 (Nat.le_of_ble_eq_true rfl) lkX5_10 rfl dX5_whose_27 rfl ?_
        refine v_getNI C hh19.l0 hh19.s0 rfl hinX0 7 (Nat.le_of_ble_eq_true rfl) lkX5_126 rfl dX5_whose_30 rfl ?_
        refine V.tp hnτ ?_
        refine v_icmp_ge (tgt := 59) C dX5_whose_33 (by decide) rfl (fun c33 => ?_) (fun c33 => ?_)
        · skip
          have c33 := mt (nI_ltI (a := i) (b := n) (by omega) (by omega)).mpr c33
          refine v_iload_n C dX5_whose_59 rfl rfl rfl ?_
          exact v_iret C dX5_whose_60 (by rw [hX]; exact ⟨_, rfl, by rw [whsH, if_neg q1, if_neg q2, ex3, show i = n from by omega], Or.inr (Or.inr ⟨q1, q2, eτ⟩)⟩)
        · skip
          have c33 := (nI_ltI (a := i) (b := n) (by omega) (by omega)).mp c33
          refine v_aload_n C dX5_whose_36 rfl rfl rfl ?_
          refine v_iload C dX5_whose_37 rfl rfl ?_
          refine v_iload_n C dX5_whose_39 rfl rfl rfl ?_
          refine v_callV C (Nat.le_of_ble_eq_true rfl) rfl rfl (As := [.int (nI i), .int v]) (rest := []) (kX5_anotherFaultMakes i v n τ hnτ h7 (by omega)) rfl (Nat.le_of_ble_eq_true rfl) (Nat.le_of_ble_eq_true rfl) ⟨mlX5_186, mfX5_anotherFaultMakes⟩ dkX5_anotherFaultMakes (Nat.le_of_ble_eq_true rfl) dX5_whose_40 rfl (krI (fun r43_1 τ43_1 h43_1 => ?_))
          have hT : Thk σ τ43_1 := eτ.tr h43_1.2
          refine V.tp (h43_1.1.trans (show bI (mkH τ n i v) = bI (mkH σ n i v) from by rw [mkH_thk eτ])) ?_
          refine v_if_eq (tgt := 53) C dX5_whose_43 (by decide) rfl (fun c43 => ?_) (fun c43 => ?_)
          · skip
            have c43 := bI_0 c43
            refine v_iinc (lv' := [(4, .int (nI (i + 1))), (3, .int x3), (0, .ref 18), (1, .int v)]) C dX5_whose_53 rfl (nI_inc i) (Nat.le_of_ble_eq_true rfl) rfl rfl ?_
            refine v_goto (tgt := 24) C dX5_whose_56 (by decide) ?_
            exact V.sub [0, 1, 2, 3] rfl (ih24 (i + 1) _ _ (by omega) (by omega) (by rw [ex3, orN, whgH, cI_f c43]; simp) (hT))
          · skip
            have c43 := bI_n c43
            refine v_iload_n C dX5_whose_46 rfl rfl rfl ?_
            refine v_iconst (v := 1) C dX5_whose_47 (by decide) rfl ?_
            refine v_iload C dX5_whose_48 rfl rfl ?_
            refine v_ishl C dX5_whose_50 rfl ?_
            refine v_ior C dX5_whose_51 rfl ?_
            refine V.top (fun v52_2 ev52_2 => ?_)
            refine v_istore_n (lv' := [(3, .int v52_2), (4, .int (nI i)), (0, .ref 18), (1, .int v)]) C dX5_whose_52 rfl (Nat.le_of_ble_eq_true rfl) rfl rfl ?_
            refine v_iinc (lv' := [(4, .int (nI (i + 1))), (3, .int v52_2), (0, .ref 18), (1, .int v)]) C dX5_whose_53 rfl (nI_inc i) (Nat.le_of_ble_eq_true rfl) rfl rfl ?_
            refine v_goto (tgt := 24) C dX5_whose_56 (by decide) ?_
            exact V.sub [0, 1, 2, 3] rfl (ih24 (i + 1) _ _ (by omega) (by omega) (by rw [ev52_2, ex3, orN, whgH, cI_t c43]) (hT))
    exact V.sub [0, 1, 3, 4] rfl (lp24 (n + 1) 0 0 _ (by omega) (by omega) (rfl) (Thk.rf σ))
theorem kX5_lesserOfBothFaults (p : Nat) (v : Int32) (n : Nat) (σ : St) (hn : σ 19 7 = nI n) (h7 : n ≤ 7) (hp : p < n) : Ct yX5_lesserOfBothFaults cX5_lesserOfBothFaults 5 (some .int) 5 [.ref 18, .int (nI p), .int v] σ (rI (fun r τ => r = lesH σ n v p ∧ Thk σ τ)) := by
  refine ct_of plX5 rfl (Nat.le_of_ble_eq_true rfl) (fun X hX C => ?_)
  show V X 0 [(0, .ref 18), (1, .int (nI p)), (2, .int v)] [] σ
  refine v_iconst (v := 0) C dX5_lesserOfBothFaults_0 (by decide) rfl ?_
  refine v_istore_n (lv' := [(3, .int 0), (0, .ref 18), (1, .int (nI p)), (2, .int v)]) C dX5_lesserOfBothFaults_1 rfl (Nat.le_of_ble_eq_true rfl) rfl rfl ?_
  refine v_iconst (v := 0) C dX5_lesserOfBothFaults_2 (by decide) rfl ?_
  refine v_istore (lv' := [(4, .int 0), (3, .int 0), (0, .ref 18), (1, .int (nI p)), (2, .int v)]) C dX5_lesserOfBothFaults_3 (Nat.le_of_ble_eq_true rfl) rfl rfl ?_
  have lp5 : ∀ (kf i : Nat) (x3 : Int32) (τ : St), 10 < i + kf → i ≤ 10 → x3 = sumN (lesG σ n p v) i → Thk σ τ → V X 5 [(4, .int (nI i)), (3, .int x3), (0, .ref 18), (1, .int (nI p)), (2, .int v)] [] τ := by
    intro kf
    induction kf with
    | zero => intro i x3 τ h1 h2; omega
    | succ kf ih5 =>
      intro i x3 τ h1 h2 ex3 eτ
      have hnτ : τ 19 7 = nI n := by rw [eτ 19 (Or.inl (by decide))]; exact hn
      refine v_iload C dX5_lesserOfBothFaults_5 rfl rfl ?_
      refine v_bipush (v := 9) C dX5_lesserOfBothFaults_7 (by decide) rfl ?_
      refine v_icmp_gt (tgt := 32) C dX5_lesserOfBothFaults_9 (by decide) rfl (fun c9 => ?_) (fun c9 => ?_)
      · skip
        have c9 := (nI_ltI (a := 9) (b := i) (by omega) (by omega)).mp c9
        refine v_iload_n C dX5_lesserOfBothFaults_32 rfl rfl rfl ?_
        refine v_bipush (v := 10) C dX5_lesserOfBothFaults_33 (by decide) rfl ?_
        refine v_iload_n C dX5_lesserOfBothFaults_35 rfl rfl rfl ?_
        refine v_isub C dX5_lesserOfBothFaults_36 rfl ?_
        refine v_mmin C (Nat.le_of_ble_eq_true rfl) maX5_245 (Nat.le_of_ble_eq_true rfl) dX5_lesserOfBothFaults_37 rfl ?_
        exact v_iret C dX5_lesserOfBothFaults_40 (by rw [hX]; exact ⟨_, rfl, by rw [ex3, lesH, show i = 10 from by omega], eτ⟩)
      · skip
        have c9 := mt (nI_ltI (a := 9) (b := i) (by omega) (by omega)).mpr c9
        refine v_aload_n C dX5_lesserOfBothFaults_12 rfl rfl rfl ?_
        refine v_iload_n C dX5_lesserOfBothFaults_13 rfl rfl rfl ?_
        refine v_iload C dX5_lesserOfBothFaults_14 rfl rfl ?_
        refine v_callV C (Nat.le_of_ble_eq_true rfl) rfl rfl (As := [.int (nI p), .int (nI i)]) (rest := []) (kX5_blameWithFault p (nI i) n τ hnτ h7 (by omega)) rfl (Nat.le_of_ble_eq_true rfl) (Nat.le_of_ble_eq_true rfl) ⟨mlX5_176, mfX5_blameWithFault⟩ dkX5_blameWithFault (Nat.le_of_ble_eq_true rfl) dX5_lesserOfBothFaults_16 rfl (krI (fun r19_1 τ19_1 h19_1 => ?_))
        have hr : r19_1 = bwfH σ n p (nI i) := h19_1.1.trans (bwf_thk eτ n p (nI i))
        have hT : Thk σ τ19_1 := eτ.tr h19_1.2
        refine v_iload_n C dX5_lesserOfBothFaults_19 rfl rfl rfl ?_
        refine v_icmp_ge (tgt := 26) C dX5_lesserOfBothFaults_20 (by decide) rfl (fun c20 => ?_) (fun c20 => ?_)
        · skip
          refine v_iinc (lv' := [(4, .int (nI (i + 1))), (3, .int x3), (0, .ref 18), (1, .int (nI p)), (2, .int v)]) C dX5_lesserOfBothFaults_26 rfl (nI_inc i) (Nat.le_of_ble_eq_true rfl) rfl rfl ?_
          refine v_goto (tgt := 5) C dX5_lesserOfBothFaults_29 (by decide) ?_
          exact V.sub [0, 1, 2, 3, 4] rfl (ih5 (i + 1) _ _ (by omega) (by omega) (by rw [ex3]; simp [sumN, lesG, ← hr, c20]) (hT))
        · skip
          obtain ⟨v23_2, ev23_2⟩ : ∃ y : Int32, y = x3 + 1 := ⟨_, rfl⟩
          refine v_iinc (lv' := [(3, .int v23_2), (4, .int (nI i)), (0, .ref 18), (1, .int (nI p)), (2, .int v)]) C dX5_lesserOfBothFaults_23 rfl (by rw [ev23_2]; rfl) (Nat.le_of_ble_eq_true rfl) rfl rfl ?_
          refine v_iinc (lv' := [(4, .int (nI (i + 1))), (3, .int v23_2), (0, .ref 18), (1, .int (nI p)), (2, .int v)]) C dX5_lesserOfBothFaults_26 rfl (nI_inc i) (Nat.le_of_ble_eq_true rfl) rfl rfl ?_
          refine v_goto (tgt := 5) C dX5_lesserOfBothFaults_29 (by decide) ?_
          exact V.sub [0, 1, 2, 3, 4] rfl (ih5 (i + 1) _ _ (by omega) (by omega) (by rw [ev23_2, ex3]; simp [sumN, lesG, ← hr, c20]) (hT))
  exact V.sub [0, 1, 2, 3, 4] rfl (lp5 (10 + 1) 0 0 _ (by omega) (by omega) (rfl) (Thk.rf σ))
theorem kX5_ask (v : Int32) (n : Nat) (σ : St) (hn : σ 19 7 = nI n) (h7 : n ≤ 7) : Ct yX5_ask cX5_ask 7 (some .int) 6 [.ref 18, .int v] σ (rI (fun r τ => r = askH σ n v ∧ Asks σ τ 0 999 v)) := by
  refine ct_of plX5 rfl (Nat.le_of_ble_eq_true rfl) (fun X hX C => ?_)
  show V X 0 [(0, .ref 18), (1, .int v)] [] σ
  refine v_iload_n C dX5_ask_0 rfl rfl rfl ?_
  refine v_iconst (v := 0) C dX5_ask_1 (by decide) rfl ?_
  refine v_sipush (v := 999) C dX5_ask_2 (by decide) rfl ?_
  refine v_callS C (As := [.int v, .int 0, .int 999]) (rest := []) (kX5_refusalOutside v 0 999 σ) rfl (Nat.le_of_ble_eq_true rfl) (Nat.le_of_ble_eq_true rfl) ⟨mlX5_179, mfX5_refusalOutside⟩ dkX5_refusalOutside (Nat.le_of_ble_eq_true rfl) dX5_ask_5 rfl (kI ?_)
  rcases bnd_cases v 0 999 with ⟨hb, q1⟩ | ⟨hb, q1, q2⟩ | ⟨hb, q1, q2⟩
  · refine V.tp hb ?_
    refine v_istore_n (lv' := [(2, .int (-4)), (0, .ref 18), (1, .int v)]) C dX5_ask_8 rfl (Nat.le_of_ble_eq_true rfl) rfl rfl ?_
    refine v_iload_n C dX5_ask_9 rfl rfl rfl ?_
    refine v_if_eq (tgt := 19) C dX5_ask_10 (by decide) rfl (fun q => absurd q (by decide)) (fun _ => ?_)
    refine v_aload_n C dX5_ask_13 rfl rfl rfl ?_
    refine v_iload_n C dX5_ask_14 rfl rfl rfl ?_
    refine v_callV C (Nat.le_of_ble_eq_true rfl) rfl rfl (As := [.int (-4)]) (rest := []) (kX5_answer (-4) σ) rfl (Nat.le_of_ble_eq_true rfl) (Nat.le_of_ble_eq_true rfl) ⟨mlX5_64, mfX5_answer⟩ dkX5_answer (Nat.le_of_ble_eq_true rfl) dX5_ask_15 rfl (kI ?_)
    exact v_iret C dX5_ask_18 (by rw [hX]; exact ⟨_, rfl, by simp [askH, q1], Or.inl ⟨q1, rfl⟩⟩)
  · refine V.tp hb ?_
    refine v_istore_n (lv' := [(2, .int (-6)), (0, .ref 18), (1, .int v)]) C dX5_ask_8 rfl (Nat.le_of_ble_eq_true rfl) rfl rfl ?_
    refine v_iload_n C dX5_ask_9 rfl rfl rfl ?_
    refine v_if_eq (tgt := 19) C dX5_ask_10 (by decide) rfl (fun q => absurd q (by decide)) (fun _ => ?_)
    refine v_aload_n C dX5_ask_13 rfl rfl rfl ?_
    refine v_iload_n C dX5_ask_14 rfl rfl rfl ?_
    refine v_callV C (Nat.le_of_ble_eq_true rfl) rfl rfl (As := [.int (-6)]) (rest := []) (kX5_answer (-6) σ) rfl (Nat.le_of_ble_eq_true rfl) (Nat.le_of_ble_eq_true rfl) ⟨mlX5_64, mfX5_answer⟩ dkX5_answer (Nat.le_of_ble_eq_true rfl) dX5_ask_15 rfl (kI ?_)
    exact v_iret C dX5_ask_18 (by rw [hX]; exact ⟨_, rfl, by simp [askH, q1, q2], Or.inr (Or.inl ⟨q1, q2, rfl⟩)⟩)
  · refine V.tp hb ?_
    refine v_istore_n (lv' := [(2, .int 0), (0, .ref 18), (1, .int v)]) C dX5_ask_8 rfl (Nat.le_of_ble_eq_true rfl) rfl rfl ?_
    refine v_iload_n C dX5_ask_9 rfl rfl rfl ?_
    refine v_if_eq (tgt := 19) C dX5_ask_10 (by decide) rfl (fun _ => ?_) (fun q => absurd q (by decide))
    refine v_bipush (v := -9) C dX5_ask_19 (by decide) rfl ?_
    refine v_istore_n (lv' := [(3, .int (-9)), (2, .int 0), (0, .ref 18), (1, .int v)]) C dX5_ask_21 rfl (Nat.le_of_ble_eq_true rfl) rfl rfl ?_
    refine v_bipush (v := -9) C dX5_ask_22 (by decide) rfl ?_
    refine v_istore (lv' := [(4, .int (-9)), (3, .int (-9)), (2, .int 0), (0, .ref 18), (1, .int v)]) C dX5_ask_24 (Nat.le_of_ble_eq_true rfl) rfl rfl ?_
    refine v_iconst (v := 0) C dX5_ask_26 (by decide) rfl ?_
    refine v_istore (lv' := [(5, .int 0), (4, .int (-9)), (3, .int (-9)), (2, .int 0), (0, .ref 18), (1, .int v)]) C dX5_ask_27 (Nat.le_of_ble_eq_true rfl) rfl rfl ?_
    have lp29 : ∀ (kf i : Nat) (x3 : Int32) (x4 : Int32) (τ : St), n < i + kf → i ≤ n → x3 = (askN σ n v i).1 → x4 = (askN σ n v i).2 → Thk σ τ → V X 29 [(5, .int (nI i)), (4, .int x4), (3, .int x3), (0, .ref 18), (1, .int v)] [] τ := by
      intro kf
      induction kf with
      | zero => intro i x3 x4 τ h1 h2; omega
      | succ kf ih29 =>
        intro i x3 x4 τ h1 h2 ex3 ex4 eτ
        have hnτ : τ 19 7 = nI n := by rw [eτ 19 (Or.inl (by decide))]; exact hn
        refine v_iload C dX5_ask_29 rfl rfl ?_
        refine v_aload_n C dX5_ask_31 rfl rfl rfl ?_
        refine v_getR C (Nat.le_of_ble_eq_true rfl) rfl rfl hinX5 0 (Nat.le_of_ble_eq_true rfl) lkX5_10 rfl dX5_ask_32 rfl ?_
        refine v_getNI C hh19.l0 hh19.s0 rfl hinX0 7 (Nat.le_of_ble_eq_true rfl) lkX5_126 rfl dX5_ask_35 rfl ?_
        refine V.tp hnτ ?_
        refine v_icmp_ge (tgt := 70) C dX5_ask_38 (by decide) rfl (fun c38 => ?_) (fun c38 => ?_)
        · skip
          have c38 := mt (nI_ltI (a := i) (b := n) (by omega) (by omega)).mpr c38
          refine v_iload_n C dX5_ask_70 rfl rfl rfl ?_
          exact v_iret C dX5_ask_71 (by rw [hX]; exact ⟨_, rfl, by rw [askH, if_neg q1, if_neg q2, ex3, show i = n from by omega], Or.inr (Or.inr ⟨q1, q2, eτ⟩)⟩)
        · skip
          have c38 := (nI_ltI (a := i) (b := n) (by omega) (by omega)).mp c38
          refine v_aload_n C dX5_ask_41 rfl rfl rfl ?_
          refine v_iload C dX5_ask_42 rfl rfl ?_
          refine v_iload_n C dX5_ask_44 rfl rfl rfl ?_
          refine v_callV C (Nat.le_of_ble_eq_true rfl) rfl rfl (As := [.int (nI i), .int v]) (rest := []) (kX5_lesserOfBothFaults i v n τ hnτ h7 (by omega)) rfl (Nat.le_of_ble_eq_true rfl) (Nat.le_of_ble_eq_true rfl) ⟨mlX5_189, mfX5_lesserOfBothFaults⟩ dkX5_lesserOfBothFaults (Nat.le_of_ble_eq_true rfl) dX5_ask_45 rfl (krI (fun r48_1 τ48_1 h48_1 => ?_))
          have hT : Thk σ τ48_1 := eτ.tr h48_1.2
          have hr : r48_1 = lesH σ n v i := h48_1.1.trans (les_thk eτ n i v)
          refine v_istore (lv' := [(6, .int r48_1), (5, .int (nI i)), (4, .int x4), (3, .int x3), (0, .ref 18), (1, .int v)]) C dX5_ask_48 (Nat.le_of_ble_eq_true rfl) rfl rfl ?_
          refine v_iload C dX5_ask_50 rfl rfl ?_
          refine v_iload C dX5_ask_52 rfl rfl ?_
          refine v_icmp_le (tgt := 64) C dX5_ask_54 (by decide) rfl (fun c54 => ?_) (fun c54 => ?_)
          · skip
            refine v_iinc (lv' := [(5, .int (nI (i + 1))), (6, .int r48_1), (4, .int x4), (3, .int x3), (0, .ref 18), (1, .int v)]) C dX5_ask_64 rfl (nI_inc i) (Nat.le_of_ble_eq_true rfl) rfl rfl ?_
            refine v_goto (tgt := 29) C dX5_ask_67 (by decide) ?_
            exact V.sub [0, 2, 3, 4, 5] rfl (ih29 (i + 1) _ _ _ (by omega) (by omega) (by rw [askN, if_neg (by rw [← ex4, ← hr]; exact c54)]; exact ex3) (by rw [askN, if_neg (by rw [← ex4, ← hr]; exact c54)]; exact ex4) (hT))
          · skip
            refine v_iload C dX5_ask_57 rfl rfl ?_
            refine v_istore_n (lv' := [(3, .int (nI i)), (6, .int r48_1), (5, .int (nI i)), (4, .int x4), (0, .ref 18), (1, .int v)]) C dX5_ask_59 rfl (Nat.le_of_ble_eq_true rfl) rfl rfl ?_
            refine v_iload C dX5_ask_60 rfl rfl ?_
            refine v_istore (lv' := [(4, .int r48_1), (3, .int (nI i)), (6, .int r48_1), (5, .int (nI i)), (0, .ref 18), (1, .int v)]) C dX5_ask_62 (Nat.le_of_ble_eq_true rfl) rfl rfl ?_
            refine v_iinc (lv' := [(5, .int (nI (i + 1))), (4, .int r48_1), (3, .int (nI i)), (6, .int r48_1), (0, .ref 18), (1, .int v)]) C dX5_ask_64 rfl (nI_inc i) (Nat.le_of_ble_eq_true rfl) rfl rfl ?_
            refine v_goto (tgt := 29) C dX5_ask_67 (by decide) ?_
            exact V.sub [0, 1, 2, 4, 5] rfl (ih29 (i + 1) _ _ _ (by omega) (by omega) (by rw [askN, if_pos (by rw [← ex4, ← hr]; exact c54)]) (by rw [askN, if_pos (by rw [← ex4, ← hr]; exact c54)]; exact hr) (hT))
    exact V.sub [0, 1, 2, 4, 5] rfl (lp29 (n + 1) 0 _ _ _ (by omega) (by omega) (rfl) (rfl) (Thk.rf σ))
