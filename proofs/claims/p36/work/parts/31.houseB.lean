/-! the class: a house's blame -/
def cmpG (kd pl : Nat → Int32) (p q : Nat) : Int32 := if (kd q = 1 ∨ kd q = 4) ∧ ¬ q = p ∧ pl q = pl p then 1 else 0
def comF (kd pl : Nat → Int32) (n p : Nat) : Int32 := if pl p = 9 then 0 else sumN (cmpG kd pl p) n
theorem sui_com (kd ft pl : Nat → Int32) (n p : Nat) : ft p + 2 * comF kd pl n p = suiF kd ft pl n p := by
  have h : 2 * comF kd pl n p = sumN (suiG kd pl p) n := by
    by_cases q : pl p = 9
    · rw [comF, if_pos q]
      have : ∀ k, sumN (suiG kd pl p) k = 0 := by
        intro k
        induction k with
        | zero => rfl
        | succ k ih => rw [sumN, ih, suiG, if_neg (fun z => z.2.1 q)]; rfl
      rw [this]; rfl
    · rw [comF, if_neg q]
      have : ∀ k, 2 * sumN (cmpG kd pl p) k = sumN (suiG kd pl p) k := by
        intro k
        induction k with
        | zero => rfl
        | succ k ih =>
          rw [sumN, sumN, ← ih, Int32.mul_add]
          congr 1
          by_cases z : (kd k = 1 ∨ kd k = 4) ∧ ¬ k = p ∧ pl k = pl p
          · rw [cmpG, if_pos z, suiG, if_pos ⟨z.2.1, q, z.2.2, z.1⟩]; rfl
          · rw [cmpG, if_neg z, suiG, if_neg (fun y => z ⟨y.2.2.2, y.1, y.2.2.1⟩)]; rfl
      exact this n
  rw [suiF, h]
def binC (kd ft ag pl : Nat → Int32) (n : Nat) (r : Int32) (p : Nat) : Int32 := if pl p = r then blaF kd ft ag pl n p else 0
def inF (kd ft ag pl : Nat → Int32) (n : Nat) (r : Int32) : Int32 := sumN (binC kd ft ag pl n r) n
theorem inF_eq {kd ft ag pl : Nat → Int32} {n : Nat} {r : Int32} (h : ¬ r = 10) : inF kd ft ag pl n r = binF kd ft ag pl n r :=
  sumN_congr (fun i _ => by simp [binC, binG, h])
def pinG (pl : Nat → Int32) (r : Int32) (p : Nat) : Int32 := if pl p = r then 1 else 0
def pinF (pl : Nat → Int32) (n : Nat) (r : Int32) : Int32 := sumN (pinG pl r) n
theorem kX0_companyOf (p : Nat) (h n : Nat) (hh : isH h) (σ : St) (hn : σ h 7 = nI n) (h7 : n ≤ 7) (hp : p < n) : Ct yX0_companyOf cX0_companyOf 5 (some .int) 0 [.ref h, .int (nI p)] σ (fI (comF (σ (h + 1)) (σ (h + 5)) n p) σ) := by
  refine ct_of plX0 rfl (Nat.le_of_ble_eq_true rfl) (fun X hX C => ?_)
  show V X 0 [(0, .ref h), (1, .int (nI p))] [] σ
  refine v_aload_n C dX0_companyOf_0 rfl rfl rfl ?_
  refine v_getR C hh.l0 hh.s0 rfl hinX0 4 (Nat.le_of_ble_eq_true rfl) lkX0_24 rfl dX0_companyOf_1 rfl ?_
  refine v_iload_n C dX0_companyOf_4 rfl rfl rfl ?_
  refine v_iald (i := p) C hh.l5 hh.s5 rfl (by omega) (by decide) dX0_companyOf_5 rfl ?_
  refine v_bipush (v := 9) C dX0_companyOf_6 (by decide) rfl ?_
  refine v_icmp_ne (tgt := 13) C dX0_companyOf_8 (by decide) rfl (fun c8 => ?_) (fun c8 => ?_)
  · skip
    refine v_iconst (v := 0) C dX0_companyOf_13 (by decide) rfl ?_
    refine v_istore_n (lv' := [(2, .int 0), (0, .ref h), (1, .int (nI p))]) C dX0_companyOf_14 rfl (Nat.le_of_ble_eq_true rfl) rfl rfl ?_
    refine v_iconst (v := 0) C dX0_companyOf_15 (by decide) rfl ?_
    refine v_istore_n (lv' := [(3, .int 0), (2, .int 0), (0, .ref h), (1, .int (nI p))]) C dX0_companyOf_16 rfl (Nat.le_of_ble_eq_true rfl) rfl rfl ?_
    have lp17 : ∀ (kf i : Nat) (x2 : Int32) , n < i + kf → i ≤ n → x2 = sumN (cmpG (σ (h + 1)) (σ (h + 5)) p) i → V X 17 [(3, .int (nI i)), (2, .int x2), (0, .ref h), (1, .int (nI p))] [] σ := by
      intro kf
      induction kf with
      | zero => intro i x2 h1 h2; omega
      | succ kf ih17 =>
        intro i x2 h1 h2 ex2
        refine v_iload_n C dX0_companyOf_17 rfl rfl rfl ?_
        refine v_aload_n C dX0_companyOf_18 rfl rfl rfl ?_
        refine v_getI C hh.l0 hh.s0 rfl hinX0 7 (Nat.le_of_ble_eq_true rfl) lkX0_33 rfl dX0_companyOf_19 rfl ?_
        refine V.tp hn ?_
        refine v_icmp_ge (tgt := 86) C dX0_companyOf_22 (by decide) rfl (fun c22 => ?_) (fun c22 => ?_)
        · skip
          have c22 := mt (nI_ltI (a := i) (b := n) (by omega) (by omega)).mpr c22
          refine v_iload_n C dX0_companyOf_86 rfl rfl rfl ?_
          exact v_iret C dX0_companyOf_87 (by rw [hX]; exact fI_of (by rw [ex2, comF, if_neg c8, show i = n by omega]) rfl)
        · skip
          have c22 := (nI_ltI (a := i) (b := n) (by omega) (by omega)).mp c22
          refine v_aload_n C dX0_companyOf_25 rfl rfl rfl ?_
          refine v_getR C hh.l0 hh.s0 rfl hinX0 0 (Nat.le_of_ble_eq_true rfl) lkX0_9 rfl dX0_companyOf_26 rfl ?_
          refine v_iload_n C dX0_companyOf_29 rfl rfl rfl ?_
          refine v_iald (i := i) C hh.l1 hh.s1 rfl (by omega) (by decide) dX0_companyOf_30 rfl ?_
          refine v_iconst (v := 1) C dX0_companyOf_31 (by decide) rfl ?_
          refine v_icmp_eq (tgt := 45) C dX0_companyOf_32 (by decide) rfl (fun c32 => ?_) (fun c32 => ?_)
          · skip
            refine v_iconst (v := 1) C dX0_companyOf_45 (by decide) rfl ?_
            refine v_goto (tgt := 50) C dX0_companyOf_46 (by decide) ?_
            refine v_istore (lv' := [(4, .int 1), (3, .int (nI i)), (2, .int x2), (0, .ref h), (1, .int (nI p))]) C dX0_companyOf_50 (Nat.le_of_ble_eq_true rfl) rfl rfl ?_
            refine v_iload_n C dX0_companyOf_52 rfl rfl rfl ?_
            refine v_iload_n C dX0_companyOf_53 rfl rfl rfl ?_
            refine v_icmp_eq (tgt := 80) C dX0_companyOf_54 (by decide) rfl (fun c54 => ?_) (fun c54 => ?_)
            · skip
              have c54 := (nI_eq (a := i) (b := p) (by omega) (by omega)).mp c54
              refine v_iinc (lv' := [(3, .int (nI (i + 1))), (4, .int 1), (2, .int x2), (0, .ref h), (1, .int (nI p))]) C dX0_companyOf_80 rfl (nI_inc i) (Nat.le_of_ble_eq_true rfl) rfl rfl ?_
              refine v_goto (tgt := 17) C dX0_companyOf_83 (by decide) ?_
              exact V.sub [0, 2, 3, 4] rfl (ih17 (i + 1) _ (by omega) (by omega) (by rw [ex2]; simp [sumN, cmpG, c8, c22, c32, c54]))
            · skip
              have c54 := mt (nI_eq (a := i) (b := p) (by omega) (by omega)).mpr c54
              refine v_iload C dX0_companyOf_57 rfl rfl ?_
              refine v_if_eq (tgt := 80) C dX0_companyOf_59 (by decide) rfl (fun q => absurd q (by decide)) (fun _ => ?_)
              refine v_aload_n C dX0_companyOf_62 rfl rfl rfl ?_
              refine v_getR C hh.l0 hh.s0 rfl hinX0 4 (Nat.le_of_ble_eq_true rfl) lkX0_24 rfl dX0_companyOf_63 rfl ?_
              refine v_iload_n C dX0_companyOf_66 rfl rfl rfl ?_
              refine v_iald (i := i) C hh.l5 hh.s5 rfl (by omega) (by decide) dX0_companyOf_67 rfl ?_
              refine v_aload_n C dX0_companyOf_68 rfl rfl rfl ?_
              refine v_getR C hh.l0 hh.s0 rfl hinX0 4 (Nat.le_of_ble_eq_true rfl) lkX0_24 rfl dX0_companyOf_69 rfl ?_
              refine v_iload_n C dX0_companyOf_72 rfl rfl rfl ?_
              refine v_iald (i := p) C hh.l5 hh.s5 rfl (by omega) (by decide) dX0_companyOf_73 rfl ?_
              refine v_icmp_ne (tgt := 80) C dX0_companyOf_74 (by decide) rfl (fun c74 => ?_) (fun c74 => ?_)
              · skip
                refine v_iinc (lv' := [(3, .int (nI (i + 1))), (4, .int 1), (2, .int x2), (0, .ref h), (1, .int (nI p))]) C dX0_companyOf_80 rfl (nI_inc i) (Nat.le_of_ble_eq_true rfl) rfl rfl ?_
                refine v_goto (tgt := 17) C dX0_companyOf_83 (by decide) ?_
                exact V.sub [0, 2, 3, 4] rfl (ih17 (i + 1) _ (by omega) (by omega) (by rw [ex2]; simp [sumN, cmpG, c8, c22, c32, c54, c74]))
              · skip
                obtain ⟨v77_1, ev77_1⟩ : ∃ y : Int32, y = x2 + 1 := ⟨_, rfl⟩
                refine v_iinc (lv' := [(2, .int v77_1), (4, .int 1), (3, .int (nI i)), (0, .ref h), (1, .int (nI p))]) C dX0_companyOf_77 rfl (by rw [ev77_1]; rfl) (Nat.le_of_ble_eq_true rfl) rfl rfl ?_
                refine v_iinc (lv' := [(3, .int (nI (i + 1))), (2, .int v77_1), (4, .int 1), (0, .ref h), (1, .int (nI p))]) C dX0_companyOf_80 rfl (nI_inc i) (Nat.le_of_ble_eq_true rfl) rfl rfl ?_
                refine v_goto (tgt := 17) C dX0_companyOf_83 (by decide) ?_
                exact V.sub [0, 1, 3, 4] rfl (ih17 (i + 1) _ (by omega) (by omega) (by rw [ev77_1, ex2]; simp [sumN, cmpG, c8, c22, c32, c54, c74]))
          · skip
            refine v_aload_n C dX0_companyOf_35 rfl rfl rfl ?_
            refine v_getR C hh.l0 hh.s0 rfl hinX0 0 (Nat.le_of_ble_eq_true rfl) lkX0_9 rfl dX0_companyOf_36 rfl ?_
            refine v_iload_n C dX0_companyOf_39 rfl rfl rfl ?_
            refine v_iald (i := i) C hh.l1 hh.s1 rfl (by omega) (by decide) dX0_companyOf_40 rfl ?_
            refine v_iconst (v := 4) C dX0_companyOf_41 (by decide) rfl ?_
            refine v_icmp_ne (tgt := 49) C dX0_companyOf_42 (by decide) rfl (fun c42 => ?_) (fun c42 => ?_)
            · skip
              refine v_iconst (v := 0) C dX0_companyOf_49 (by decide) rfl ?_
              refine v_istore (lv' := [(4, .int 0), (3, .int (nI i)), (2, .int x2), (0, .ref h), (1, .int (nI p))]) C dX0_companyOf_50 (Nat.le_of_ble_eq_true rfl) rfl rfl ?_
              refine v_iload_n C dX0_companyOf_52 rfl rfl rfl ?_
              refine v_iload_n C dX0_companyOf_53 rfl rfl rfl ?_
              refine v_icmp_eq (tgt := 80) C dX0_companyOf_54 (by decide) rfl (fun c54 => ?_) (fun c54 => ?_)
              · skip
                have c54 := (nI_eq (a := i) (b := p) (by omega) (by omega)).mp c54
                refine v_iinc (lv' := [(3, .int (nI (i + 1))), (4, .int 0), (2, .int x2), (0, .ref h), (1, .int (nI p))]) C dX0_companyOf_80 rfl (nI_inc i) (Nat.le_of_ble_eq_true rfl) rfl rfl ?_
                refine v_goto (tgt := 17) C dX0_companyOf_83 (by decide) ?_
                exact V.sub [0, 2, 3, 4] rfl (ih17 (i + 1) _ (by omega) (by omega) (by rw [ex2]; simp [sumN, cmpG, c8, c22, c32, c42, c54]))
              · skip
                have c54 := mt (nI_eq (a := i) (b := p) (by omega) (by omega)).mpr c54
                refine v_iload C dX0_companyOf_57 rfl rfl ?_
                refine v_if_eq (tgt := 80) C dX0_companyOf_59 (by decide) rfl (fun _ => ?_) (fun q => absurd q (by decide))
                refine v_iinc (lv' := [(3, .int (nI (i + 1))), (4, .int 0), (2, .int x2), (0, .ref h), (1, .int (nI p))]) C dX0_companyOf_80 rfl (nI_inc i) (Nat.le_of_ble_eq_true rfl) rfl rfl ?_
                refine v_goto (tgt := 17) C dX0_companyOf_83 (by decide) ?_
                exact V.sub [0, 2, 3, 4] rfl (ih17 (i + 1) _ (by omega) (by omega) (by rw [ex2]; simp [sumN, cmpG, c8, c22, c32, c42, c54]))
            · skip
              refine v_iconst (v := 1) C dX0_companyOf_45 (by decide) rfl ?_
              refine v_goto (tgt := 50) C dX0_companyOf_46 (by decide) ?_
              refine v_istore (lv' := [(4, .int 1), (3, .int (nI i)), (2, .int x2), (0, .ref h), (1, .int (nI p))]) C dX0_companyOf_50 (Nat.le_of_ble_eq_true rfl) rfl rfl ?_
              refine v_iload_n C dX0_companyOf_52 rfl rfl rfl ?_
              refine v_iload_n C dX0_companyOf_53 rfl rfl rfl ?_
              refine v_icmp_eq (tgt := 80) C dX0_companyOf_54 (by decide) rfl (fun c54 => ?_) (fun c54 => ?_)
              · skip
                have c54 := (nI_eq (a := i) (b := p) (by omega) (by omega)).mp c54
                refine v_iinc (lv' := [(3, .int (nI (i + 1))), (4, .int 1), (2, .int x2), (0, .ref h), (1, .int (nI p))]) C dX0_companyOf_80 rfl (nI_inc i) (Nat.le_of_ble_eq_true rfl) rfl rfl ?_
                refine v_goto (tgt := 17) C dX0_companyOf_83 (by decide) ?_
                exact V.sub [0, 2, 3, 4] rfl (ih17 (i + 1) _ (by omega) (by omega) (by rw [ex2]; simp [sumN, cmpG, c8, c22, c32, c42, c54]))
              · skip
                have c54 := mt (nI_eq (a := i) (b := p) (by omega) (by omega)).mpr c54
                refine v_iload C dX0_companyOf_57 rfl rfl ?_
                refine v_if_eq (tgt := 80) C dX0_companyOf_59 (by decide) rfl (fun q => absurd q (by decide)) (fun _ => ?_)
                refine v_aload_n C dX0_companyOf_62 rfl rfl rfl ?_
                refine v_getR C hh.l0 hh.s0 rfl hinX0 4 (Nat.le_of_ble_eq_true rfl) lkX0_24 rfl dX0_companyOf_63 rfl ?_
                refine v_iload_n C dX0_companyOf_66 rfl rfl rfl ?_
                refine v_iald (i := i) C hh.l5 hh.s5 rfl (by omega) (by decide) dX0_companyOf_67 rfl ?_
                refine v_aload_n C dX0_companyOf_68 rfl rfl rfl ?_
                refine v_getR C hh.l0 hh.s0 rfl hinX0 4 (Nat.le_of_ble_eq_true rfl) lkX0_24 rfl dX0_companyOf_69 rfl ?_
                refine v_iload_n C dX0_companyOf_72 rfl rfl rfl ?_
                refine v_iald (i := p) C hh.l5 hh.s5 rfl (by omega) (by decide) dX0_companyOf_73 rfl ?_
                refine v_icmp_ne (tgt := 80) C dX0_companyOf_74 (by decide) rfl (fun c74 => ?_) (fun c74 => ?_)
                · skip
                  refine v_iinc (lv' := [(3, .int (nI (i + 1))), (4, .int 1), (2, .int x2), (0, .ref h), (1, .int (nI p))]) C dX0_companyOf_80 rfl (nI_inc i) (Nat.le_of_ble_eq_true rfl) rfl rfl ?_
                  refine v_goto (tgt := 17) C dX0_companyOf_83 (by decide) ?_
                  exact V.sub [0, 2, 3, 4] rfl (ih17 (i + 1) _ (by omega) (by omega) (by rw [ex2]; simp [sumN, cmpG, c8, c22, c32, c42, c54, c74]))
                · skip
                  obtain ⟨v77_2, ev77_2⟩ : ∃ y : Int32, y = x2 + 1 := ⟨_, rfl⟩
                  refine v_iinc (lv' := [(2, .int v77_2), (4, .int 1), (3, .int (nI i)), (0, .ref h), (1, .int (nI p))]) C dX0_companyOf_77 rfl (by rw [ev77_2]; rfl) (Nat.le_of_ble_eq_true rfl) rfl rfl ?_
                  refine v_iinc (lv' := [(3, .int (nI (i + 1))), (2, .int v77_2), (4, .int 1), (0, .ref h), (1, .int (nI p))]) C dX0_companyOf_80 rfl (nI_inc i) (Nat.le_of_ble_eq_true rfl) rfl rfl ?_
                  refine v_goto (tgt := 17) C dX0_companyOf_83 (by decide) ?_
                  exact V.sub [0, 1, 3, 4] rfl (ih17 (i + 1) _ (by omega) (by omega) (by rw [ev77_2, ex2]; simp [sumN, cmpG, c8, c22, c32, c42, c54, c74]))
    exact V.sub [0, 1, 2, 3] rfl (lp17 (n + 1) 0 0 (by omega) (by omega) (rfl))
  · skip
    refine v_iconst (v := 0) C dX0_companyOf_11 (by decide) rfl ?_
    exact v_iret C dX0_companyOf_12 (by rw [hX]; exact fI_of (by simp [comF, c8]) rfl)
theorem kX0_blameOfSuite (p : Nat) (h n : Nat) (hh : isH h) (σ : St) (hn : σ h 7 = nI n) (h7 : n ≤ 7) (hp : p < n) : Ct yX0_blameOfSuite cX0_blameOfSuite 2 (some .int) 1 [.ref h, .int (nI p)] σ (fI (suiF (σ (h + 1)) (σ (h + 3)) (σ (h + 5)) n p) σ) := by
  refine ct_of plX0 rfl (Nat.le_of_ble_eq_true rfl) (fun X hX C => ?_)
  show V X 0 [(0, .ref h), (1, .int (nI p))] [] σ
  refine v_aload_n C dX0_blameOfSuite_0 rfl rfl rfl ?_
  refine v_getR C hh.l0 hh.s0 rfl hinX0 2 (Nat.le_of_ble_eq_true rfl) lkX0_18 rfl dX0_blameOfSuite_1 rfl ?_
  refine v_iload_n C dX0_blameOfSuite_4 rfl rfl rfl ?_
  refine v_iald (i := p) C hh.l3 hh.s3 rfl (by omega) (by decide) dX0_blameOfSuite_5 rfl ?_
  refine v_iconst (v := 2) C dX0_blameOfSuite_6 (by decide) rfl ?_
  refine v_aload_n C dX0_blameOfSuite_7 rfl rfl rfl ?_
  refine v_iload_n C dX0_blameOfSuite_8 rfl rfl rfl ?_
  refine v_callV C hh.l0 hh.s0 rfl (As := [.int (nI p)]) (rest := [.int 2, .int (σ (h + 3) p)]) (kX0_companyOf p h n hh σ hn h7 (by omega)) rfl (Nat.le_of_ble_eq_true rfl) (Nat.le_of_ble_eq_true rfl) ⟨mlX0_72, mfX0_companyOf⟩ dkX0_companyOf (Nat.le_of_ble_eq_true rfl) dX0_blameOfSuite_9 rfl (kI ?_)
  refine v_imul C dX0_blameOfSuite_12 rfl ?_
  refine v_iadd C dX0_blameOfSuite_13 rfl ?_
  exact v_iret C dX0_blameOfSuite_14 (by rw [hX]; exact fI_of (sui_com _ _ _ _ _) rfl)
theorem kX0_blameOfVeneer (p : Nat) (h n : Nat) (hh : isH h) (σ : St) (hn : σ h 7 = nI n) (h7 : n ≤ 7) (hp : p < n) : Ct yX0_blameOfVeneer cX0_blameOfVeneer 3 (some .int) 0 [.ref h, .int (nI p)] σ (fI (venF (σ (h + 3)) n p) σ) := by
  refine ct_of plX0 rfl (Nat.le_of_ble_eq_true rfl) (fun X hX C => ?_)
  show V X 0 [(0, .ref h), (1, .int (nI p))] [] σ
  refine v_aload_n C dX0_blameOfVeneer_0 rfl rfl rfl ?_
  refine v_getI C hh.l0 hh.s0 rfl hinX0 7 (Nat.le_of_ble_eq_true rfl) lkX0_33 rfl dX0_blameOfVeneer_1 rfl ?_
  refine V.tp hn ?_
  refine v_iconst (v := 1) C dX0_blameOfVeneer_4 (by decide) rfl ?_
  refine v_icmp_ne (tgt := 17) C dX0_blameOfVeneer_5 (by decide) rfl (fun c5 => ?_) (fun c5 => ?_)
  · skip
    have c5 := mt (nI_eq (a := n) (b := 1) (by omega) (by omega)).mpr c5
    refine v_iload_n C dX0_blameOfVeneer_17 rfl rfl rfl ?_
    refine v_iconst (v := 1) C dX0_blameOfVeneer_18 (by decide) rfl ?_
    refine v_iadd C dX0_blameOfVeneer_19 rfl ?_
    refine V.tp (nI_add p 1) ?_
    refine v_aload_n C dX0_blameOfVeneer_20 rfl rfl rfl ?_
    refine v_getI C hh.l0 hh.s0 rfl hinX0 7 (Nat.le_of_ble_eq_true rfl) lkX0_33 rfl dX0_blameOfVeneer_21 rfl ?_
    refine V.tp hn ?_
    refine v_icmp_ge (tgt := 33) C dX0_blameOfVeneer_24 (by decide) rfl (fun c24 => ?_) (fun c24 => ?_)
    · skip
      have c24 := mt (nI_ltI (a := (p + 1)) (b := n) (by omega) (by omega)).mpr c24
      refine v_iconst (v := 0) C dX0_blameOfVeneer_33 (by decide) rfl ?_
      refine v_istore_n (lv' := [(2, .int 0), (0, .ref h), (1, .int (nI p))]) C dX0_blameOfVeneer_34 rfl (Nat.le_of_ble_eq_true rfl) rfl rfl ?_
      refine v_aload_n C dX0_blameOfVeneer_35 rfl rfl rfl ?_
      refine v_getR C hh.l0 hh.s0 rfl hinX0 2 (Nat.le_of_ble_eq_true rfl) lkX0_18 rfl dX0_blameOfVeneer_36 rfl ?_
      refine v_iload_n C dX0_blameOfVeneer_39 rfl rfl rfl ?_
      refine v_iald (i := p) C hh.l3 hh.s3 rfl (by omega) (by decide) dX0_blameOfVeneer_40 rfl ?_
      refine v_iconst (v := 2) C dX0_blameOfVeneer_41 (by decide) rfl ?_
      refine v_idiv C dX0_blameOfVeneer_42 (by decide) rfl ?_
      refine v_aload_n C dX0_blameOfVeneer_43 rfl rfl rfl ?_
      refine v_getR C hh.l0 hh.s0 rfl hinX0 2 (Nat.le_of_ble_eq_true rfl) lkX0_18 rfl dX0_blameOfVeneer_44 rfl ?_
      refine v_iload_n C dX0_blameOfVeneer_47 rfl rfl rfl ?_
      refine v_iald (i := 0) C hh.l3 hh.s3 rfl (Nat.le_of_ble_eq_true rfl) (by decide) dX0_blameOfVeneer_48 rfl ?_
      refine v_iadd C dX0_blameOfVeneer_49 rfl ?_
      exact v_iret C dX0_blameOfVeneer_50 (by rw [hX]; exact fI_of (by simp only [venF, if_neg c5]; rw [show (p + 1) % n = 0 from by rw [show p + 1 = n by omega]; exact Nat.mod_self n]) rfl)
    · skip
      have c24 := (nI_ltI (a := (p + 1)) (b := n) (by omega) (by omega)).mp c24
      refine v_iload_n C dX0_blameOfVeneer_27 rfl rfl rfl ?_
      refine v_iconst (v := 1) C dX0_blameOfVeneer_28 (by decide) rfl ?_
      refine v_iadd C dX0_blameOfVeneer_29 rfl ?_
      refine V.tp (nI_add p 1) ?_
      refine v_goto (tgt := 34) C dX0_blameOfVeneer_30 (by decide) ?_
      refine v_istore_n (lv' := [(2, .int (nI (p + 1))), (0, .ref h), (1, .int (nI p))]) C dX0_blameOfVeneer_34 rfl (Nat.le_of_ble_eq_true rfl) rfl rfl ?_
      refine v_aload_n C dX0_blameOfVeneer_35 rfl rfl rfl ?_
      refine v_getR C hh.l0 hh.s0 rfl hinX0 2 (Nat.le_of_ble_eq_true rfl) lkX0_18 rfl dX0_blameOfVeneer_36 rfl ?_
      refine v_iload_n C dX0_blameOfVeneer_39 rfl rfl rfl ?_
      refine v_iald (i := p) C hh.l3 hh.s3 rfl (by omega) (by decide) dX0_blameOfVeneer_40 rfl ?_
      refine v_iconst (v := 2) C dX0_blameOfVeneer_41 (by decide) rfl ?_
      refine v_idiv C dX0_blameOfVeneer_42 (by decide) rfl ?_
      refine v_aload_n C dX0_blameOfVeneer_43 rfl rfl rfl ?_
      refine v_getR C hh.l0 hh.s0 rfl hinX0 2 (Nat.le_of_ble_eq_true rfl) lkX0_18 rfl dX0_blameOfVeneer_44 rfl ?_
      refine v_iload_n C dX0_blameOfVeneer_47 rfl rfl rfl ?_
      refine v_iald (i := p + 1) C hh.l3 hh.s3 rfl (by omega) (by decide) dX0_blameOfVeneer_48 rfl ?_
      refine v_iadd C dX0_blameOfVeneer_49 rfl ?_
      exact v_iret C dX0_blameOfVeneer_50 (by rw [hX]; exact fI_of (by simp only [venF, if_neg c5]; rw [Nat.mod_eq_of_lt c24]) rfl)
  · skip
    have c5 := (nI_eq (a := n) (b := 1) (by omega) (by omega)).mp c5
    refine v_aload_n C dX0_blameOfVeneer_8 rfl rfl rfl ?_
    refine v_getR C hh.l0 hh.s0 rfl hinX0 2 (Nat.le_of_ble_eq_true rfl) lkX0_18 rfl dX0_blameOfVeneer_9 rfl ?_
    refine v_iload_n C dX0_blameOfVeneer_12 rfl rfl rfl ?_
    refine v_iald (i := p) C hh.l3 hh.s3 rfl (by omega) (by decide) dX0_blameOfVeneer_13 rfl ?_
    refine v_iconst (v := 2) C dX0_blameOfVeneer_14 (by decide) rfl ?_
    refine v_idiv C dX0_blameOfVeneer_15 (by decide) rfl ?_
    exact v_iret C dX0_blameOfVeneer_16 (by rw [hX]; exact fI_of (by simp [venF, c5]) rfl)
theorem kX0_blameOfPiece (p : Nat) (h n : Nat) (hh : isH h) (σ : St) (hn : σ h 7 = nI n) (h7 : n ≤ 7) (hp : p < n) : Ct yX0_blameOfPiece cX0_blameOfPiece 2 (some .int) 2 [.ref h, .int (nI p)] σ (fI (blaF (σ (h + 1)) (σ (h + 3)) (σ (h + 4)) (σ (h + 5)) n p) σ) := by
  refine ct_of plX0 rfl (Nat.le_of_ble_eq_true rfl) (fun X hX C => ?_)
  show V X 0 [(0, .ref h), (1, .int (nI p))] [] σ
  refine v_aload_n C dX0_blameOfPiece_0 rfl rfl rfl ?_
  refine v_iload_n C dX0_blameOfPiece_1 rfl rfl rfl ?_
  refine v_callV C hh.l0 hh.s0 rfl (As := [.int (nI p)]) (rest := []) (kX0_hasPiece (nI p) h n hh σ hn h7) rfl (Nat.le_of_ble_eq_true rfl) (Nat.le_of_ble_eq_true rfl) ⟨mlX0_55, mfX0_hasPiece⟩ dkX0_hasPiece (Nat.le_of_ble_eq_true rfl) dX0_blameOfPiece_2 rfl (kI ?_)
  refine V.tp (show bI (pieceP (nI p) (nI n)) = 1 from (bI_t (pie_nI (by omega) h7)).symm) ?_
  refine v_if_ne (tgt := 10) C dX0_blameOfPiece_5 (by decide) rfl (fun _ => ?_) (fun q => absurd q (by decide))
  refine v_aload_n C dX0_blameOfPiece_10 rfl rfl rfl ?_
  refine v_getR C hh.l0 hh.s0 rfl hinX0 0 (Nat.le_of_ble_eq_true rfl) lkX0_9 rfl dX0_blameOfPiece_11 rfl ?_
  refine v_iload_n C dX0_blameOfPiece_14 rfl rfl rfl ?_
  refine v_iald (i := p) C hh.l1 hh.s1 rfl (by omega) (by decide) dX0_blameOfPiece_15 rfl ?_
  by_cases s16_1 : σ (h + 1) p = 1
  · refine V.tp s16_1 ?_
    refine v_tableIn (off := 36) (tgt := 52) C dX0_blameOfPiece_16 (by decide) (by decide) rfl (by decide) ?_
    refine v_aload_n C dX0_blameOfPiece_52 rfl rfl rfl ?_
    refine v_iload_n C dX0_blameOfPiece_53 rfl rfl rfl ?_
    refine v_callV C hh.l0 hh.s0 rfl (As := [.int (nI p)]) (rest := []) (kX0_blameOfSuite p h n hh σ hn h7 (by omega)) rfl (Nat.le_of_ble_eq_true rfl) (Nat.le_of_ble_eq_true rfl) ⟨mlX0_66, mfX0_blameOfSuite⟩ dkX0_blameOfSuite (Nat.le_of_ble_eq_true rfl) dX0_blameOfPiece_54 rfl (kI ?_)
    exact v_iret C dX0_blameOfPiece_57 (by rw [hX]; exact fI_of (by simp [blaF, s16_1]) rfl)
  by_cases s16_2 : σ (h + 1) p = 2
  · refine V.tp s16_2 ?_
    refine v_tableIn (off := 42) (tgt := 58) C dX0_blameOfPiece_16 (by decide) (by decide) rfl (by decide) ?_
    refine v_aload_n C dX0_blameOfPiece_58 rfl rfl rfl ?_
    refine v_iload_n C dX0_blameOfPiece_59 rfl rfl rfl ?_
    refine v_callV C hh.l0 hh.s0 rfl (As := [.int (nI p)]) (rest := []) (kX0_blameOfVeneer p h n hh σ hn h7 (by omega)) rfl (Nat.le_of_ble_eq_true rfl) (Nat.le_of_ble_eq_true rfl) ⟨mlX0_69, mfX0_blameOfVeneer⟩ dkX0_blameOfVeneer (Nat.le_of_ble_eq_true rfl) dX0_blameOfPiece_60 rfl (kI ?_)
    exact v_iret C dX0_blameOfPiece_63 (by rw [hX]; exact fI_of (by simp [blaF, s16_1, s16_2]) rfl)
  by_cases s16_3 : σ (h + 1) p = 3
  · refine V.tp s16_3 ?_
    refine v_tableIn (off := 48) (tgt := 64) C dX0_blameOfPiece_16 (by decide) (by decide) rfl (by decide) ?_
    refine v_aload_n C dX0_blameOfPiece_64 rfl rfl rfl ?_
    refine v_getR C hh.l0 hh.s0 rfl hinX0 2 (Nat.le_of_ble_eq_true rfl) lkX0_18 rfl dX0_blameOfPiece_65 rfl ?_
    refine v_iload_n C dX0_blameOfPiece_68 rfl rfl rfl ?_
    refine v_iald (i := p) C hh.l3 hh.s3 rfl (by omega) (by decide) dX0_blameOfPiece_69 rfl ?_
    refine v_aload_n C dX0_blameOfPiece_70 rfl rfl rfl ?_
    refine v_getR C hh.l0 hh.s0 rfl hinX0 3 (Nat.le_of_ble_eq_true rfl) lkX0_21 rfl dX0_blameOfPiece_71 rfl ?_
    refine v_iload_n C dX0_blameOfPiece_74 rfl rfl rfl ?_
    refine v_iald (i := p) C hh.l4 hh.s4 rfl (by omega) (by decide) dX0_blameOfPiece_75 rfl ?_
    refine v_bipush (v := 10) C dX0_blameOfPiece_76 (by decide) rfl ?_
    refine v_idiv C dX0_blameOfPiece_78 (by decide) rfl ?_
    refine v_iadd C dX0_blameOfPiece_79 rfl ?_
    exact v_iret C dX0_blameOfPiece_80 (by rw [hX]; exact fI_of (by simp [blaF, s16_1, s16_2, s16_3]) rfl)
  by_cases s16_4 : σ (h + 1) p = 4
  · refine V.tp s16_4 ?_
    refine v_tableIn (off := 65) (tgt := 81) C dX0_blameOfPiece_16 (by decide) (by decide) rfl (by decide) ?_
    refine v_aload_n C dX0_blameOfPiece_81 rfl rfl rfl ?_
    refine v_iload_n C dX0_blameOfPiece_82 rfl rfl rfl ?_
    refine v_callV C hh.l0 hh.s0 rfl (As := [.int (nI p)]) (rest := []) (kX0_blameOfSuite p h n hh σ hn h7 (by omega)) rfl (Nat.le_of_ble_eq_true rfl) (Nat.le_of_ble_eq_true rfl) ⟨mlX0_66, mfX0_blameOfSuite⟩ dkX0_blameOfSuite (Nat.le_of_ble_eq_true rfl) dX0_blameOfPiece_83 rfl (kI ?_)
    refine v_aload_n C dX0_blameOfPiece_86 rfl rfl rfl ?_
    refine v_getR C hh.l0 hh.s0 rfl hinX0 2 (Nat.le_of_ble_eq_true rfl) lkX0_18 rfl dX0_blameOfPiece_87 rfl ?_
    refine v_iload_n C dX0_blameOfPiece_90 rfl rfl rfl ?_
    refine v_iald (i := p) C hh.l3 hh.s3 rfl (by omega) (by decide) dX0_blameOfPiece_91 rfl ?_
    refine v_iadd C dX0_blameOfPiece_92 rfl ?_
    exact v_iret C dX0_blameOfPiece_93 (by rw [hX]; exact fI_of (by simp [blaF, s16_1, s16_2, s16_3, s16_4]) rfl)
  by_cases s16_5 : σ (h + 1) p = 5
  · refine V.tp s16_5 ?_
    refine v_tableIn (off := 78) (tgt := 94) C dX0_blameOfPiece_16 (by decide) (by decide) rfl (by decide) ?_
    refine v_aload_n C dX0_blameOfPiece_94 rfl rfl rfl ?_
    refine v_iload_n C dX0_blameOfPiece_95 rfl rfl rfl ?_
    refine v_callV C hh.l0 hh.s0 rfl (As := [.int (nI p)]) (rest := []) (kX0_blameOfVeneer p h n hh σ hn h7 (by omega)) rfl (Nat.le_of_ble_eq_true rfl) (Nat.le_of_ble_eq_true rfl) ⟨mlX0_69, mfX0_blameOfVeneer⟩ dkX0_blameOfVeneer (Nat.le_of_ble_eq_true rfl) dX0_blameOfPiece_96 rfl (kI ?_)
    refine v_iconst (v := 2) C dX0_blameOfPiece_99 (by decide) rfl ?_
    refine v_idiv C dX0_blameOfPiece_100 (by decide) rfl ?_
    exact v_iret C dX0_blameOfPiece_101 (by rw [hX]; exact fI_of (by simp [blaF, s16_1, s16_2, s16_3, s16_4, s16_5]) rfl)
  refine v_tableOut (tgt := 102) C dX0_blameOfPiece_16 (by have e0 := lv_neT s16_1 (a := 1) (by decide); have e1 := lv_neT s16_2 (a := 2) (by decide); have e2 := lv_neT s16_3 (a := 3) (by decide); have e3 := lv_neT s16_4 (a := 4) (by decide); have e4 := lv_neT s16_5 (a := 5) (by decide); omega) (by decide) ?_
  refine v_aload_n C dX0_blameOfPiece_102 rfl rfl rfl ?_
  refine v_getR C hh.l0 hh.s0 rfl hinX0 2 (Nat.le_of_ble_eq_true rfl) lkX0_18 rfl dX0_blameOfPiece_103 rfl ?_
  refine v_iload_n C dX0_blameOfPiece_106 rfl rfl rfl ?_
  refine v_iald (i := p) C hh.l3 hh.s3 rfl (by omega) (by decide) dX0_blameOfPiece_107 rfl ?_
  exact v_iret C dX0_blameOfPiece_108 (by rw [hX]; exact fI_of (by simp [blaF, s16_1, s16_2, s16_3, s16_4, s16_5]) rfl)
theorem kX0_piecesIn (r : Int32) (h n : Nat) (hh : isH h) (σ : St) (hn : σ h 7 = nI n) (h7 : n ≤ 7) : Ct yX0_piecesIn cX0_piecesIn 4 (some .int) 0 [.ref h, .int r] σ (fI (pinF (σ (h + 5)) n r) σ) := by
  refine ct_of plX0 rfl (Nat.le_of_ble_eq_true rfl) (fun X hX C => ?_)
  show V X 0 [(0, .ref h), (1, .int r)] [] σ
  refine v_iconst (v := 0) C dX0_piecesIn_0 (by decide) rfl ?_
  refine v_istore_n (lv' := [(2, .int 0), (0, .ref h), (1, .int r)]) C dX0_piecesIn_1 rfl (Nat.le_of_ble_eq_true rfl) rfl rfl ?_
  refine v_iconst (v := 0) C dX0_piecesIn_2 (by decide) rfl ?_
  refine v_istore_n (lv' := [(3, .int 0), (2, .int 0), (0, .ref h), (1, .int r)]) C dX0_piecesIn_3 rfl (Nat.le_of_ble_eq_true rfl) rfl rfl ?_
  have lp4 : ∀ (kf i : Nat) (x2 : Int32) , n < i + kf → i ≤ n → x2 = sumN (pinG (σ (h + 5)) r) i → V X 4 [(3, .int (nI i)), (2, .int x2), (0, .ref h), (1, .int r)] [] σ := by
    intro kf
    induction kf with
    | zero => intro i x2 h1 h2; omega
    | succ kf ih4 =>
      intro i x2 h1 h2 ex2
      refine v_iload_n C dX0_piecesIn_4 rfl rfl rfl ?_
      refine v_aload_n C dX0_piecesIn_5 rfl rfl rfl ?_
      refine v_getI C hh.l0 hh.s0 rfl hinX0 7 (Nat.le_of_ble_eq_true rfl) lkX0_33 rfl dX0_piecesIn_6 rfl ?_
      refine V.tp hn ?_
      refine v_icmp_ge (tgt := 31) C dX0_piecesIn_9 (by decide) rfl (fun c9 => ?_) (fun c9 => ?_)
      · skip
        have c9 := mt (nI_ltI (a := i) (b := n) (by omega) (by omega)).mpr c9
        refine v_iload_n C dX0_piecesIn_31 rfl rfl rfl ?_
        exact v_iret C dX0_piecesIn_32 (by rw [hX]; exact fI_of (by rw [ex2, pinF, show i = n by omega]) rfl)
      · skip
        have c9 := (nI_ltI (a := i) (b := n) (by omega) (by omega)).mp c9
        refine v_aload_n C dX0_piecesIn_12 rfl rfl rfl ?_
        refine v_getR C hh.l0 hh.s0 rfl hinX0 4 (Nat.le_of_ble_eq_true rfl) lkX0_24 rfl dX0_piecesIn_13 rfl ?_
        refine v_iload_n C dX0_piecesIn_16 rfl rfl rfl ?_
        refine v_iald (i := i) C hh.l5 hh.s5 rfl (by omega) (by decide) dX0_piecesIn_17 rfl ?_
        refine v_iload_n C dX0_piecesIn_18 rfl rfl rfl ?_
        refine v_icmp_ne (tgt := 25) C dX0_piecesIn_19 (by decide) rfl (fun c19 => ?_) (fun c19 => ?_)
        · skip
          refine v_iinc (lv' := [(3, .int (nI (i + 1))), (2, .int x2), (0, .ref h), (1, .int r)]) C dX0_piecesIn_25 rfl (nI_inc i) (Nat.le_of_ble_eq_true rfl) rfl rfl ?_
          refine v_goto (tgt := 4) C dX0_piecesIn_28 (by decide) ?_
          exact V.sub [0, 1, 2, 3] rfl (ih4 (i + 1) _ (by omega) (by omega) (by rw [ex2]; simp [sumN, pinG, Int32.add_assoc, c9, c19]))
        · skip
          obtain ⟨v22_1, ev22_1⟩ : ∃ y : Int32, y = x2 + 1 := ⟨_, rfl⟩
          refine v_iinc (lv' := [(2, .int v22_1), (3, .int (nI i)), (0, .ref h), (1, .int r)]) C dX0_piecesIn_22 rfl (by rw [ev22_1]; rfl) (Nat.le_of_ble_eq_true rfl) rfl rfl ?_
          refine v_iinc (lv' := [(3, .int (nI (i + 1))), (2, .int v22_1), (0, .ref h), (1, .int r)]) C dX0_piecesIn_25 rfl (nI_inc i) (Nat.le_of_ble_eq_true rfl) rfl rfl ?_
          refine v_goto (tgt := 4) C dX0_piecesIn_28 (by decide) ?_
          exact V.sub [0, 1, 2, 3] rfl (ih4 (i + 1) _ (by omega) (by omega) (by rw [ev22_1, ex2]; simp [sumN, pinG, Int32.add_assoc, c9, c19]))
  exact V.sub [0, 1, 2, 3] rfl (lp4 (n + 1) 0 0 (by omega) (by omega) (rfl))
theorem kX0_blameIn (r : Int32) (h n : Nat) (hh : isH h) (σ : St) (hn : σ h 7 = nI n) (h7 : n ≤ 7) : Ct yX0_blameIn cX0_blameIn 4 (some .int) 3 [.ref h, .int r] σ (fI (inF (σ (h + 1)) (σ (h + 3)) (σ (h + 4)) (σ (h + 5)) n r) σ) := by
  refine ct_of plX0 rfl (Nat.le_of_ble_eq_true rfl) (fun X hX C => ?_)
  show V X 0 [(0, .ref h), (1, .int r)] [] σ
  refine v_iconst (v := 0) C dX0_blameIn_0 (by decide) rfl ?_
  refine v_istore_n (lv' := [(2, .int 0), (0, .ref h), (1, .int r)]) C dX0_blameIn_1 rfl (Nat.le_of_ble_eq_true rfl) rfl rfl ?_
  refine v_iconst (v := 0) C dX0_blameIn_2 (by decide) rfl ?_
  refine v_istore_n (lv' := [(3, .int 0), (2, .int 0), (0, .ref h), (1, .int r)]) C dX0_blameIn_3 rfl (Nat.le_of_ble_eq_true rfl) rfl rfl ?_
  have lp4 : ∀ (kf i : Nat) (x2 : Int32) , n < i + kf → i ≤ n → x2 = sumN (binC (σ (h + 1)) (σ (h + 3)) (σ (h + 4)) (σ (h + 5)) n r) i → V X 4 [(3, .int (nI i)), (2, .int x2), (0, .ref h), (1, .int r)] [] σ := by
    intro kf
    induction kf with
    | zero => intro i x2 h1 h2; omega
    | succ kf ih4 =>
      intro i x2 h1 h2 ex2
      refine v_iload_n C dX0_blameIn_4 rfl rfl rfl ?_
      refine v_aload_n C dX0_blameIn_5 rfl rfl rfl ?_
      refine v_getI C hh.l0 hh.s0 rfl hinX0 7 (Nat.le_of_ble_eq_true rfl) lkX0_33 rfl dX0_blameIn_6 rfl ?_
      refine V.tp hn ?_
      refine v_icmp_ge (tgt := 36) C dX0_blameIn_9 (by decide) rfl (fun c9 => ?_) (fun c9 => ?_)
      · skip
        have c9 := mt (nI_ltI (a := i) (b := n) (by omega) (by omega)).mpr c9
        refine v_iload_n C dX0_blameIn_36 rfl rfl rfl ?_
        exact v_iret C dX0_blameIn_37 (by rw [hX]; exact fI_of (by rw [ex2, inF, show i = n by omega]) rfl)
      · skip
        have c9 := (nI_ltI (a := i) (b := n) (by omega) (by omega)).mp c9
        refine v_aload_n C dX0_blameIn_12 rfl rfl rfl ?_
        refine v_getR C hh.l0 hh.s0 rfl hinX0 4 (Nat.le_of_ble_eq_true rfl) lkX0_24 rfl dX0_blameIn_13 rfl ?_
        refine v_iload_n C dX0_blameIn_16 rfl rfl rfl ?_
        refine v_iald (i := i) C hh.l5 hh.s5 rfl (by omega) (by decide) dX0_blameIn_17 rfl ?_
        refine v_iload_n C dX0_blameIn_18 rfl rfl rfl ?_
        refine v_icmp_ne (tgt := 30) C dX0_blameIn_19 (by decide) rfl (fun c19 => ?_) (fun c19 => ?_)
        · skip
          refine v_iinc (lv' := [(3, .int (nI (i + 1))), (2, .int x2), (0, .ref h), (1, .int r)]) C dX0_blameIn_30 rfl (nI_inc i) (Nat.le_of_ble_eq_true rfl) rfl rfl ?_
          refine v_goto (tgt := 4) C dX0_blameIn_33 (by decide) ?_
          exact V.sub [0, 1, 2, 3] rfl (ih4 (i + 1) _ (by omega) (by omega) (by rw [ex2]; simp [sumN, binC, Int32.add_assoc, c9, c19]))
        · skip
          refine v_iload_n C dX0_blameIn_22 rfl rfl rfl ?_
          refine v_aload_n C dX0_blameIn_23 rfl rfl rfl ?_
          refine v_iload_n C dX0_blameIn_24 rfl rfl rfl ?_
          refine v_callV C hh.l0 hh.s0 rfl (As := [.int (nI i)]) (rest := [.int x2]) (kX0_blameOfPiece i h n hh σ hn h7 (by omega)) rfl (Nat.le_of_ble_eq_true rfl) (Nat.le_of_ble_eq_true rfl) ⟨mlX0_59, mfX0_blameOfPiece⟩ dkX0_blameOfPiece (Nat.le_of_ble_eq_true rfl) dX0_blameIn_25 rfl (kI ?_)
          refine v_iadd C dX0_blameIn_28 rfl ?_
          refine V.top (fun v29_1 ev29_1 => ?_)
          refine v_istore_n (lv' := [(2, .int v29_1), (3, .int (nI i)), (0, .ref h), (1, .int r)]) C dX0_blameIn_29 rfl (Nat.le_of_ble_eq_true rfl) rfl rfl ?_
          refine v_iinc (lv' := [(3, .int (nI (i + 1))), (2, .int v29_1), (0, .ref h), (1, .int r)]) C dX0_blameIn_30 rfl (nI_inc i) (Nat.le_of_ble_eq_true rfl) rfl rfl ?_
          refine v_goto (tgt := 4) C dX0_blameIn_33 (by decide) ?_
          exact V.sub [0, 1, 2, 3] rfl (ih4 (i + 1) _ (by omega) (by omega) (by rw [ev29_1, ex2]; simp [sumN, binC, Int32.add_assoc, c9, c19]))
  exact V.sub [0, 1, 2, 3] rfl (lp4 (n + 1) 0 0 (by omega) (by omega) (rfl))
theorem kX0_blameOfAll (h n : Nat) (hh : isH h) (σ : St) (hn : σ h 7 = nI n) (h7 : n ≤ 7) : Ct yX0_blameOfAll cX0_blameOfAll 3 (some .int) 3 [.ref h] σ (fI (binF (σ (h + 1)) (σ (h + 3)) (σ (h + 4)) (σ (h + 5)) n 10) σ) := by
  refine ct_of plX0 rfl (Nat.le_of_ble_eq_true rfl) (fun X hX C => ?_)
  show V X 0 [(0, .ref h)] [] σ
  refine v_iconst (v := 0) C dX0_blameOfAll_0 (by decide) rfl ?_
  refine v_istore_n (lv' := [(1, .int 0), (0, .ref h)]) C dX0_blameOfAll_1 rfl (Nat.le_of_ble_eq_true rfl) rfl rfl ?_
  refine v_iconst (v := 0) C dX0_blameOfAll_2 (by decide) rfl ?_
  refine v_istore_n (lv' := [(2, .int 0), (1, .int 0), (0, .ref h)]) C dX0_blameOfAll_3 rfl (Nat.le_of_ble_eq_true rfl) rfl rfl ?_
  have lp4 : ∀ (kf i : Nat) (x2 : Int32) , n < i + kf → i ≤ n → x2 = sumN (binG (σ (h + 1)) (σ (h + 3)) (σ (h + 4)) (σ (h + 5)) n 10) i → V X 4 [(2, .int (nI i)), (1, .int x2), (0, .ref h)] [] σ := by
    intro kf
    induction kf with
    | zero => intro i x2 h1 h2; omega
    | succ kf ih4 =>
      intro i x2 h1 h2 ex2
      refine v_iload_n C dX0_blameOfAll_4 rfl rfl rfl ?_
      refine v_aload_n C dX0_blameOfAll_5 rfl rfl rfl ?_
      refine v_getI C hh.l0 hh.s0 rfl hinX0 7 (Nat.le_of_ble_eq_true rfl) lkX0_33 rfl dX0_blameOfAll_6 rfl ?_
      refine V.tp hn ?_
      refine v_icmp_ge (tgt := 26) C dX0_blameOfAll_9 (by decide) rfl (fun c9 => ?_) (fun c9 => ?_)
      · skip
        have c9 := mt (nI_ltI (a := i) (b := n) (by omega) (by omega)).mpr c9
        refine v_iload_n C dX0_blameOfAll_26 rfl rfl rfl ?_
        exact v_iret C dX0_blameOfAll_27 (by rw [hX]; exact fI_of (by rw [ex2, binF, show i = n by omega]) rfl)
      · skip
        have c9 := (nI_ltI (a := i) (b := n) (by omega) (by omega)).mp c9
        refine v_iload_n C dX0_blameOfAll_12 rfl rfl rfl ?_
        refine v_aload_n C dX0_blameOfAll_13 rfl rfl rfl ?_
        refine v_iload_n C dX0_blameOfAll_14 rfl rfl rfl ?_
        refine v_callV C hh.l0 hh.s0 rfl (As := [.int (nI i)]) (rest := [.int x2]) (kX0_blameOfPiece i h n hh σ hn h7 (by omega)) rfl (Nat.le_of_ble_eq_true rfl) (Nat.le_of_ble_eq_true rfl) ⟨mlX0_59, mfX0_blameOfPiece⟩ dkX0_blameOfPiece (Nat.le_of_ble_eq_true rfl) dX0_blameOfAll_15 rfl (kI ?_)
        refine v_iadd C dX0_blameOfAll_18 rfl ?_
        refine V.top (fun v19_1 ev19_1 => ?_)
        refine v_istore_n (lv' := [(1, .int v19_1), (2, .int (nI i)), (0, .ref h)]) C dX0_blameOfAll_19 rfl (Nat.le_of_ble_eq_true rfl) rfl rfl ?_
        refine v_iinc (lv' := [(2, .int (nI (i + 1))), (1, .int v19_1), (0, .ref h)]) C dX0_blameOfAll_20 rfl (nI_inc i) (Nat.le_of_ble_eq_true rfl) rfl rfl ?_
        refine v_goto (tgt := 4) C dX0_blameOfAll_23 (by decide) ?_
        exact V.sub [0, 1, 2] rfl (ih4 (i + 1) _ (by omega) (by omega) (by rw [ev19_1, ex2]; simp [sumN, binG, Int32.add_assoc, c9]))
  exact V.sub [0, 1, 2] rfl (lp4 (n + 1) 0 0 (by omega) (by omega) (rfl))
theorem worN_1 (F : Int32 → Int32) : worN F 1 = 0 := by simp [worN]
theorem worN_keep {F : Int32 → Int32} {i : Nat} {x1 x2 v : Int32} (hi : 1 ≤ i) (e1 : x1 = worN F i) (e2 : x2 = F (worN F i)) (ev : v = F (nI i)) (c : ¬ x2 < v) : x1 = worN F (i + 1) ∧ x2 = F (worN F (i + 1)) := by
  subst e1; subst e2; subst ev
  rw [worN, if_neg (by omega), if_neg c]; exact ⟨rfl, rfl⟩
theorem worN_new {F : Int32 → Int32} {i : Nat} {x2 v : Int32} (hi : 1 ≤ i) (e2 : x2 = F (worN F i)) (ev : v = F (nI i)) (c : x2 < v) : nI i = worN F (i + 1) ∧ v = F (worN F (i + 1)) := by
  subst e2; subst ev
  rw [worN, if_neg (by omega), if_pos c]; exact ⟨rfl, rfl⟩
theorem kX0_worstRoom (h n : Nat) (hh : isH h) (σ : St) (hn : σ h 7 = nI n) (h7 : n ≤ 7) : Ct yX0_worstRoom cX0_worstRoom 5 (some .int) 4 [.ref h] σ (fI (worN (inF (σ (h + 1)) (σ (h + 3)) (σ (h + 4)) (σ (h + 5)) n) 6) σ) := by
  refine ct_of plX0 rfl (Nat.le_of_ble_eq_true rfl) (fun X hX C => ?_)
  show V X 0 [(0, .ref h)] [] σ
  refine v_iconst (v := 0) C dX0_worstRoom_0 (by decide) rfl ?_
  refine v_istore_n (lv' := [(1, .int 0), (0, .ref h)]) C dX0_worstRoom_1 rfl (Nat.le_of_ble_eq_true rfl) rfl rfl ?_
  refine v_aload_n C dX0_worstRoom_2 rfl rfl rfl ?_
  refine v_iconst (v := 0) C dX0_worstRoom_3 (by decide) rfl ?_
  refine v_callV C hh.l0 hh.s0 rfl (As := [.int 0]) (rest := []) (kX0_blameIn 0 h n hh σ hn h7) rfl (Nat.le_of_ble_eq_true rfl) (Nat.le_of_ble_eq_true rfl) ⟨mlX0_75, mfX0_blameIn⟩ dkX0_blameIn (Nat.le_of_ble_eq_true rfl) dX0_worstRoom_4 rfl (kI ?_)
  refine V.top (fun v7_1 ev7_1 => ?_)
  refine v_istore_n (lv' := [(2, .int v7_1), (1, .int 0), (0, .ref h)]) C dX0_worstRoom_7 rfl (Nat.le_of_ble_eq_true rfl) rfl rfl ?_
  refine v_iconst (v := 1) C dX0_worstRoom_8 (by decide) rfl ?_
  refine v_istore_n (lv' := [(3, .int 1), (2, .int v7_1), (1, .int 0), (0, .ref h)]) C dX0_worstRoom_9 rfl (Nat.le_of_ble_eq_true rfl) rfl rfl ?_
  have lp10 : ∀ (kf i : Nat) (x1 : Int32) (x2 : Int32) , 6 < i + kf → i ≤ 6 → x1 = worN (inF (σ (h + 1)) (σ (h + 3)) (σ (h + 4)) (σ (h + 5)) n) i → x2 = (inF (σ (h + 1)) (σ (h + 3)) (σ (h + 4)) (σ (h + 5)) n) (worN (inF (σ (h + 1)) (σ (h + 3)) (σ (h + 4)) (σ (h + 5)) n) i) → (1 ≤ i) → V X 10 [(3, .int (nI i)), (2, .int x2), (1, .int x1), (0, .ref h)] [] σ := by
    intro kf
    induction kf with
    | zero => intro i x1 x2 h1 h2; omega
    | succ kf ih10 =>
      intro i x1 x2 h1 h2 ex1 ex2 hi1
      refine v_iload_n C dX0_worstRoom_10 rfl rfl rfl ?_
      refine v_bipush (v := 6) C dX0_worstRoom_11 (by decide) rfl ?_
      refine v_icmp_ge (tgt := 40) C dX0_worstRoom_13 (by decide) rfl (fun c13 => ?_) (fun c13 => ?_)
      · skip
        have c13 := mt (nI_ltI (a := i) (b := 6) (by omega) (by omega)).mpr c13
        refine v_iload_n C dX0_worstRoom_40 rfl rfl rfl ?_
        exact v_iret C dX0_worstRoom_41 (by rw [hX]; exact fI_of (by rw [ex1, show i = 6 by omega]) rfl)
      · skip
        have c13 := (nI_ltI (a := i) (b := 6) (by omega) (by omega)).mp c13
        refine v_aload_n C dX0_worstRoom_16 rfl rfl rfl ?_
        refine v_iload_n C dX0_worstRoom_17 rfl rfl rfl ?_
        refine v_callV C hh.l0 hh.s0 rfl (As := [.int (nI i)]) (rest := []) (kX0_blameIn (nI i) h n hh σ hn h7) rfl (Nat.le_of_ble_eq_true rfl) (Nat.le_of_ble_eq_true rfl) ⟨mlX0_75, mfX0_blameIn⟩ dkX0_blameIn (Nat.le_of_ble_eq_true rfl) dX0_worstRoom_18 rfl (kI ?_)
        refine V.top (fun v21_2 ev21_2 => ?_)
        refine v_istore (lv' := [(4, .int v21_2), (3, .int (nI i)), (2, .int x2), (1, .int x1), (0, .ref h)]) C dX0_worstRoom_21 (Nat.le_of_ble_eq_true rfl) rfl rfl ?_
        refine v_iload C dX0_worstRoom_23 rfl rfl ?_
        refine v_iload_n C dX0_worstRoom_25 rfl rfl rfl ?_
        refine v_icmp_le (tgt := 34) C dX0_worstRoom_26 (by decide) rfl (fun c26 => ?_) (fun c26 => ?_)
        · skip
          refine v_iinc (lv' := [(3, .int (nI (i + 1))), (4, .int v21_2), (2, .int x2), (1, .int x1), (0, .ref h)]) C dX0_worstRoom_34 rfl (nI_inc i) (Nat.le_of_ble_eq_true rfl) rfl rfl ?_
          refine v_goto (tgt := 10) C dX0_worstRoom_37 (by decide) ?_
          exact V.sub [0, 2, 3, 4] rfl (ih10 (i + 1) _ _ (by omega) (by omega) ((worN_keep hi1 ex1 ex2 ev21_2 c26).1) ((worN_keep hi1 ex1 ex2 ev21_2 c26).2) (by omega))
        · skip
          refine v_iload_n C dX0_worstRoom_29 rfl rfl rfl ?_
          refine v_istore_n (lv' := [(1, .int (nI i)), (4, .int v21_2), (3, .int (nI i)), (2, .int x2), (0, .ref h)]) C dX0_worstRoom_30 rfl (Nat.le_of_ble_eq_true rfl) rfl rfl ?_
          refine v_iload C dX0_worstRoom_31 rfl rfl ?_
          refine v_istore_n (lv' := [(2, .int v21_2), (1, .int (nI i)), (4, .int v21_2), (3, .int (nI i)), (0, .ref h)]) C dX0_worstRoom_33 rfl (Nat.le_of_ble_eq_true rfl) rfl rfl ?_
          refine v_iinc (lv' := [(3, .int (nI (i + 1))), (2, .int v21_2), (1, .int (nI i)), (4, .int v21_2), (0, .ref h)]) C dX0_worstRoom_34 rfl (nI_inc i) (Nat.le_of_ble_eq_true rfl) rfl rfl ?_
          refine v_goto (tgt := 10) C dX0_worstRoom_37 (by decide) ?_
          exact V.sub [0, 1, 2, 4] rfl (ih10 (i + 1) _ _ (by omega) (by omega) ((worN_new hi1 ex2 ev21_2 c26).1) ((worN_new hi1 ex2 ev21_2 c26).2) (by omega))
  exact V.sub [0, 1, 2, 3] rfl (lp10 (6 + 1) 1 0 v7_1 (by omega) (by omega) ((worN_1 _).symm) (by rw [worN_1]; exact ev7_1) (by omega))
