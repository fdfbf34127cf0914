/-! the class: choice -/
theorem minN_cgl {P Q : Nat → Prop} {f g : Nat → Int32} : ∀ m, (∀ p, p < m → (P p ↔ Q p) ∧ f p = g p) → minN P f m = minN Q g m
  | 0, _ => rfl
  | m + 1, h => by
    have ih := minN_cgl m (fun p hp => h p (by omega))
    have hm := h m (by omega)
    rw [minN, minN, ih]
    rcases hq : minN Q g m with _ | b
    · simp only [hm.1]
    · have hb := minN_lt hq
      simp only [hm.1, hm.2, (h b (by omega)).2]
def chI (σ τ : St) (n q k : Nat) : Prop := τ 49 4 = nI n ∧ τ 49 5 = nI q ∧ τ 49 8 = chL q k ∧ (∀ p, p < n → τ 50 p = blH σ 19 n p) ∧ (∀ p, p < n → (τ 51 p = -9 ↔ ¬ hasP (tkN (blH σ 19 n) n k) (nI p))) ∧ (∀ j, j < 4 → τ 53 j = chS (fun _ => 0) (blH σ 19 n) n q k j) ∧ Shk σ τ
theorem chI_0 {σ τ υ : St} {n q : Nat} (h : Beg σ τ n q) (h7 : n ≤ 7) (e : υ = s2 (setR τ 51 (pre 7 (fun _ => -9) (τ 51))) 49 8 (-9)) : chI σ υ n q 0 := by
  subst e
  refine ⟨h.1, h.2.1, rfl, fun p hp => h.2.2.2.2.1 p hp, fun p hp => ?_, fun j hj => h.2.2.2.2.2.1 j hj, fun a h1 h2 h3 h4 h5 => ?_⟩
  · have e1 : s2 (setR τ 51 (pre 7 (fun _ => -9) (τ 51))) 49 8 (-9) 51 p = -9 := by
      rw [s2_ne (by decide)]
      show pre 7 (fun _ => (-9 : Int32)) (τ 51) p = -9
      simp [pre, show p < 7 by omega]
    refine ⟨fun _ => ?_, fun _ => e1⟩
    rw [hasP_bt (by omega)]; simp [tkN, b_0]
  · rw [s2_ne h1]; simp only [setR, if_neg h3]; exact h.2.2.2.2.2.2 a h1 h2 h5
theorem tk_has (bl : Nat → Int32) {n k b : Nat} (h7 : n ≤ 7) (hb : chM bl n k = some b) {p : Nat} (hp : p < n) : hasP (tkN bl n (k + 1)) (nI p) ↔ (hasP (tkN bl n k) (nI p) ∨ p = b) := by
  rw [hasP_bt (by omega), hasP_bt (by omega), tk_bt bl h7 k (by omega), hb]
  simp only [Bool.or_eq_true, decide_eq_true_eq, Option.some.injEq]
  exact ⟨fun z => z.imp id Eq.symm, fun z => z.imp id Eq.symm⟩
theorem chI_min {σ τ : St} {n q k : Nat} (h : chI σ τ n q k) (x : Int32) : minN (fun p => s2 τ 49 8 x 51 p = -9) (s2 τ 49 8 x 50) n = chM (blH σ 19 n) n k := by
  rw [chM]
  exact minN_cgl n (fun p hp => ⟨by rw [s2_ne (by decide)]; exact h.2.2.2.2.1 p hp, by rw [s2_ne (by decide)]; exact h.2.2.2.1 p hp⟩)
theorem chI_st {σ τ : St} {n q k b : Nat} (h : chI σ τ n q k) (h7 : n ≤ 7) (hb : chM (blH σ 19 n) n k = some b) (hbn : b < n) (q2 : 2 ≤ q) (q4 : q ≤ 4) : chI σ (givS (s2 τ 49 8 (nI (k % q))) b (k % q)) n q (k + 1) := by
  have hg : k % q < q := Nat.mod_lt _ (by omega)
  refine ⟨?_, ?_, ?_, fun p hp => ?_, fun p hp => ?_, fun j hj => ?_, fun a h1 h2 h3 h4 h5 => ?_⟩
  · rw [givS, s2_ne (by decide), s2_ne (by decide), s2_get, if_neg (by decide)]; exact h.1
  · rw [givS, s2_ne (by decide), s2_ne (by decide), s2_get, if_neg (by decide)]; exact h.2.1
  · rw [givS, s2_ne (by decide), s2_ne (by decide), s2_get, if_pos ⟨rfl, rfl⟩]; rfl
  · rw [givS, s2_ne (by decide), s2_ne (by decide), s2_ne (by decide)]; exact h.2.2.2.1 p hp
  · rw [givS, s2_ne (by decide), s2_get, tk_has _ h7 hb hp]
    by_cases e : p = b
    · rw [if_pos ⟨rfl, e⟩]
      exact ⟨fun z => absurd z (nI_n9 (by omega)), fun z => absurd (Or.inr e) z⟩
    · rw [if_neg (fun z => e z.2), s2_ne (by decide), h.2.2.2.2.1 p hp]
      exact ⟨fun z y => y.elim z e, fun z y => z (Or.inl y)⟩
  · rw [givS, s2_get, chS, s2_ne (by decide), s2_ne (by decide), h.2.2.2.2.2.1 _ (by omega), h.2.2.2.1 b hbn, s2_ne (by decide), s2_ne (by decide), hb]
    unfold upd
    by_cases e : j = k % q
    · rw [if_pos ⟨rfl, e⟩, if_pos e]; rfl
    · rw [if_neg (fun z => e z.2), if_neg e]; exact h.2.2.2.2.2.1 j hj
  · rw [givS, s2_ne h5, s2_ne h3, s2_ne h1]; exact h.2.2.2.2.2.2 a h1 h2 h3 h4 h5
noncomputable def choH (σ : St) (n q : Nat) (v : Int32) : Int32 := cI (alP v (nI q)) (if v = -1 then chL q n else cI (pieceP v (nI q)) (chS (fun _ => 0) (blH σ 19 n) n q n (tn v)) (-9)) (if v < -1 then -4 else -1)
theorem kX3_chooseInTurn (n q : Nat) (σ : St) (hn : σ 19 7 = nI n) (h7 : n ≤ 7) (hq : σ 19 8 = nI q) (q2 : 2 ≤ q) (q4 : q ≤ 4) : Ct yX3_chooseInTurn cX3_chooseInTurn 3 none 4 [.ref 49, .ref 19] σ (rV (fun τ => chI σ τ n q n)) := by
  refine ct_of plX3 rfl (Nat.le_of_ble_eq_true rfl) (fun X hX C => ?_)
  show V X 0 [(0, .ref 49), (1, .ref 19)] [] σ
  refine v_aload_n C dX3_chooseInTurn_0 rfl rfl rfl ?_
  refine v_aload_n C dX3_chooseInTurn_1 rfl rfl rfl ?_
  refine v_callV C (Nat.le_of_ble_eq_true rfl) rfl rfl (As := [.ref 19]) (rest := []) (kX3_begin n q σ hn h7 hq q2 q4) rfl (Nat.le_of_ble_eq_true rfl) (Nat.le_of_ble_eq_true rfl) ⟨mlX3_65, mfX3_begin⟩ dkX3_begin (Nat.le_of_ble_eq_true rfl) dX3_chooseInTurn_2 rfl (krV (fun υ hB => ?_))
  refine v_aload_n C dX3_chooseInTurn_5 rfl rfl rfl ?_
  refine v_getR C (Nat.le_of_ble_eq_true rfl) rfl rfl hinX3 1 (Nat.le_of_ble_eq_true rfl) lkX3_15 rfl dX3_chooseInTurn_6 rfl ?_
  refine v_bipush (v := -9) C dX3_chooseInTurn_9 (by decide) rfl ?_
  refine v_callS C (As := [.ref 51, .int (-9)]) (rest := []) (kJ7_fill_53178 51 7 (-9) υ (Nat.le_of_ble_eq_true rfl) rfl (by decide)) rfl (Nat.le_of_ble_eq_true rfl) (Nat.le_of_ble_eq_true rfl) ⟨mlX3_59, mfJ7_fill_53178⟩ dkJ7_fill_53178 (Nat.le_of_ble_eq_true rfl) dX3_chooseInTurn_11 rfl (kV ?_)
  refine v_aload_n C dX3_chooseInTurn_14 rfl rfl rfl ?_
  refine v_bipush (v := -9) C dX3_chooseInTurn_15 (by decide) rfl ?_
  refine v_put (ty := .int) C (Nat.le_of_ble_eq_true rfl) rfl rfl hinX3 tyX3_ok nmX3 8 (Nat.le_of_ble_eq_true rfl) lkX3_38 rfl (by decide +kernel) rfl rfl rfl dX3_chooseInTurn_17 rfl ?_
  refine V.nm (fun τ17_1 eτ17_1 => ?_)
  have hI0 := chI_0 hB h7 eτ17_1
  refine v_iconst (v := 0) C dX3_chooseInTurn_20 (by decide) rfl ?_
  refine v_istore_n (lv' := [(2, .int 0), (0, .ref 49), (1, .ref 19)]) C dX3_chooseInTurn_21 rfl (Nat.le_of_ble_eq_true rfl) rfl rfl ?_
  have lp22 : ∀ (kf i : Nat)  (τ : St), n < i + kf → i ≤ n → chI σ τ n q i → V X 22 [(2, .int (nI i)), (0, .ref 49), (1, .ref 19)] [] τ := by
    intro kf
    induction kf with
    | zero => intro i  τ h1 h2; omega
    | succ kf ih22 =>
      intro i  τ h1 h2  eτ
      refine v_iload_n C dX3_chooseInTurn_22 rfl rfl rfl ?_
      refine v_aload_n C dX3_chooseInTurn_23 rfl rfl rfl ?_
      refine v_getI C (Nat.le_of_ble_eq_true rfl) rfl rfl hinX3 4 (Nat.le_of_ble_eq_true rfl) lkX3_24 rfl dX3_chooseInTurn_24 rfl ?_
      refine V.tp eτ.1 ?_
      refine v_icmp_ge (tgt := 69) C dX3_chooseInTurn_27 (by decide) rfl (fun c27 => ?_) (fun c27 => ?_)
      · skip
        have c27 := mt (nI_ltI (a := i) (b := n) (by omega) (by omega)).mpr c27
        exact v_vret C dX3_chooseInTurn_69 (by rw [hX]; exact ⟨rfl, (show i = n from by omega) ▸ eτ⟩)
      · skip
        have c27 := (nI_ltI (a := i) (b := n) (by omega) (by omega)).mp c27
        refine v_aload_n C dX3_chooseInTurn_30 rfl rfl rfl ?_
        refine v_aload_n C dX3_chooseInTurn_31 rfl rfl rfl ?_
        refine v_getI C (Nat.le_of_ble_eq_true rfl) rfl rfl hinX3 5 (Nat.le_of_ble_eq_true rfl) lkX3_28 rfl dX3_chooseInTurn_32 rfl ?_
        refine V.tp eτ.2.1 ?_
        refine v_if_le (tgt := 47) C dX3_chooseInTurn_35 (by decide) rfl (fun c35 => ?_) (fun c35 => ?_)
        · skip
          have c35 := mt (nI_ltI (a := 0) (b := q) (by omega) (by omega)).mpr c35
          exact absurd (show 0 < q by omega) c35
        · skip
          have c35 := (nI_ltI (a := 0) (b := q) (by omega) (by omega)).mp c35
          refine v_iload_n C dX3_chooseInTurn_38 rfl rfl rfl ?_
          refine v_aload_n C dX3_chooseInTurn_39 rfl rfl rfl ?_
          refine v_getI C (Nat.le_of_ble_eq_true rfl) rfl rfl hinX3 5 (Nat.le_of_ble_eq_true rfl) lkX3_28 rfl dX3_chooseInTurn_40 rfl ?_
          refine V.tp eτ.2.1 ?_
          refine v_irem C dX3_chooseInTurn_43 (nI_ne0 (by omega) (by omega)) rfl ?_
          refine V.tp (pk_rem (a := i) (d := q) (by omega) (by omega) (by omega)) ?_
          refine v_goto (tgt := 48) C dX3_chooseInTurn_44 (by decide) ?_
          refine v_put (ty := .int) C (Nat.le_of_ble_eq_true rfl) rfl rfl hinX3 tyX3_ok nmX3 8 (Nat.le_of_ble_eq_true rfl) lkX3_38 rfl (by decide +kernel) rfl rfl rfl dX3_chooseInTurn_48 rfl ?_
          refine V.nm (fun τ48_2 eτ48_2 => ?_)
          obtain ⟨b, hb, hbn⟩ := chM_some (blH σ 19 n) (k := i) h7 (by omega)
          have hG : i % q < q := Nat.mod_lt _ (by omega)
          have h4v : τ48_2 49 4 = nI n := by rw [eτ48_2, s2_get, if_neg (by decide)]; exact eτ.1
          have h5v : τ48_2 49 5 = nI q := by rw [eτ48_2, s2_get, if_neg (by decide)]; exact eτ.2.1
          refine v_aload_n C dX3_chooseInTurn_51 rfl rfl rfl ?_
          refine v_aload_n C dX3_chooseInTurn_52 rfl rfl rfl ?_
          refine v_callV C (Nat.le_of_ble_eq_true rfl) rfl rfl (As := []) (rest := [.ref 49]) (kX3_leastOfLeft n τ48_2 h4v h7) rfl (Nat.le_of_ble_eq_true rfl) (Nat.le_of_ble_eq_true rfl) ⟨mlX3_100, mfX3_leastOfLeft⟩ dkX3_leastOfLeft (Nat.le_of_ble_eq_true rfl) dX3_chooseInTurn_53 rfl (kI ?_)
          refine V.tp (show oI (minN (fun p => τ48_2 51 p = -9) (τ48_2 50) n) = nI b from by rw [eτ48_2, chI_min eτ, hb]; rfl) ?_
          refine v_aload_n C dX3_chooseInTurn_56 rfl rfl rfl ?_
          refine v_getI C (Nat.le_of_ble_eq_true rfl) rfl rfl hinX3 8 (Nat.le_of_ble_eq_true rfl) lkX3_38 rfl dX3_chooseInTurn_57 rfl ?_
          refine V.tp (by rw [eτ48_2, s2_get, if_pos ⟨rfl, rfl⟩]) ?_
          refine v_callV C (Nat.le_of_ble_eq_true rfl) rfl rfl (As := [.int (nI b), .int (nI (i % q))]) (rest := []) (kX3_give b (i % q) n q τ48_2 h4v h7 h5v q4 hbn hG) rfl (Nat.le_of_ble_eq_true rfl) (Nat.le_of_ble_eq_true rfl) ⟨mlX3_73, mfX3_give⟩ dkX3_give (Nat.le_of_ble_eq_true rfl) dX3_chooseInTurn_60 rfl (kV ?_)
          refine v_iinc (lv' := [(2, .int (nI (i + 1))), (0, .ref 49), (1, .ref 19)]) C dX3_chooseInTurn_63 rfl (nI_inc i) (Nat.le_of_ble_eq_true rfl) rfl rfl ?_
          refine v_goto (tgt := 22) C dX3_chooseInTurn_66 (by decide) ?_
          exact V.sub [0, 1, 2] rfl (ih22 (i + 1)  _ (by omega) (by omega)  (by rw [eτ48_2]; exact chI_st eτ h7 hb hbn q2 q4))
  exact V.sub [0, 1, 2] rfl (lp22 (n + 1) 0  _ (by omega) (by omega)  (hI0))
