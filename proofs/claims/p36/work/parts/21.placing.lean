/-! the check's class: placings -/
theorem bulF_cg {bk pl pl' : Nat → Int32} {n : Nat} (h : ∀ p, p < n → pl p = pl' p) (r : Int32) : bulF bk pl n r = bulF bk pl' n r :=
  sumN_congr (fun p hp => by rw [bulG, bulG, h p hp])
theorem suiF_cg {kd ft pl pl' : Nat → Int32} {n p : Nat} (hp : p < n) (h : ∀ p, p < n → pl p = pl' p) : suiF kd ft pl n p = suiF kd ft pl' n p := by
  rw [suiF, suiF, sumN_congr (g := suiG kd pl' p) (fun q hq => by rw [suiG, suiG, h q hq, h p hp])]
theorem blaF_cg {kd ft ag pl pl' : Nat → Int32} {n p : Nat} (hp : p < n) (h : ∀ p, p < n → pl p = pl' p) : blaF kd ft ag pl n p = blaF kd ft ag pl' n p := by
  rw [blaF, blaF, suiF_cg hp h]
theorem binF_cg {kd ft ag pl pl' : Nat → Int32} {n : Nat} (h : ∀ p, p < n → pl p = pl' p) (r : Int32) : binF kd ft ag pl n r = binF kd ft ag pl' n r :=
  sumN_congr (fun p hp => by rw [binG, binG, h p hp, blaF_cg hp h])
def plc (n k : Nat) : Nat → Int32 := fun p => nI (dig 6 n k p)
def plP (σ : St) (n : Nat) (v : Int32) (k : Nat) : Prop := (∀ p, p < n → hasP v (plc n k p)) ∧ (∀ r, r < 6 → ¬ σ 2 r < bulF (σ 5) (plc n k) n (nI r))
theorem shb_plc {n k : Nat} {f : Nat → Int32} (p : Nat) (hp : p < n) : shbR 6 n k 0 f p = plc n k p := by rw [shbR, if_pos ⟨Nat.zero_le _, hp⟩]; rfl
def useG (pl : Nat → Int32) (p : Nat) : Int32 := (1 : Int32) <<< (pl p &&& 31)
def useF (pl : Nat → Int32) (n : Nat) : Int32 := sumN (bitG (orN (useG pl) n)) 31
theorem orN_cg {f g : Nat → Int32} : ∀ n, (∀ p, p < n → f p = g p) → orN f n = orN g n
  | 0, _ => rfl
  | n + 1, h => by rw [orN, orN, orN_cg n (fun p hp => h p (by omega)), h n (by omega)]
theorem useF_cg {pl pl' : Nat → Int32} {n : Nat} (h : ∀ p, p < n → pl p = pl' p) : useF pl n = useF pl' n := by
  rw [useF, useF, orN_cg (g := useG pl') n (fun p hp => by rw [useG, useG, h p hp])]
theorem kX6_isPlaced (v : Int32) (n k : Nat) (σ : St) (hn : σ 0 8 = nI n) (h7 : n ≤ 7) (hk : k < 20000) : Ct yX6_isPlaced cX6_isPlaced 5 (some .boolean) 1 [.ref 0, .int v, .int (nI k)] σ (fI (bI (plP σ n v k)) (setR σ 8 (shbR 6 n k 0 (σ 8)))) := by
  refine ct_of plX6 rfl (Nat.le_of_ble_eq_true rfl) (fun X hX C => ?_)
  show V X 0 [(0, .ref 0), (1, .int v), (2, .int (nI k))] [] σ
  refine v_iload_n C dX6_isPlaced_0 rfl rfl rfl ?_
  refine v_istore_n (lv' := [(3, .int (nI k)), (0, .ref 0), (1, .int v), (2, .int (nI k))]) C dX6_isPlaced_1 rfl (Nat.le_of_ble_eq_true rfl) rfl rfl ?_
  refine v_aload_n C dX6_isPlaced_2 rfl rfl rfl ?_
  refine v_getI C (Nat.le_of_ble_eq_true rfl) rfl rfl hinX6 8 (Nat.le_of_ble_eq_true rfl) lkX6_65 rfl dX6_isPlaced_3 rfl ?_
  refine V.tp hn ?_
  refine v_iconst (v := 1) C dX6_isPlaced_6 (by decide) rfl ?_
  refine v_isub C dX6_isPlaced_7 rfl ?_
  refine V.top (fun v8_1 ev8_1 => ?_)
  refine v_istore (lv' := [(4, .int v8_1), (3, .int (nI k)), (0, .ref 0), (1, .int v), (2, .int (nI k))]) C dX6_isPlaced_8 (Nat.le_of_ble_eq_true rfl) rfl rfl ?_
  have lp10 : ∀ (i : Nat) (w10 : Int32) (x3 : Int32) (τ : St), i ≤ n → w10 = nI i - 1 → x3 = nI (k / 6 ^ (n - i)) → τ = setR σ 8 (shbR 6 n k i (σ 8)) → V X 10 [(4, .int w10), (3, .int x3), (0, .ref 0), (1, .int v), (2, .int (nI k))] [] τ := by
    intro i
    induction i with
    | zero =>
      intro w10 x3 τ h1 ew10 ex3 eτ
      have hv10 : w10 = -1 := by rw [ew10]; decide
      have hn0 : τ 0 8 = nI n := by rw [eτ, setR_o _ _ _ _ (by decide)]; exact hn
      refine v_iload C dX6_isPlaced_10 rfl rfl ?_
      refine V.tp hv10 ?_
      refine v_if_lt (tgt := 37) C dX6_isPlaced_12 (by decide) rfl (fun _ => ?_) (fun q => absurd q (by decide))
      have hnt : τ 0 8 = nI n := by rw [eτ, setR_o _ _ _ _ (by decide)]; exact hn
      have h8 : ∀ p, p < n → τ 8 p = plc n k p := fun p hp => by rw [eτ, setR_k]; exact shb_plc p hp
      have hbu : ∀ r, bulF (τ 5) (τ 8) n r = bulF (σ 5) (plc n k) n r := fun r => by rw [bulF_cg h8, eτ, setR_o _ _ _ _ (by decide)]
      have h2r : τ 2 = σ 2 := by rw [eτ, setR_o _ _ _ _ (by decide)]
      refine v_iconst (v := 0) C dX6_isPlaced_37 (by decide) rfl ?_
      refine v_istore (lv' := [(4, .int 0), (3, .int x3), (0, .ref 0), (1, .int v), (2, .int (nI k))]) C dX6_isPlaced_38 (Nat.le_of_ble_eq_true rfl) rfl rfl ?_
      have lp40 : ∀ (kf q_ : Nat)  , n < q_ + kf → q_ ≤ n → (∀ p, p < q_ → hasP v (τ 8 p)) → V X 40 [(4, .int (nI q_)), (3, .int x3), (0, .ref 0), (1, .int v), (2, .int (nI k))] [] τ := by
        intro kf
        induction kf with
        | zero => intro q_  h1 h2; omega
        | succ kf ih40 =>
          intro q_  h1 h2  hb
          refine v_iload C dX6_isPlaced_40 rfl rfl ?_
          refine v_aload_n C dX6_isPlaced_42 rfl rfl rfl ?_
          refine v_getI C (Nat.le_of_ble_eq_true rfl) rfl rfl hinX6 8 (Nat.le_of_ble_eq_true rfl) lkX6_65 rfl dX6_isPlaced_43 rfl ?_
          refine V.tp hnt ?_
          refine v_icmp_ge (tgt := 71) C dX6_isPlaced_46 (by decide) rfl (fun c46 => ?_) (fun c46 => ?_)
          · skip
            have c46 := mt (nI_ltI (a := q_) (b := n) (by omega) (by omega)).mpr c46
            refine v_iconst (v := 0) C dX6_isPlaced_71 (by decide) rfl ?_
            refine v_istore (lv' := [(4, .int 0), (3, .int x3), (0, .ref 0), (1, .int v), (2, .int (nI k))]) C dX6_isPlaced_72 (Nat.le_of_ble_eq_true rfl) rfl rfl ?_
            have lp74 : ∀ (kf r_ : Nat)  , 6 < r_ + kf → r_ ≤ 6 → (∀ r, r < r_ → ¬ σ 2 r < bulF (σ 5) (plc n k) n (nI r)) → V X 74 [(4, .int (nI r_)), (3, .int x3), (0, .ref 0), (1, .int v), (2, .int (nI k))] [] τ := by
              intro kf
              induction kf with
              | zero => intro r_  h1 h2; omega
              | succ kf ih74 =>
                intro r_  h1 h2  hc
                refine v_iload C dX6_isPlaced_74 rfl rfl ?_
                refine v_bipush (v := 6) C dX6_isPlaced_76 (by decide) rfl ?_
                refine v_icmp_ge (tgt := 105) C dX6_isPlaced_78 (by decide) rfl (fun c78 => ?_) (fun c78 => ?_)
                · skip
                  have c78 := mt (nI_ltI (a := r_) (b := 6) (by omega) (by omega)).mpr c78
                  refine v_iconst (v := 1) C dX6_isPlaced_105 (by decide) rfl ?_
                  exact v_zret C rfl dX6_isPlaced_106 (by rw [hX]; exact fI_of (bI_t ⟨fun p hp => by rw [← h8 p hp]; exact hb p (by omega), fun r hr => hc r (by omega)⟩) (by rw [eτ]))
                · skip
                  have c78 := (nI_ltI (a := r_) (b := 6) (by omega) (by omega)).mp c78
                  refine v_aload_n C dX6_isPlaced_81 rfl rfl rfl ?_
                  refine v_iload C dX6_isPlaced_82 rfl rfl ?_
                  refine v_callV C (Nat.le_of_ble_eq_true rfl) rfl rfl (As := [.int (nI r_)]) (rest := []) (kX6_bulkIn n (nI r_) τ hnt h7) rfl (Nat.le_of_ble_eq_true rfl) (Nat.le_of_ble_eq_true rfl) ⟨mlX6_125, mfX6_bulkIn⟩ dkX6_bulkIn (Nat.le_of_ble_eq_true rfl) dX6_isPlaced_84 rfl (kI ?_)
                  refine v_aload_n C dX6_isPlaced_87 rfl rfl rfl ?_
                  refine v_getR C (Nat.le_of_ble_eq_true rfl) rfl rfl hinX6 1 (Nat.le_of_ble_eq_true rfl) lkX6_13 rfl dX6_isPlaced_88 rfl ?_
                  refine v_iload C dX6_isPlaced_91 rfl rfl ?_
                  refine v_iald (i := r_) C (Nat.le_of_ble_eq_true rfl) rfl rfl (by omega) (by decide) dX6_isPlaced_93 rfl ?_
                  refine v_icmp_le (tgt := 99) C dX6_isPlaced_94 (by decide) rfl (fun c94 => ?_) (fun c94 => ?_)
                  · skip
                    refine v_iinc (lv' := [(4, .int (nI (r_ + 1))), (3, .int x3), (0, .ref 0), (1, .int v), (2, .int (nI k))]) C dX6_isPlaced_99 rfl (nI_inc r_) (Nat.le_of_ble_eq_true rfl) rfl rfl ?_
                    refine v_goto (tgt := 74) C dX6_isPlaced_102 (by decide) ?_
                    exact V.sub [0, 1, 2, 3, 4] rfl (ih74 (r_ + 1)  (by omega) (by omega)  (by intro r hr; exact (Classical.em (r = r_)).elim (fun e => by rw [e, ← hbu, ← h2r]; exact c94) (fun e => hc r (by omega))))
                  · skip
                    refine v_iconst (v := 0) C dX6_isPlaced_97 (by decide) rfl ?_
                    exact v_zret C rfl dX6_isPlaced_98 (by rw [hX]; exact fI_of (bI_f (fun q => q.2 r_ (by omega) (by rw [← hbu, ← h2r]; exact c94))) (by rw [eτ]))
            exact V.sub [0, 1, 2, 3, 4] rfl (lp74 (6 + 1) 0  (by omega) (by omega)  (by intro p hp; omega))
          · skip
            have c46 := (nI_ltI (a := q_) (b := n) (by omega) (by omega)).mp c46
            refine v_iload_n C dX6_isPlaced_49 rfl rfl rfl ?_
            refine v_aload_n C dX6_isPlaced_50 rfl rfl rfl ?_
            refine v_getR C (Nat.le_of_ble_eq_true rfl) rfl rfl hinX6 7 (Nat.le_of_ble_eq_true rfl) lkX6_31 rfl dX6_isPlaced_51 rfl ?_
            refine v_iload C dX6_isPlaced_54 rfl rfl ?_
            refine v_iald (i := q_) C (Nat.le_of_ble_eq_true rfl) rfl rfl (by omega) (by decide) dX6_isPlaced_56 rfl ?_
            refine v_callS C (As := [.int v, .int (τ 8 q_)]) (rest := []) (kX6_has v (τ 8 q_) τ) rfl (Nat.le_of_ble_eq_true rfl) (Nat.le_of_ble_eq_true rfl) ⟨mlX6_181, mfX6_has⟩ dkX6_has (Nat.le_of_ble_eq_true rfl) dX6_isPlaced_57 rfl (kI ?_)
            refine v_if_ne (tgt := 65) C dX6_isPlaced_60 (by decide) rfl (fun c60 => ?_) (fun c60 => ?_)
            · skip
              have c60 := bI_n c60
              refine v_iinc (lv' := [(4, .int (nI (q_ + 1))), (3, .int x3), (0, .ref 0), (1, .int v), (2, .int (nI k))]) C dX6_isPlaced_65 rfl (nI_inc q_) (Nat.le_of_ble_eq_true rfl) rfl rfl ?_
              refine v_goto (tgt := 40) C dX6_isPlaced_68 (by decide) ?_
              exact V.sub [0, 1, 2, 3, 4] rfl (ih40 (q_ + 1)  (by omega) (by omega)  (by intro p hp; exact (Classical.em (p = q_)).elim (fun e => by rw [e]; exact c60) (fun e => hb p (by omega))))
            · skip
              have c60 := bI_0 c60
              refine v_iconst (v := 0) C dX6_isPlaced_63 (by decide) rfl ?_
              exact v_zret C rfl dX6_isPlaced_64 (by rw [hX]; exact fI_of (bI_f (fun q => c60 (by rw [h8 q_ (by omega)]; exact q.1 q_ (by omega)))) (by rw [eτ]))
      exact V.sub [0, 1, 2, 3, 4] rfl (lp40 (n + 1) 0  (by omega) (by omega)  (by intro p hp; omega))
    | succ i ih10 =>
      intro w10 x3 τ h1 ew10 ex3 eτ
      have hv10 : w10 = nI i := by rw [ew10]; exact nI_pred i
      have hn0 : τ 0 8 = nI n := by rw [eτ, setR_o _ _ _ _ (by decide)]; exact hn
      refine v_iload C dX6_isPlaced_10 rfl rfl ?_
      refine V.tp hv10 ?_
      refine v_if_lt (tgt := 37) C dX6_isPlaced_12 (by decide) rfl (fun q => absurd q (nI_pos (by omega))) (fun _ => ?_)
      refine v_aload_n C dX6_isPlaced_15 rfl rfl rfl ?_
      refine v_getR C (Nat.le_of_ble_eq_true rfl) rfl rfl hinX6 7 (Nat.le_of_ble_eq_true rfl) lkX6_31 rfl dX6_isPlaced_16 rfl ?_
      refine v_iload C dX6_isPlaced_19 rfl rfl ?_
      refine V.tp hv10 ?_
      refine v_iload_n C dX6_isPlaced_21 rfl rfl rfl ?_
      refine V.tp ex3 ?_
      refine v_bipush (v := 6) C dX6_isPlaced_22 (by decide) rfl ?_
      refine v_irem C dX6_isPlaced_24 (by decide) rfl ?_
      refine V.tp (pk_rem (a := (k / 6 ^ (n - (i + 1)))) (d := 6) (Nat.lt_of_le_of_lt (Nat.div_le_self _ _) (by omega)) (by omega) (by omega)) ?_
      refine v_iast (i := i) C (Nat.le_of_ble_eq_true rfl) rfl rfl (by omega) (by decide) dX6_isPlaced_25 rfl ?_
      refine V.nm (fun τ25_2 eτ25_2 => ?_)
      refine v_iload_n C dX6_isPlaced_26 rfl rfl rfl ?_
      refine V.tp ex3 ?_
      refine v_bipush (v := 6) C dX6_isPlaced_27 (by decide) rfl ?_
      refine v_idiv C dX6_isPlaced_29 (by decide) rfl ?_
      refine V.tp (pk_div (a := (k / 6 ^ (n - (i + 1)))) (d := 6) (Nat.lt_of_le_of_lt (Nat.div_le_self _ _) (by omega)) (by omega) (by omega)) ?_
      refine V.top (fun v30_3 ev30_3 => ?_)
      refine v_istore_n (lv' := [(3, .int v30_3), (4, .int w10), (0, .ref 0), (1, .int v), (2, .int (nI k))]) C dX6_isPlaced_30 rfl (Nat.le_of_ble_eq_true rfl) rfl rfl ?_
      obtain ⟨v31_4, ev31_4⟩ : ∃ y : Int32, y = w10 + (-1) := ⟨_, rfl⟩
      refine v_iinc (lv' := [(4, .int v31_4), (3, .int v30_3), (0, .ref 0), (1, .int v), (2, .int (nI k))]) C dX6_isPlaced_31 rfl (by rw [ev31_4]; rfl) (Nat.le_of_ble_eq_true rfl) rfl rfl ?_
      refine v_goto (tgt := 10) C dX6_isPlaced_34 (by decide) ?_
      exact V.sub [0, 1, 2, 3, 4] rfl (ih10 _ _ _ (by omega) (by rw [ev31_4, hv10, Int32.sub_eq_add_neg]) (by rw [ev30_3, Nat.div_div_eq_div_mul, ← Nat.pow_succ, show (n - (i + 1)).succ = n - i by omega]) (by rw [eτ25_2, eτ, setR_s2, ← shbR_step (i := i) (by omega), dig, show n - 1 - i = n - (i + 1) by omega]))
  exact V.sub [0, 1, 2, 3, 4] rfl (lp10 n _ _ _ (by omega) ev8_1 (by rw [Nat.sub_self]; simp) (by rw [shbR_n, setR_self]))
theorem kX6_roomsUsed (n : Nat) (σ : St) (hn : σ 0 8 = nI n) (h7 : n ≤ 7) : Ct yX6_roomsUsed cX6_roomsUsed 3 (some .int) 1 [.ref 0] σ (fI (useF (σ 8) n) σ) := by
  refine ct_of plX6 rfl (Nat.le_of_ble_eq_true rfl) (fun X hX C => ?_)
  show V X 0 [(0, .ref 0)] [] σ
  refine v_iconst (v := 0) C dX6_roomsUsed_0 (by decide) rfl ?_
  refine v_istore_n (lv' := [(1, .int 0), (0, .ref 0)]) C dX6_roomsUsed_1 rfl (Nat.le_of_ble_eq_true rfl) rfl rfl ?_
  refine v_iconst (v := 0) C dX6_roomsUsed_2 (by decide) rfl ?_
  refine v_istore_n (lv' := [(2, .int 0), (1, .int 0), (0, .ref 0)]) C dX6_roomsUsed_3 rfl (Nat.le_of_ble_eq_true rfl) rfl rfl ?_
  have lp4 : ∀ (kf i : Nat) (x1 : Int32) , n < i + kf → i ≤ n → x1 = orN (useG (σ 8)) i → V X 4 [(2, .int (nI i)), (1, .int x1), (0, .ref 0)] [] σ := by
    intro kf
    induction kf with
    | zero => intro i x1 h1 h2; omega
    | succ kf ih4 =>
      intro i x1 h1 h2 ex1
      refine v_iload_n C dX6_roomsUsed_4 rfl rfl rfl ?_
      refine v_aload_n C dX6_roomsUsed_5 rfl rfl rfl ?_
      refine v_getI C (Nat.le_of_ble_eq_true rfl) rfl rfl hinX6 8 (Nat.le_of_ble_eq_true rfl) lkX6_65 rfl dX6_roomsUsed_6 rfl ?_
      refine V.tp hn ?_
      refine v_icmp_ge (tgt := 29) C dX6_roomsUsed_9 (by decide) rfl (fun c9 => ?_) (fun c9 => ?_)
      · skip
        have c9 := mt (nI_ltI (a := i) (b := n) (by omega) (by omega)).mpr c9
        refine v_iload_n C dX6_roomsUsed_29 rfl rfl rfl ?_
        refine v_callS C (As := [.int x1]) (rest := []) (kX6_bits x1 σ) rfl (Nat.le_of_ble_eq_true rfl) (Nat.le_of_ble_eq_true rfl) ⟨mlX6_184, mfX6_bits⟩ dkX6_bits (Nat.le_of_ble_eq_true rfl) dX6_roomsUsed_30 rfl (kI ?_)
        exact v_iret C dX6_roomsUsed_33 (by rw [hX]; exact fI_of (by rw [useF, ex1, show i = n by omega]) rfl)
      · skip
        have c9 := (nI_ltI (a := i) (b := n) (by omega) (by omega)).mp c9
        refine v_iload_n C dX6_roomsUsed_12 rfl rfl rfl ?_
        refine v_iconst (v := 1) C dX6_roomsUsed_13 (by decide) rfl ?_
        refine v_aload_n C dX6_roomsUsed_14 rfl rfl rfl ?_
        refine v_getR C (Nat.le_of_ble_eq_true rfl) rfl rfl hinX6 7 (Nat.le_of_ble_eq_true rfl) lkX6_31 rfl dX6_roomsUsed_15 rfl ?_
        refine v_iload_n C dX6_roomsUsed_18 rfl rfl rfl ?_
        refine v_iald (i := i) C (Nat.le_of_ble_eq_true rfl) rfl rfl (by omega) (by decide) dX6_roomsUsed_19 rfl ?_
        refine v_ishl C dX6_roomsUsed_20 rfl ?_
        refine v_ior C dX6_roomsUsed_21 rfl ?_
        refine V.top (fun v22_1 ev22_1 => ?_)
        refine v_istore_n (lv' := [(1, .int v22_1), (2, .int (nI i)), (0, .ref 0)]) C dX6_roomsUsed_22 rfl (Nat.le_of_ble_eq_true rfl) rfl rfl ?_
        refine v_iinc (lv' := [(2, .int (nI (i + 1))), (1, .int v22_1), (0, .ref 0)]) C dX6_roomsUsed_23 rfl (nI_inc i) (Nat.le_of_ble_eq_true rfl) rfl rfl ?_
        refine v_goto (tgt := 4) C dX6_roomsUsed_26 (by decide) ?_
        exact V.sub [0, 1, 2] rfl (ih4 (i + 1) _ (by omega) (by omega) (by rw [ev22_1, ex1]; rfl))
  exact V.sub [0, 1, 2] rfl (lp4 (n + 1) 0 0 (by omega) (by omega) (rfl))
noncomputable def fpN (ok : Nat → Prop) (F : Nat → Int32) : Nat → Nat × Int32
  | 0 => (0, -9)
  | i + 1 => cI (ok i) (if (fpN ok F i).2 < 0 ∨ F i < (fpN ok F i).2 then (i, F i) else fpN ok F i) (fpN ok F i)
def plF (σ : St) (n : Nat) (w : Int32) (k : Nat) : Int32 := if w = 0 then binF (σ 4) (σ 6) (σ 7) (plc n k) n (worN (binF (σ 4) (σ 6) (σ 7) (plc n k) n) 6) else useF (plc n k) n
def Plr (σ τ : St) : Prop := (∀ a, a ≠ 0 → a ≠ 8 → a ≠ 14 → τ a = σ a) ∧ (∀ j, j ≠ 23 → τ 0 j = σ 0 j) ∧ (∀ j, 7 ≤ j → τ 8 j = σ 8 j)
theorem Plr_put {σ τ : St} (h : Plr σ τ) {n k : Nat} (h7 : n ≤ 7) : Plr σ (setR τ 8 (shbR 6 n k 0 (τ 8))) := by
  refine ⟨fun a a0 a8 a14 => by rw [setR_o _ _ _ _ a8]; exact h.1 a a0 a8 a14, fun j hj => by rw [setR_o _ _ _ _ (by decide)]; exact h.2.1 j hj, fun j hj => ?_⟩
  rw [setR_k, shbR, if_neg (by omega)]; exact h.2.2 j hj
theorem Plr_23 {σ τ : St} (h : Plr σ τ) (v : Int32) : Plr σ (s2 τ 0 23 v) :=
  ⟨fun a a0 a8 a14 => by rw [s2_ne a0]; exact h.1 a a0 a8 a14, fun j hj => by rw [s2_get, if_neg (fun q => hj q.2)]; exact h.2.1 j hj, fun j hj => by rw [s2_ne (by decide)]; exact h.2.2 j hj⟩
theorem Plr_14 {σ τ : St} (h : Plr σ τ) (f : Nat → Int32) : Plr σ (setR τ 14 f) :=
  ⟨fun a a0 a8 a14 => by rw [setR_o _ _ _ _ a14]; exact h.1 a a0 a8 a14, fun j hj => by rw [setR_o _ _ _ _ (by decide)]; exact h.2.1 j hj, fun j hj => by rw [setR_o _ _ _ _ (by decide)]; exact h.2.2 j hj⟩
def FpI (σ τ : St) (n : Nat) (q : Nat × Int32) : Prop := Plr σ τ ∧ τ 0 23 = q.2 ∧ (¬ q.2 < 0 → ∀ p, p < n → τ 14 p = plc n q.1 p)
theorem plF_cg {σ τ : St} (h4 : τ 4 = σ 4) (h6 : τ 6 = σ 6) (h7 : τ 7 = σ 7) (n : Nat) (w : Int32) (k : Nat) : plF τ n w k = plF σ n w k := by rw [plF, plF, h4, h6, h7]
theorem pow6_small {n : Nat} (h5 : n ≤ 5) : 6 ^ n ≤ 7776 := by
  have b : 6 ^ n ≤ 6 ^ 5 := Nat.pow_le_pow_right (by decide) h5
  have c : (6 : Nat) ^ 5 = 7776 := by decide
  omega
theorem kX6_findPlacing (v w : Int32) (n : Nat) (σ : St) (hn : σ 0 8 = nI n) (h5 : n ≤ 5) : Ct yX6_findPlacing cX6_findPlacing 6 none 4 [.ref 0, .int v, .int w] σ (rV (fun τ => Sm σ τ ∧ τ 0 23 = (fpN (plP σ n v) (plF σ n w) (6 ^ n)).2 ∧ (¬ (fpN (plP σ n v) (plF σ n w) (6 ^ n)).2 < 0 → ∀ p, p < n → τ 14 p = plc n (fpN (plP σ n v) (plF σ n w) (6 ^ n)).1 p))) := by
  have h7 : n ≤ 7 := by omega
  have hpw := pow6_small h5
  have hp0 : 0 < 6 ^ n := Nat.pow_pos (by decide)
  refine ct_of plX6 rfl (Nat.le_of_ble_eq_true rfl) (fun X hX C => ?_)
  show V X 0 [(0, .ref 0), (1, .int v), (2, .int w)] [] σ
  refine v_aload_n C dX6_findPlacing_0 rfl rfl rfl ?_
  refine v_iconst (v := 1) C dX6_findPlacing_1 (by decide) rfl ?_
  refine v_iconst (v := 1) C dX6_findPlacing_2 (by decide) rfl ?_
  refine v_callV C (Nat.le_of_ble_eq_true rfl) rfl rfl (As := [.int 1, .int 1]) (rest := []) (kX6_passesAllK1 σ) rfl (Nat.le_of_ble_eq_true rfl) (Nat.le_of_ble_eq_true rfl) ⟨mlX6_139, mfX6_passesAll⟩ dkX6_passesAll (Nat.le_of_ble_eq_true rfl) dX6_findPlacing_3 rfl (krV (fun τ6_1 h6_1 => ?_))
  have hnτ6_1 : τ6_1 0 8 = nI n := by rw [h6_1.2.1 8 (by decide) (by decide)]; exact hn
  refine v_aload_n C dX6_findPlacing_6 rfl rfl rfl ?_
  refine v_bipush (v := -9) C dX6_findPlacing_7 (by decide) rfl ?_
  refine v_put (ty := .int) C (Nat.le_of_ble_eq_true rfl) rfl rfl hinX6 tyX6_ok nmX6 23 (Nat.le_of_ble_eq_true rfl) lkX6_187 rfl (by decide +kernel) rfl rfl rfl dX6_findPlacing_9 rfl ?_
  refine V.nm (fun τ9_2 eτ9_2 => ?_)
  refine v_iconst (v := 0) C dX6_findPlacing_12 (by decide) rfl ?_
  refine v_istore_n (lv' := [(3, .int 0), (0, .ref 0), (1, .int v), (2, .int w)]) C dX6_findPlacing_13 rfl (Nat.le_of_ble_eq_true rfl) rfl rfl ?_
  have lp14 : ∀ (kf i : Nat)  (τ : St), (6 ^ n) < i + kf → i ≤ (6 ^ n) → FpI τ6_1 τ n (fpN (plP σ n v) (plF σ n w) i) → V X 14 [(3, .int (nI i)), (0, .ref 0), (1, .int v), (2, .int w)] [] τ := by
    intro kf
    induction kf with
    | zero => intro i  τ h1 h2; omega
    | succ kf ih14 =>
      intro i  τ h1 h2  eτ
      have hPl := eτ.1
      have hnt : τ 0 8 = nI n := (hPl.2.1 8 (by decide)).trans hnτ6_1
      refine v_iload_n C dX6_findPlacing_14 rfl rfl rfl ?_
      refine v_bipush (v := 6) C dX6_findPlacing_15 (by decide) rfl ?_
      refine v_aload_n C dX6_findPlacing_17 rfl rfl rfl ?_
      refine v_getI C (Nat.le_of_ble_eq_true rfl) rfl rfl hinX6 8 (Nat.le_of_ble_eq_true rfl) lkX6_65 rfl dX6_findPlacing_18 rfl ?_
      refine V.tp hnt ?_
      refine v_callS C (As := [.int 6, .int (nI n)]) (rest := [.int (nI i)]) (kX6_power 6 n τ h7) rfl (Nat.le_of_ble_eq_true rfl) (Nat.le_of_ble_eq_true rfl) ⟨mlX6_190, mfX6_power⟩ dkX6_power (Nat.le_of_ble_eq_true rfl) dX6_findPlacing_21 rfl (kI ?_)
      refine V.tp (powN_nI 6 n) ?_
      refine v_icmp_ge (tgt := 123) C dX6_findPlacing_24 (by decide) rfl (fun c24 => ?_) (fun c24 => ?_)
      · skip
        have c24 := mt (nI_ltI (a := i) (b := (6 ^ n)) (by omega) (by omega)).mpr c24
        have hie : i = 6 ^ n := by omega
        refine v_aload_n C dX6_findPlacing_123 rfl rfl rfl ?_
        refine v_iconst (v := 1) C dX6_findPlacing_124 (by decide) rfl ?_
        refine v_iconst (v := 0) C dX6_findPlacing_125 (by decide) rfl ?_
        refine v_callV C (Nat.le_of_ble_eq_true rfl) rfl rfl (As := [.int 1, .int 0]) (rest := []) (kX6_passesAllB1 τ) rfl (Nat.le_of_ble_eq_true rfl) (Nat.le_of_ble_eq_true rfl) ⟨mlX6_139, mfX6_passesAll⟩ dkX6_passesAll (Nat.le_of_ble_eq_true rfl) dX6_findPlacing_126 rfl (krV (fun τ129_3 h129_3 => ?_))
        exact v_vret C dX6_findPlacing_129 (by rw [hX]; exact ⟨rfl, KB h6_1 h129_3 (hPl.1 13 (by decide) (by decide) (by decide)) (fun k h2 h8 j hj => (Classical.em (k = 8)).elim (fun e => by subst e; rw [hPl.2.2 j hj, h6_1.1 8 (by decide) (by decide)]) (fun e => by rw [hPl.1 k (by omega) e (by omega), h6_1.1 k (by omega) (by omega)])) (fun a ha => by rw [hPl.1 a (by omega) (by omega) (by omega)]; exact h6_1.1 a (by omega) (by omega)) (fun j hj => by rw [hPl.2.1 j (by omega)]; exact h6_1.2.1 j (by omega) (by omega)), by rw [h129_3.2.1 23 (by decide) (by decide) (by decide) (by decide) (by decide), eτ.2.1, hie], fun z p hp => by rw [h129_3.1 14 (by decide) (by decide), eτ.2.2 (by rw [hie]; exact z) p hp, hie]⟩)
      · skip
        have c24 := (nI_ltI (a := i) (b := (6 ^ n)) (by omega) (by omega)).mp c24
        refine v_aload_n C dX6_findPlacing_27 rfl rfl rfl ?_
        refine v_iload_n C dX6_findPlacing_28 rfl rfl rfl ?_
        refine v_iload_n C dX6_findPlacing_29 rfl rfl rfl ?_
        refine v_callV C (Nat.le_of_ble_eq_true rfl) rfl rfl (As := [.int v, .int (nI i)]) (rest := []) (kX6_isPlaced v n i τ hnt h7 (by omega)) rfl (Nat.le_of_ble_eq_true rfl) (Nat.le_of_ble_eq_true rfl) ⟨mlX6_194, mfX6_isPlaced⟩ dkX6_isPlaced (Nat.le_of_ble_eq_true rfl) dX6_findPlacing_30 rfl (kI ?_)
        refine V.tp (show bI (plP τ n v i) = bI (plP σ n v i) from by rw [plP, plP, hPl.1 2 (by decide) (by decide) (by decide), hPl.1 5 (by decide) (by decide) (by decide), h6_1.1 2 (by decide) (by decide), h6_1.1 5 (by decide) (by decide)]) ?_
        refine V.nm (fun τ33_4 eτ33_4 => ?_)
        have hP3 : Plr τ6_1 τ33_4 := by rw [eτ33_4]; exact Plr_put hPl h7
        have hn3 : τ33_4 0 8 = nI n := (hP3.2.1 8 (by decide)).trans hnτ6_1
        have h83 : ∀ p, p < n → τ33_4 8 p = plc n i p := fun p hp => by rw [eτ33_4, setR_k]; exact shb_plc p hp
        have r4 : τ33_4 4 = σ 4 := (hP3.1 4 (by decide) (by decide) (by decide)).trans (h6_1.1 4 (by decide) (by decide))
        have r6 : τ33_4 6 = σ 6 := (hP3.1 6 (by decide) (by decide) (by decide)).trans (h6_1.1 6 (by decide) (by decide))
        have r7 : τ33_4 7 = σ 7 := (hP3.1 7 (by decide) (by decide) (by decide)).trans (h6_1.1 7 (by decide) (by decide))
        have h23 : τ33_4 0 23 = τ 0 23 := by rw [eτ33_4, setR_o _ _ _ _ (by decide)]
        have h14 : τ33_4 14 = τ 14 := by rw [eτ33_4, setR_o _ _ _ _ (by decide)]
        have hq23 : τ33_4 0 23 = (fpN (plP σ n v) (plF σ n w) i).2 := h23.trans eτ.2.1
        refine v_if_ne (tgt := 39) C dX6_findPlacing_33 (by decide) rfl (fun c33 => ?_) (fun c33 => ?_)
        · skip
          have c33 := bI_n c33
          refine v_iload_n C dX6_findPlacing_39 rfl rfl rfl ?_
          refine v_if_ne (tgt := 54) C dX6_findPlacing_40 (by decide) rfl (fun c40 => ?_) (fun c40 => ?_)
          · skip
            refine v_aload_n C dX6_findPlacing_54 rfl rfl rfl ?_
            refine v_callV C (Nat.le_of_ble_eq_true rfl) rfl rfl (As := []) (rest := []) (kX6_roomsUsed n τ33_4 hn3 h7) rfl (Nat.le_of_ble_eq_true rfl) (Nat.le_of_ble_eq_true rfl) ⟨mlX6_200, mfX6_roomsUsed⟩ dkX6_roomsUsed (Nat.le_of_ble_eq_true rfl) dX6_findPlacing_55 rfl (kI ?_)
            refine V.tp (show useF (τ33_4 8) n = plF σ n w i from by rw [plF, if_neg c40, useF_cg h83]) ?_
            refine V.top (fun v58_5 ev58_5 => ?_)
            refine v_istore (lv' := [(4, .int v58_5), (3, .int (nI i)), (0, .ref 0), (1, .int v), (2, .int w)]) C dX6_findPlacing_58 (Nat.le_of_ble_eq_true rfl) rfl rfl ?_
            refine v_aload_n C dX6_findPlacing_60 rfl rfl rfl ?_
            refine v_getI C (Nat.le_of_ble_eq_true rfl) rfl rfl hinX6 23 (Nat.le_of_ble_eq_true rfl) lkX6_187 rfl dX6_findPlacing_61 rfl ?_
            refine V.tp hq23 ?_
            refine v_if_lt (tgt := 79) C dX6_findPlacing_64 (by decide) rfl (fun c64 => ?_) (fun c64 => ?_)
            · skip
              refine v_aload_n C dX6_findPlacing_79 rfl rfl rfl ?_
              refine v_iload C dX6_findPlacing_80 rfl rfl ?_
              refine v_put (ty := .int) C (Nat.le_of_ble_eq_true rfl) rfl rfl hinX6 tyX6_ok nmX6 23 (Nat.le_of_ble_eq_true rfl) lkX6_187 rfl (by decide +kernel) rfl rfl rfl dX6_findPlacing_82 rfl ?_
              refine V.nm (fun τ82_6 eτ82_6 => ?_)
              refine v_iconst (v := 0) C dX6_findPlacing_85 (by decide) rfl ?_
              refine v_istore (lv' := [(5, .int 0), (4, .int v58_5), (3, .int (nI i)), (0, .ref 0), (1, .int v), (2, .int w)]) C dX6_findPlacing_86 (Nat.le_of_ble_eq_true rfl) rfl rfl ?_
              have lp88 : ∀ (kf p_ : Nat)  (υ : St), n < p_ + kf → p_ ≤ n → υ = setR τ82_6 14 (pre p_ (τ33_4 8) (τ82_6 14)) → V X 88 [(5, .int (nI p_)), (4, .int v58_5), (3, .int (nI i)), (0, .ref 0), (1, .int v), (2, .int w)] [] υ := by
                intro kf
                induction kf with
                | zero => intro p_  υ h1 h2; omega
                | succ kf ih88 =>
                  intro p_  υ h1 h2  eυ
                  have hn4 : υ 0 8 = nI n := by rw [eυ, setR_o _ _ _ _ (by decide), eτ82_6, s2_get, if_neg (by decide)]; exact hn3
                  have h84 : υ 8 p_ = τ33_4 8 p_ := by rw [eυ, setR_o _ _ _ _ (by decide), eτ82_6, s2_ne (by decide)]
                  refine v_iload C dX6_findPlacing_88 rfl rfl ?_
                  refine v_aload_n C dX6_findPlacing_90 rfl rfl rfl ?_
                  refine v_getI C (Nat.le_of_ble_eq_true rfl) rfl rfl hinX6 8 (Nat.le_of_ble_eq_true rfl) lkX6_65 rfl dX6_findPlacing_91 rfl ?_
                  refine V.tp hn4 ?_
                  refine v_icmp_ge (tgt := 117) C dX6_findPlacing_94 (by decide) rfl (fun c94 => ?_) (fun c94 => ?_)
                  · skip
                    have c94 := mt (nI_ltI (a := p_) (b := n) (by omega) (by omega)).mpr c94
                    refine v_iinc (lv' := [(3, .int (nI (i + 1))), (5, .int (nI p_)), (4, .int v58_5), (0, .ref 0), (1, .int v), (2, .int w)]) C dX6_findPlacing_117 rfl (nI_inc i) (Nat.le_of_ble_eq_true rfl) rfl rfl ?_
                    refine v_goto (tgt := 14) C dX6_findPlacing_120 (by decide) ?_
                    exact V.sub [0, 3, 4, 5] rfl (ih14 (i + 1)  _ (by omega) (by omega)  (by rw [fpN, cI_t c33, if_pos (Or.inl c64)]; exact ⟨by rw [eυ]; exact Plr_14 (by rw [eτ82_6]; exact Plr_23 hP3 _) _, by rw [eυ, setR_o _ _ _ _ (by decide), eτ82_6, s2_get, if_pos ⟨rfl, rfl⟩, ev58_5], fun _ p hp => by rw [eυ, setR_k, pre, if_pos (by omega)]; exact h83 p hp⟩))
                  · skip
                    have c94 := (nI_ltI (a := p_) (b := n) (by omega) (by omega)).mp c94
                    refine v_aload_n C dX6_findPlacing_97 rfl rfl rfl ?_
                    refine v_getR C (Nat.le_of_ble_eq_true rfl) rfl rfl hinX6 22 (Nat.le_of_ble_eq_true rfl) lkX6_49 rfl dX6_findPlacing_98 rfl ?_
                    refine v_iload C dX6_findPlacing_101 rfl rfl ?_
                    refine v_aload_n C dX6_findPlacing_103 rfl rfl rfl ?_
                    refine v_getR C (Nat.le_of_ble_eq_true rfl) rfl rfl hinX6 7 (Nat.le_of_ble_eq_true rfl) lkX6_31 rfl dX6_findPlacing_104 rfl ?_
                    refine v_iload C dX6_findPlacing_107 rfl rfl ?_
                    refine v_iald (i := p_) C (Nat.le_of_ble_eq_true rfl) rfl rfl (by omega) (by decide) dX6_findPlacing_109 rfl ?_
                    refine V.tp h84 ?_
                    refine v_iast (i := p_) C (Nat.le_of_ble_eq_true rfl) rfl rfl (by omega) (by decide) dX6_findPlacing_110 rfl ?_
                    refine V.nm (fun τ110_7 eτ110_7 => ?_)
                    refine v_iinc (lv' := [(5, .int (nI (p_ + 1))), (4, .int v58_5), (3, .int (nI i)), (0, .ref 0), (1, .int v), (2, .int w)]) C dX6_findPlacing_111 rfl (nI_inc p_) (Nat.le_of_ble_eq_true rfl) rfl rfl ?_
                    refine v_goto (tgt := 88) C dX6_findPlacing_114 (by decide) ?_
                    exact V.sub [0, 1, 2, 3, 4, 5] rfl (ih88 (p_ + 1)  _ (by omega) (by omega)  (by rw [eτ110_7, eυ, setR_s2, pre_upd _ _ _ rfl]))
              exact V.sub [0, 1, 2, 3, 4, 5] rfl (lp88 (n + 1) 0  _ (by omega) (by omega)  (by rw [pre_0, setR_self]))
            · skip
              refine v_iload C dX6_findPlacing_67 rfl rfl ?_
              refine v_aload_n C dX6_findPlacing_69 rfl rfl rfl ?_
              refine v_getI C (Nat.le_of_ble_eq_true rfl) rfl rfl hinX6 23 (Nat.le_of_ble_eq_true rfl) lkX6_187 rfl dX6_findPlacing_70 rfl ?_
              refine V.tp hq23 ?_
              refine v_icmp_lt (tgt := 79) C dX6_findPlacing_73 (by decide) rfl (fun c73 => ?_) (fun c73 => ?_)
              · skip
                refine v_aload_n C dX6_findPlacing_79 rfl rfl rfl ?_
                refine v_iload C dX6_findPlacing_80 rfl rfl ?_
                refine v_put (ty := .int) C (Nat.le_of_ble_eq_true rfl) rfl rfl hinX6 tyX6_ok nmX6 23 (Nat.le_of_ble_eq_true rfl) lkX6_187 rfl (by decide +kernel) rfl rfl rfl dX6_findPlacing_82 rfl ?_
                refine V.nm (fun τ82_8 eτ82_8 => ?_)
                refine v_iconst (v := 0) C dX6_findPlacing_85 (by decide) rfl ?_
                refine v_istore (lv' := [(5, .int 0), (4, .int v58_5), (3, .int (nI i)), (0, .ref 0), (1, .int v), (2, .int w)]) C dX6_findPlacing_86 (Nat.le_of_ble_eq_true rfl) rfl rfl ?_
                have lp88 : ∀ (kf p_ : Nat)  (υ : St), n < p_ + kf → p_ ≤ n → υ = setR τ82_8 14 (pre p_ (τ33_4 8) (τ82_8 14)) → V X 88 [(5, .int (nI p_)), (4, .int v58_5), (3, .int (nI i)), (0, .ref 0), (1, .int v), (2, .int w)] [] υ := by
                  intro kf
                  induction kf with
                  | zero => intro p_  υ h1 h2; omega
                  | succ kf ih88 =>
                    intro p_  υ h1 h2  eυ
                    have hn4 : υ 0 8 = nI n := by rw [eυ, setR_o _ _ _ _ (by decide), eτ82_8, s2_get, if_neg (by decide)]; exact hn3
                    have h84 : υ 8 p_ = τ33_4 8 p_ := by rw [eυ, setR_o _ _ _ _ (by decide), eτ82_8, s2_ne (by decide)]
                    refine v_iload C dX6_findPlacing_88 rfl rfl ?_
                    refine v_aload_n C dX6_findPlacing_90 rfl rfl rfl ?_
                    refine v_getI C (Nat.le_of_ble_eq_true rfl) rfl rfl hinX6 8 (Nat.le_of_ble_eq_true rfl) lkX6_65 rfl dX6_findPlacing_91 rfl ?_
                    refine V.tp hn4 ?_
                    refine v_icmp_ge (tgt := 117) C dX6_findPlacing_94 (by decide) rfl (fun c94 => ?_) (fun c94 => ?_)
                    · skip
                      have c94 := mt (nI_ltI (a := p_) (b := n) (by omega) (by omega)).mpr c94
                      refine v_iinc (lv' := [(3, .int (nI (i + 1))), (5, .int (nI p_)), (4, .int v58_5), (0, .ref 0), (1, .int v), (2, .int w)]) C dX6_findPlacing_117 rfl (nI_inc i) (Nat.le_of_ble_eq_true rfl) rfl rfl ?_
                      refine v_goto (tgt := 14) C dX6_findPlacing_120 (by decide) ?_
                      exact V.sub [0, 3, 4, 5] rfl (ih14 (i + 1)  _ (by omega) (by omega)  (by rw [fpN, cI_t c33, if_pos (Or.inr (by rw [← ev58_5]; exact c73))]; exact ⟨by rw [eυ]; exact Plr_14 (by rw [eτ82_8]; exact Plr_23 hP3 _) _, by rw [eυ, setR_o _ _ _ _ (by decide), eτ82_8, s2_get, if_pos ⟨rfl, rfl⟩, ev58_5], fun _ p hp => by rw [eυ, setR_k, pre, if_pos (by omega)]; exact h83 p hp⟩))
                    · skip
                      have c94 := (nI_ltI (a := p_) (b := n) (by omega) (by omega)).mp c94
                      refine v_aload_n C dX6_findPlacing_97 rfl rfl rfl ?_
                      refine v_getR C (Nat.le_of_ble_eq_true rfl) rfl rfl hinX6 22 (Nat.le_of_ble_eq_true rfl) lkX6_49 rfl dX6_findPlacing_98 rfl ?_
                      refine v_iload C dX6_findPlacing_101 rfl rfl ?_
                      refine v_aload_n C dX6_findPlacing_103 rfl rfl rfl ?_
                      refine v_getR C (Nat.le_of_ble_eq_true rfl) rfl rfl hinX6 7 (Nat.le_of_ble_eq_true rfl) lkX6_31 rfl dX6_findPlacing_104 rfl ?_
                      refine v_iload C dX6_findPlacing_107 rfl rfl ?_
                      refine v_iald (i := p_) C (Nat.le_of_ble_eq_true rfl) rfl rfl (by omega) (by decide) dX6_findPlacing_109 rfl ?_
                      refine V.tp h84 ?_
                      refine v_iast (i := p_) C (Nat.le_of_ble_eq_true rfl) rfl rfl (by omega) (by decide) dX6_findPlacing_110 rfl ?_
                      refine V.nm (fun τ110_9 eτ110_9 => ?_)
                      refine v_iinc (lv' := [(5, .int (nI (p_ + 1))), (4, .int v58_5), (3, .int (nI i)), (0, .ref 0), (1, .int v), (2, .int w)]) C dX6_findPlacing_111 rfl (nI_inc p_) (Nat.le_of_ble_eq_true rfl) rfl rfl ?_
                      refine v_goto (tgt := 88) C dX6_findPlacing_114 (by decide) ?_
                      exact V.sub [0, 1, 2, 3, 4, 5] rfl (ih88 (p_ + 1)  _ (by omega) (by omega)  (by rw [eτ110_9, eυ, setR_s2, pre_upd _ _ _ rfl]))
                exact V.sub [0, 1, 2, 3, 4, 5] rfl (lp88 (n + 1) 0  _ (by omega) (by omega)  (by rw [pre_0, setR_self]))
              · skip
                refine v_goto (tgt := 117) C dX6_findPlacing_76 (by decide) ?_
                refine v_iinc (lv' := [(3, .int (nI (i + 1))), (4, .int v58_5), (0, .ref 0), (1, .int v), (2, .int w)]) C dX6_findPlacing_117 rfl (nI_inc i) (Nat.le_of_ble_eq_true rfl) rfl rfl ?_
                refine v_goto (tgt := 14) C dX6_findPlacing_120 (by decide) ?_
                exact V.sub [0, 2, 3, 4] rfl (ih14 (i + 1)  _ (by omega) (by omega)  (by rw [fpN, cI_t c33, if_neg (fun z => z.elim c64 (fun z => c73 (by rw [ev58_5]; exact z)))]; exact ⟨hP3, h23.trans eτ.2.1, fun z p hp => by rw [h14]; exact eτ.2.2 z p hp⟩))
          · skip
            refine v_aload_n C dX6_findPlacing_43 rfl rfl rfl ?_
            refine v_aload_n C dX6_findPlacing_44 rfl rfl rfl ?_
            refine v_callV C (Nat.le_of_ble_eq_true rfl) rfl rfl (As := []) (rest := [.ref 0]) (kX6_worst n τ33_4 hn3 h7) rfl (Nat.le_of_ble_eq_true rfl) (Nat.le_of_ble_eq_true rfl) ⟨mlX6_197, mfX6_worst⟩ dkX6_worst (Nat.le_of_ble_eq_true rfl) dX6_findPlacing_45 rfl (kI ?_)
            refine v_callV C (Nat.le_of_ble_eq_true rfl) rfl rfl (As := [.int (worN (binF (τ33_4 4) (τ33_4 6) (τ33_4 7) (τ33_4 8) n) 6)]) (rest := []) (kX6_blameIn n (worN (binF (τ33_4 4) (τ33_4 6) (τ33_4 7) (τ33_4 8) n) 6) τ33_4 hn3 h7) rfl (Nat.le_of_ble_eq_true rfl) (Nat.le_of_ble_eq_true rfl) ⟨mlX6_178, mfX6_blameIn⟩ dkX6_blameIn (Nat.le_of_ble_eq_true rfl) dX6_findPlacing_48 rfl (kI ?_)
            refine V.tp (show binF (τ33_4 4) (τ33_4 6) (τ33_4 7) (τ33_4 8) n (worN (binF (τ33_4 4) (τ33_4 6) (τ33_4 7) (τ33_4 8) n) 6) = plF σ n w i from by rw [plF, if_pos c40, r4, r6, r7, binF_cg h83, show binF (σ 4) (σ 6) (σ 7) (τ33_4 8) n = binF (σ 4) (σ 6) (σ 7) (plc n i) n from funext (fun r => binF_cg h83 r)]) ?_
            refine v_goto (tgt := 58) C dX6_findPlacing_51 (by decide) ?_
            refine V.top (fun v58_10 ev58_10 => ?_)
            refine v_istore (lv' := [(4, .int v58_10), (3, .int (nI i)), (0, .ref 0), (1, .int v), (2, .int w)]) C dX6_findPlacing_58 (Nat.le_of_ble_eq_true rfl) rfl rfl ?_
            refine v_aload_n C dX6_findPlacing_60 rfl rfl rfl ?_
            refine v_getI C (Nat.le_of_ble_eq_true rfl) rfl rfl hinX6 23 (Nat.le_of_ble_eq_true rfl) lkX6_187 rfl dX6_findPlacing_61 rfl ?_
            refine V.tp hq23 ?_
            refine v_if_lt (tgt := 79) C dX6_findPlacing_64 (by decide) rfl (fun c64 => ?_) (fun c64 => ?_)
            · skip
              refine v_aload_n C dX6_findPlacing_79 rfl rfl rfl ?_
              refine v_iload C dX6_findPlacing_80 rfl rfl ?_
              refine v_put (ty := .int) C (Nat.le_of_ble_eq_true rfl) rfl rfl hinX6 tyX6_ok nmX6 23 (Nat.le_of_ble_eq_true rfl) lkX6_187 rfl (by decide +kernel) rfl rfl rfl dX6_findPlacing_82 rfl ?_
              refine V.nm (fun τ82_11 eτ82_11 => ?_)
              refine v_iconst (v := 0) C dX6_findPlacing_85 (by decide) rfl ?_
              refine v_istore (lv' := [(5, .int 0), (4, .int v58_10), (3, .int (nI i)), (0, .ref 0), (1, .int v), (2, .int w)]) C dX6_findPlacing_86 (Nat.le_of_ble_eq_true rfl) rfl rfl ?_
              have lp88 : ∀ (kf p_ : Nat)  (υ : St), n < p_ + kf → p_ ≤ n → υ = setR τ82_11 14 (pre p_ (τ33_4 8) (τ82_11 14)) → V X 88 [(5, .int (nI p_)), (4, .int v58_10), (3, .int (nI i)), (0, .ref 0), (1, .int v), (2, .int w)] [] υ := by
                intro kf
                induction kf with
                | zero => intro p_  υ h1 h2; omega
                | succ kf ih88 =>
                  intro p_  υ h1 h2  eυ
                  have hn4 : υ 0 8 = nI n := by rw [eυ, setR_o _ _ _ _ (by decide), eτ82_11, s2_get, if_neg (by decide)]; exact hn3
                  have h84 : υ 8 p_ = τ33_4 8 p_ := by rw [eυ, setR_o _ _ _ _ (by decide), eτ82_11, s2_ne (by decide)]
                  refine v_iload C dX6_findPlacing_88 rfl rfl ?_
                  refine v_aload_n C dX6_findPlacing_90 rfl rfl rfl ?_
                  refine v_getI C (Nat.le_of_ble_eq_true rfl) rfl rfl hinX6 8 (Nat.le_of_ble_eq_true rfl) lkX6_65 rfl dX6_findPlacing_91 rfl ?_
                  refine V.tp hn4 ?_
                  refine v_icmp_ge (tgt := 117) C dX6_findPlacing_94 (by decide) rfl (fun c94 => ?_) (fun c94 => ?_)
                  · skip
                    have c94 := mt (nI_ltI (a := p_) (b := n) (by omega) (by omega)).mpr c94
                    refine v_iinc (lv' := [(3, .int (nI (i + 1))), (5, .int (nI p_)), (4, .int v58_10), (0, .ref 0), (1, .int v), (2, .int w)]) C dX6_findPlacing_117 rfl (nI_inc i) (Nat.le_of_ble_eq_true rfl) rfl rfl ?_
                    refine v_goto (tgt := 14) C dX6_findPlacing_120 (by decide) ?_
                    exact V.sub [0, 3, 4, 5] rfl (ih14 (i + 1)  _ (by omega) (by omega)  (by rw [fpN, cI_t c33, if_pos (Or.inl c64)]; exact ⟨by rw [eυ]; exact Plr_14 (by rw [eτ82_11]; exact Plr_23 hP3 _) _, by rw [eυ, setR_o _ _ _ _ (by decide), eτ82_11, s2_get, if_pos ⟨rfl, rfl⟩, ev58_10], fun _ p hp => by rw [eυ, setR_k, pre, if_pos (by omega)]; exact h83 p hp⟩))
                  · skip
                    have c94 := (nI_ltI (a := p_) (b := n) (by omega) (by omega)).mp c94
                    refine v_aload_n C dX6_findPlacing_97 rfl rfl rfl ?_
                    refine v_getR C (Nat.le_of_ble_eq_true rfl) rfl rfl hinX6 22 (Nat.le_of_ble_eq_true rfl) lkX6_49 rfl dX6_findPlacing_98 rfl ?_
                    refine v_iload C dX6_findPlacing_101 rfl rfl ?_
                    refine v_aload_n C dX6_findPlacing_103 rfl rfl rfl ?_
                    refine v_getR C (Nat.le_of_ble_eq_true rfl) rfl rfl hinX6 7 (Nat.le_of_ble_eq_true rfl) lkX6_31 rfl dX6_findPlacing_104 rfl ?_
                    refine v_iload C dX6_findPlacing_107 rfl rfl ?_
                    refine v_iald (i := p_) C (Nat.le_of_ble_eq_true rfl) rfl rfl (by omega) (by decide) dX6_findPlacing_109 rfl ?_
                    refine V.tp h84 ?_
                    refine v_iast (i := p_) C (Nat.le_of_ble_eq_true rfl) rfl rfl (by omega) (by decide) dX6_findPlacing_110 rfl ?_
                    refine V.nm (fun τ110_12 eτ110_12 => ?_)
                    refine v_iinc (lv' := [(5, .int (nI (p_ + 1))), (4, .int v58_10), (3, .int (nI i)), (0, .ref 0), (1, .int v), (2, .int w)]) C dX6_findPlacing_111 rfl (nI_inc p_) (Nat.le_of_ble_eq_true rfl) rfl rfl ?_
                    refine v_goto (tgt := 88) C dX6_findPlacing_114 (by decide) ?_
                    exact V.sub [0, 1, 2, 3, 4, 5] rfl (ih88 (p_ + 1)  _ (by omega) (by omega)  (by rw [eτ110_12, eυ, setR_s2, pre_upd _ _ _ rfl]))
              exact V.sub [0, 1, 2, 3, 4, 5] rfl (lp88 (n + 1) 0  _ (by omega) (by omega)  (by rw [pre_0, setR_self]))
            · skip
              refine v_iload C dX6_findPlacing_67 rfl rfl ?_
              refine v_aload_n C dX6_findPlacing_69 rfl rfl rfl ?_
              refine v_getI C (Nat.le_of_ble_eq_true rfl) rfl rfl hinX6 23 (Nat.le_of_ble_eq_true rfl) lkX6_187 rfl dX6_findPlacing_70 rfl ?_
              refine V.tp hq23 ?_
              refine v_icmp_lt (tgt := 79) C dX6_findPlacing_73 (by decide) rfl (fun c73 => ?_) (fun c73 => ?_)
              · skip
                refine v_aload_n C dX6_findPlacing_79 rfl rfl rfl ?_
                refine v_iload C dX6_findPlacing_80 rfl rfl ?_
                refine v_put (ty := .int) C (Nat.le_of_ble_eq_true rfl) rfl rfl hinX6 tyX6_ok nmX6 23 (Nat.le_of_ble_eq_true rfl) lkX6_187 rfl (by decide +kernel) rfl rfl rfl dX6_findPlacing_82 rfl ?_
                refine V.nm (fun τ82_13 eτ82_13 => ?_)
                refine v_iconst (v := 0) C dX6_findPlacing_85 (by decide) rfl ?_
                refine v_istore (lv' := [(5, .int 0), (4, .int v58_10), (3, .int (nI i)), (0, .ref 0), (1, .int v), (2, .int w)]) C dX6_findPlacing_86 (Nat.le_of_ble_eq_true rfl) rfl rfl ?_
                have lp88 : ∀ (kf p_ : Nat)  (υ : St), n < p_ + kf → p_ ≤ n → υ = setR τ82_13 14 (pre p_ (τ33_4 8) (τ82_13 14)) → V X 88 [(5, .int (nI p_)), (4, .int v58_10), (3, .int (nI i)), (0, .ref 0), (1, .int v), (2, .int w)] [] υ := by
                  intro kf
                  induction kf with
                  | zero => intro p_  υ h1 h2; omega
                  | succ kf ih88 =>
                    intro p_  υ h1 h2  eυ
                    have hn4 : υ 0 8 = nI n := by rw [eυ, setR_o _ _ _ _ (by decide), eτ82_13, s2_get, if_neg (by decide)]; exact hn3
                    have h84 : υ 8 p_ = τ33_4 8 p_ := by rw [eυ, setR_o _ _ _ _ (by decide), eτ82_13, s2_ne (by decide)]
                    refine v_iload C dX6_findPlacing_88 rfl rfl ?_
                    refine v_aload_n C dX6_findPlacing_90 rfl rfl rfl ?_
                    refine v_getI C (Nat.le_of_ble_eq_true rfl) rfl rfl hinX6 8 (Nat.le_of_ble_eq_true rfl) lkX6_65 rfl dX6_findPlacing_91 rfl ?_
                    refine V.tp hn4 ?_
                    refine v_icmp_ge (tgt := 117) C dX6_findPlacing_94 (by decide) rfl (fun c94 => ?_) (fun c94 => ?_)
                    · skip
                      have c94 := mt (nI_ltI (a := p_) (b := n) (by omega) (by omega)).mpr c94
                      refine v_iinc (lv' := [(3, .int (nI (i + 1))), (5, .int (nI p_)), (4, .int v58_10), (0, .ref 0), (1, .int v), (2, .int w)]) C dX6_findPlacing_117 rfl (nI_inc i) (Nat.le_of_ble_eq_true rfl) rfl rfl ?_
                      refine v_goto (tgt := 14) C dX6_findPlacing_120 (by decide) ?_
                      exact V.sub [0, 3, 4, 5] rfl (ih14 (i + 1)  _ (by omega) (by omega)  (by rw [fpN, cI_t c33, if_pos (Or.inr (by rw [← ev58_10]; exact c73))]; exact ⟨by rw [eυ]; exact Plr_14 (by rw [eτ82_13]; exact Plr_23 hP3 _) _, by rw [eυ, setR_o _ _ _ _ (by decide), eτ82_13, s2_get, if_pos ⟨rfl, rfl⟩, ev58_10], fun _ p hp => by rw [eυ, setR_k, pre, if_pos (by omega)]; exact h83 p hp⟩))
                    · skip
                      have c94 := (nI_ltI (a := p_) (b := n) (by omega) (by omega)).mp c94
                      refine v_aload_n C dX6_findPlacing_97 rfl rfl rfl ?_
                      refine v_getR C (Nat.le_of_ble_eq_true rfl) rfl rfl hinX6 22 (Nat.le_of_ble_eq_true rfl) lkX6_49 rfl dX6_findPlacing_98 rfl ?_
                      refine v_iload C dX6_findPlacing_101 rfl rfl ?_
                      refine v_aload_n C dX6_findPlacing_103 rfl rfl rfl ?_
                      refine v_getR C (Nat.le_of_ble_eq_true rfl) rfl rfl hinX6 7 (Nat.le_of_ble_eq_true rfl) lkX6_31 rfl dX6_findPlacing_104 rfl ?_
                      refine v_iload C dX6_findPlacing_107 rfl rfl ?_
                      refine v_iald (i := p_) C (Nat.le_of_ble_eq_true rfl) rfl rfl (by omega) (by decide) dX6_findPlacing_109 rfl ?_
                      refine V.tp h84 ?_
                      refine v_iast (i := p_) C (Nat.le_of_ble_eq_true rfl) rfl rfl (by omega) (by decide) dX6_findPlacing_110 rfl ?_
                      refine V.nm (fun τ110_14 eτ110_14 => ?_)
                      refine v_iinc (lv' := [(5, .int (nI (p_ + 1))), (4, .int v58_10), (3, .int (nI i)), (0, .ref 0), (1, .int v), (2, .int w)]) C dX6_findPlacing_111 rfl (nI_inc p_) (Nat.le_of_ble_eq_true rfl) rfl rfl ?_
                      refine v_goto (tgt := 88) C dX6_findPlacing_114 (by decide) ?_
                      exact V.sub [0, 1, 2, 3, 4, 5] rfl (ih88 (p_ + 1)  _ (by omega) (by omega)  (by rw [eτ110_14, eυ, setR_s2, pre_upd _ _ _ rfl]))
                exact V.sub [0, 1, 2, 3, 4, 5] rfl (lp88 (n + 1) 0  _ (by omega) (by omega)  (by rw [pre_0, setR_self]))
              · skip
                refine v_goto (tgt := 117) C dX6_findPlacing_76 (by decide) ?_
                refine v_iinc (lv' := [(3, .int (nI (i + 1))), (4, .int v58_10), (0, .ref 0), (1, .int v), (2, .int w)]) C dX6_findPlacing_117 rfl (nI_inc i) (Nat.le_of_ble_eq_true rfl) rfl rfl ?_
                refine v_goto (tgt := 14) C dX6_findPlacing_120 (by decide) ?_
                exact V.sub [0, 2, 3, 4] rfl (ih14 (i + 1)  _ (by omega) (by omega)  (by rw [fpN, cI_t c33, if_neg (fun z => z.elim c64 (fun z => c73 (by rw [ev58_10]; exact z)))]; exact ⟨hP3, h23.trans eτ.2.1, fun z p hp => by rw [h14]; exact eτ.2.2 z p hp⟩))
        · skip
          have c33 := bI_0 c33
          refine v_goto (tgt := 117) C dX6_findPlacing_36 (by decide) ?_
          refine v_iinc (lv' := [(3, .int (nI (i + 1))), (0, .ref 0), (1, .int v), (2, .int w)]) C dX6_findPlacing_117 rfl (nI_inc i) (Nat.le_of_ble_eq_true rfl) rfl rfl ?_
          refine v_goto (tgt := 14) C dX6_findPlacing_120 (by decide) ?_
          exact V.sub [0, 1, 2, 3] rfl (ih14 (i + 1)  _ (by omega) (by omega)  (by rw [fpN, cI_f c33]; exact ⟨hP3, h23.trans eτ.2.1, fun z p hp => by rw [h14]; exact eτ.2.2 z p hp⟩))
  exact V.sub [0, 1, 2, 3] rfl (lp14 ((6 ^ n) + 1) 0  _ (by omega) (by omega)  (by rw [eτ9_2]; exact ⟨Plr_23 ⟨fun _ _ _ _ => rfl, fun _ _ => rfl, fun _ _ => rfl⟩ _, by rw [s2_get, if_pos ⟨rfl, rfl⟩]; rfl, fun z => absurd (show ((-9 : Int32) < 0) by decide) z⟩))
