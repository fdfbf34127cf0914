/-! the class: tellInto -/
def Wf27 (σ : St) : Prop := ∃ n y, σ 27 7 = nI n ∧ n ≤ 7 ∧ σ 27 9 = nI y ∧ y ≤ 999
theorem ts_thk (σ : St) (n y : Nat) (b v0 v1 v2 v3 : Int32) : Thk σ (tsS σ n y b v0 v1 v2 v3) := fun a ha => by
  have s : ∀ (ω : St) (k j : Nat) (x : Int32), 27 ≤ k → k ≤ 34 → s2 ω k j x a = ω a := fun ω k j x h1 h2 => s2_ne (by omega)
  unfold tsS
  split
  · unfold hAddS
    split
    · rfl
    · split
      · rw [s _ _ _ _ (by decide) (by decide), s _ _ _ _ (by decide) (by decide), s _ _ _ _ (by decide) (by decide), s _ _ _ _ (by decide) (by decide), s _ _ _ _ (by decide) (by decide), s _ _ _ _ (by decide) (by decide)]
      · rfl
  · split
    · unfold hCarS
      by_cases p : pieceP v0 (nI n) ∧ placeP v1
      · rw [cI_t p]
        by_cases q : carH σ 27 n (tn v0) v1
        · rw [cI_t q, s _ _ _ _ (by decide) (by decide)]
        · rw [cI_f q]
      · rw [cI_f p]
    · split
      · unfold hWidS
        by_cases p : floorP v0
        · rw [cI_t p]
          split
          · rfl
          · split
            · rfl
            · rw [s _ _ _ _ (by decide) (by decide)]
        · rw [cI_f p]
      · split
        · unfold hSizS
          by_cases p : roomP v0
          · rw [cI_t p]
            split
            · rfl
            · split
              · rfl
              · split
                · rfl
                · rw [s _ _ _ _ (by decide) (by decide)]
          · rw [cI_f p]
        · split
          · unfold hYeaS
            split
            · rfl
            · split
              · rfl
              · exact hYrs_o σ 27 n a (by omega) (by omega) (by omega) (tn v0)
          · split
            · unfold hHeiS
              split
              · rfl
              · split
                · rfl
                · rw [s _ _ _ _ (by decide) (by decide)]
            · unfold hPolS
              by_cases p : pieceP v0 (nI n)
              · rw [cI_t p]
                split
                · rw [s _ _ _ _ (by decide) (by decide)]
                · rfl
              · rw [cI_f p]
theorem yea_top {y : Nat} {v : Int32} (hy : y ≤ 999) (h1 : ¬ v < 1) (h2 : ¬ minI 60 (nI (999 - y)) < v) : y + tn v ≤ 999 := by
  have hv := min_60 h1 h2
  rw [hv.1] at h2
  unfold minI at h2
  by_cases c : nI (999 - y) < 60
  · rw [if_pos c] at h2
    have := mt (nI_ltI (a := 999 - y) (b := tn v) (by omega) (by omega)).mpr h2
    omega
  · have := mt (nI_ltI (a := 999 - y) (b := 60) (by omega) (by decide)).mpr c
    omega
theorem ts_wf {σ : St} {n y : Nat} (hn : σ 27 7 = nI n) (h7 : n ≤ 7) (hy : σ 27 9 = nI y) (hy9 : y ≤ 999) (b v0 v1 v2 v3 : Int32) : Wf27 (tsS σ n y b v0 v1 v2 v3) := by
  have w0 : Wf27 σ := ⟨n, y, hn, h7, hy, hy9⟩
  have s : ∀ (k j : Nat) (x : Int32), k ≠ 27 → Wf27 (s2 σ k j x) := fun k j x h => ⟨n, y, by rw [s2_ne (Ne.symm h)]; exact hn, h7, by rw [s2_ne (Ne.symm h)]; exact hy, hy9⟩
  unfold tsS
  split
  · unfold hAddS
    split
    · exact w0
    · split
      · refine ⟨n + 1, y, by rw [s2_get, if_pos ⟨rfl, rfl⟩], by omega, ?_, hy9⟩
        rw [s2_get, if_neg (by decide), s2_ne (by decide), s2_ne (by decide), s2_ne (by decide), s2_ne (by decide), s2_ne (by decide)]; exact hy
      · exact w0
  · split
    · unfold hCarS
      by_cases p : pieceP v0 (nI n) ∧ placeP v1
      · rw [cI_t p]
        by_cases q : carH σ 27 n (tn v0) v1
        · rw [cI_t q]; exact s _ _ _ (by decide)
        · rw [cI_f q]; exact w0
      · rw [cI_f p]; exact w0
    · split
      · unfold hWidS
        by_cases p : floorP v0
        · rw [cI_t p]
          split
          · exact w0
          · split
            · exact w0
            · exact s _ _ _ (by decide)
        · rw [cI_f p]; exact w0
      · split
        · unfold hSizS
          by_cases p : roomP v0
          · rw [cI_t p]
            split
            · exact w0
            · split
              · exact w0
              · split
                · exact w0
                · exact s _ _ _ (by decide)
          · rw [cI_f p]; exact w0
        · split
          · unfold hYeaS
            split
            · exact w0
            · next h1 =>
              split
              · exact w0
              · next h2 => exact ⟨n, y + tn v0, (hYrs_z σ 27 n 7 (by decide) _).trans hn, h7, hYrs_9 hy _, yea_top hy9 h1 h2⟩
          · split
            · unfold hHeiS
              split
              · exact w0
              · split
                · exact w0
                · refine ⟨n, y, ?_, h7, ?_, hy9⟩
                  · rw [s2_get, if_neg (by decide)]; exact hn
                  · rw [s2_get, if_neg (by decide)]; exact hy
            · unfold hPolS
              by_cases p : pieceP v0 (nI n)
              · rw [cI_t p]
                split
                · exact s _ _ _ (by decide)
                · exact w0
              · rw [cI_f p]; exact w0
/-- a statement that stands at a, over a state -/
noncomputable def stA (h : Nat → Int32) (ω : St) (a : Nat) : Int32 := tsA ω (tn (ω 27 7)) (tn (ω 27 9)) (h a) (tv0 h (h a) a) (tv1 h (h a) a)
noncomputable def stS (h : Nat → Int32) (ω : St) (a : Nat) : St := tsS ω (tn (ω 27 7)) (tn (ω 27 9)) (h a) (tv0 h (h a) a) (tv1 h (h a) a) (h (a + 3) - 48) (tw h (a + 4))
noncomputable def tRun (g h : Nat → Int32) (σ : St) : Nat → St
  | 0 => σ
  | k + 1 => stS h (tRun g h σ k) (posS g k)
theorem stS_wf {h : Nat → Int32} {ω : St} {a : Nat} (w : Wf27 ω) : Wf27 (stS h ω a) := by
  obtain ⟨n, y, hn, h7, hy, hy9⟩ := w
  rw [stS, hn, hy, tn_nI (by omega), tn_nI (by omega)]
  exact ts_wf hn h7 hy hy9 _ _ _ _ _
theorem tRun_ok {g h : Nat → Int32} {σ : St} (w : Wf27 σ) : ∀ k, Wf27 (tRun g h σ k) ∧ Thk σ (tRun g h σ k)
  | 0 => ⟨w, Thk.rf σ⟩
  | k + 1 => by
    have ih := tRun_ok (g := g) (h := h) w k
    exact ⟨stS_wf ih.1, ih.2.tr (ts_thk _ _ _ _ _ _ _ _)⟩
abbrev NX (σ : St) (t : Nat) : Nat → Int32 := nx (σ 44) t
abbrev HX (σ : St) (t : Nat) : Nat → Int32 := hx (σ 44) t
def TiR (σ : St) (t : Nat) (r : Int32) (τ : St) : Prop :=
  (∃ m x, Chn (NX σ t) t m ∧ (0 < m → posS (NX σ t) m < t) ∧ bad1 (NX σ t) (posS (NX σ t) m) = some x ∧ x < 200 ∧ r = -1000 - nI x ∧ τ = σ) ∨
  ∃ s, Told (NX σ t) t s ∧ ((∃ k, k < s ∧ (∀ j, j < k → ¬ stA (HX σ t) (tRun (NX σ t) (HX σ t) σ j) (posS (NX σ t) j) < 0) ∧ stA (HX σ t) (tRun (NX σ t) (HX σ t) σ k) (posS (NX σ t) k) < 0 ∧ r = -2000 - nI (posS (NX σ t) k) ∧ Thk σ τ) ∨
    ((∀ j, j < s → ¬ stA (HX σ t) (tRun (NX σ t) (HX σ t) σ j) (posS (NX σ t) j) < 0) ∧ r = nI s ∧ τ = tRun (NX σ t) (HX σ t) σ s))
theorem told_k {g : Nat → Int32} {tx : Nat → Int32} {t s k : Nat} (hg : g = nx tx t) (h : Told g t s) (hk : k < s) : posS g k < t ∧ letP (hx tx t (posS g k)) ∧ hx tx t (posS g k) = g (posS g k) := by
  subst hg
  have hb := bad1_let (h.2.1 k hk).1
  have := nx_let hb
  exact ⟨this.1, by rw [this.2]; exact hb, this.2⟩
theorem pos_nx {tx : Nat → Int32} {t s k : Nat} (h : Told (nx tx t) t s) (hk : k < s) : posS (nx tx t) k + (1 + litN.getD (frmIx (hx tx t (posS (nx tx t) k))) 0) = posS (nx tx t) (k + 1) := by
  obtain ⟨h1, h2, h3⟩ := told_k rfl h hk
  rw [(frm_all h2).1, posS, stE, h3, List.length_append]
  have h1 : ([2] : List Nat).length = 1 := rfl
  omega
theorem ti_bad {σ : St} {t : Nat} {r : Int32} (hF : FbR σ t r) (c : ¬ r = -9) : TiR σ t (-1000 - r) σ := by
  rcases hF with ⟨m, x, h1, h2, h3, h4, e⟩ | ⟨s, hs, e⟩
  · exact Or.inl ⟨m, x, h1, h2, h3, h4, by rw [e], rfl⟩
  · exact absurd e c
theorem ti_end {σ τ : St} {t s k : Nat} (hS : Told (NX σ t) t s) (hk : k ≤ s) (c : ¬ posS (NX σ t) k < t) (hal : ∀ j, j < k → ¬ stA (HX σ t) (tRun (NX σ t) (HX σ t) σ j) (posS (NX σ t) j) < 0) (e : τ = tRun (NX σ t) (HX σ t) σ k) : TiR σ t (nI k) τ := by
  have q : k = s := by
    rcases Nat.lt_or_ge k s with q | q
    · exact absurd (told_k (g := NX σ t) rfl hS q).1 c
    · omega
  subst q
  exact Or.inr ⟨k, hS, Or.inr ⟨hal, rfl, e⟩⟩
theorem nI_n9x {x : Nat} (h : x < 200) : ¬ nI x = -9 := nI_n9 (by omega)
theorem kX4_tellInto (t : Nat) (σ : St) (hT : σ 43 1 = nI t) (h96 : t ≤ 96) (hw : Wf27 σ) : Ct yX4_tellInto cX4_tellInto 5 (some .int) 8 [.ref 43, .ref 27] σ (rI (fun r τ => TiR σ t r τ)) := by
  refine ct_of plX4 rfl (Nat.le_of_ble_eq_true rfl) (fun X hX C => ?_)
  show V X 0 [(0, .ref 43), (1, .ref 27)] [] σ
  refine v_aload_n C dX4_tellInto_0 rfl rfl rfl ?_
  refine v_callV C (Nat.le_of_ble_eq_true rfl) rfl rfl (As := []) (rest := []) (kX4_firstBadPlace t σ hT h96) rfl (Nat.le_of_ble_eq_true rfl) (Nat.le_of_ble_eq_true rfl) ⟨mlX4_19, mfX4_firstBadPlace⟩ dkX4_firstBadPlace (Nat.le_of_ble_eq_true rfl) dX4_tellInto_1 rfl (krI (fun r ω0 hF => ?_))
  obtain ⟨eω0, hF⟩ := hF
  refine V.eqs eω0 ?_
  refine v_istore_n (lv' := [(2, .int r), (0, .ref 43), (1, .ref 27)]) C dX4_tellInto_4 rfl (Nat.le_of_ble_eq_true rfl) rfl rfl ?_
  refine v_iload_n C dX4_tellInto_5 rfl rfl rfl ?_
  refine v_bipush (v := -9) C dX4_tellInto_6 (by decide) rfl ?_
  refine v_icmp_eq (tgt := 17) C dX4_tellInto_8 (by decide) rfl (fun c8 => ?_) (fun c8 => ?_)
  · skip
    refine v_iconst (v := 0) C dX4_tellInto_17 (by decide) rfl ?_
    refine v_istore_n (lv' := [(3, .int 0), (2, .int r), (0, .ref 43), (1, .ref 27)]) C dX4_tellInto_18 rfl (Nat.le_of_ble_eq_true rfl) rfl rfl ?_
    refine v_iconst (v := 0) C dX4_tellInto_19 (by decide) rfl ?_
    refine v_istore (lv' := [(4, .int 0), (3, .int 0), (2, .int r), (0, .ref 43), (1, .ref 27)]) C dX4_tellInto_20 (Nat.le_of_ble_eq_true rfl) rfl rfl ?_
    have hS : ∃ s, Told (NX σ t) t s := by
      rcases hF with ⟨m, x, _, _, _, hx2, e⟩ | ⟨s, hs, _⟩
      · exact absurd (e.symm.trans c8) (nI_n9x hx2)
      · exact ⟨s, hs⟩
    obtain ⟨s, hS⟩ := hS
    have lp22 : ∀ (kf k : Nat), s < k + kf → k ≤ s → (∀ j, j < k → ¬ stA (HX σ t) (tRun (NX σ t) (HX σ t) σ j) (posS (NX σ t) j) < 0) → V X 22 [(4, .int (nI (posS (NX σ t) k))), (3, .int (nI k)), (2, .int r), (1, .ref 27), (0, .ref 43)] [] (tRun (NX σ t) (HX σ t) σ k) := by
      intro kf
      induction kf with
      | zero => intro k h1 h2; omega
      | succ kf ih22 =>
        intro k h1 h2 hal
        obtain ⟨hwf, hth⟩ := tRun_ok (g := NX σ t) (h := HX σ t) hw k
        have hs34 := Chn_lt hS.2.1 h96
        have hpk : posS (NX σ t) k ≤ 104 := Chn_pos (fun i hi => hS.2.1 i (by omega)) h96
        generalize eω : tRun (NX σ t) (HX σ t) σ k = ω at hwf hth ⊢
        have hTω : ω 43 1 = nI t := (congrFun (hth 43 (Or.inr (by decide))) 1).trans hT
        have h44 : ω 44 = σ 44 := hth 44 (Or.inr (by decide))
        obtain ⟨n, y, hnω, h7, hyω, hy9⟩ := hwf
        refine v_iload C dX4_tellInto_22 rfl rfl ?_
        refine v_aload_n C dX4_tellInto_24 rfl rfl rfl ?_
        refine v_getI C (Nat.le_of_ble_eq_true rfl) rfl rfl hinX4 1 (Nat.le_of_ble_eq_true rfl) lkX4_15 rfl dX4_tellInto_25 rfl ?_
        refine V.tp hTω ?_
        refine v_icmp_ge (tgt := 73) C dX4_tellInto_28 (by decide) rfl (fun c28 => ?_) (fun c28 => ?_)
        · skip
          have c28 := mt (nI_ltI (a := (posS (NX σ t) k)) (b := t) (by omega) (by omega)).mpr c28
          refine v_iload_n C dX4_tellInto_73 rfl rfl rfl ?_
          exact v_iret C dX4_tellInto_74 (by rw [hX]; exact ⟨_, rfl, ti_end hS h2 c28 hal eω.symm⟩)
        · skip
          have c28 := (nI_ltI (a := (posS (NX σ t) k)) (b := t) (by omega) (by omega)).mp c28
          have hks : k < s := by
            rcases Nat.lt_or_ge k s with q | q
            · exact q
            · have := hS.2.2; rw [show s = k by omega] at this; omega
          obtain ⟨hpt, hle, hge⟩ := told_k (g := NX σ t) rfl hS hks
          refine v_aload_n C dX4_tellInto_31 rfl rfl rfl ?_
          refine v_aload_n C dX4_tellInto_32 rfl rfl rfl ?_
          refine v_iload C dX4_tellInto_33 rfl rfl ?_
          refine v_callV C (Nat.le_of_ble_eq_true rfl) rfl rfl (As := [.ref 27, .int (nI (posS (NX σ t) k))]) (rest := []) (kX4_tellStatement (posS (NX σ t) k) t n y ω hTω h96 (by omega) hnω h7 hyω hy9 (by rw [h44]; exact hle)) rfl (Nat.le_of_ble_eq_true rfl) (Nat.le_of_ble_eq_true rfl) ⟨mlX4_23, mfX4_tellStatement⟩ dkX4_tellStatement (Nat.le_of_ble_eq_true rfl) dX4_tellInto_35 rfl (kI ?_)
          rw [h44]
          have eA : stA (HX σ t) ω (posS (NX σ t) k) = tsA ω n y (hx (σ 44) t (posS (NX σ t) k)) (tv0 (HX σ t) (hx (σ 44) t (posS (NX σ t) k)) (posS (NX σ t) k)) (tv1 (HX σ t) (hx (σ 44) t (posS (NX σ t) k)) (posS (NX σ t) k)) := by rw [stA, hnω, hyω, tn_nI (by omega), tn_nI (by omega)]
          have eS : stS (HX σ t) ω (posS (NX σ t) k) = tsS ω n y (hx (σ 44) t (posS (NX σ t) k)) (tv0 (HX σ t) (hx (σ 44) t (posS (NX σ t) k)) (posS (NX σ t) k)) (tv1 (HX σ t) (hx (σ 44) t (posS (NX σ t) k)) (posS (NX σ t) k)) (hx (σ 44) t (posS (NX σ t) k + 3) - 48) (tw (HX σ t) (posS (NX σ t) k + 4)) := by rw [stS, hnω, hyω, tn_nI (by omega), tn_nI (by omega)]
          refine V.tp eA.symm ?_
          refine V.eqs eS.symm ?_
          have hth2 : Thk σ (stS (HX σ t) ω (posS (NX σ t) k)) := by rw [eS]; exact hth.tr (ts_thk _ _ _ _ _ _ _ _)
          refine V.nm (fun ω2 eω2 => ?_)
          rw [← eω2] at hth2
          have hTω2 : ω2 43 1 = nI t := (congrFun (hth2 43 (Or.inr (by decide))) 1).trans hT
          have h442 : ω2 44 = σ 44 := hth2 44 (Or.inr (by decide))
          refine v_if_ge (tgt := 48) C dX4_tellInto_38 (by decide) rfl (fun c38 => ?_) (fun c38 => ?_)
          · skip
            have hok : ∀ j, j < k + 1 → ¬ stA (HX σ t) (tRun (NX σ t) (HX σ t) σ j) (posS (NX σ t) j) < 0 := fun j hj => (Nat.lt_succ_iff_lt_or_eq.mp hj).elim (hal j) (fun q => by rw [q, eω]; exact c38)
            have eR : ω2 = tRun (NX σ t) (HX σ t) σ (k + 1) := by rw [eω2, tRun, eω]
            refine V.eqs eR ?_
            have hTω3 : tRun (NX σ t) (HX σ t) σ (k + 1) 43 1 = nI t := by rw [← eR]; exact hTω2
            have h443 : tRun (NX σ t) (HX σ t) σ (k + 1) 44 = σ 44 := by rw [← eR]; exact h442
            refine v_iinc (lv' := [(3, .int (nI (k + 1))), (4, .int (nI (posS (NX σ t) k))), (2, .int r), (1, .ref 27), (0, .ref 43)]) C dX4_tellInto_48 rfl (nI_inc k) (Nat.le_of_ble_eq_true rfl) rfl rfl ?_
            refine v_iload C dX4_tellInto_51 rfl rfl ?_
            refine v_iconst (v := 1) C dX4_tellInto_53 (by decide) rfl ?_
            refine v_aload_n C dX4_tellInto_54 rfl rfl rfl ?_
            refine v_iload C dX4_tellInto_55 rfl rfl ?_
            refine v_callV C (Nat.le_of_ble_eq_true rfl) rfl rfl (As := [.int (nI (posS (NX σ t) k))]) (rest := [.int 1, .int (nI (posS (NX σ t) k))]) (kX4_letterAt (posS (NX σ t) k) t (tRun (NX σ t) (HX σ t) σ (k + 1)) hTω3 h96 (by omega)) rfl (Nat.le_of_ble_eq_true rfl) (Nat.le_of_ble_eq_true rfl) ⟨mlX4_27, mfX4_letterAt⟩ dkX4_letterAt (Nat.le_of_ble_eq_true rfl) dX4_tellInto_57 rfl (kI ?_)
            refine V.tp (show hx (tRun (NX σ t) (HX σ t) σ (k + 1) 44) t (posS (NX σ t) k) = hx (σ 44) t (posS (NX σ t) k) from by rw [h443]) ?_
            refine v_callS C (As := [.int (hx (σ 44) t (posS (NX σ t) k))]) (rest := [.int 1, .int (nI (posS (NX σ t) k))]) (kX4_formBehind (hx (σ 44) t (posS (NX σ t) k)) (tRun (NX σ t) (HX σ t) σ (k + 1))) rfl (Nat.le_of_ble_eq_true rfl) (Nat.le_of_ble_eq_true rfl) ⟨mlX4_31, mfX4_formBehind⟩ dkX4_formBehind (Nat.le_of_ble_eq_true rfl) dX4_tellInto_60 rfl (kR ?_)
            refine v_callT C (i := (frmIx (hx (σ 44) t (posS (NX σ t) k)))) (frmIx_lt (hx (σ 44) t (posS (NX σ t) k))) rfl (As := []) (rest := [.int 1, .int (nI (posS (NX σ t) k))]) (kJ0_length (frmIx (hx (σ 44) t (posS (NX σ t) k))) (frmIx_lt (hx (σ 44) t (posS (NX σ t) k))) (tRun (NX σ t) (HX σ t) σ (k + 1))) rfl (Nat.le_of_ble_eq_true rfl) (Nat.le_of_ble_eq_true rfl) ⟨mlX4_35, mfJ0_length_8abf5⟩ dkJ0_length_8abf5 (Nat.le_of_ble_eq_true rfl) dX4_tellInto_63 rfl (kI ?_)
            refine v_iadd C dX4_tellInto_66 rfl ?_
            refine V.tp (nI_add 1 (litN.getD (frmIx (hx (σ 44) t (posS (NX σ t) k))) 0)) ?_
            refine v_iadd C dX4_tellInto_67 rfl ?_
            refine V.tp (nI_add (posS (NX σ t) k) (1 + (litN.getD (frmIx (hx (σ 44) t (posS (NX σ t) k))) 0))) ?_
            refine v_istore (lv' := [(4, .int (nI ((posS (NX σ t) k) + (1 + (litN.getD (frmIx (hx (σ 44) t (posS (NX σ t) k))) 0))))), (3, .int (nI (k + 1))), (2, .int r), (1, .ref 27), (0, .ref 43)]) C dX4_tellInto_68 (Nat.le_of_ble_eq_true rfl) rfl rfl ?_
            refine v_goto (tgt := 22) C dX4_tellInto_70 (by decide) ?_
            rw [pos_nx hS hks]
            exact V.sub [0, 1, 2, 3, 4] rfl (ih22 (k + 1) (by omega) (by omega) hok)
          · skip
            refine v_sipush (v := -2000) C dX4_tellInto_41 (by decide) rfl ?_
            refine v_iload C dX4_tellInto_44 rfl rfl ?_
            refine v_isub C dX4_tellInto_46 rfl ?_
            exact v_iret C dX4_tellInto_47 (by rw [hX]; exact ⟨_, rfl, Or.inr ⟨s, hS, Or.inl ⟨k, hks, hal, by rw [eω]; exact c38, rfl, hth2⟩⟩⟩)
    exact V.sub [0, 1, 2, 4, 3] rfl (lp22 (s + 1) 0 (by omega) (Nat.zero_le s) (fun j hj => absurd hj (Nat.not_lt_zero j)))
  · skip
    refine v_sipush (v := -1000) C dX4_tellInto_11 (by decide) rfl ?_
    refine v_iload_n C dX4_tellInto_14 rfl rfl rfl ?_
    refine v_isub C dX4_tellInto_15 rfl ?_
    exact v_iret C dX4_tellInto_16 (by rw [hX]; exact ⟨_, rfl, ti_bad hF c8⟩)
