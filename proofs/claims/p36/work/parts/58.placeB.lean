/-! the class: Placing, what places come to -/
theorem i32_z {x : Int32} : x < 0 ↔ x.toInt < 0 := i32_lt
theorem i32_dv {x : Int32} {d : Nat} (h : 0 ≤ x.toInt) (h0 : 0 < d) (hd : d < 2 ^ 31) : 0 ≤ (x / nI d).toInt ∧ (x / nI d).toInt ≤ x.toInt := by
  obtain ⟨T, hT, e⟩ := nI_of (x := x) (by rw [i32_z]; omega)
  have hl : T / d ≤ T := Nat.div_le_self T d
  rw [e, pk_div hT h0 hd, nI_toInt hT, nI_toInt (Nat.lt_of_le_of_lt hl hT)]
  exact ⟨Int.natCast_nonneg _, Int.ofNat_le.mpr hl⟩
theorem nI_n9' {r : Nat} (h : r < 6) : ¬ nI r = 9 := fun e => by
  have := (nI_eq (a := r) (b := 9) (by omega) (by omega)).mp e; omega
/-- a house's rows are small -/
def Sml (kd bk ft ag sz : Nat → Int32) (n : Nat) : Prop := (∀ p, p < n → 0 ≤ (bk p).toInt ∧ (bk p).toInt ≤ 9 ∧ 0 ≤ (ft p).toInt ∧ (ft p).toInt ≤ 9 ∧ 0 ≤ (ag p).toInt ∧ (ag p).toInt ≤ 99) ∧ ∀ r, r < 6 → 0 ≤ (sz r).toInt ∧ (sz r).toInt ≤ 20
theorem Bls_le {f : Nat → Int32} {n : Nat} {m : Int} (h : ∀ p, p < n → 0 ≤ (f p).toInt ∧ (f p).toInt ≤ m) (hm : m ≤ 1000) : Bls f n := fun p hp => ⟨(h p hp).1, by have := (h p hp).2; omega⟩
theorem isum_mono {f g : Nat → Int} : ∀ n, (∀ j, j < n → f j ≤ g j) → isum f n ≤ isum g n
  | 0, _ => Int.le_refl _
  | n + 1, h => by
    have := isum_mono n (fun j hj => h j (by omega)); have := h n (by omega)
    rw [isum, isum]; omega
theorem isum_top {f : Nat → Int} {m : Int} : ∀ n, (∀ j, j < n → f j ≤ m) → isum f n ≤ m * (n : Int)
  | 0, _ => by simp [isum]
  | n + 1, h => by
    have := isum_top n (fun j hj => h j (by omega)); have := h n (by omega)
    rw [isum, Int.natCast_succ, Int.mul_add]; omega
theorem sui_b {kd pl : Nat → Int32} (p q : Nat) : 0 ≤ (suiG kd pl p q).toInt ∧ (suiG kd pl p q).toInt ≤ 2 := by
  unfold suiG; split <;> decide
theorem suis_b {kd pl : Nat → Int32} {n p : Nat} (h7 : n ≤ 7) : (sumN (suiG kd pl p) n).toInt = isum (fun q => (suiG kd pl p q).toInt) n ∧ 0 ≤ (sumN (suiG kd pl p) n).toInt ∧ (sumN (suiG kd pl p) n).toInt ≤ 14 := by
  have hb : Bls (suiG kd pl p) n := Bls_le (m := 2) (fun q _ => sui_b p q) (by decide)
  have h := sum_tot hb h7 n (Nat.le_refl n)
  have g := isum_top (f := fun q => (suiG kd pl p q).toInt) (m := 2) n (fun q _ => (sui_b p q).2)
  refine ⟨h.1, by rw [h.1]; exact h.2.1, by rw [h.1]; omega⟩
theorem ven_b {ft : Nat → Int32} {n p : Nat} (h7 : n ≤ 7) (hp : p < n) (h : ∀ q, q < n → 0 ≤ (ft q).toInt ∧ (ft q).toInt ≤ 9) : 0 ≤ (venF ft n p).toInt ∧ (venF ft n p).toInt ≤ 18 := by
  have a := i32_dv (x := ft p) (d := 2) (h p hp).1 (by decide) (by decide)
  have b := (h p hp).2
  have e : (if n = 1 then (0 : Int32) else ft ((p + 1) % n)).toInt = (if n = 1 then (0 : Int) else (ft ((p + 1) % n)).toInt) := by split <;> rfl
  have c : 0 ≤ (if n = 1 then (0 : Int) else (ft ((p + 1) % n)).toInt) ∧ (if n = 1 then (0 : Int) else (ft ((p + 1) % n)).toInt) ≤ 9 := by
    split
    · decide
    · exact h _ (Nat.mod_lt _ (by omega))
  unfold venF
  rw [show (2 : Int32) = nI 2 from rfl, i32_add (by rw [e]; omega) (by rw [e]; omega), e]
  omega
theorem bla_b {kd bk ft ag sz pl : Nat → Int32} {n p : Nat} (h : Sml kd bk ft ag sz n) (h7 : n ≤ 7) (hp : p < n) : 0 ≤ (blaF kd ft ag pl n p).toInt ∧ (blaF kd ft ag pl n p).toInt ≤ 200 := by
  have hf := (h.1 p hp).2.2
  have hs := suis_b (kd := kd) (pl := pl) (p := p) h7
  have hv := ven_b (ft := ft) h7 hp (fun q hq => ⟨(h.1 q hq).2.2.1, (h.1 q hq).2.2.2.1⟩)
  have hv2 := i32_dv (x := venF ft n p) (d := 2) hv.1 (by decide) (by decide)
  have ha := i32_dv (x := ag p) (d := 10) hf.2.2.1 (by decide) (by decide)
  have e2 : (nI 2 : Int32) = 2 := rfl
  have e10 : (nI 10 : Int32) = 10 := rfl
  rw [e2] at hv2
  rw [e10] at ha
  have hsu : (suiF kd ft pl n p).toInt = (ft p).toInt + (sumN (suiG kd pl p) n).toInt := by rw [suiF]; exact i32_add (by omega) (by omega)
  unfold blaF
  split
  · rw [hsu]; omega
  · split
    · omega
    · split
      · rw [i32_add (by omega) (by omega)]; omega
      · split
        · rw [i32_add (by rw [hsu]; omega) (by rw [hsu]; omega), hsu]; omega
        · split
          · omega
          · omega
theorem bla_mono {kd bk ft ag sz pl pl' : Nat → Int32} {n p : Nat} (h : Sml kd bk ft ag sz n) (h7 : n ≤ 7) (hp : p < n) (hq : ∀ q, q < n → (suiG kd pl p q).toInt ≤ (suiG kd pl' p q).toInt) : (blaF kd ft ag pl n p).toInt ≤ (blaF kd ft ag pl' n p).toInt := by
  have hf := (h.1 p hp).2.2
  have hs := suis_b (kd := kd) (pl := pl) (p := p) h7
  have hs' := suis_b (kd := kd) (pl := pl') (p := p) h7
  have hm := isum_mono n hq
  have hsu : (suiF kd ft pl n p).toInt = (ft p).toInt + (sumN (suiG kd pl p) n).toInt := by rw [suiF]; exact i32_add (by omega) (by omega)
  have hsu' : (suiF kd ft pl' n p).toInt = (ft p).toInt + (sumN (suiG kd pl' p) n).toInt := by rw [suiF]; exact i32_add (by omega) (by omega)
  unfold blaF
  split
  · rw [hsu, hsu']; omega
  · split
    · exact Int.le_refl _
    · split
      · exact Int.le_refl _
      · split
        · rw [i32_add (by rw [hsu]; omega) (by rw [hsu]; omega), hsu, i32_add (by rw [hsu']; omega) (by rw [hsu']; omega), hsu']; omega
        · exact Int.le_refl _
theorem bla_sg {kd ft ag pl pl' : Nat → Int32} {n p : Nat} (hq : ∀ q, q < n → suiG kd pl p q = suiG kd pl' p q) : blaF kd ft ag pl n p = blaF kd ft ag pl' n p := by
  rw [blaF, blaF, suiF, suiF, sumN_congr (g := suiG kd pl' p) hq]
theorem in_tot {kd bk ft ag sz : Nat → Int32} {n : Nat} (h : Sml kd bk ft ag sz n) (h7 : n ≤ 7) (pl : Nat → Int32) (r : Int32) : (inF kd ft ag pl n r).toInt = isum (fun p => (binC kd ft ag pl n r p).toInt) n ∧ 0 ≤ (inF kd ft ag pl n r).toInt ∧ (inF kd ft ag pl n r).toInt ≤ 7000 := by
  have hb : Bls (binC kd ft ag pl n r) n := Bls_le (m := 200) (fun p hp => by
    unfold binC
    split
    · exact bla_b h h7 hp
    · decide) (by decide)
  have ht := sum_tot hb h7 n (Nat.le_refl n)
  exact ⟨ht.1, by rw [inF, ht.1]; exact ht.2.1, by rw [inF, ht.1]; omega⟩
/-! a placing's first steps -/
def plt (d : Nat → Nat) (p : Nat) : Nat → Int32 := fun j => if j < p then nI (d j) else 9
theorem plt_cg {d d' : Nat → Nat} {p : Nat} (h : ∀ j, j < p → d j = d' j) : plt d p = plt d' p := by
  funext j; unfold plt
  by_cases c : j < p
  · rw [if_pos c, if_pos c, h j c]
  · rw [if_neg c, if_neg c]
theorem plt_at (d : Nat → Nat) (p : Nat) : plt d (p + 1) p = nI (d p) := by unfold plt; rw [if_pos (Nat.lt_succ_self p)]
theorem plt_9 (d : Nat → Nat) (p : Nat) : plt d p p = 9 := by unfold plt; rw [if_neg (Nat.lt_irrefl p)]
theorem plt_o (d : Nat → Nat) {p j : Nat} (h : j ≠ p) : plt d (p + 1) j = plt d p j := by
  unfold plt
  by_cases c : j < p
  · rw [if_pos (by omega), if_pos c]
  · rw [if_neg (by omega), if_neg c]
theorem plt_upd (d : Nat → Nat) (p : Nat) : upd (plt d p) p (nI (d p)) = plt d (p + 1) := by
  funext j
  unfold upd
  by_cases c : j = p
  · rw [if_pos c, c, plt_at]
  · rw [if_neg c, plt_o d c]
theorem plt_und (d : Nat → Nat) (p : Nat) : upd (plt d (p + 1)) p 9 = plt d p := by
  funext j
  unfold upd
  by_cases c : j = p
  · rw [if_pos c, c, plt_9]
  · rw [if_neg c, plt_o d c]
theorem in_same {kd ft ag : Nat → Int32} {d : Nat → Nat} {n p r : Nat} (hd : ∀ j, d j < 6) (hr : r < 6) (k : ¬ d p = r) : inF kd ft ag (plt d (p + 1)) n (nI r) = inF kd ft ag (plt d p) n (nI r) := by
  have hn : ¬ nI (d p) = nI r := fun e => k ((nI_eq (by have := hd p; omega) (by omega)).mp e)
  refine sumN_congr (fun j hj => ?_)
  unfold binC
  by_cases c : j = p
  · subst c
    rw [plt_at, plt_9, if_neg hn, if_neg (fun e => nI_n9' hr e.symm)]
  · rw [plt_o d c]
    by_cases e : plt d p j = nI r
    · rw [if_pos e, if_pos e]
      refine bla_sg (fun q hq => ?_)
      unfold suiG
      rw [plt_o d c, e]
      by_cases f : q = p
      · subst f
        rw [plt_at, plt_9, if_neg (fun z => hn z.2.2.1), if_neg (fun z => nI_n9' hr z.2.2.1.symm)]
      · rw [plt_o d f]
    · rw [if_neg e, if_neg e]
theorem in_mono {kd bk ft ag sz : Nat → Int32} {d : Nat → Nat} {n p r : Nat} (h : Sml kd bk ft ag sz n) (h7 : n ≤ 7) (hr : r < 6) : (inF kd ft ag (plt d p) n (nI r)).toInt ≤ (inF kd ft ag (plt d (p + 1)) n (nI r)).toInt := by
  rw [(in_tot h h7 _ _).1, (in_tot h h7 _ _).1]
  refine isum_mono n (fun j hj => ?_)
  unfold binC
  by_cases c : j = p
  · subst c
    rw [plt_9, if_neg (fun e => nI_n9' hr e.symm)]
    split
    · exact (bla_b h h7 hj).1
    · decide
  · rw [plt_o d c]
    by_cases e : plt d p j = nI r
    · rw [if_pos e, if_pos e]
      refine bla_mono h h7 hj (fun q hq => ?_)
      by_cases f : q = p
      · have : suiG kd (plt d p) j q = 0 := by
          unfold suiG
          rw [f, plt_9, e, if_neg (fun z => nI_n9' hr z.2.2.1.symm)]
        rw [this]; exact (sui_b j q).1
      · have : suiG kd (plt d p) j q = suiG kd (plt d (p + 1)) j q := by
          unfold suiG
          rw [plt_o d f, plt_o d c]
        rw [this]; exact Int.le_refl _
    · rw [if_neg e, if_neg e]; decide
theorem in_none {kd ft ag : Nat → Int32} {d : Nat → Nat} {n r : Nat} (hr : r < 6) : inF kd ft ag (plt d 0) n (nI r) = 0 := by
  have : ∀ m, sumN (binC kd ft ag (plt d 0) n (nI r)) m = 0 := fun m => by
    induction m with
    | zero => rfl
    | succ m ih => rw [sumN, ih]; unfold binC; rw [show plt d 0 m = 9 from rfl, if_neg (fun e => nI_n9' hr e.symm)]; rfl
  exact this n
/-! the most of all rooms -/
def mxR (f : Nat → Int32) : Nat → Int32
  | 0 => 0
  | i + 1 => maxI (mxR f i) (f i)
theorem maxI_int (a b : Int32) : (maxI a b).toInt = if a.toInt < b.toInt then b.toInt else a.toInt := by
  unfold maxI
  by_cases c : a < b
  · rw [if_pos c, if_pos (i32_lt.mp c)]
  · rw [if_neg c, if_neg (fun z => c (i32_lt.mpr z))]
theorem mx_le {f : Nat → Int32} {x : Int} (h0 : 0 ≤ x) : ∀ i, (∀ r, r < i → (f r).toInt ≤ x) → (mxR f i).toInt ≤ x
  | 0, _ => h0
  | i + 1, h => by
    have := mx_le h0 i (fun r hr => h r (by omega)); have := h i (by omega)
    rw [mxR, maxI_int]; split <;> omega
theorem le_mx {f : Nat → Int32} : ∀ i, 0 ≤ (mxR f i).toInt ∧ ∀ r, r < i → (f r).toInt ≤ (mxR f i).toInt
  | 0 => ⟨Int.le_refl _, fun r hr => absurd hr (Nat.not_lt_zero r)⟩
  | i + 1 => by
    have ih := le_mx (f := f) i
    rw [mxR, maxI_int]
    refine ⟨by have := ih.1; split <;> omega, fun r hr => ?_⟩
    by_cases c : r = i
    · subst c; split <;> omega
    · have := ih.2 r (by omega); split <;> omega
def cWo (kd ft ag : Nat → Int32) (n : Nat) (d : Nat → Nat) (p : Nat) : Int32 := mxR (fun r => inF kd ft ag (plt d p) n (nI r)) 6
theorem i32_an {x y : Int32} (h1 : x.toInt ≤ y.toInt) (h2 : y.toInt ≤ x.toInt) : x = y := Int32.toInt_inj.mp (by omega)
theorem cWo_st {kd bk ft ag sz : Nat → Int32} {d : Nat → Nat} {n p : Nat} (h : Sml kd bk ft ag sz n) (h7 : n ≤ 7) (hd : ∀ j, d j < 6) : cWo kd ft ag n d (p + 1) = maxI (cWo kd ft ag n d p) (inF kd ft ag (plt d (p + 1)) n (nI (d p))) := by
  have a := le_mx (f := fun r => inF kd ft ag (plt d p) n (nI r)) 6
  have b := le_mx (f := fun r => inF kd ft ag (plt d (p + 1)) n (nI r)) 6
  refine i32_an ?_ ?_
  · refine mx_le ?_ 6 (fun r hr => ?_)
    · rw [maxI_int]
      have : 0 ≤ (cWo kd ft ag n d p).toInt := a.1
      split <;> omega
    · rw [maxI_int]
      by_cases c : d p = r
      · subst c
        split <;> omega
      · rw [in_same hd hr c]
        have : (inF kd ft ag (plt d p) n (nI r)).toInt ≤ (cWo kd ft ag n d p).toInt := a.2 r hr
        split <;> omega
  · rw [maxI_int]
    have e1 : (cWo kd ft ag n d p).toInt ≤ (cWo kd ft ag n d (p + 1)).toInt := mx_le b.1 6 (fun r hr => Int.le_trans (in_mono h h7 hr) (b.2 r hr))
    have e2 : (inF kd ft ag (plt d (p + 1)) n (nI (d p))).toInt ≤ (cWo kd ft ag n d (p + 1)).toInt := b.2 (d p) (hd p)
    split <;> omega
theorem cWo_b {kd bk ft ag sz : Nat → Int32} {n : Nat} (h : Sml kd bk ft ag sz n) (h7 : n ≤ 7) (d : Nat → Nat) (p : Nat) : 0 ≤ (cWo kd ft ag n d p).toInt ∧ (cWo kd ft ag n d p).toInt ≤ 7000 :=
  ⟨(le_mx 6).1, mx_le (by decide) 6 (fun r hr => (in_tot h h7 _ _).2.2)⟩
theorem cWo_0 {kd ft ag : Nat → Int32} {n : Nat} (d : Nat → Nat) : cWo kd ft ag n d 0 = 0 := by
  refine i32_an (mx_le (Int.le_refl _) 6 (fun r hr => ?_)) (le_mx 6).1
  rw [in_none hr]; exact Int.le_refl _
theorem cWo_mono {kd bk ft ag sz : Nat → Int32} {d : Nat → Nat} {n p : Nat} (h : Sml kd bk ft ag sz n) (h7 : n ≤ 7) : (cWo kd ft ag n d p).toInt ≤ (cWo kd ft ag n d (p + 1)).toInt := by
  have b := le_mx (f := fun r => inF kd ft ag (plt d (p + 1)) n (nI r)) 6
  exact mx_le b.1 6 (fun r hr => Int.le_trans (in_mono h h7 hr) (b.2 r hr))
theorem worN_is (F : Int32 → Int32) : ∀ i, 0 < i → (∃ r, r < i ∧ worN F i = nI r) ∧ ∀ r, r < i → (F (nI r)).toInt ≤ (F (worN F i)).toInt
  | 0, h => absurd h (Nat.lt_irrefl 0)
  | 1, _ => by
    rw [worN_1]
    exact ⟨⟨0, by decide, rfl⟩, fun r hr => by rw [show r = 0 by omega]; exact Int.le_refl _⟩
  | i + 2, _ => by
    obtain ⟨⟨r0, h0, e0⟩, h1⟩ := worN_is F (i + 1) (by omega)
    by_cases c : F (worN F (i + 1)) < F (nI (i + 1))
    · have e := (worN_new (F := F) (i := i + 1) (x2 := F (worN F (i + 1))) (by omega) rfl rfl c).1
      rw [← e]
      refine ⟨⟨i + 1, by omega, rfl⟩, fun r hr => ?_⟩
      rw [i32_lt] at c
      by_cases k : r = i + 1
      · rw [k]; exact Int.le_refl _
      · have := h1 r (by omega); omega
    · have e := (worN_keep (F := F) (i := i + 1) (by omega) rfl rfl rfl c).1
      rw [← e]
      refine ⟨⟨r0, by omega, e0⟩, fun r hr => ?_⟩
      rw [i32_lt] at c
      by_cases k : r = i + 1
      · rw [k]; omega
      · exact h1 r (by omega)
theorem cWo_n {kd bk ft ag sz : Nat → Int32} {d : Nat → Nat} {n : Nat} (h : Sml kd bk ft ag sz n) (h7 : n ≤ 7) : inF kd ft ag (plt d n) n (worN (inF kd ft ag (plt d n) n) 6) = cWo kd ft ag n d n := by
  obtain ⟨⟨r0, h0, e0⟩, h1⟩ := worN_is (inF kd ft ag (plt d n) n) 6 (by decide)
  refine i32_an ?_ (mx_le (in_tot h h7 _ _).2.1 6 (fun r hr => h1 r hr))
  rw [e0]
  exact (le_mx (f := fun r => inF kd ft ag (plt d n) n (nI r)) 6).2 r0 h0
