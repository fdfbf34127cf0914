/-! the class: rows copied, Math and Arrays -/
theorem plJ7 : plainName RJ7 = true := by decide +kernel
theorem ac_nat : Cond.native arraycopyName ∈ BIG := big_of (List.mem_of_getElem? (i := 321) (by decide +kernel)) (by decide +kernel)
theorem ac_sta : Cond.static arraycopyName ∈ BIG := big_of (List.mem_of_getElem? (i := 320) (by decide +kernel)) (by decide +kernel)
theorem ac_ini : Cond.initialized "java/lang/System" ∈ BIG := big_of (List.mem_of_getElem? (i := 111) (by decide +kernel)) (by decide +kernel)
theorem acX0_49 : Cond.methodLink RX0 49 arraycopyName ∈ BIG := big_of (List.mem_of_getElem? (i := 319) (by decide +kernel)) (by decide +kernel)
theorem acX1_62 : Cond.methodLink RX1 62 arraycopyName ∈ BIG := big_of (List.mem_of_getElem? (i := 599) (by decide +kernel)) (by decide +kernel)
theorem acX3_91 : Cond.methodLink RX3 91 arraycopyName ∈ BIG := big_of (List.mem_of_getElem? (i := 667) (by decide +kernel)) (by decide +kernel)
theorem ent_cong {ad : Nat → Nat} {cI : ClassId} {σ τ : St} {a : Nat} (h : τ a = σ a) : ent ad cI τ a = ent ad cI σ a := by
  unfold ent
  split
  · next ci fl hq =>
    congr 2
    apply List.map_congr_left
    intro x hx
    cases fl.getD x none <;> simp [fv, h]
  · rw [h]
theorem cpy_pre (f g : Nat → Int32) (c : Nat) : va_cpy f g 0 0 c = pre c f g := by
  funext k
  simp [va_cpy, pre]
theorem ac_room : nativeFrameWords "java/lang/System" "arraycopy" 5 + 11 ≤ 60 := by decide +kernel
theorem v_copy {X : CxT} {own : String} {cc : ByteArray} {n L : Nat} {ret : Option FieldType} {pc pc' : Nat} {lv : List (Nat × Value)} {σ : St} {idx : Nat}
    (C : Cx X own cc n ret L) {k k' N N' c : Nat} {v : Int32} (hk : k < NC) (hs : shp k = .inr N) (hk' : k' < NC) (hs' : shp k' = .inr N') (hv : v = nI c) (h1 : c ≤ N) (h2 : c ≤ N') (hc : c < 100) (hL1 : 1 ≤ L) (hw : Cond.methodLink own idx arraycopyName ∈ BIG)
    (hd : decode cc pc = .ok (.invokestatic idx, 3)) (hn : pc + 3 = pc') (kk : V X pc' lv [] (setR σ k' (pre c (σ k) (σ k')))) : V X pc lv [.int v, .int 0, .ref k', .int 0, .ref k] σ := by
  obtain ⟨p, l, e, s, m, args, below, meth, c0, D, cI, ad, nL, lev, P⟩ := X
  subst hn; subst hv
  intro H locs ls hP hS hL
  have hcl : (nI c).toNatClampNeg = c := nI_clamp (by omega)
  have h0 : (0 : Int32).toNatClampNeg = 0 := rfl
  have hle : 1 ≤ lev := by have := C.2.2.2.2.1; omega
  have hro := ac_room
  refine va_copyi (R := rmL lev) (sp := 0) (dp := 0) (n := nI c) (rest := []) (ws := wld ad cI σ) (own := own) (index := idx) C.1 C.2.1 (C.2.2.1.trans hL.1.symm) C.2.2.2.2.2.2.2.1 (C.2.2.2.2.2.2.2.2.1 _ hw) (C.2.2.2.2.2.2.2.2.1 _ ac_nat) (C.2.2.2.2.2.2.2.2.1 _ ac_sta) (C.2.2.2.2.2.2.2.2.1 _ ac_ini) C.2.2.2.2.2.2.2.2.2.2.1 hP (wld_D C.2.2.2.2.2.2.2.2.2.2.2) hS k k' 0 0 ((wld_at hk).trans (by rw [ent_arr hs])) ((wld_at hk').trans (by rw [ent_arr hs'])) rfl rfl rfl (by decide) (by decide) (nI_pos (by omega)) (by rw [h0, hcl]; omega) (by rw [h0, hcl]; omega) (fun _ _ => rfl) hle (Nat.le_trans (Nat.le_of_eq (Nat.zero_add _)) (Nat.le_trans hro (by show 60 ≤ 60 * lev; omega))) hd (fun H1 locs1 hP1 hD1 hS1 => ?_)
  rw [h0, hcl, cpy_pre, wld_set (σ' := setR σ k' (pre c (σ k) (σ k'))) (by rw [ent_arr hs']; simp [setR]) (fun a ha => ent_cong (by simp [setR, ha]))] at hP1
  exact kk H1 locs1 ls hP1 hS1 hL
def minI (a b : Int32) : Int32 := if b < a then b else a
def maxI (a b : Int32) : Int32 := if a < b then b else a
theorem mw_min : Cond.static Lib.Math.min.name ∈ BIG ∧ Cond.initialized "java/lang/Math" ∈ BIG ∧ Cond.code Lib.Math.min.name Lib.Math.min.code 2 (some .int) ∈ BIG := ⟨big_of (List.mem_of_getElem? (i := 453) (by decide +kernel)) (by decide +kernel), big_of (List.mem_of_getElem? (i := 116) (by decide +kernel)) (by decide +kernel), big_of (List.mem_of_getElem? (i := 454) (by decide +kernel)) (by decide +kernel)⟩
theorem v_mmin {X : CxT} {own : String} {cc : ByteArray} {n L : Nat} {ret : Option FieldType} {pc pc' : Nat} {lv : List (Nat × Value)} {st : List Value} {σ : St} {idx : Nat}
    (C : Cx X own cc n ret L) {x y : Int32} (hL1 : 1 ≤ L) (hw : Cond.methodLink own idx Lib.Math.min.name ∈ BIG) (hsum : (st.map fun v => v.category).sum ≤ 8)
    (hd : decode cc pc = .ok (.invokestatic idx, 3)) (hn : pc + 3 = pc') (kk : V X pc' lv (.int (minI x y) :: st) σ) : V X pc lv (.int y :: .int x :: st) σ := by
  obtain ⟨p, l, e, s, m, args, below, meth, c0, D, cI, ad, nL, lev, P⟩ := X
  subst hn
  intro H locs ls hP hS hL
  have hle : 1 ≤ lev := by have := C.2.2.2.2.1; omega
  exact va_mmin (R := rmL lev) (own := own) (index := idx) C.1 C.2.1 (C.2.2.1.trans hL.1.symm) C.2.2.2.2.2.2.2.1 (C.2.2.2.2.2.2.2.2.1 _ hw) (C.2.2.2.2.2.2.2.2.1 _ mw_min.1) (C.2.2.2.2.2.2.2.2.1 _ mw_min.2.1) (C.2.2.2.2.2.2.2.2.1 _ mw_min.2.2) hle (by rw [cv_sum]; show _ + 13 ≤ 60 * lev; omega) (Nat.zero_le _) (Nat.zero_le _) hd (kk H locs ls hP hS hL)
theorem maX5_245 : Cond.methodLink RX5 245 Lib.Math.min.name ∈ BIG := big_of (List.mem_of_getElem? (i := 770) (by decide +kernel)) (by decide +kernel)
theorem maX0_91 : Cond.methodLink RX0 91 Lib.Math.min.name ∈ BIG := big_of (List.mem_of_getElem? (i := 452) (by decide +kernel)) (by decide +kernel)
theorem maX2_25 : Cond.methodLink RX2 25 Lib.Math.min.name ∈ BIG := big_of (List.mem_of_getElem? (i := 802) (by decide +kernel)) (by decide +kernel)
theorem maX3_44 : Cond.methodLink RX3 44 Lib.Math.min.name ∈ BIG := big_of (List.mem_of_getElem? (i := 642) (by decide +kernel)) (by decide +kernel)
theorem mw_max : Cond.static Lib.Math.max.name ∈ BIG ∧ Cond.initialized "java/lang/Math" ∈ BIG ∧ Cond.code Lib.Math.max.name Lib.Math.max.code 2 (some .int) ∈ BIG := ⟨big_of (List.mem_of_getElem? (i := 456) (by decide +kernel)) (by decide +kernel), big_of (List.mem_of_getElem? (i := 116) (by decide +kernel)) (by decide +kernel), big_of (List.mem_of_getElem? (i := 457) (by decide +kernel)) (by decide +kernel)⟩
theorem v_mmax {X : CxT} {own : String} {cc : ByteArray} {n L : Nat} {ret : Option FieldType} {pc pc' : Nat} {lv : List (Nat × Value)} {st : List Value} {σ : St} {idx : Nat}
    (C : Cx X own cc n ret L) {x y : Int32} (hL1 : 1 ≤ L) (hw : Cond.methodLink own idx Lib.Math.max.name ∈ BIG) (hsum : (st.map fun v => v.category).sum ≤ 8)
    (hd : decode cc pc = .ok (.invokestatic idx, 3)) (hn : pc + 3 = pc') (kk : V X pc' lv (.int (maxI x y) :: st) σ) : V X pc lv (.int y :: .int x :: st) σ := by
  obtain ⟨p, l, e, s, m, args, below, meth, c0, D, cI, ad, nL, lev, P⟩ := X
  subst hn
  intro H locs ls hP hS hL
  have hle : 1 ≤ lev := by have := C.2.2.2.2.1; omega
  exact va_mmax (R := rmL lev) (own := own) (index := idx) C.1 C.2.1 (C.2.2.1.trans hL.1.symm) C.2.2.2.2.2.2.2.1 (C.2.2.2.2.2.2.2.2.1 _ hw) (C.2.2.2.2.2.2.2.2.1 _ mw_max.1) (C.2.2.2.2.2.2.2.2.1 _ mw_max.2.1) (C.2.2.2.2.2.2.2.2.1 _ mw_max.2.2) hle (by rw [cv_sum]; show _ + 13 ≤ 60 * lev; omega) (Nat.zero_le _) (Nat.zero_le _) hd (kk H locs ls hP hS hL)
theorem maX0_97 : Cond.methodLink RX0 97 Lib.Math.max.name ∈ BIG := big_of (List.mem_of_getElem? (i := 455) (by decide +kernel)) (by decide +kernel)
theorem maX1_81 : Cond.methodLink RX1 81 Lib.Math.max.name ∈ BIG := big_of (List.mem_of_getElem? (i := 614) (by decide +kernel)) (by decide +kernel)
theorem setR_id (σ : St) (k : Nat) : setR σ k (σ k) = σ := by
  funext a
  by_cases h : a = k
  · subst h; simp [setR]
  · simp [setR, h]
theorem fil_step (σ : St) (r i : Nat) (g : Nat → Int32) {v : Int32} (h : v = g i) : s2 (setR σ r (pre i g (σ r))) r i v = setR σ r (pre (i + 1) g (σ r)) := by
  funext a
  by_cases q : a = r
  · subst q; rw [s2_eq]; simp only [setR, if_true, ↓reduceIte]; exact pre_upd i g (σ a) h
  · rw [s2_ne q]; simp [setR, q]
theorem kJ7_fill_53178 (r N : Nat) (v : Int32) (σ : St) (hr : r < NC) (hs : shp r = .inr N) (hN : N < 100) : Ct yJ7_fill_53178 cJ7_fill_53178 4 none 0 [.ref r, .int v] σ (fV (setR σ r (pre N (fun _ => v) (σ r)))) := by
  refine ct_of plJ7 rfl (Nat.le_of_ble_eq_true rfl) (fun X hX C => ?_)
  show V X 0 [(0, .ref r), (1, .int v)] [] σ
  refine v_iconst (v := 0) C dJ7_fill_53178_0 (by decide) rfl ?_
  refine v_istore_n (lv' := [(2, .int 0), (0, .ref r), (1, .int v)]) C dJ7_fill_53178_1 rfl (Nat.le_of_ble_eq_true rfl) rfl rfl ?_
  refine v_aload_n C dJ7_fill_53178_2 rfl rfl rfl ?_
  refine v_alen (v := nI N) C hr hs rfl dJ7_fill_53178_3 rfl ?_
  refine v_istore_n (lv' := [(3, .int (nI N)), (2, .int 0), (0, .ref r), (1, .int v)]) C dJ7_fill_53178_4 rfl (Nat.le_of_ble_eq_true rfl) rfl rfl ?_
  have lp5 : ∀ (kf i : Nat)  (τ : St), N < i + kf → i ≤ N → τ = setR σ r (pre i (fun _ => v) (σ r)) → V X 5 [(3, .int (nI N)), (2, .int (nI i)), (0, .ref r), (1, .int v)] [] τ := by
    intro kf
    induction kf with
    | zero => intro i  τ h1 h2; omega
    | succ kf ih5 =>
      intro i  τ h1 h2  eτ
      refine v_iload_n C dJ7_fill_53178_5 rfl rfl rfl ?_
      refine v_iload_n C dJ7_fill_53178_6 rfl rfl rfl ?_
      refine v_icmp_ge (tgt := 20) C dJ7_fill_53178_7 (by decide) rfl (fun c7 => ?_) (fun c7 => ?_)
      · skip
        have c7 := mt (nI_ltI (a := i) (b := N) (by omega) (by omega)).mpr c7
        exact v_vret C dJ7_fill_53178_20 (by rw [hX]; exact fV_of (by rw [eτ, show i = N from by omega]))
      · skip
        have c7 := (nI_ltI (a := i) (b := N) (by omega) (by omega)).mp c7
        refine v_aload_n C dJ7_fill_53178_10 rfl rfl rfl ?_
        refine v_iload_n C dJ7_fill_53178_11 rfl rfl rfl ?_
        refine v_iload_n C dJ7_fill_53178_12 rfl rfl rfl ?_
        refine v_iast (i := i) C hr hs rfl (by omega) (by omega) dJ7_fill_53178_13 rfl ?_
        refine V.nm (fun τ13_1 eτ13_1 => ?_)
        refine v_iinc (lv' := [(2, .int (nI (i + 1))), (3, .int (nI N)), (0, .ref r), (1, .int v)]) C dJ7_fill_53178_14 rfl (nI_inc i) (Nat.le_of_ble_eq_true rfl) rfl rfl ?_
        refine v_goto (tgt := 5) C dJ7_fill_53178_17 (by decide) ?_
        exact V.sub [1, 0, 2, 3] rfl (ih5 (i + 1)  _ (by omega) (by omega)  (by rw [eτ13_1, eτ]; exact fil_step σ r i (fun _ => v) rfl))
  exact V.sub [0, 1, 2, 3] rfl (lp5 (N + 1) 0  _ (by omega) (by omega)  (by rw [pre_0, setR_id]))
