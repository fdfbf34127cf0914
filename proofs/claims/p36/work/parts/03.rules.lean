/-! the rows of the walk: an instruction each -/
theorem lk_mem {α : Type} {k : Nat} {v : α} : ∀ {l : List (Nat × α)}, l.lookup k = some v → (k, v) ∈ l := by
  intro l
  induction l with
  | nil => intro h; cases h
  | cons a t ih =>
    intro h
    obtain ⟨x, y⟩ := a
    rw [List.lookup_cons] at h
    by_cases e : (k == x) = true
    · simp only [e] at h
      have e2 : k = x := by simpa using e
      subst e2
      cases h
      exact List.mem_cons_self
    · simp only [Bool.not_eq_true] at e
      simp only [e] at h
      exact List.mem_cons_of_mem _ (ih h)
theorem lat {ad : Nat → Nat} {ls : Array Slot} {nL k : Nat} {lv : List (Nat × Value)} {v : Value} (h : lv_has ls nL (lv.map (fun q => (q.1, cv ad q.2)))) (hl : lv.lookup k = some v) : ls[k]? = some (.val (cv ad v)) :=
  h.2.2 (k, cv ad v) (List.mem_map.mpr ⟨(k, v), lk_mem hl, rfl⟩)
def lset (lv : List (Nat × Value)) (i : Nat) (v : Value) : List (Nat × Value) := (i, v) :: lv.filter (fun q => !(q.1 == i) && !(q.1 + 1 == i && q.2.category == 2))
theorem lset_cv (ad : Nat → Nat) (lv : List (Nat × Value)) (i : Nat) (v : Value) : (i, cv ad v) :: (lv.map (fun q => (q.1, cv ad q.2))).filter (fun q => !(q.1 == i) && !(q.1 + 1 == i && q.2.category == 2)) = (lset lv i v).map (fun q => (q.1, cv ad q.2)) := by
  have h : ∀ l : List (Nat × Value), (l.map (fun q => (q.1, cv ad q.2))).filter (fun q => !(q.1 == i) && !(q.1 + 1 == i && q.2.category == 2)) = (l.filter (fun q => !(q.1 == i) && !(q.1 + 1 == i && q.2.category == 2))).map (fun q => (q.1, cv ad q.2)) := by
    intro l
    rw [List.filter_map]
    congr 1
    apply List.filter_congr
    intro q _
    simp [cv_cat]
  simp only [lset, List.map_cons, h]
section RULES
variable {X : CxT} {own rn : String} {cc : ByteArray} {n L : Nat} {ret : Option FieldType} {pc pc' : Nat} {lv lv' : List (Nat × Value)} {st : List Value} {σ : St}
theorem V.sub (ks : List Nat) (hl : lv_pick lv ks = lv') (kk : V X pc lv' st σ) : V X pc lv st σ := by
  obtain ⟨p, l, e, s, m, args, below, meth, c, D, cI, ad, nL, lev, P⟩ := X
  intro H locs ls hP hS hL
  refine kk H locs ls hP hS (lv_sub hL ks ?_)
  subst hl
  simp only [lv_pick, List.map_filterMap, List.getElem?_map]
theorem v_iload_n (C : Cx X own cc n ret L) {k : Fin 4} {i : Nat} {x : Int32} (hd : decode cc pc = .ok (.iload_n k, 1)) (hi : (k : Nat) = i) (hl : lv.lookup i = some (.int x)) (hn : pc + 1 = pc') (kk : V X pc' lv (.int x :: st) σ) : V X pc lv st σ := by
  obtain ⟨p, l, e, s, m, args, below, meth, c, D, cI, ad, nL, lev, P⟩ := X
  subst hn
  intro H locs ls hP hS hL
  exact lv_iload_n C.1 C.2.1 hd hi (lat hL hl) (kk H locs ls hP hS hL)
theorem v_iload (C : Cx X own cc n ret L) {i : Nat} {x : Int32} (hd : decode cc pc = .ok (.iload i, 2)) (hl : lv.lookup i = some (.int x)) (hn : pc + 2 = pc') (kk : V X pc' lv (.int x :: st) σ) : V X pc lv st σ := by
  obtain ⟨p, l, e, s, m, args, below, meth, c, D, cI, ad, nL, lev, P⟩ := X
  subst hn
  intro H locs ls hP hS hL
  exact lv_iload C.1 C.2.1 hd (lat hL hl) (kk H locs ls hP hS hL)
theorem v_aload_n (C : Cx X own cc n ret L) {k : Fin 4} {i x : Nat} (hd : decode cc pc = .ok (.aload_n k, 1)) (hi : (k : Nat) = i) (hl : lv.lookup i = some (.ref x)) (hn : pc + 1 = pc') (kk : V X pc' lv (.ref x :: st) σ) : V X pc lv st σ := by
  obtain ⟨p, l, e, s, m, args, below, meth, c, D, cI, ad, nL, lev, P⟩ := X
  subst hn
  intro H locs ls hP hS hL
  exact lv_aload_n C.1 C.2.1 hd hi (lat hL hl) (kk H locs ls hP hS hL)
theorem v_aload (C : Cx X own cc n ret L) {i x : Nat} (hd : decode cc pc = .ok (.aload i, 2)) (hl : lv.lookup i = some (.ref x)) (hn : pc + 2 = pc') (kk : V X pc' lv (.ref x :: st) σ) : V X pc lv st σ := by
  obtain ⟨p, l, e, s, m, args, below, meth, c, D, cI, ad, nL, lev, P⟩ := X
  subst hn
  intro H locs ls hP hS hL
  exact lv_aload C.1 C.2.1 hd (lat hL hl) (kk H locs ls hP hS hL)
theorem v_istore_n (C : Cx X own cc n ret L) {k : Fin 4} {i : Nat} {x : Int32} (hd : decode cc pc = .ok (.istore_n k, 1)) (hi : (k : Nat) = i) (hin : i < n) (hl : lset lv i (.int x) = lv') (hn : pc + 1 = pc') (kk : V X pc' lv' st σ) : V X pc lv (.int x :: st) σ := by
  obtain ⟨p, l, e, s, m, args, below, meth, c, D, cI, ad, nL, lev, P⟩ := X
  subst hn; subst hl
  intro H locs ls hP hS hL
  exact lv_istore_n C.1 C.2.1 hd hi hL (by rw [C.2.2.2.1]; exact hin) (lset_cv ad lv i (.int x)) (fun ls hL => kk H locs ls hP hS hL)
theorem v_istore (C : Cx X own cc n ret L) {i : Nat} {x : Int32} (hd : decode cc pc = .ok (.istore i, 2)) (hin : i < n) (hl : lset lv i (.int x) = lv') (hn : pc + 2 = pc') (kk : V X pc' lv' st σ) : V X pc lv (.int x :: st) σ := by
  obtain ⟨p, l, e, s, m, args, below, meth, c, D, cI, ad, nL, lev, P⟩ := X
  subst hn; subst hl
  intro H locs ls hP hS hL
  exact lv_istore C.1 C.2.1 hd hL (by rw [C.2.2.2.1]; exact hin) (lset_cv ad lv i (.int x)) (fun ls hL => kk H locs ls hP hS hL)
theorem v_astore_n (C : Cx X own cc n ret L) {k : Fin 4} {i : Nat} {x : Nat} (hd : decode cc pc = .ok (.astore_n k, 1)) (hi : (k : Nat) = i) (hin : i < n) (hl : lset lv i (.ref x) = lv') (hn : pc + 1 = pc') (kk : V X pc' lv' st σ) : V X pc lv (.ref x :: st) σ := by
  obtain ⟨p, l, e, s, m, args, below, meth, c, D, cI, ad, nL, lev, P⟩ := X
  subst hn; subst hl
  intro H locs ls hP hS hL
  exact lv_astore_n C.1 C.2.1 hd hi hL (by rw [C.2.2.2.1]; exact hin) (lset_cv ad lv i (.ref x)) (fun ls hL => kk H locs ls hP hS hL)
theorem v_astore (C : Cx X own cc n ret L) {i : Nat} {x : Nat} (hd : decode cc pc = .ok (.astore i, 2)) (hin : i < n) (hl : lset lv i (.ref x) = lv') (hn : pc + 2 = pc') (kk : V X pc' lv' st σ) : V X pc lv (.ref x :: st) σ := by
  obtain ⟨p, l, e, s, m, args, below, meth, c, D, cI, ad, nL, lev, P⟩ := X
  subst hn; subst hl
  intro H locs ls hP hS hL
  exact lv_astore C.1 C.2.1 hd hL (by rw [C.2.2.2.1]; exact hin) (lset_cv ad lv i (.ref x)) (fun ls hL => kk H locs ls hP hS hL)
theorem v_iinc (C : Cx X own cc n ret L) {i : Nat} {d : Int} {x v : Int32} (hd : decode cc pc = .ok (.iinc i d, 3)) (hl : lv.lookup i = some (.int x)) (hv : x + Int32.ofInt d = v) (hin : i < n) (hs : lset lv i (.int v) = lv') (hn : pc + 3 = pc') (kk : V X pc' lv' st σ) : V X pc lv st σ := by
  obtain ⟨p, l, e, s, m, args, below, meth, c, D, cI, ad, nL, lev, P⟩ := X
  subst hn; subst hs
  intro H locs ls hP hS hL
  obtain ⟨j, hj⟩ := List.getElem?_of_mem (List.mem_map.mpr ⟨(i, Value.int x), lk_mem hl, rfl⟩ : (i, cv ad (Value.int x)) ∈ lv.map (fun q => (q.1, cv ad q.2)))
  exact lv_iinc C.1 C.2.1 hd hL hj hv (by rw [C.2.2.2.1]; exact hin) (lset_cv ad lv i (.int v)) (fun ls hL => kk H locs ls hP hS hL)
theorem v_iconst (C : Cx X own cc n ret L) {d : Int} {v : Int32} (hd : decode cc pc = .ok (.iconst d, 1)) (hv : Int32.ofInt d = v) (hn : pc + 1 = pc') (kk : V X pc' lv (.int v :: st) σ) : V X pc lv (st) σ := by
  obtain ⟨p, l, e, s, m, args, below, meth, c, D, cI, ad, nL, lev, P⟩ := X
  subst hn
  intro H locs ls hP hS hL
  exact lv_iconst C.1 C.2.1 hd hv (kk H locs ls hP hS hL)
theorem v_bipush (C : Cx X own cc n ret L) {d : Int} {v : Int32} (hd : decode cc pc = .ok (.bipush d, 2)) (hv : (Int8.ofInt d).toInt32 = v) (hn : pc + 2 = pc') (kk : V X pc' lv (.int v :: st) σ) : V X pc lv (st) σ := by
  obtain ⟨p, l, e, s, m, args, below, meth, c, D, cI, ad, nL, lev, P⟩ := X
  subst hn
  intro H locs ls hP hS hL
  exact lv_bipush C.1 C.2.1 hd hv (kk H locs ls hP hS hL)
theorem v_sipush (C : Cx X own cc n ret L) {d : Int} {v : Int32} (hd : decode cc pc = .ok (.sipush d, 3)) (hv : (Int16.ofInt d).toInt32 = v) (hn : pc + 3 = pc') (kk : V X pc' lv (.int v :: st) σ) : V X pc lv (st) σ := by
  obtain ⟨p, l, e, s, m, args, below, meth, c, D, cI, ad, nL, lev, P⟩ := X
  subst hn
  intro H locs ls hP hS hL
  exact lv_sipush C.1 C.2.1 hd hv (kk H locs ls hP hS hL)
theorem v_iadd (C : Cx X own cc n ret L) {x y : Int32} (hd : decode cc pc = .ok (.iadd, 1)) (hn : pc + 1 = pc') (kk : V X pc' lv (.int (x + y) :: st) σ) : V X pc lv (.int y :: .int x :: st) σ := by
  obtain ⟨p, l, e, s, m, args, below, meth, c, D, cI, ad, nL, lev, P⟩ := X
  subst hn
  intro H locs ls hP hS hL
  exact lv_iadd C.1 C.2.1 hd (kk H locs ls hP hS hL)
theorem v_isub (C : Cx X own cc n ret L) {x y : Int32} (hd : decode cc pc = .ok (.isub, 1)) (hn : pc + 1 = pc') (kk : V X pc' lv (.int (x - y) :: st) σ) : V X pc lv (.int y :: .int x :: st) σ := by
  obtain ⟨p, l, e, s, m, args, below, meth, c, D, cI, ad, nL, lev, P⟩ := X
  subst hn
  intro H locs ls hP hS hL
  exact lv_isub C.1 C.2.1 hd (kk H locs ls hP hS hL)
theorem v_imul (C : Cx X own cc n ret L) {x y : Int32} (hd : decode cc pc = .ok (.imul, 1)) (hn : pc + 1 = pc') (kk : V X pc' lv (.int (x * y) :: st) σ) : V X pc lv (.int y :: .int x :: st) σ := by
  obtain ⟨p, l, e, s, m, args, below, meth, c, D, cI, ad, nL, lev, P⟩ := X
  subst hn
  intro H locs ls hP hS hL
  exact lv_imul C.1 C.2.1 hd (kk H locs ls hP hS hL)
theorem v_iand (C : Cx X own cc n ret L) {x y : Int32} (hd : decode cc pc = .ok (.iand, 1)) (hn : pc + 1 = pc') (kk : V X pc' lv (.int (x &&& y) :: st) σ) : V X pc lv (.int y :: .int x :: st) σ := by
  obtain ⟨p, l, e, s, m, args, below, meth, c, D, cI, ad, nL, lev, P⟩ := X
  subst hn
  intro H locs ls hP hS hL
  exact lv_iand C.1 C.2.1 hd (kk H locs ls hP hS hL)
theorem v_ior (C : Cx X own cc n ret L) {x y : Int32} (hd : decode cc pc = .ok (.ior, 1)) (hn : pc + 1 = pc') (kk : V X pc' lv (.int (x ||| y) :: st) σ) : V X pc lv (.int y :: .int x :: st) σ := by
  obtain ⟨p, l, e, s, m, args, below, meth, c, D, cI, ad, nL, lev, P⟩ := X
  subst hn
  intro H locs ls hP hS hL
  exact lv_ior C.1 C.2.1 hd (kk H locs ls hP hS hL)
theorem v_ishl (C : Cx X own cc n ret L) {x y : Int32} (hd : decode cc pc = .ok (.ishl, 1)) (hn : pc + 1 = pc') (kk : V X pc' lv (.int (x <<< (y &&& 31)) :: st) σ) : V X pc lv (.int y :: .int x :: st) σ := by
  obtain ⟨p, l, e, s, m, args, below, meth, c, D, cI, ad, nL, lev, P⟩ := X
  subst hn
  intro H locs ls hP hS hL
  exact lv_ishl C.1 C.2.1 hd (kk H locs ls hP hS hL)
theorem v_ishr (C : Cx X own cc n ret L) {x y : Int32} (hd : decode cc pc = .ok (.ishr, 1)) (hn : pc + 1 = pc') (kk : V X pc' lv (.int (x >>> (y &&& 31)) :: st) σ) : V X pc lv (.int y :: .int x :: st) σ := by
  obtain ⟨p, l, e, s, m, args, below, meth, c, D, cI, ad, nL, lev, P⟩ := X
  subst hn
  intro H locs ls hP hS hL
  exact lv_ishr C.1 C.2.1 hd (kk H locs ls hP hS hL)
theorem v_idiv (C : Cx X own cc n ret L) {x y : Int32} (hd : decode cc pc = .ok (.idiv, 1)) (hne : ¬ y = 0) (hn : pc + 1 = pc') (kk : V X pc' lv (.int (x / y) :: st) σ) : V X pc lv (.int y :: .int x :: st) σ := by
  obtain ⟨p, l, e, s, m, args, below, meth, c, D, cI, ad, nL, lev, P⟩ := X
  subst hn
  intro H locs ls hP hS hL
  exact lv_idiv C.1 C.2.1 hd hne (kk H locs ls hP hS hL)
theorem v_irem (C : Cx X own cc n ret L) {x y : Int32} (hd : decode cc pc = .ok (.irem, 1)) (hne : ¬ y = 0) (hn : pc + 1 = pc') (kk : V X pc' lv (.int (x - x / y * y) :: st) σ) : V X pc lv (.int y :: .int x :: st) σ := by
  obtain ⟨p, l, e, s, m, args, below, meth, c, D, cI, ad, nL, lev, P⟩ := X
  subst hn
  intro H locs ls hP hS hL
  exact lv_irem C.1 C.2.1 hd hne (kk H locs ls hP hS hL)
theorem v_ineg (C : Cx X own cc n ret L) {x : Int32} (hd : decode cc pc = .ok (.ineg, 1)) (hn : pc + 1 = pc') (kk : V X pc' lv (.int (-x) :: st) σ) : V X pc lv (.int x :: st) σ := by
  obtain ⟨p, l, e, s, m, args, below, meth, c, D, cI, ad, nL, lev, P⟩ := X
  subst hn
  intro H locs ls hP hS hL
  exact lv_ineg C.1 C.2.1 hd (kk H locs ls hP hS hL)
theorem v_dup (C : Cx X own cc n ret L) {a : Value} (hd : decode cc pc = .ok (.dup, 1)) (ha : a.category = 1) (hn : pc + 1 = pc') (kk : V X pc' lv (a :: a :: st) σ) : V X pc lv (a :: st) σ := by
  obtain ⟨p, l, e, s, m, args, below, meth, c, D, cI, ad, nL, lev, P⟩ := X
  subst hn
  intro H locs ls hP hS hL
  exact lv_dup C.1 C.2.1 hd (by rw [cv_cat]; exact ha) (kk H locs ls hP hS hL)
theorem v_dup2 (C : Cx X own cc n ret L) {a b : Value} (hd : decode cc pc = .ok (.dup2, 1)) (ha : a.category = 1) (hb : b.category = 1) (hn : pc + 1 = pc') (kk : V X pc' lv (a :: b :: a :: b :: st) σ) : V X pc lv (a :: b :: st) σ := by
  obtain ⟨p, l, e, s, m, args, below, meth, c, D, cI, ad, nL, lev, P⟩ := X
  subst hn
  intro H locs ls hP hS hL
  exact lv_dup2_11 C.1 C.2.1 hd (by rw [cv_cat]; exact ha) (by rw [cv_cat]; exact hb) (kk H locs ls hP hS hL)
theorem v_pop (C : Cx X own cc n ret L) {a : Value} (hd : decode cc pc = .ok (.pop, 1)) (ha : a.category = 1) (hn : pc + 1 = pc') (kk : V X pc' lv st σ) : V X pc lv (a :: st) σ := by
  obtain ⟨p, l, e, s, m, args, below, meth, c, D, cI, ad, nL, lev, P⟩ := X
  subst hn
  intro H locs ls hP hS hL
  exact lv_pop C.1 C.2.1 hd (by rw [cv_cat]; exact ha) (kk H locs ls hP hS hL)
theorem v_goto (C : Cx X own cc n ret L) {off : Int} {tgt : Nat} (hd : decode cc pc = .ok (.goto off, 3)) (ht : (pc : Int) + off = (tgt : Int)) (kk : V X tgt lv st σ) : V X pc lv st σ := by
  obtain ⟨p, l, e, s, m, args, below, meth, c, D, cI, ad, nL, lev, P⟩ := X
  intro H locs ls hP hS hL
  exact lv_goto C.1 C.2.1 hd ht (kk H locs ls hP hS hL)
theorem v_if_eq (C : Cx X own cc n ret L) {x : Int32} {off : Int} {tgt : Nat} (hd : decode cc pc = .ok (.ifCond .eq off, 3)) (ht : (pc : Int) + off = (tgt : Int)) (hn : pc + 3 = pc') (kt : x = 0 → V X tgt lv st σ) (kf : ¬ x = 0 → V X pc' lv st σ) : V X pc lv (.int x :: st) σ := by
  obtain ⟨p, l, e, s, m, args, below, meth, c, D, cI, ad, nL, lev, P⟩ := X
  subst hn
  intro H locs ls hP hS hL
  exact lv_if_eq C.1 C.2.1 hd ht (fun q => kt q H locs ls hP hS hL) (fun q => kf q H locs ls hP hS hL)
theorem v_icmp_eq (C : Cx X own cc n ret L) {x y : Int32} {off : Int} {tgt : Nat} (hd : decode cc pc = .ok (.if_icmp .eq off, 3)) (ht : (pc : Int) + off = (tgt : Int)) (hn : pc + 3 = pc') (kt : x = y → V X tgt lv st σ) (kf : ¬ x = y → V X pc' lv st σ) : V X pc lv (.int y :: .int x :: st) σ := by
  obtain ⟨p, l, e, s, m, args, below, meth, c, D, cI, ad, nL, lev, P⟩ := X
  subst hn
  intro H locs ls hP hS hL
  exact lv_icmp_eq C.1 C.2.1 hd ht (fun q => kt q H locs ls hP hS hL) (fun q => kf q H locs ls hP hS hL)
theorem v_if_ne (C : Cx X own cc n ret L) {x : Int32} {off : Int} {tgt : Nat} (hd : decode cc pc = .ok (.ifCond .ne off, 3)) (ht : (pc : Int) + off = (tgt : Int)) (hn : pc + 3 = pc') (kt : ¬ x = 0 → V X tgt lv st σ) (kf : x = 0 → V X pc' lv st σ) : V X pc lv (.int x :: st) σ := by
  obtain ⟨p, l, e, s, m, args, below, meth, c, D, cI, ad, nL, lev, P⟩ := X
  subst hn
  intro H locs ls hP hS hL
  exact lv_if_ne C.1 C.2.1 hd ht (fun q => kt q H locs ls hP hS hL) (fun q => kf q H locs ls hP hS hL)
theorem v_icmp_ne (C : Cx X own cc n ret L) {x y : Int32} {off : Int} {tgt : Nat} (hd : decode cc pc = .ok (.if_icmp .ne off, 3)) (ht : (pc : Int) + off = (tgt : Int)) (hn : pc + 3 = pc') (kt : ¬ x = y → V X tgt lv st σ) (kf : x = y → V X pc' lv st σ) : V X pc lv (.int y :: .int x :: st) σ := by
  obtain ⟨p, l, e, s, m, args, below, meth, c, D, cI, ad, nL, lev, P⟩ := X
  subst hn
  intro H locs ls hP hS hL
  exact lv_icmp_ne C.1 C.2.1 hd ht (fun q => kt q H locs ls hP hS hL) (fun q => kf q H locs ls hP hS hL)
theorem v_if_lt (C : Cx X own cc n ret L) {x : Int32} {off : Int} {tgt : Nat} (hd : decode cc pc = .ok (.ifCond .lt off, 3)) (ht : (pc : Int) + off = (tgt : Int)) (hn : pc + 3 = pc') (kt : x < 0 → V X tgt lv st σ) (kf : ¬ x < 0 → V X pc' lv st σ) : V X pc lv (.int x :: st) σ := by
  obtain ⟨p, l, e, s, m, args, below, meth, c, D, cI, ad, nL, lev, P⟩ := X
  subst hn
  intro H locs ls hP hS hL
  exact lv_if_lt C.1 C.2.1 hd ht (fun q => kt q H locs ls hP hS hL) (fun q => kf q H locs ls hP hS hL)
theorem v_icmp_lt (C : Cx X own cc n ret L) {x y : Int32} {off : Int} {tgt : Nat} (hd : decode cc pc = .ok (.if_icmp .lt off, 3)) (ht : (pc : Int) + off = (tgt : Int)) (hn : pc + 3 = pc') (kt : x < y → V X tgt lv st σ) (kf : ¬ x < y → V X pc' lv st σ) : V X pc lv (.int y :: .int x :: st) σ := by
  obtain ⟨p, l, e, s, m, args, below, meth, c, D, cI, ad, nL, lev, P⟩ := X
  subst hn
  intro H locs ls hP hS hL
  exact lv_icmp_lt C.1 C.2.1 hd ht (fun q => kt q H locs ls hP hS hL) (fun q => kf q H locs ls hP hS hL)
theorem v_if_ge (C : Cx X own cc n ret L) {x : Int32} {off : Int} {tgt : Nat} (hd : decode cc pc = .ok (.ifCond .ge off, 3)) (ht : (pc : Int) + off = (tgt : Int)) (hn : pc + 3 = pc') (kt : ¬ x < 0 → V X tgt lv st σ) (kf : x < 0 → V X pc' lv st σ) : V X pc lv (.int x :: st) σ := by
  obtain ⟨p, l, e, s, m, args, below, meth, c, D, cI, ad, nL, lev, P⟩ := X
  subst hn
  intro H locs ls hP hS hL
  exact lv_if_ge C.1 C.2.1 hd ht (fun q => kt (Int32.not_lt.mpr q) H locs ls hP hS hL) (fun q => kf (Int32.not_le.mp q) H locs ls hP hS hL)
theorem v_icmp_ge (C : Cx X own cc n ret L) {x y : Int32} {off : Int} {tgt : Nat} (hd : decode cc pc = .ok (.if_icmp .ge off, 3)) (ht : (pc : Int) + off = (tgt : Int)) (hn : pc + 3 = pc') (kt : ¬ x < y → V X tgt lv st σ) (kf : x < y → V X pc' lv st σ) : V X pc lv (.int y :: .int x :: st) σ := by
  obtain ⟨p, l, e, s, m, args, below, meth, c, D, cI, ad, nL, lev, P⟩ := X
  subst hn
  intro H locs ls hP hS hL
  exact lv_icmp_ge C.1 C.2.1 hd ht (fun q => kt (Int32.not_lt.mpr q) H locs ls hP hS hL) (fun q => kf (Int32.not_le.mp q) H locs ls hP hS hL)
theorem v_if_gt (C : Cx X own cc n ret L) {x : Int32} {off : Int} {tgt : Nat} (hd : decode cc pc = .ok (.ifCond .gt off, 3)) (ht : (pc : Int) + off = (tgt : Int)) (hn : pc + 3 = pc') (kt : 0 < x → V X tgt lv st σ) (kf : ¬ 0 < x → V X pc' lv st σ) : V X pc lv (.int x :: st) σ := by
  obtain ⟨p, l, e, s, m, args, below, meth, c, D, cI, ad, nL, lev, P⟩ := X
  subst hn
  intro H locs ls hP hS hL
  exact lv_if_gt C.1 C.2.1 hd ht (fun q => kt q H locs ls hP hS hL) (fun q => kf q H locs ls hP hS hL)
theorem v_icmp_gt (C : Cx X own cc n ret L) {x y : Int32} {off : Int} {tgt : Nat} (hd : decode cc pc = .ok (.if_icmp .gt off, 3)) (ht : (pc : Int) + off = (tgt : Int)) (hn : pc + 3 = pc') (kt : y < x → V X tgt lv st σ) (kf : ¬ y < x → V X pc' lv st σ) : V X pc lv (.int y :: .int x :: st) σ := by
  obtain ⟨p, l, e, s, m, args, below, meth, c, D, cI, ad, nL, lev, P⟩ := X
  subst hn
  intro H locs ls hP hS hL
  exact lv_icmp_gt C.1 C.2.1 hd ht (fun q => kt q H locs ls hP hS hL) (fun q => kf q H locs ls hP hS hL)
theorem v_if_le (C : Cx X own cc n ret L) {x : Int32} {off : Int} {tgt : Nat} (hd : decode cc pc = .ok (.ifCond .le off, 3)) (ht : (pc : Int) + off = (tgt : Int)) (hn : pc + 3 = pc') (kt : ¬ 0 < x → V X tgt lv st σ) (kf : 0 < x → V X pc' lv st σ) : V X pc lv (.int x :: st) σ := by
  obtain ⟨p, l, e, s, m, args, below, meth, c, D, cI, ad, nL, lev, P⟩ := X
  subst hn
  intro H locs ls hP hS hL
  exact lv_if_le C.1 C.2.1 hd ht (fun q => kt (Int32.not_lt.mpr q) H locs ls hP hS hL) (fun q => kf (Int32.not_le.mp q) H locs ls hP hS hL)
theorem v_icmp_le (C : Cx X own cc n ret L) {x y : Int32} {off : Int} {tgt : Nat} (hd : decode cc pc = .ok (.if_icmp .le off, 3)) (ht : (pc : Int) + off = (tgt : Int)) (hn : pc + 3 = pc') (kt : ¬ y < x → V X tgt lv st σ) (kf : y < x → V X pc' lv st σ) : V X pc lv (.int y :: .int x :: st) σ := by
  obtain ⟨p, l, e, s, m, args, below, meth, c, D, cI, ad, nL, lev, P⟩ := X
  subst hn
  intro H locs ls hP hS hL
  exact lv_icmp_le C.1 C.2.1 hd ht (fun q => kt (Int32.not_lt.mpr q) H locs ls hP hS hL) (fun q => kf (Int32.not_le.mp q) H locs ls hP hS hL)
theorem v_tableIn (C : Cx X own cc n ret L) {dflt lo hi : Int} {offs : Array Int} {len : Nat} {x : Int32} {off : Int} {tgt : Nat} (hd : decode cc pc = .ok (.tableswitch dflt lo hi offs, len)) (h1 : ¬ x.toInt < lo) (h2 : ¬ hi < x.toInt) (ho : offs[(x.toInt - lo).toNat]? = some off) (ht : (pc : Int) + off = (tgt : Int)) (kk : V X tgt lv st σ) : V X pc lv (.int x :: st) σ := by
  obtain ⟨p, l, e, s, m, args, below, meth, c, D, cI, ad, nL, lev, P⟩ := X
  intro H locs ls hP hS hL
  exact lv_tableIn C.1 C.2.1 hd h1 h2 ho ht (kk H locs ls hP hS hL)
theorem v_tableOut (C : Cx X own cc n ret L) {dflt lo hi : Int} {offs : Array Int} {len : Nat} {x : Int32} {tgt : Nat} (hd : decode cc pc = .ok (.tableswitch dflt lo hi offs, len)) (h : x.toInt < lo ∨ hi < x.toInt) (ht : (pc : Int) + dflt = (tgt : Int)) (kk : V X tgt lv st σ) : V X pc lv (.int x :: st) σ := by
  obtain ⟨p, l, e, s, m, args, below, meth, c, D, cI, ad, nL, lev, P⟩ := X
  intro H locs ls hP hS hL
  exact lv_tableOut C.1 C.2.1 hd h ht (kk H locs ls hP hS hL)
theorem v_lookup (C : Cx X own cc n ret L) {dflt : Int} {ps : Array (Int × Int)} {len : Nat} {x : Int32} {off : Int} {tgt : Nat} (hd : decode cc pc = .ok (.lookupswitch dflt ps, len)) (hp : (ps.toList.zip (ps.toList.drop 1)).all (fun (a, next) => a.1 < next.1) = true) (ho : Op.lookupswitch.offset ps.toList dflt x.toInt = off) (ht : (pc : Int) + off = (tgt : Int)) (kk : V X tgt lv st σ) : V X pc lv (.int x :: st) σ := by
  obtain ⟨p, l, e, s, m, args, below, meth, c, D, cI, ad, nL, lev, P⟩ := X
  intro H locs ls hP hS hL
  exact lv_lookup C.1 C.2.1 hd hp ho ht (kk H locs ls hP hS hL)
theorem v_ldc (C : Cx X own cc n ret L) {idx : Nat} {v : Int32} (hw : Cond.constant own idx v ∈ BIG) (hd : decode cc pc = .ok (.ldc idx, 2)) (hn : pc + 2 = pc') (kk : V X pc' lv (.int v :: st) σ) : V X pc lv st σ := by
  obtain ⟨p, l, e, s, m, args, below, meth, c, D, cI, ad, nL, lev, P⟩ := X
  subst hn
  intro H locs ls hP hS hL
  exact lv_ldc C.1 C.2.1 C.2.2.2.2.2.2.2.1 (C.2.2.2.2.2.2.2.2.1 _ hw) hd (kk H locs ls hP hS hL)
theorem v_ldcw (C : Cx X own cc n ret L) {idx : Nat} {v : Int32} (hw : Cond.constant own idx v ∈ BIG) (hd : decode cc pc = .ok (.ldc_w idx, 3)) (hn : pc + 3 = pc') (kk : V X pc' lv (.int v :: st) σ) : V X pc lv st σ := by
  obtain ⟨p, l, e, s, m, args, below, meth, c, D, cI, ad, nL, lev, P⟩ := X
  subst hn
  intro H locs ls hP hS hL
  exact lv_ldcw C.1 C.2.1 C.2.2.2.2.2.2.2.1 (C.2.2.2.2.2.2.2.2.1 _ hw) hd (kk H locs ls hP hS hL)
theorem shp_lt {k n : Nat} (hk : k < NC) (h : shp k = .inr n) : k < NC := hk
/-- the fields of an object, and its rows -/
theorem v_getI (C : Cx X own cc n ret L) {k ci : Nat} {fl : List (Option Nat)} {Cn : String} {T : u_T} {N idx : Nat} (hk : k < NC) (hs : shp k = .inl (ci, fl)) (hc : clss[ci]? = some (Cn, T, N)) (hin : ∀ w ∈ u_ws Cn T N, w ∈ BIG) (j : Nat) (hj : j < N) (hlink : Cond.fieldLink own idx (T j).1 (T j).2.1 (T j).2.2.1 ∈ BIG) (hf : fl[j]? = some none) (hd : decode cc pc = .ok (.getfield idx, 3)) (hn : pc + 3 = pc') (kk : V X pc' lv (.int (σ k j) :: st) σ) : V X pc lv (.ref k :: st) σ := by
  obtain ⟨p, l, e, s, m, args, below, meth, c, D, cI, ad, nL, lev, P⟩ := X
  subst hn
  intro H locs ls hP hS hL
  exact va_get (ws := wld ad cI σ) C.1 C.2.1 C.2.2.2.2.2.2.2.2.1 hin C.2.2.2.2.2.2.2.1 C.2.2.2.2.2.2.2.2.2.2.1 hP _ ((wld_at hk).trans (by rw [ent_obj hs])) hc j hj (C.2.2.2.2.2.2.2.2.1 _ hlink) (fun _ h => h) (fs_at hf) hd (kk H locs ls hP hS hL)
theorem v_getR (C : Cx X own cc n ret L) {k ci r : Nat} {fl : List (Option Nat)} {Cn : String} {T : u_T} {N idx : Nat} (hk : k < NC) (hs : shp k = .inl (ci, fl)) (hc : clss[ci]? = some (Cn, T, N)) (hin : ∀ w ∈ u_ws Cn T N, w ∈ BIG) (j : Nat) (hj : j < N) (hlink : Cond.fieldLink own idx (T j).1 (T j).2.1 (T j).2.2.1 ∈ BIG) (hf : fl[j]? = some (some r)) (hd : decode cc pc = .ok (.getfield idx, 3)) (hn : pc + 3 = pc') (kk : V X pc' lv (.ref r :: st) σ) : V X pc lv (.ref k :: st) σ := by
  obtain ⟨p, l, e, s, m, args, below, meth, c, D, cI, ad, nL, lev, P⟩ := X
  subst hn
  intro H locs ls hP hS hL
  exact va_get (ws := wld ad cI σ) C.1 C.2.1 C.2.2.2.2.2.2.2.2.1 hin C.2.2.2.2.2.2.2.1 C.2.2.2.2.2.2.2.2.2.2.1 hP _ ((wld_at hk).trans (by rw [ent_obj hs])) hc j hj (C.2.2.2.2.2.2.2.2.1 _ hlink) (fun _ h => h) (fs_at hf) hd (kk H locs ls hP hS hL)
theorem v_getNI (C : Cx X own cc n ret L) {k ci : Nat} {fl : List (Option Nat)} {Cn host : String} {T : u_T} {N idx : Nat} (hk : k < NC) (hs : shp k = .inl (ci, fl)) (hc : clss[ci]? = some (Cn, T, N)) (hin : ∀ w ∈ u_ws Cn T N, w ∈ BIG) (j : Nat) (hj : j < N) (hlink : Cond.fieldLinkNest own idx (T j).1 (T j).2.1 (T j).2.2.1 host ∈ NST) (hf : fl[j]? = some none) (hd : decode cc pc = .ok (.getfield idx, 3)) (hn : pc + 3 = pc') (kk : V X pc' lv (.int (σ k j) :: st) σ) : V X pc lv (.ref k :: st) σ := by
  obtain ⟨p, l, e, s, m, args, below, meth, c, D, cI, ad, nL, lev, P⟩ := X
  subst hn
  intro H locs ls hP hS hL
  exact va_getN (ws := wld ad cI σ) C.1 C.2.1 C.2.2.2.2.2.2.2.2.1 hin C.2.2.2.2.2.2.2.1 C.2.2.2.2.2.2.2.2.2.2.1 hP _ ((wld_at hk).trans (by rw [ent_obj hs])) hc j hj (va_Nw.use rfl (C.2.2.2.2.2.2.2.2.2.1.1 _ hlink)) (fun _ h => h) (fs_at hf) hd (kk H locs ls hP hS hL)
theorem v_getNR (C : Cx X own cc n ret L) {k ci r : Nat} {fl : List (Option Nat)} {Cn host : String} {T : u_T} {N idx : Nat} (hk : k < NC) (hs : shp k = .inl (ci, fl)) (hc : clss[ci]? = some (Cn, T, N)) (hin : ∀ w ∈ u_ws Cn T N, w ∈ BIG) (j : Nat) (hj : j < N) (hlink : Cond.fieldLinkNest own idx (T j).1 (T j).2.1 (T j).2.2.1 host ∈ NST) (hf : fl[j]? = some (some r)) (hd : decode cc pc = .ok (.getfield idx, 3)) (hn : pc + 3 = pc') (kk : V X pc' lv (.ref r :: st) σ) : V X pc lv (.ref k :: st) σ := by
  obtain ⟨p, l, e, s, m, args, below, meth, c, D, cI, ad, nL, lev, P⟩ := X
  subst hn
  intro H locs ls hP hS hL
  exact va_getN (ws := wld ad cI σ) C.1 C.2.1 C.2.2.2.2.2.2.2.2.1 hin C.2.2.2.2.2.2.2.1 C.2.2.2.2.2.2.2.2.2.2.1 hP _ ((wld_at hk).trans (by rw [ent_obj hs])) hc j hj (va_Nw.use rfl (C.2.2.2.2.2.2.2.2.2.1.1 _ hlink)) (fun _ h => h) (fs_at hf) hd (kk H locs ls hP hS hL)
theorem v_put (C : Cx X own cc n ret L) {k ci : Nat} {fl : List (Option Nat)} {Cn : String} {T : u_T} {N idx : Nat} {v : Int32} {ty0 : Nat → FieldType} {ty : FieldType} (hk : k < NC) (hs : shp k = .inl (ci, fl)) (hc : clss[ci]? = some (Cn, T, N)) (hin : ∀ w ∈ u_ws Cn T N, w ∈ BIG) (hty : ∀ k, k < N → parseFieldDescriptor (T k).2.2.1 = some (ty0 k)) (hnm : ∀ a, a < N → ∀ b, b < N → a ≠ b → (T a).2.1 ≠ (T b).2.1) (j : Nat) (hj : j < N) (hlink : Cond.fieldLink own idx (T j).1 (T j).2.1 (T j).2.2.1 ∈ BIG) (hfin : (T j).2.2.2 = false) (hdt : parseFieldDescriptor (T j).2.2.1 = some ty) (hnv : narrow ty (.int v) = .int v) (hfit : fits ty (.int v) = true) (hf : fl[j]? = some none) (hd : decode cc pc = .ok (.putfield idx, 3)) (hn : pc + 3 = pc') (kk : V X pc' lv st (s2 σ k j v)) : V X pc lv (.int v :: .ref k :: st) σ := by
  obtain ⟨p, l, e, s, m, args, below, meth, c, D, cI, ad, nL, lev, P⟩ := X
  subst hn
  intro H locs ls hP hS hL
  refine va_put (ws := wld ad cI σ) C.1 C.2.1 C.2.2.2.2.2.2.2.2.1 hin ty0 hty hnm C.2.2.2.2.2.2.2.1 C.2.2.2.2.2.2.2.2.2.2.1 hP (wld_D C.2.2.2.2.2.2.2.2.2.2.2) hS _ ((wld_at hk).trans (by rw [ent_obj hs])) hc j hj (C.2.2.2.2.2.2.2.2.1 _ hlink) (fun _ h => h) hfin hdt hnv hfit (by rw [List.length_map, List.length_range]; exact (List.getElem?_eq_some_iff.mp hf).1) hd (fun H1 locs1 hP1 hD1 hS1 => ?_)
  rw [wld_set (σ' := s2 σ _ j v) (by rw [ent_obj hs]; exact congrArg (fun z => Sum.inr (ci, z)) (fs_set hf).symm) (fun a ha => ent_ne ha)] at hP1
  exact kk H1 locs1 ls hP1 hS1 hL
theorem v_putN (C : Cx X own cc n ret L) {k ci : Nat} {fl : List (Option Nat)} {Cn host : String} {T : u_T} {N idx : Nat} {v : Int32} {ty0 : Nat → FieldType} {ty : FieldType} (hk : k < NC) (hs : shp k = .inl (ci, fl)) (hc : clss[ci]? = some (Cn, T, N)) (hin : ∀ w ∈ u_ws Cn T N, w ∈ BIG) (hty : ∀ k, k < N → parseFieldDescriptor (T k).2.2.1 = some (ty0 k)) (hnm : ∀ a, a < N → ∀ b, b < N → a ≠ b → (T a).2.1 ≠ (T b).2.1) (j : Nat) (hj : j < N) (hlink : Cond.fieldLinkNest own idx (T j).1 (T j).2.1 (T j).2.2.1 host ∈ NST) (hfin : (T j).2.2.2 = false) (hdt : parseFieldDescriptor (T j).2.2.1 = some ty) (hnv : narrow ty (.int v) = .int v) (hfit : fits ty (.int v) = true) (hf : fl[j]? = some none) (hd : decode cc pc = .ok (.putfield idx, 3)) (hn : pc + 3 = pc') (kk : V X pc' lv st (s2 σ k j v)) : V X pc lv (.int v :: .ref k :: st) σ := by
  obtain ⟨p, l, e, s, m, args, below, meth, c, D, cI, ad, nL, lev, P⟩ := X
  subst hn
  intro H locs ls hP hS hL
  refine va_putN (ws := wld ad cI σ) C.1 C.2.1 C.2.2.2.2.2.2.2.2.1 hin ty0 hty hnm C.2.2.2.2.2.2.2.1 C.2.2.2.2.2.2.2.2.2.2.1 hP (wld_D C.2.2.2.2.2.2.2.2.2.2.2) hS _ ((wld_at hk).trans (by rw [ent_obj hs])) hc j hj (va_Nw.use rfl (C.2.2.2.2.2.2.2.2.2.1.1 _ hlink)) (fun _ h => h) hfin hdt hnv hfit (by rw [List.length_map, List.length_range]; exact (List.getElem?_eq_some_iff.mp hf).1) hd (fun H1 locs1 hP1 hD1 hS1 => ?_)
  rw [wld_set (σ' := s2 σ _ j v) (by rw [ent_obj hs]; exact congrArg (fun z => Sum.inr (ci, z)) (fs_set hf).symm) (fun a ha => ent_ne ha)] at hP1
  exact kk H1 locs1 ls hP1 hS1 hL
theorem v_iald (C : Cx X own cc n ret L) {k N i : Nat} {x : Int32} (hk : k < NC) (hs : shp k = .inr N) (hx : x = nI i) (hi : i < N) (hN : N < 2 ^ 31) (hd : decode cc pc = .ok (.iaload, 1)) (hn : pc + 1 = pc') (kk : V X pc' lv (.int (σ k i) :: st) σ) : V X pc lv (.int x :: .ref k :: st) σ := by
  obtain ⟨p, l, e, s, m, args, below, meth, c, D, cI, ad, nL, lev, P⟩ := X
  subst hn; subst hx
  intro H locs ls hP hS hL
  refine va_iald (ws := wld ad cI σ) C.1 C.2.1 C.2.2.2.2.2.2.2.2.2.2.1 hP _ 0 ((wld_at hk).trans (by rw [ent_arr hs])) rfl (vp_in_nI hi hN) hd ?_
  rw [nI_clamp (by omega)]
  exact kk H locs ls hP hS hL
theorem v_iast (C : Cx X own cc n ret L) {k N i : Nat} {x v : Int32} (hk : k < NC) (hs : shp k = .inr N) (hx : x = nI i) (hi : i < N) (hN : N < 2 ^ 31) (hd : decode cc pc = .ok (.iastore, 1)) (hn : pc + 1 = pc') (kk : V X pc' lv st (s2 σ k i v)) : V X pc lv (.int v :: .int x :: .ref k :: st) σ := by
  obtain ⟨p, l, e, s, m, args, below, meth, c, D, cI, ad, nL, lev, P⟩ := X
  subst hn; subst hx
  intro H locs ls hP hS hL
  refine va_iast (ws := wld ad cI σ) C.1 C.2.1 C.2.2.2.2.2.2.2.2.2.2.1 hP (wld_D C.2.2.2.2.2.2.2.2.2.2.2) hS _ 0 ((wld_at hk).trans (by rw [ent_arr hs])) rfl (vp_in_nI hi hN) hd (fun H1 locs1 hP1 hD1 hS1 => ?_)
  rw [nI_clamp (by omega), wld_set (σ' := s2 σ _ i v) (by rw [ent_arr hs, s2_eq]) (fun a ha => ent_ne ha)] at hP1
  exact kk H1 locs1 ls hP1 hS1 hL
theorem v_alen (C : Cx X own cc n ret L) {k N : Nat} {v : Int32} (hk : k < NC) (hs : shp k = .inr N) (hv : Int32.ofNat N = v) (hd : decode cc pc = .ok (.arraylength, 1)) (hn : pc + 1 = pc') (kk : V X pc' lv (.int v :: st) σ) : V X pc lv (.ref k :: st) σ := by
  obtain ⟨p, l, e, s, m, args, below, meth, c, D, cI, ad, nL, lev, P⟩ := X
  subst hn
  intro H locs ls hP hS hL
  exact va_alen (ws := wld ad cI σ) C.1 C.2.1 C.2.2.2.2.2.2.2.2.2.2.1 hP _ 0 ((wld_at hk).trans (by rw [ent_arr hs])) rfl hv hd (kk H locs ls hP hS hL)
theorem v_iret (C : Cx X own cc n (some .int) L) {v : Int32} (hd : decode cc pc = .ok (.ireturn, 1)) (hp : Pof X (some (.int v)) σ) : V X pc lv [.int v] σ := by
  obtain ⟨p, l, e, s, m, args, below, meth, c, D, cI, ad, nL, lev, P⟩ := X
  intro H locs ls hP hS hL
  exact W.iret C.1 C.2.1 C.2.2.2.2.2.1 (fun t ht hW => ⟨⟨some (.int v), σ, rfl, hp, by rw [ht]; exact hP⟩, hS.F ht⟩) hS.2.2 hd C.2.2.2.2.2.2.1
theorem v_zret (C : Cx X own cc n (some .boolean) L) {v : Int32} (hv : narrow .boolean (.int v) = .int v) (hd : decode cc pc = .ok (.ireturn, 1)) (hp : Pof X (some (.int v)) σ) : V X pc lv [.int v] σ := by
  obtain ⟨p, l, e, s, m, args, below, meth, c, D, cI, ad, nL, lev, P⟩ := X
  intro H locs ls hP hS hL
  exact W.zret C.1 C.2.1 C.2.2.2.2.2.1 hv (fun t ht hW => ⟨⟨some (.int v), σ, rfl, hp, by rw [ht]; exact hP⟩, hS.F ht⟩) hS.2.2 hd C.2.2.2.2.2.2.1
theorem v_vret (C : Cx X own cc n none L) (hd : decode cc pc = .ok (.return_, 1)) (hp : Pof X none σ) : V X pc lv [] σ := by
  obtain ⟨p, l, e, s, m, args, below, meth, c, D, cI, ad, nL, lev, P⟩ := X
  intro H locs ls hP hS hL
  exact W.vret C.1 C.2.1 C.2.2.2.2.2.1 (fun t ht hW => ⟨⟨none, σ, rfl, hp, by rw [ht]; exact hP⟩, hS.F ht⟩) hS.2.2 hd C.2.2.2.2.2.2.1
theorem v_aret (C : Cx X own cc n (some (.object rn)) L) {k : Nat} (hd : decode cc pc = .ok (.areturn, 1)) (hp : Pof X (some (.ref k)) σ) : V X pc lv [.ref k] σ := by
  obtain ⟨p, l, e, s, m, args, below, meth, c, D, cI, ad, nL, lev, P⟩ := X
  intro H locs ls hP hS hL
  exact W.aret C.1 C.2.1 C.2.2.2.2.2.1 (Or.inl ⟨_, rfl⟩) (Or.inr ⟨_, rfl⟩) (fun t ht hW => ⟨⟨some (.ref k), σ, rfl, hp, by rw [ht]; exact hP⟩, hS.F ht⟩) hS.2.2 hd C.2.2.2.2.2.2.1
end RULES
theorem bw_blind {D : va_G} {cI : ClassId} {ad : Nat → Nat} {σ : St} {as : List Value} : FrameBlind (va_Pc as (Bw D cI ad σ)) :=
  fun a U g mk q => ⟨q.1, q.2.1, va_K.moved (u := U) (U := U.calling g mk a) (Vm.Alike.refl U.vm) q.2.2.1, nsl_same (u := U) rfl rfl q.2.2.2.1, q.2.2.2.2⟩
theorem v_after {p : Program} {l : Launch} {e : Env} {R : Room} {s : State} {m : MethodId} {args : Array Value} {below : List Frame} {meth : Method} {c : Code} {H : Heap} {locs : List Loc} {Q : State → Prop} {D : va_G} {cI : ClassId} {ad : Nat → Nat} {P : Option Value → St → Prop} {a : Array Value} {pc : Nat} {ls : Array Slot} {st0 rest : List Value}
    (hr : va_Run p l e R s m args below meth c H locs 0 0 0 0 (F0 m pc ls st0) (rest.map (cv ad)) (Qw D cI ad P a) (Aad ad)) (hS : va_S (Aad ad) s.heap H locs)
    (kk : ∀ (r : Option Value) (σ' : St) (H1 : Heap) (locs1 : List Loc), P r σ' → va_P D clss (wld ad cI σ') H1 → va_S (Aad ad) s.heap H1 locs1 → W p l e R s m args below meth c H1 locs1 0 0 Q (F0 m (pc + 3) ls ((r.toList ++ rest).map (cv ad)))) : W p l e R s m args below meth c H locs 0 0 Q (F0 m pc ls st0) := by
  intro T hT X
  obtain ⟨v, st₀, t, T', Lo, h0, X', hLo, e1, e2, ⟨⟨r, σ', hv, hp, hP'⟩, hz, hk⟩, stp⟩ := hr T hT X
  cases hv
  rw [h0] at hz hk
  obtain ⟨t2, a1, b1⟩ := kk r σ' T'.heap (locs ++ Lo) hp (by rw [e1]; exact hP')
    ⟨Nat.le_trans hS.1 (by rw [e1]; exact hz), fun q h1 h2 => by rw [e1, hk q (Nat.lt_of_lt_of_le h1 hS.1) h2]; exact hS.2.1 q h1 h2, fun q hq => by
      rcases List.mem_append.mp hq with h | h
      · exact hS.2.2 q h
      · exact hLo q h⟩ T' rfl X'
  refine ⟨t2, stp t2 ?_, b1⟩
  have e : (r.map (cv ad)).toList ++ rest.map (cv ad) = (r.toList ++ rest).map (cv ad) := by cases r <;> rfl
  rw [e]
  exact a1
def dOK (y : MethodName) (n : Nat) : Prop := y.cls ≠ "java/lang/invoke/MethodHandle" ∧ y.cls ≠ "java/lang/invoke/VarHandle" ∧ (parseMethodDescriptor y.desc).map (fun d => d.parameters.length) = some n
section CALLS
variable {X : CxT} {own : String} {cc : ByteArray} {n L : Nat} {ret : Option FieldType} {pc pc' : Nat} {lv lv' : List (Nat × Value)} {st : List Value} {σ : St}
variable {y : MethodName} {bytes : ByteArray} {maxL lev idx : Nat} {ret' : Option FieldType} {As rest : List Value} {P' : Option Value → St → Prop}
theorem v_callV (C : Cx X own cc n ret L) {k ci N : Nat} {fl : List (Option Nat)} {T : u_T} (hk : k < NC) (hs : shp k = .inl (ci, fl)) (hc : clss[ci]? = some (y.cls, T, N)) (hct : Ct y bytes maxL ret' lev (.ref k :: As) σ P') (hst : st = As.reverse ++ .ref k :: rest) (hlev : lev < L) (hmx : maxL ≤ 41)
    (hw : Cond.methodLink own idx y ∈ BIG ∧ Cond.instanceMethod y ∈ BIG ∧ Cond.selects y.cls y y ∈ BIG ∧ Cond.initialized y.cls ∈ BIG ∧ Cond.code y bytes maxL ret' ∈ BIG) (hdesc : dOK y As.length) (hsum : (rest.map fun v => v.category).sum ≤ 8)
    (hd : decode cc pc = .ok (.invokevirtual idx, 3)) (hn : pc + 3 = pc') (kk : ∀ (r : Option Value) (σ' : St), P' r σ' → V X pc' lv (r.toList ++ rest) σ') : V X pc lv st σ := by
  obtain ⟨p, l, e, s, m, args, below, meth, c, D, cI, ad, nL, lev0, P⟩ := X
  obtain ⟨hx, hb, hml, hnL, hle, hr, hlk, hown, hts, hN, hK, hI⟩ := C
  subst hn; subst hst; subst hle
  intro H locs ls hP hS hL
  have cw : CallW (rmL lev0) s args own y.cls idx y bytes maxL ret' (Cond.code y bytes maxL ret' :: BIG) (rmL lev) 0 0 As.length := ⟨callB_of As.length hts (good_code hw.2.2.2.2) rfl rfl rfl (hts _ hw.2.2.2.1) (hts _ hw.1) hdesc ⟨hlev, by show 8 + (maxL + 11) + 60 * lev ≤ 60 * lev0; omega⟩, hts _ hw.2.1, hts _ hw.2.2.1⟩
  refine v_after (rest := rest) (P := P') (D := D) (cI := cI) (ad := ad) (va_runV (As := As.map (cv ad)) (rest := rest.map (cv ad)) (b := ad k) ⟨hx, hb, hml, hown, hts⟩ (hct l D cI ad) cw ⟨bw_blind, va_recv hK hP hc ((wld_at hk).trans (by rw [ent_obj hs])), fun U hU hW => ⟨rfl, by rw [hU]; exact hP, va_K.moved hW.alike hK, nsl_warm hW hU hS hN, hI⟩⟩ rfl (by simp) hL.1 (by simp [cv]) (lv_room (by rw [cv_sum]; exact hsum)) hd ⟨Nat.zero_le _, Nat.zero_le _⟩) hS (fun r σ' H1 locs1 hp hP1 hS1 => ?_)
  exact kk r σ' hp H1 locs1 ls hP1 hS1 hL
theorem v_callVN (C : Cx X own cc n ret L) {k ci N : Nat} {fl : List (Option Nat)} {T : u_T} {host : String} (hk : k < NC) (hs : shp k = .inl (ci, fl)) (hc : clss[ci]? = some (y.cls, T, N)) (hct : Ct y bytes maxL ret' lev (.ref k :: As) σ P') (hst : st = As.reverse ++ .ref k :: rest) (hlev : lev < L) (hmx : maxL ≤ 41)
    (hw : Cond.methodLinkNest own idx y host ∈ NST ∧ Cond.instanceMethod y ∈ BIG ∧ Cond.selects y.cls y y ∈ BIG ∧ Cond.initialized y.cls ∈ BIG ∧ Cond.code y bytes maxL ret' ∈ BIG) (hdesc : dOK y As.length) (hsum : (rest.map fun v => v.category).sum ≤ 8)
    (hd : decode cc pc = .ok (.invokevirtual idx, 3)) (hn : pc + 3 = pc') (kk : ∀ (r : Option Value) (σ' : St), P' r σ' → V X pc' lv (r.toList ++ rest) σ') : V X pc lv st σ := by
  obtain ⟨p, l, e, s, m, args, below, meth, c, D, cI, ad, nL, lev0, P⟩ := X
  obtain ⟨hx, hb, hml, hnL, hle, hr, hlk, hown, hts, hN, hK, hI⟩ := C
  subst hn; subst hst; subst hle
  intro H locs ls hP hS hL
  have cw : va_CN (rmL lev0) s args own idx y host bytes maxL ret' (Cond.code y bytes maxL ret' :: BIG) (rmL lev) 0 0 As.length := va_cnB As.length hts (good_code hw.2.2.2.2) rfl rfl rfl (hN.1 _ hw.1) (hts _ hw.2.2.2.1) hdesc ⟨hlev, by show 8 + (maxL + 11) + 60 * lev ≤ 60 * lev0; omega⟩
  refine v_after (rest := rest) (P := P') (D := D) (cI := cI) (ad := ad) (va_runVN (C := y.cls) (As := As.map (cv ad)) (rest := rest.map (cv ad)) (b := ad k) ⟨hx, hb, hml, hown, hts⟩ (hct l D cI ad) ⟨cw, hts _ hw.2.1, hts _ hw.2.2.1⟩ ⟨bw_blind, va_recv hK hP hc ((wld_at hk).trans (by rw [ent_obj hs])), fun U hU hW => ⟨rfl, by rw [hU]; exact hP, va_K.moved hW.alike hK, nsl_warm hW hU hS hN, hI⟩⟩ rfl (by simp) hL.1 (by simp [cv]) (lv_room (by rw [cv_sum]; exact hsum)) hd ⟨Nat.zero_le _, Nat.zero_le _⟩) hS (fun r σ' H1 locs1 hp hP1 hS1 => ?_)
  exact kk r σ' hp H1 locs1 ls hP1 hS1 hL
theorem v_callS (C : Cx X own cc n ret L) (hct : Ct y bytes maxL ret' lev As σ P') (hst : st = As.reverse ++ rest) (hlev : lev < L) (hmx : maxL ≤ 41)
    (hw : Cond.methodLink own idx y ∈ BIG ∧ Cond.static y ∈ BIG ∧ Cond.initialized y.cls ∈ BIG ∧ Cond.code y bytes maxL ret' ∈ BIG) (hdesc : dOK y As.length) (hsum : (rest.map fun v => v.category).sum ≤ 8)
    (hd : decode cc pc = .ok (.invokestatic idx, 3)) (hn : pc + 3 = pc') (kk : ∀ (r : Option Value) (σ' : St), P' r σ' → V X pc' lv (r.toList ++ rest) σ') : V X pc lv st σ := by
  obtain ⟨p, l, e, s, m, args, below, meth, c, D, cI, ad, nL, lev0, P⟩ := X
  obtain ⟨hx, hb, hml, hnL, hle, hr, hlk, hown, hts, hN, hK, hI⟩ := C
  subst hn; subst hst; subst hle
  intro H locs ls hP hS hL
  have cw : CallB (rmL lev0) s args own idx y bytes maxL ret' (Cond.code y bytes maxL ret' :: BIG) (rmL lev) 0 0 As.length ∧ (Cond.static y).before args s = true := ⟨callB_of As.length hts (good_code hw.2.2.2) rfl rfl rfl (hts _ hw.2.2.1) (hts _ hw.1) hdesc ⟨hlev, by show 8 + (maxL + 11) + 60 * lev ≤ 60 * lev0; omega⟩, hts _ hw.2.1⟩
  refine v_after (rest := rest) (P := P') (D := D) (cI := cI) (ad := ad) (va_runS (As := As.map (cv ad)) (rest := rest.map (cv ad)) ⟨hx, hb, hml, hown, hts⟩ (hct l D cI ad) cw ⟨bw_blind, fun U hU hW => ⟨rfl, by rw [hU]; exact hP, va_K.moved hW.alike hK, nsl_warm hW hU hS hN, hI⟩⟩ rfl (by simp) hL.1 (by simp [cv]) (lv_room (by rw [cv_sum]; exact hsum)) hd ⟨Nat.zero_le _, Nat.zero_le _⟩) hS (fun r σ' H1 locs1 hp hP1 hS1 => ?_)
  exact kk r σ' hp H1 locs1 ls hP1 hS1 hL
theorem v_callSN (C : Cx X own cc n ret L) {host : String} (hct : Ct y bytes maxL ret' lev As σ P') (hst : st = As.reverse ++ rest) (hlev : lev < L) (hmx : maxL ≤ 41)
    (hw : Cond.methodLinkNest own idx y host ∈ NST ∧ Cond.static y ∈ BIG ∧ Cond.initialized y.cls ∈ BIG ∧ Cond.code y bytes maxL ret' ∈ BIG) (hdesc : dOK y As.length) (hsum : (rest.map fun v => v.category).sum ≤ 8)
    (hd : decode cc pc = .ok (.invokestatic idx, 3)) (hn : pc + 3 = pc') (kk : ∀ (r : Option Value) (σ' : St), P' r σ' → V X pc' lv (r.toList ++ rest) σ') : V X pc lv st σ := by
  obtain ⟨p, l, e, s, m, args, below, meth, c, D, cI, ad, nL, lev0, P⟩ := X
  obtain ⟨hx, hb, hml, hnL, hle, hr, hlk, hown, hts, hN, hK, hI⟩ := C
  subst hn; subst hst; subst hle
  intro H locs ls hP hS hL
  have cw : va_CN (rmL lev0) s args own idx y host bytes maxL ret' (Cond.code y bytes maxL ret' :: BIG) (rmL lev) 0 0 As.length := va_cnB As.length hts (good_code hw.2.2.2) rfl rfl rfl (hN.1 _ hw.1) (hts _ hw.2.2.1) hdesc ⟨hlev, by show 8 + (maxL + 11) + 60 * lev ≤ 60 * lev0; omega⟩
  refine v_after (rest := rest) (P := P') (D := D) (cI := cI) (ad := ad) (va_runSN (As := As.map (cv ad)) (rest := rest.map (cv ad)) ⟨hx, hb, hml, hown, hts⟩ (hct l D cI ad) ⟨cw, hts _ hw.2.1, trivial⟩ ⟨bw_blind, fun U hU hW => ⟨rfl, by rw [hU]; exact hP, va_K.moved hW.alike hK, nsl_warm hW hU hS hN, hI⟩⟩ rfl (by simp) hL.1 (by simp [cv]) (lv_room (by rw [cv_sum]; exact hsum)) hd ⟨Nat.zero_le _, Nat.zero_le _⟩) hS (fun r σ' H1 locs1 hp hP1 hS1 => ?_)
  exact kk r σ' hp H1 locs1 ls hP1 hS1 hL
end CALLS
