/-! worlds that grow: the constructors -/
abbrev UxT : Type := Program × Launch × Env × Room × State × MethodId × Array Value × List Frame × Method × Code × va_G × ClassId × (Nat → Prop) × Nat × (State → Prop)
def U (X : UxT) (pc : Nat) (lv : List (Nat × Value)) (st : List Value) (ws : va_W) (k n : Nat) : Prop := match X with
  | (p, l, e, R, s, m, args, below, meth, c, D, cI, A, nL, Q) => ∀ (H : Heap) (locs : List Loc) (ls : Array Slot), va_P D clss ws H → va_D A ws → va_S A s.heap H locs → lv_has ls nL lv → W p l e R s m args below meth c H locs k n Q (F0 m pc ls st)
def Ux (X : UxT) (own : String) (cc : ByteArray) (nl : Nat) (R0 : Room) : Prop := match X with
  | (p, l, e, R, s, m, args, below, meth, c, D, cI, A, nL, Q) => p.tables.exec = Jvm.exec ∧ c.code = cc ∧ c.maxLocals = nL ∧ nL = nl ∧ R = R0 ∧ s.vm.findClass own = some m.cls ∧ (∀ w ∈ BIG, w.before args s = true) ∧ nst s ∧ va_K D clss [(cI, .int)] s ∧ (∀ q : Nat, s.heap.size ≤ q → A q)
def Un (X : UxT) : Prop := match X with
  | (p, l, e, R, s, m, args, below, meth, c, D, cI, A, nL, Q) => meth.name = "<init>"
def UcI (X : UxT) : ClassId := match X with
  | (p, l, e, R, s, m, args, below, meth, c, D, cI, A, nL, Q) => cI
theorem cI_one {D : va_G} {cl : List vw_C} {cI cA : ClassId} {s : State} (h : va_K D cl ([(cI, .int)] ++ [(cA, .int)]) s) : cA = cI := by
  have h1 := (h.2 0 (cI, .int) rfl).2
  have h2 := (h.2 1 (cA, .int) rfl).2
  exact Option.some.inj ((show s.vm.findClass ("[" ++ (FieldType.int).toString) = some cA from h2).symm.trans (show s.vm.findClass ("[" ++ (FieldType.int).toString) = some cI from h1))
theorem latU {ls : Array Slot} {nL k : Nat} {lv : List (Nat × Value)} {v : Value} (h : lv_has ls nL lv) (hl : lv.lookup k = some v) : ls[k]? = some (.val v) := h.2.2 (k, v) (lk_mem hl)
theorem fm_of {α β : Type} {f : α → Option β} : ∀ {l : List α} {m : List β}, l.map f = m.map some → l.filterMap f = m
  | [], [], _ => rfl
  | [], _ :: _, h => by cases h
  | _ :: _, [], h => by cases h
  | a :: l, b :: m, h => by
    rw [List.map_cons, List.map_cons] at h
    injection h with h1 h2
    rw [List.filterMap_cons, h1, fm_of h2]
section GROW
variable {X : UxT} {own : String} {cc : ByteArray} {nl : Nat} {R0 : Room} {pc pc' : Nat} {lv lv' : List (Nat × Value)} {st : List Value} {ws ws' : va_W} {k n : Nat}
theorem U.wso (e : ws = ws') (kk : U X pc lv st ws' k n) : U X pc lv st ws k n := e ▸ kk
theorem U.sub (ks : List Nat) (hl : lv_pick lv ks = lv') (kk : U X pc lv' st ws k n) : U X pc lv st ws k n := by
  obtain ⟨p, l, e, R, s, m, args, below, meth, c, D, cI, A, nL, Q⟩ := X
  intro H locs ls hP hD hS hL
  refine kk H locs ls hP hD hS (lv_sub hL ks ?_)
  subst hl; rfl
theorem u_aload_n (C : Ux X own cc nl R0) {j : Fin 4} {i x : Nat} (hd : decode cc pc = .ok (.aload_n j, 1)) (hi : (j : Nat) = i) (hl : lv.lookup i = some (.ref x)) (hn : pc + 1 = pc') (kk : U X pc' lv (.ref x :: st) ws k n) : U X pc lv st ws k n := by
  obtain ⟨p, l, e, R, s, m, args, below, meth, c, D, cI, A, nL, Q⟩ := X
  subst hn
  intro H locs ls hP hD hS hL
  exact lv_aload_n C.1 C.2.1 hd hi (latU hL hl) (kk H locs ls hP hD hS hL)
theorem u_iload_n (C : Ux X own cc nl R0) {j : Fin 4} {i : Nat} {x : Int32} (hd : decode cc pc = .ok (.iload_n j, 1)) (hi : (j : Nat) = i) (hl : lv.lookup i = some (.int x)) (hn : pc + 1 = pc') (kk : U X pc' lv (.int x :: st) ws k n) : U X pc lv st ws k n := by
  obtain ⟨p, l, e, R, s, m, args, below, meth, c, D, cI, A, nL, Q⟩ := X
  subst hn
  intro H locs ls hP hD hS hL
  exact lv_iload_n C.1 C.2.1 hd hi (latU hL hl) (kk H locs ls hP hD hS hL)
theorem u_istore_n (C : Ux X own cc nl R0) {j : Fin 4} {i : Nat} {x : Int32} (hd : decode cc pc = .ok (.istore_n j, 1)) (hi : (j : Nat) = i) (hin : i < nl) (hl : lset lv i (.int x) = lv') (hn : pc + 1 = pc') (kk : U X pc' lv' st ws k n) : U X pc lv (.int x :: st) ws k n := by
  obtain ⟨p, l, e, R, s, m, args, below, meth, c, D, cI, A, nL, Q⟩ := X
  subst hn; subst hl
  intro H locs ls hP hD hS hL
  have hnl := C.2.2.2.1
  exact lv_istore_n (lv' := lset lv i (.int x)) C.1 C.2.1 hd hi hL (by omega) rfl (fun ls hL => kk H locs ls hP hD hS hL)
theorem u_iinc (C : Ux X own cc nl R0) {i : Nat} {d : Int} {x v : Int32} (hd : decode cc pc = .ok (.iinc i d, 3)) (hl : lv.lookup i = some (.int x)) (hv : x + Int32.ofInt d = v) (hin : i < nl) (hs : lset lv i (.int v) = lv') (hn : pc + 3 = pc') (kk : U X pc' lv' st ws k n) : U X pc lv st ws k n := by
  obtain ⟨p, l, e, R, s, m, args, below, meth, c, D, cI, A, nL, Q⟩ := X
  subst hn; subst hs
  intro H locs ls hP hD hS hL
  have hnl := C.2.2.2.1
  obtain ⟨q, hq, hqe⟩ := List.mem_iff_getElem.mp (lk_mem hl)
  exact lv_iinc (v := v) (lv' := lset lv i (.int v)) C.1 C.2.1 hd hL (k := q) (by rw [List.getElem?_eq_getElem hq, hqe]) hv (by omega) rfl (fun ls hL => kk H locs ls hP hD hS hL)
theorem u_iconst (C : Ux X own cc nl R0) {d : Int} {v : Int32} (hd : decode cc pc = .ok (.iconst d, 1)) (hv : Int32.ofInt d = v) (hn : pc + 1 = pc') (kk : U X pc' lv (.int v :: st) ws k n) : U X pc lv st ws k n := by
  obtain ⟨p, l, e, R, s, m, args, below, meth, c, D, cI, A, nL, Q⟩ := X
  subst hn
  intro H locs ls hP hD hS hL
  exact lv_iconst C.1 C.2.1 hd hv (kk H locs ls hP hD hS hL)
theorem u_bipush (C : Ux X own cc nl R0) {d : Int} {v : Int32} (hd : decode cc pc = .ok (.bipush d, 2)) (hv : (Int8.ofInt d).toInt32 = v) (hn : pc + 2 = pc') (kk : U X pc' lv (.int v :: st) ws k n) : U X pc lv st ws k n := by
  obtain ⟨p, l, e, R, s, m, args, below, meth, c, D, cI, A, nL, Q⟩ := X
  subst hn
  intro H locs ls hP hD hS hL
  exact lv_bipush C.1 C.2.1 hd hv (kk H locs ls hP hD hS hL)
theorem u_sipush (C : Ux X own cc nl R0) {d : Int} {v : Int32} (hd : decode cc pc = .ok (.sipush d, 3)) (hv : (Int16.ofInt d).toInt32 = v) (hn : pc + 3 = pc') (kk : U X pc' lv (.int v :: st) ws k n) : U X pc lv st ws k n := by
  obtain ⟨p, l, e, R, s, m, args, below, meth, c, D, cI, A, nL, Q⟩ := X
  subst hn
  intro H locs ls hP hD hS hL
  exact lv_sipush C.1 C.2.1 hd hv (kk H locs ls hP hD hS hL)
theorem u_ldc (C : Ux X own cc nl R0) {idx : Nat} {v : Int32} (hw : Cond.constant own idx v ∈ BIG) (hd : decode cc pc = .ok (.ldc idx, 2)) (hn : pc + 2 = pc') (kk : U X pc' lv (.int v :: st) ws k n) : U X pc lv st ws k n := by
  obtain ⟨p, l, e, R, s, m, args, below, meth, c, D, cI, A, nL, Q⟩ := X
  subst hn
  intro H locs ls hP hD hS hL
  exact lv_ldc C.1 C.2.1 C.2.2.2.2.2.1 (C.2.2.2.2.2.2.1 _ hw) hd (kk H locs ls hP hD hS hL)
theorem u_dup (C : Ux X own cc nl R0) {a : Value} (hd : decode cc pc = .ok (.dup, 1)) (ha : a.category = 1) (hn : pc + 1 = pc') (kk : U X pc' lv (a :: a :: st) ws k n) : U X pc lv (a :: st) ws k n := by
  obtain ⟨p, l, e, R, s, m, args, below, meth, c, D, cI, A, nL, Q⟩ := X
  subst hn
  intro H locs ls hP hD hS hL
  exact lv_dup C.1 C.2.1 hd ha (kk H locs ls hP hD hS hL)
theorem u_goto (C : Ux X own cc nl R0) {off : Int} {tgt : Nat} (hd : decode cc pc = .ok (.goto off, 3)) (ht : (pc : Int) + off = (tgt : Int)) (kk : U X tgt lv st ws k n) : U X pc lv st ws k n := by
  obtain ⟨p, l, e, R, s, m, args, below, meth, c, D, cI, A, nL, Q⟩ := X
  intro H locs ls hP hD hS hL
  exact lv_goto C.1 C.2.1 hd ht (kk H locs ls hP hD hS hL)
theorem u_icmp_ge (C : Ux X own cc nl R0) {x y : Int32} {off : Int} {tgt : Nat} (hd : decode cc pc = .ok (.if_icmp .ge off, 3)) (ht : (pc : Int) + off = (tgt : Int)) (hn : pc + 3 = pc') (kt : ¬ x < y → U X tgt lv st ws k n) (kf : x < y → U X pc' lv st ws k n) : U X pc lv (.int y :: .int x :: st) ws k n := by
  obtain ⟨p, l, e, R, s, m, args, below, meth, c, D, cI, A, nL, Q⟩ := X
  subst hn
  intro H locs ls hP hD hS hL
  exact lv_icmp_ge C.1 C.2.1 hd ht (fun h => kt (by simpa using h) H locs ls hP hD hS hL) (fun h => kf (by simpa using h) H locs ls hP hD hS hL)
theorem u_get (C : Ux X own cc nl R0) {q0 ci a : Nat} {fs : List Value} {Cn : String} {T : u_T} {N idx : Nat} (he : ws[q0]? = some (a, .inr (ci, fs))) (hc : clss[ci]? = some (Cn, T, N)) (hin : ∀ w ∈ u_ws Cn T N, w ∈ BIG) (j : Nat) (hj : j < N) (hlink : Cond.fieldLink own idx (T j).1 (T j).2.1 (T j).2.2.1 ∈ BIG) {v : Value} (hv : fs[j]? = some v) (hd : decode cc pc = .ok (.getfield idx, 3)) (hn : pc + 3 = pc') (kk : U X pc' lv (v :: st) ws k n) : U X pc lv (.ref a :: st) ws k n := by
  obtain ⟨p, l, e, R, s, m, args, below, meth, c, D, cI, A, nL, Q⟩ := X
  subst hn
  intro H locs ls hP hD hS hL
  exact va_get (ws := ws) C.1 C.2.1 C.2.2.2.2.2.2.1 hin C.2.2.2.2.2.1 C.2.2.2.2.2.2.2.2.1 hP q0 he hc j hj (C.2.2.2.2.2.2.1 _ hlink) (fun _ h => h) hv hd (kk H locs ls hP hD hS hL)
theorem u_putF (C : Ux X own cc nl R0) (hI : Un X) {q0 ci a : Nat} {fs : List Value} {Cn : String} {T : u_T} {N idx : Nat} (he : ws[q0]? = some (a, .inr (ci, fs))) (hc : clss[ci]? = some (Cn, T, N)) (hin : ∀ w ∈ u_ws Cn T N, w ∈ BIG) {ty0 : Nat → FieldType} (hty : ∀ k, k < N → parseFieldDescriptor (T k).2.2.1 = some (ty0 k)) (hnm : ∀ a, a < N → ∀ b, b < N → a ≠ b → (T a).2.1 ≠ (T b).2.1) (j : Nat) (hj : j < N) (hlink : Cond.fieldLink own idx (T j).1 (T j).2.1 (T j).2.2.1 ∈ BIG) (hfin : (T j).2.2.2 = true) (hdecl : (T j).1 = own) {v : Value} (hnv : narrow (ty0 j) v = v) (hfit : fits (ty0 j) v = true) (hl : j < fs.length) (hd : decode cc pc = .ok (.putfield idx, 3)) (hn : pc + 3 = pc') (hws : ws.set q0 (a, .inr (ci, fs.set j v)) = ws') (kk : U X pc' lv st ws' k n) : U X pc lv (v :: .ref a :: st) ws k n := by
  obtain ⟨p, l, e, R, s, m, args, below, meth, c, D, cI, A, nL, Q⟩ := X
  subst hn; subst hws
  intro H locs ls hP hD hS hL
  exact va_putF (ws := ws) C.1 C.2.1 C.2.2.2.2.2.2.1 hin ty0 hty hnm C.2.2.2.2.2.1 C.2.2.2.2.2.2.2.2.1 hP hD hS q0 he hc j hj (C.2.2.2.2.2.2.1 _ hlink) (fun _ h => h) hfin hI hdecl (hty j hj) hnv hfit hl hd (fun H1 locs1 hP1 hD1 hS1 => kk H1 locs1 ls hP1 hD1 hS1 hL)
theorem u_put (C : Ux X own cc nl R0) {q0 ci a : Nat} {fs : List Value} {Cn : String} {T : u_T} {N idx : Nat} (he : ws[q0]? = some (a, .inr (ci, fs))) (hc : clss[ci]? = some (Cn, T, N)) (hin : ∀ w ∈ u_ws Cn T N, w ∈ BIG) {ty0 : Nat → FieldType} (hty : ∀ k, k < N → parseFieldDescriptor (T k).2.2.1 = some (ty0 k)) (hnm : ∀ a, a < N → ∀ b, b < N → a ≠ b → (T a).2.1 ≠ (T b).2.1) (j : Nat) (hj : j < N) (hlink : Cond.fieldLink own idx (T j).1 (T j).2.1 (T j).2.2.1 ∈ BIG) (hfin : (T j).2.2.2 = false) {v : Value} (hnv : narrow (ty0 j) v = v) (hfit : fits (ty0 j) v = true) (hl : j < fs.length) (hd : decode cc pc = .ok (.putfield idx, 3)) (hn : pc + 3 = pc') (hws : ws.set q0 (a, .inr (ci, fs.set j v)) = ws') (kk : U X pc' lv st ws' k n) : U X pc lv (v :: .ref a :: st) ws k n := by
  obtain ⟨p, l, e, R, s, m, args, below, meth, c, D, cI, A, nL, Q⟩ := X
  subst hn; subst hws
  intro H locs ls hP hD hS hL
  exact va_put (ws := ws) C.1 C.2.1 C.2.2.2.2.2.2.1 hin ty0 hty hnm C.2.2.2.2.2.1 C.2.2.2.2.2.2.2.2.1 hP hD hS q0 he hc j hj (C.2.2.2.2.2.2.1 _ hlink) (fun _ h => h) hfin (hty j hj) hnv hfit hl hd (fun H1 locs1 hP1 hD1 hS1 => kk H1 locs1 ls hP1 hD1 hS1 hL)
theorem u_newa (C : Ux X own cc nl R0) {N : Nat} (hN : N < 1000) (hw : Cond.arrayClass .int ∈ BIG) (hk : k + 1 ≤ R0.cells) (hsl : n + N ≤ R0.slots) {v : Int32} (hv : v = nI N) (hd : decode cc pc = .ok (.newarray .int, 2)) (hn : pc + 2 = pc') (kk : ∀ q : Nat, U X pc' lv (.ref q :: st) (ws ++ [(q, .inl (UcI X, N, .inl (fun _ => 0)))]) (k + 1) (n + N)) : U X pc lv (.int v :: st) ws k n := by
  obtain ⟨p, l, e, R, s, m, args, below, meth, c, D, cI, A, nL, Q⟩ := X
  subst hn; subst hv
  intro H locs ls hP hD hS hL
  have hR := C.2.2.2.2.1
  refine va_newa (atype := .int) (ty := .int) (a0 := (N, .inl (fun _ => 0))) (N' := N) (ws := ws) C.1 C.2.1 (C.2.2.2.2.2.2.1 _ hw) rfl C.2.2.2.2.2.2.2.2.1 hP hD hS C.2.2.2.2.2.2.2.2.2 (fun cA => rfl) (nI_pos (by omega)) (nI_clamp (by omega)) (by show N * 4 ≤ _; omega) (by rw [hR]; exact hk) (by rw [hR]; exact hsl) hd (fun q cA H1 hK1 hP1 hD1 hS1 => ?_)
  obtain rfl := cI_one hK1
  exact kk q H1 locs ls hP1 hD1 hS1 hL
theorem u_iast (C : Ux X own cc nl R0) {q0 a N i : Nat} {f : Nat → Int32} (he : ws[q0]? = some (a, .inl (UcI X, N, .inl f))) {x v : Int32} (hx : x = nI i) (hi : i < N) (hN : N < 1000) (hd : decode cc pc = .ok (.iastore, 1)) (hn : pc + 1 = pc') (hws : ws.set q0 (a, .inl (UcI X, N, .inl (upd f i v))) = ws') (kk : U X pc' lv st ws' k n) : U X pc lv (.int v :: .int x :: .ref a :: st) ws k n := by
  obtain ⟨p, l, e, R, s, m, args, below, meth, c, D, cI, A, nL, Q⟩ := X
  subst hn; subst hws; subst hx
  intro H locs ls hP hD hS hL
  refine va_iast (ws := ws) C.1 C.2.1 C.2.2.2.2.2.2.2.2.1 hP hD hS q0 0 he rfl (vp_in_nI hi (by omega)) hd (fun H1 locs1 hP1 hD1 hS1 => ?_)
  rw [nI_clamp (by omega)] at hP1 hD1
  exact kk H1 locs1 ls hP1 hD1 hS1 hL
theorem u_new (C : Ux X own cc nl R0) {ci idx N : Nat} {Cn : String} {T : u_T} {ty0 : Nat → FieldType} (hc : clss[ci]? = some (Cn, T, N)) (hin : ∀ w ∈ u_ws Cn T N, w ∈ BIG) (hty : ∀ k, k < N → parseFieldDescriptor (T k).2.2.1 = some (ty0 k)) (hw1 : Cond.classLink own idx Cn ∈ BIG) (hw2 : Cond.instantiable Cn N ∈ BIG) (hw3 : Cond.initialized Cn ∈ BIG) {fs : List Value} (hfs : ∀ j, j < N → defaultValue (ty0 j) = vp_V fs j) (hk : k + 1 ≤ R0.cells) (hsl : n + N ≤ R0.slots) (hd : decode cc pc = .ok (.new idx, 3)) (hn : pc + 3 = pc') (kk : ∀ q : Nat, U X pc' lv (.ref q :: st) (ws ++ [(q, .inr (ci, fs))]) (k + 1) (n + N)) : U X pc lv st ws k n := by
  obtain ⟨p, l, e, R, s, m, args, below, meth, c, D, cI, A, nL, Q⟩ := X
  subst hn
  intro H locs ls hP hD hS hL
  have hR := C.2.2.2.2.1
  exact va_new (ws := ws) C.1 C.2.1 C.2.2.2.2.2.2.1 hin ty0 hty C.2.2.2.2.2.1 (C.2.2.2.2.2.2.1 _ hw1) (C.2.2.2.2.2.2.1 _ hw2) (C.2.2.2.2.2.2.1 _ hw3) C.2.2.2.2.2.2.2.2.1 hP hD hS C.2.2.2.2.2.2.2.2.2 hc hfs (by rw [hR]; exact hk) (by rw [hR]; exact hsl) hd (fun q H1 hP1 hD1 hS1 => kk q H1 locs ls hP1 hD1 hS1 hL)
theorem u_obj (C : Ux X own cc nl R0) {idx a : Nat} (hw1 : Cond.methodLink own idx objectInit ∈ BIG) (hw2 : Cond.instanceMethod objectInit ∈ BIG) (hw3 : Cond.code objectInit ⟨#[0xb1]⟩ 1 none ∈ BIG) (hf : 1 ≤ R0.frames) (hlo : (st.map fun v => v.category).sum + 12 ≤ R0.locals) (hd : decode cc pc = .ok (.invokespecial idx, 3)) (hn : pc + 3 = pc') (kk : U X pc' lv st ws k n) : U X pc lv (.ref a :: st) ws k n := by
  obtain ⟨p, l, e, R, s, m, args, below, meth, c, D, cI, A, nL, Q⟩ := X
  subst hn
  intro H locs ls hP hD hS hL
  have hR := C.2.2.2.2.1
  refine W.objInit C.1 C.2.1 C.2.2.2.2.2.1 (C.2.2.2.2.2.2.1 _ hw1) (C.2.2.2.2.2.2.1 _ hw2) (C.2.2.2.2.2.2.1 _ hw3) rfl (hL.1.trans C.2.2.1.symm) rfl hd (by rw [hR]; exact hf) (by rw [hR]; show 2 * 0 + _ + 12 ≤ _; omega) ?_
  exact kk H locs ls hP hD hS hL
/-- what a call of a constructor, or of a row's filling, comes to: from its own cells to its own cells and new ones -/
def Cg (y : MethodName) (bytes : ByteArray) (nl : Nat) (rm : Room) (as : List Value) (cI : ClassId) (D : va_G) (ws : va_W) {S : Type} (out : S → va_W) : Prop :=
  ∀ (l : Launch) (sz : Nat), Met l y (Cond.code y bytes nl none :: BIG) rm (va_Pc as (fun U => U.heap.size = sz ∧ va_P D clss ws U.heap ∧ va_K D clss [(cI, .int)] U ∧ nst U ∧ va_D (fun _ => True) ws)) (va_Qv (fun _ : S => True) (fun u t => va_P D clss (out u) t.heap ∧ va_D (va_A ws sz) (out u)) (va_A ws sz)) rm.cells rm.slots (va_A ws sz)
theorem cg_blind {as : List Value} {sz : Nat} {D : va_G} {cI : ClassId} {wc : va_W} : FrameBlind (va_Pc as (fun U => U.heap.size = sz ∧ va_P D clss wc U.heap ∧ va_K D clss [(cI, .int)] U ∧ nst U ∧ va_D (fun _ => True) wc)) :=
  fun a U g mk q => ⟨q.1, q.2.1, q.2.2.1, va_K.moved (u := U) (U := U.calling g mk a) (Vm.Alike.refl U.vm) q.2.2.2.1, nst_same (u := U) rfl q.2.2.2.2.1, q.2.2.2.2.2⟩
theorem u_after {S : Type} {out : S → va_W} {wc wr : va_W} {isC isR : List Nat} {p : Program} {l : Launch} {e : Env} {R : Room} {s : State} {m : MethodId} {args : Array Value} {below : List Frame} {meth : Method} {c : Code} {H : Heap} {locs : List Loc} {Q : State → Prop} {D : va_G} {A : Nat → Prop} {a : Array Value} {ls : Array Slot} {st0 rest : List Value} {mc ms : Nat}
    (hr : va_Run p l e R s m args below meth c H locs k n mc ms (F0 m pc ls st0) rest (va_Qv (fun _ : S => True) (fun u t => va_P D clss (out u) t.heap ∧ va_D (va_A wc H.size) (out u)) (va_A wc H.size) a) (va_A wc H.size)) (hP : va_P D clss ws H) (hD : va_D A ws) (hS : va_S A s.heap H locs) (hA : ∀ q : Nat, s.heap.size ≤ q → A q)
    (hC : isC.map (fun i => ws[i]?) = wc.map some) (hR : isR.map (fun i => ws[i]?) = wr.map some) (hn : va_nd isR = true) (hdis : ∀ i ∈ isR, i ∉ isC)
    (kk : ∀ (u : S) (H1 : Heap) (locs1 : List Loc), va_P D clss (wr ++ out u) H1 → va_D A (wr ++ out u) → va_S A s.heap H1 locs1 → W p l e R s m args below meth c H1 locs1 (k + mc) (n + ms) Q (F0 m (pc + 3) ls rest)) : W p l e R s m args below meth c H locs k n Q (F0 m pc ls st0) := by
  have hF := va_free (wc := wc) hD hS hA isC hC
  refine va_callv hr hS (fun q _ h => hF q h) hF (fun u t H1 locs1 ht hvm _ hB hz hk hS1 => ?_)
  rw [ht] at hB
  obtain ⟨hP1, hD1⟩ := va_join (wr := wr) (w1 := out u) hP hD isC isR hC hR hn hdis hk hF hB.1 hB.2
  exact kk u H1 locs1 hP1 hD1 hS1
theorem u_callN {S : Type} {out : S → va_W} {wc wr : va_W} {y : MethodName} {bytes : ByteArray} {maxL idx b : Nat} {host : String} {rm : Room} {As rest : List Value} (C : Ux X own cc nl R0) (isC isR : List Nat) (hnd : va_nd isC = true) (hct : ∀ D : va_G, Cg y bytes maxL rm (.ref b :: As) (UcI X) D wc out) (hC : isC.map (fun i => ws[i]?) = wc.map some) (hR : isR.map (fun i => ws[i]?) = wr.map some) (hn : va_nd isR = true) (hdis : ∀ i ∈ isR, i ∉ isC) (hst : st = As.reverse ++ .ref b :: rest)
    (hfr : rm.frames + 1 ≤ R0.frames) (hlo : 8 + (maxL + 11) + rm.locals ≤ R0.locals) (hkc : k + rm.cells ≤ R0.cells) (hks : n + rm.slots ≤ R0.slots)
    (hw : Cond.methodLinkNest own idx y host ∈ NST ∧ Cond.instanceMethod y ∈ BIG ∧ Cond.initialized y.cls ∈ BIG ∧ Cond.code y bytes maxL none ∈ BIG) (hy1 : y.name = "<init>") (hdesc : dOK y As.length) (hsum : (rest.map fun v => v.category).sum ≤ 8)
    (hd : decode cc pc = .ok (.invokespecial idx, 3)) (hpc : pc + 3 = pc') (kk : ∀ u : S, U X pc' lv rest (wr ++ out u) (k + rm.cells) (n + rm.slots)) : U X pc lv st ws k n := by
  obtain ⟨p, l, e, R, s, m, args, below, meth, c, D, cI, A, nL, Q⟩ := X
  obtain ⟨hx, hb, hml, hnL, hRR, hown, hts, hN, hK, hA⟩ := C
  subst hpc; subst hst; subst hRR
  intro H locs ls hP hD hS hL
  have cw : va_CN R s args own idx y host bytes maxL none (Cond.code y bytes maxL none :: BIG) rm rm.cells rm.slots As.length := va_cnB As.length hts (good_code hw.2.2.2) rfl rfl rfl (hN _ hw.1) (hts _ hw.2.2.1) hdesc ⟨hfr, hlo⟩
  refine u_after (ws := ws) (wc := wc) (wr := wr) (isC := isC) (isR := isR) (out := out) (va_runIN (As := As) (rest := rest) (b := b) ⟨hx, hb, hml, hown, hts⟩ (hct D l H.size) ⟨cw, hy1, hts _ hw.2.1⟩ ⟨cg_blind, fun U hU hW => ⟨rfl, by rw [hU], by rw [hU]; exact hP.sub isC (fm_of hC), va_K.moved hW.alike hK, nst_warm hW hN, (hD.sub isC hnd hC).weaken (fun _ _ _ _ => trivial)⟩⟩ rfl rfl hL.1 rfl (lv_room hsum) hd ⟨hkc, hks⟩) hP hD hS hA hC hR hn hdis (fun u H1 locs1 hP1 hD1 hS1 => ?_)
  exact kk u H1 locs1 ls hP1 hD1 hS1 hL
theorem u_callS {S : Type} {out : S → va_W} {wc wr : va_W} {y : MethodName} {bytes : ByteArray} {maxL idx : Nat} {rm : Room} {As rest : List Value} (C : Ux X own cc nl R0) (isC isR : List Nat) (hnd : va_nd isC = true) (hct : ∀ D : va_G, Cg y bytes maxL rm As (UcI X) D wc out) (hC : isC.map (fun i => ws[i]?) = wc.map some) (hR : isR.map (fun i => ws[i]?) = wr.map some) (hn : va_nd isR = true) (hdis : ∀ i ∈ isR, i ∉ isC) (hst : st = As.reverse ++ rest)
    (hfr : rm.frames + 1 ≤ R0.frames) (hlo : 8 + (maxL + 11) + rm.locals ≤ R0.locals) (hkc : k + rm.cells ≤ R0.cells) (hks : n + rm.slots ≤ R0.slots)
    (hw : Cond.methodLink own idx y ∈ BIG ∧ Cond.static y ∈ BIG ∧ Cond.initialized y.cls ∈ BIG ∧ Cond.code y bytes maxL none ∈ BIG) (hdesc : dOK y As.length) (hsum : (rest.map fun v => v.category).sum ≤ 8)
    (hd : decode cc pc = .ok (.invokestatic idx, 3)) (hpc : pc + 3 = pc') (kk : ∀ u : S, U X pc' lv rest (wr ++ out u) (k + rm.cells) (n + rm.slots)) : U X pc lv st ws k n := by
  obtain ⟨p, l, e, R, s, m, args, below, meth, c, D, cI, A, nL, Q⟩ := X
  obtain ⟨hx, hb, hml, hnL, hRR, hown, hts, hN, hK, hA⟩ := C
  subst hpc; subst hst; subst hRR
  intro H locs ls hP hD hS hL
  have cw : CallB R s args own idx y bytes maxL none (Cond.code y bytes maxL none :: BIG) rm rm.cells rm.slots As.length ∧ (Cond.static y).before args s = true := ⟨callB_of As.length hts (good_code hw.2.2.2) rfl rfl rfl (hts _ hw.2.2.1) (hts _ hw.1) hdesc ⟨hfr, hlo⟩, hts _ hw.2.1⟩
  refine u_after (ws := ws) (wc := wc) (wr := wr) (isC := isC) (isR := isR) (out := out) (va_runS (As := As) (rest := rest) ⟨hx, hb, hml, hown, hts⟩ (hct D l H.size) cw ⟨cg_blind, fun U hU hW => ⟨rfl, by rw [hU], by rw [hU]; exact hP.sub isC (fm_of hC), va_K.moved hW.alike hK, nst_warm hW hN, (hD.sub isC hnd hC).weaken (fun _ _ _ _ => trivial)⟩⟩ rfl rfl hL.1 rfl (lv_room hsum) hd ⟨hkc, hks⟩) hP hD hS hA hC hR hn hdis (fun u H1 locs1 hP1 hD1 hS1 => ?_)
  exact kk u H1 locs1 ls hP1 hD1 hS1 hL
end GROW
theorem cg_of {y : MethodName} {bytes : ByteArray} {nl : Nat} {rm : Room} {as : List Value} {cI : ClassId} {D : va_G} {ws : va_W} {S : Type} {out : S → va_W} (hy : plainName y.cls = true) (hcat : (lg_sl as).length ≤ nl)
    (body : ∀ X : UxT, UcI X = cI → (∀ (pc : Nat) (lv : List (Nat × Value)) (u : S), decode bytes pc = .ok (.return_, 1) → U X pc lv [] (out u) rm.cells rm.slots) → Ux X y.cls bytes nl rm → (y.name = "<init>" → Un X) → U X 0 (lv_args 0 as) [] ws 0 0) : Cg y bytes nl rm as cI D ws out := by
  intro l sz
  refine Met.ofW (cc := bytes) (maxL := nl) (ret := none) hy rfl ?_
  intro p e s m args below meth c s₁ B hml hv
  obtain ⟨rfl, hsz, hP, hK, hN, hD0⟩ := hv
  subst hsz
  have hts := atoms_spec (ws := Cond.code y bytes nl none :: BIG) B.pre
  have hD : va_D (va_A ws s.heap.size) ws := hD0.self (sz := s.heap.size)
  have K := body (p, l, e, rm, s, m, as.toArray, below, meth, c, D, cI, va_A ws s.heap.size, nl, MQ below (va_Qv (fun _ : S => True) (fun u t => va_P D clss (out u) t.heap ∧ va_D (va_A ws s.heap.size) (out u)) (va_A ws s.heap.size)) as.toArray s rm.cells rm.slots (va_A ws s.heap.size)) rfl
    (fun pc lv u hd => fun H locs ls hP hD hS hL => W.vret B.exec B.bytes B.returns (fun t ht hW => ⟨⟨u, rfl, trivial, by rw [ht]; exact hP, hD⟩, hS.F ht⟩) hS.2.2 hd B.notSynchronized)
    ⟨B.exec, B.bytes, hml, rfl, rfl, findClass_of_methodNamed B.named, fun w hw => hts w (List.mem_cons_of_mem _ hw), hN, hK, fun q h => Or.inr h⟩
    (fun h => ((name_of_methodNamed B.named B.method).1).trans h)
  have hl := lv_entry as (n := nl) hcat
  rw [lg_entry_eq]
  exact K s.heap [] _ hP hD va_S.rf hl
