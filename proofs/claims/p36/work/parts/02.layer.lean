/-! A world of its own: all cells of the class and of the check, in one row of numbers; a state is a number for each place of each cell. -/
abbrev St : Type := Nat → Nat → Int32
def s2 (σ : St) (k j : Nat) (v : Int32) : St := fun a => if a = k then upd (σ k) j v else σ a
def cv (ad : Nat → Nat) (v : Value) : Value := match v with
  | .ref k => .ref (ad k)
  | w => w
theorem cv_cat (ad : Nat → Nat) (v : Value) : (cv ad v).category = v.category := by cases v <;> rfl
theorem cv_sum (ad : Nat → Nat) (st : List Value) : ((st.map (cv ad)).map fun v => v.category).sum = (st.map fun v => v.category).sum := by
  induction st with
  | nil => rfl
  | cons a l ih => simp only [List.map_cons, List.sum_cons, cv_cat, ih]
/-- the classes of which the world has objects -/
abbrev clss : List vw_C := [(RX6, TX6, 28), (RX0, TX0, 10), (RX1, TX1, 5), (RX2, TX2, 2), (RX3, TX3, 9), (RX4, TX4, 2), (RX5, TX5, 9)]
def NC : Nat := 55
def shH (k : Nat) : Nat × List (Option Nat) := (1, [some (k + 1), some (k + 2), some (k + 3), some (k + 4), some (k + 5), some (k + 6), some (k + 7), none, none, none])
/-- what stands at a place: an object (its class, which fields are cells), or a row of ints (its length) -/
def shp (k : Nat) : (Nat × List (Option Nat)) ⊕ Nat := match k with
  | 0 => .inl (0, [some 1, some 2, some 3, some 4, some 5, some 6, some 7, some 8, none, none, none, some 9, some 10, some 11, some 12, none, none, none, some 13, none, none, none, some 14, none, some 15, some 16, some 17, none])
  | 1 => .inr 7
  | 2 => .inr 6
  | 3 => .inr 3
  | 4 => .inr 7
  | 5 => .inr 7
  | 6 => .inr 7
  | 7 => .inr 7
  | 8 => .inr 7
  | 9 => .inr 96
  | 10 => .inr 48
  | 11 => .inr 48
  | 12 => .inr 192
  | 13 => .inr 100
  | 14 => .inr 7
  | 15 => .inr 7
  | 16 => .inr 4
  | 17 => .inr 12
  | 18 => .inl (6, [some 19, some 27, some 35, none, some 43, some 45, some 47, some 49, some 54])
  | 19 => .inl (shH 19)
  | 27 => .inl (shH 27)
  | 35 => .inl (shH 35)
  | 25 => .inr 6
  | 33 => .inr 6
  | 41 => .inr 6
  | 26 => .inr 3
  | 34 => .inr 3
  | 42 => .inr 3
  | 43 => .inl (5, [some 44, none])
  | 44 => .inr 96
  | 45 => .inl (3, [some 46, none])
  | 46 => .inr 12
  | 47 => .inl (2, [some 27, some 48, none, none, none])
  | 49 => .inl (4, [some 50, some 51, some 52, some 53, none, none, none, none, none])
  | 53 => .inr 4
  | _ => .inr 7
def fv (ad : Nat → Nat) (σ : St) (k j : Nat) : Option Nat → Value
  | none => .int (σ k j)
  | some r => .ref (ad r)
def ent (ad : Nat → Nat) (cI : ClassId) (σ : St) (k : Nat) : va_E := match shp k with
  | .inl (ci, fl) => .inr (ci, (List.range fl.length).map (fun j => fv ad σ k j (fl.getD j none)))
  | .inr n => .inl (cI, n, .inl (σ k))
def wld (ad : Nat → Nat) (cI : ClassId) (σ : St) : va_W := (List.range NC).map (fun k => (ad k, ent ad cI σ k))
theorem wld_at {ad : Nat → Nat} {cI : ClassId} {σ : St} {k : Nat} (hk : k < NC) : (wld ad cI σ)[k]? = some (ad k, ent ad cI σ k) := by
  simp [wld, hk]
theorem wld_len {ad : Nat → Nat} {cI : ClassId} {σ : St} : (wld ad cI σ).length = NC := by simp [wld]
theorem wld_inv {ad : Nat → Nat} {cI : ClassId} {σ : St} {k : Nat} {q : Nat × va_E} (h : (wld ad cI σ)[k]? = some q) : k < NC ∧ q = (ad k, ent ad cI σ k) := by
  have hk : k < NC := by
    have := (List.getElem?_eq_some_iff.mp h).1
    rwa [wld_len] at this
  rw [wld_at hk] at h
  exact ⟨hk, (Option.some.inj h).symm⟩
theorem wld_set {ad : Nat → Nat} {cI : ClassId} {σ σ' : St} {k : Nat} {e : va_E} (he : ent ad cI σ' k = e) (ho : ∀ a, a ≠ k → ent ad cI σ' a = ent ad cI σ a) : (wld ad cI σ).set k (ad k, e) = wld ad cI σ' := by
  apply List.ext_getElem?
  intro j
  rw [List.getElem?_set]
  by_cases hj : k = j
  · subst hj
    by_cases hk : k < NC
    · rw [if_pos rfl, wld_len, if_pos hk, wld_at hk, he]
    · rw [if_pos rfl, wld_len, if_neg hk]
      symm
      rw [List.getElem?_eq_none_iff, wld_len]
      omega
  · rw [if_neg hj]
    by_cases hk : j < NC
    · rw [wld_at hk, wld_at hk, ho j (fun q => hj q.symm)]
    · rw [List.getElem?_eq_none (by rw [wld_len]; omega), List.getElem?_eq_none (by rw [wld_len]; omega)]
theorem s2_ne {σ : St} {k j a : Nat} {v : Int32} (h : a ≠ k) : s2 σ k j v a = σ a := by simp [s2, h]
theorem s2_eq {σ : St} {k j : Nat} {v : Int32} : s2 σ k j v k = upd (σ k) j v := by simp [s2]
theorem ent_ne {ad : Nat → Nat} {cI : ClassId} {σ : St} {k j a : Nat} {v : Int32} (h : a ≠ k) : ent ad cI (s2 σ k j v) a = ent ad cI σ a := by
  have e : ∀ x, s2 σ k j v a x = σ a x := fun x => by rw [s2_ne h]
  unfold ent
  split
  · next ci fl hq =>
    congr 2
    apply List.map_congr_left
    intro x hx
    cases fl.getD x none <;> simp [fv, e]
  · rw [s2_ne h]
theorem ent_obj {ad : Nat → Nat} {cI : ClassId} {σ : St} {k ci : Nat} {fl : List (Option Nat)} (hs : shp k = .inl (ci, fl)) : ent ad cI σ k = .inr (ci, (List.range fl.length).map (fun j => fv ad σ k j (fl.getD j none))) := by
  unfold ent; rw [hs]
theorem ent_arr {ad : Nat → Nat} {cI : ClassId} {σ : St} {k n : Nat} (hs : shp k = .inr n) : ent ad cI σ k = .inl (cI, n, .inl (σ k)) := by
  unfold ent; rw [hs]
theorem fs_at {ad : Nat → Nat} {σ : St} {k j : Nat} {fl : List (Option Nat)} {o : Option Nat} (h : fl[j]? = some o) : ((List.range fl.length).map (fun j => fv ad σ k j (fl.getD j none)))[j]? = some (fv ad σ k j o) := by
  obtain ⟨hj, hg⟩ := List.getElem?_eq_some_iff.mp h
  simp [hj, hg]
theorem fs_set {ad : Nat → Nat} {σ : St} {k j : Nat} {v : Int32} {fl : List (Option Nat)} (h : fl[j]? = some none) : ((List.range fl.length).map (fun j => fv ad σ k j (fl.getD j none))).set j (.int v) = (List.range fl.length).map (fun i => fv ad (s2 σ k j v) k i (fl.getD i none)) := by
  obtain ⟨hj, hg⟩ := List.getElem?_eq_some_iff.mp h
  apply List.ext_getElem?
  intro i
  rw [List.getElem?_set]
  by_cases hij : j = i
  · subst hij
    simp [hj, hg, fv, s2, upd]
  · rw [if_neg hij]
    by_cases hi : i < fl.length
    · simp only [List.getElem?_map, List.getElem?_range hi, Option.map_some]
      cases fl.getD i none with
      | none => simp [fv, s2, upd, Ne.symm hij]
      | some r => rfl
    · simp [hi]
/-! the words of the tables: those that every method is given, and those between nest mates -/
def BIG : List Cond := lw_tbl.filter goodWord
def isNst (w : Cond) : Bool := match w with
  | .fieldLinkNest .. => true
  | .methodLinkNest .. => true
  | _ => false
def NST : List Cond := tables_1.filter isNst
theorem big_of {w : Cond} (h : w ∈ lw_tbl) (g : goodWord w = true) : w ∈ BIG := List.mem_filter.mpr ⟨h, g⟩
theorem big_sub {w : Cond} (h : w ∈ BIG) : w ∈ lw_tbl := (List.mem_filter.mp h).1
theorem nst_of {w : Cond} (h : w ∈ tables_1) (g : isNst w = true) : w ∈ NST := List.mem_filter.mpr ⟨h, g⟩
def nst (U : State) : Prop := ∀ w ∈ NST, va_Nw w U
theorem nst_warm {s U : State} (hW : s.WarmedH U.vm) (h : nst s) : nst U := by
  intro w hw
  have hz := h w hw
  have g := (List.mem_filter.mp hw).2
  cases w <;> first | exact hz.warmF hW | exact hz.warmM hW | simp [isNst] at g
theorem nst_same {u U : State} (e : u.vm = U.vm) (h : nst u) : nst U := by
  intro w hw
  have hz := h w hw
  have g := (List.mem_filter.mp hw).2
  cases w <;> first | exact hz.same rfl e | simp [isNst] at g
theorem good_big : GoodIn BIG BIG := fun w hw => ⟨hw, good_of_word (List.mem_filter.mp hw).2⟩
theorem good_code {y : MethodName} {bytes : ByteArray} {n : Nat} {ret : Option FieldType} (h : Cond.code y bytes n ret ∈ BIG) : GoodIn BIG (Cond.code y bytes n ret :: BIG) := fun w hw => by
  rcases List.mem_cons.mp hw with rfl | hw
  · exact good_big _ h
  · exact good_big _ hw
/-! a method's room by its level: a call goes to a lower one -/
def rmL (k : Nat) : Room := { frames := k, cells := 0, slots := 0, locals := 60 * k }
def Aad (ad : Nat → Nat) : Nat → Prop := fun q => ∃ k, k < NC ∧ q = ad k
def inj (ad : Nat → Nat) : Prop := ∀ i j, i < NC → j < NC → ad i = ad j → i = j
theorem wld_D {ad : Nat → Nat} {cI : ClassId} {σ : St} (h : inj ad) : va_D (Aad ad) (wld ad cI σ) := by
  refine ⟨fun i j p q hi hj e => ?_, fun k q hk => ?_⟩
  · obtain ⟨h1, rfl⟩ := wld_inv hi
    obtain ⟨h2, rfl⟩ := wld_inv hj
    exact h i j h1 h2 e
  · obtain ⟨h1, rfl⟩ := wld_inv hk
    exact ⟨k, h1, rfl⟩
/-! the literals: their places from 100 on, their bytes' from 200 on; the statics that a text's own methods read -/
def litT : List String := ["k0000;", "00;", "000;", "0;", "", "psvcwt"]
def litI : List Nat := [51, 53, 55, 57, 59, 95]
def litN : List Nat := [6, 3, 4, 2, 0, 6]
def litB : List (List Int32) := [[107, 48, 48, 48, 48, 59], [48, 48, 59], [48, 48, 48, 59], [48, 59], [], [112, 115, 118, 99, 119, 116]]
abbrev fmC : String := "jdk/internal/util/Preconditions"
abbrev fmN : String := "SIOOBE_FORMATTER"
abbrev fmD : String := "Ljava/util/function/BiFunction;"
abbrev RStr : String := "java/lang/String"
def LitH (ad : Nat → Nat) (U : State) (H : Heap) : Prop := vk_S 6 litN litB (fun i => ad (100 + i)) (fun i => ad (200 + i)) (Aad ad) U H ∧ va_Z RStr "COMPACT_STRINGS" "Z" (.int 1) (Aad ad) U H ∧ (va_Z fmC fmN fmD .null (Aad ad) U H ∨ va_Z fmC fmN fmD (.ref (ad 300)) (Aad ad) U H)
def LitR (ad : Nat → Nat) (U : State) : Prop := ∀ i, i < 6 → vk_R RX4 (litI.getD i 0) (litT.getD i "") (ad (100 + i)) U
def nsl (ad : Nat → Nat) (U : State) : Prop := nst U ∧ LitH ad U U.heap ∧ LitR ad U
theorem LitH.kept {ad : Nat → Nat} {U : State} {H H1 : Heap} (h : LitH ad U H) (hq : ∀ a : Nat, a < H.size → ¬ Aad ad a → H1[a]? = H[a]?) : LitH ad U H1 :=
  ⟨h.1.kept hq, h.2.1.kept hq, h.2.2.elim (fun z => Or.inl (z.kept hq)) (fun z => Or.inr (z.kept hq))⟩
theorem LitH.moved {ad : Nat → Nat} {u U : State} {H : Heap} (hvm : u.vm.Alike U.vm) (h : LitH ad u H) : LitH ad U H :=
  ⟨vk_S.moved hvm h.1, va_Z.moved hvm h.2.1, h.2.2.elim (fun z => Or.inl (va_Z.moved hvm z)) (fun z => Or.inr (va_Z.moved hvm z))⟩
theorem nsl_warm {ad : Nat → Nat} {s U : State} {H : Heap} {locs : List Loc} (hW : s.WarmedH U.vm) (hU : U.heap = H) (hS : va_S (Aad ad) s.heap H locs) (h : nsl ad s) : nsl ad U :=
  ⟨nst_warm hW h.1, by rw [hU]; exact (h.2.1.kept hS.2.1).moved hW.alike, fun i hi => (h.2.2 i hi).warm hW⟩
theorem nsl_same {ad : Nat → Nat} {u U : State} (e : u.vm = U.vm) (eh : U.heap = u.heap) (h : nsl ad u) : nsl ad U :=
  ⟨nst_same e h.1, by rw [eh]; exact h.2.1.moved (e ▸ Vm.Alike.refl u.vm), fun i hi => (h.2.2 i hi).same e.symm⟩
def Bw (D : va_G) (cI : ClassId) (ad : Nat → Nat) (σ : St) (U : State) : Prop := va_P D clss (wld ad cI σ) U.heap ∧ va_K D clss [(cI, .int)] U ∧ nsl ad U ∧ inj ad
def Qw (D : va_G) (cI : ClassId) (ad : Nat → Nat) (P : Option Value → St → Prop) : Array Value → State → Outcome → State → Prop := fun _ st oc t =>
  (∃ (r : Option Value) (σ' : St), oc = .returned (r.map (cv ad)) ∧ P r σ' ∧ va_P D clss (wld ad cI σ') t.heap) ∧ va_F (Aad ad) st t
/-- a contract: the method comes back, and then P holds of its answer and the state -/
def Ct (y : MethodName) (bytes : ByteArray) (nL : Nat) (ret : Option FieldType) (lev : Nat) (as : List Value) (σ : St) (P : Option Value → St → Prop) : Prop :=
  ∀ (l : Launch) (D : va_G) (cI : ClassId) (ad : Nat → Nat), Met l y (Cond.code y bytes nL ret :: BIG) (rmL lev) (va_Pc (as.map (cv ad)) (Bw D cI ad σ)) (Qw D cI ad P) 0 0 (Aad ad)
abbrev CxT : Type := Program × Launch × Env × State × MethodId × Array Value × List Frame × Method × Code × va_G × ClassId × (Nat → Nat) × Nat × Nat × (Option Value → St → Prop)
/-- where the machine stands: within a body, at pc, with these locals, this stack, this state -/
def V (X : CxT) (pc : Nat) (lv : List (Nat × Value)) (st : List Value) (σ : St) : Prop := match X with
  | (p, l, e, s, m, args, below, meth, c, D, cI, ad, nL, lev, P) => ∀ (H : Heap) (locs : List Loc) (ls : Array Slot), va_P D clss (wld ad cI σ) H → va_S (Aad ad) s.heap H locs → lv_has ls nL (lv.map (fun q => (q.1, cv ad q.2))) →
      W p l e (rmL lev) s m args below meth c H locs 0 0 (MQ below (Qw D cI ad P) args s 0 0 (Aad ad)) (F0 m pc ls (st.map (cv ad)))
def Pof (X : CxT) : Option Value → St → Prop := match X with
  | (_, _, _, _, _, _, _, _, _, _, _, _, _, _, P) => P
def Cx (X : CxT) (own : String) (cc : ByteArray) (n : Nat) (ret : Option FieldType) (L : Nat) : Prop := match X with
  | (p, l, e, s, m, args, below, meth, c, D, cI, ad, nL, lev, P) => p.tables.exec = Jvm.exec ∧ c.code = cc ∧ c.maxLocals = nL ∧ nL = n ∧ lev = L ∧ meth.sig.returnType = ret ∧ meth.locks = false ∧ s.vm.findClass own = some m.cls ∧ (∀ w ∈ BIG, w.before args s = true) ∧ nsl ad s ∧ va_K D clss [(cI, .int)] s ∧ inj ad
theorem lv_args_cv (ad : Nat → Nat) (as : List Value) : ∀ i, lv_args i (as.map (cv ad)) = (lv_args i as).map (fun q => (q.1, cv ad q.2)) := by
  induction as with
  | nil => intro i; rfl
  | cons a l ih =>
    intro i
    simp only [List.map_cons, lv_args, cv_cat, ih]
/-- a contract by a walk of the body -/
theorem ct_of {y : MethodName} {bytes : ByteArray} {nL : Nat} {ret : Option FieldType} {lev : Nat} {as : List Value} {σ : St} {P : Option Value → St → Prop} (hy : plainName y.cls = true) (hcat : as.all (fun v => v.category == 1) = true) (hn : as.length ≤ nL)
    (body : ∀ X : CxT, Pof X = P → Cx X y.cls bytes nL ret lev → V X 0 (lv_args 0 as) [] σ) : Ct y bytes nL ret lev as σ P := by
  intro l D cI ad
  refine Met.ofW (cc := bytes) (maxL := nL) (ret := ret) hy rfl ?_
  intro p e s m args below meth c s₁ B hml hv
  obtain ⟨rfl, hP, hK, hN, hI⟩ := hv
  have hts := atoms_spec (ws := Cond.code y bytes nL ret :: BIG) B.pre
  have K := body (p, l, e, s, m, (as.map (cv ad)).toArray, below, meth, c, D, cI, ad, nL, lev, P) rfl ⟨B.exec, B.bytes, hml, rfl, rfl, B.returns, B.notSynchronized, findClass_of_methodNamed B.named, fun w hw => hts w (List.mem_cons_of_mem _ hw), hN, hK, hI⟩
  have hlen : (lg_sl (as.map (cv ad))).length ≤ nL := by
    have h1 : ∀ l : List Value, l.all (fun v => v.category == 1) = true → (lg_sl (l.map (cv ad))).length = l.length := by
      intro l
      induction l with
      | nil => intro _; rfl
      | cons a t ih =>
        intro h
        simp only [List.all_cons, Bool.and_eq_true, beq_iff_eq] at h
        have e : lg_sl (cv ad a :: t.map (cv ad)) = [Slot.val (cv ad a)] ++ lg_sl (t.map (cv ad)) := by simp [lg_sl, cv_cat, h.1]
        rw [List.map_cons, e, List.length_append, ih h.2]
        simp; omega
    rw [h1 as hcat]; exact hn
  have hl := lv_entry (as.map (cv ad)) (n := nL) hlen
  rw [lv_args_cv] at hl
  rw [lg_entry_eq]
  exact K s.heap [] _ hP va_S.rf hl
