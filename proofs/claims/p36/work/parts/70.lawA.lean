/-! THE CLAIM OUT OF ONE WALK OF THE LAW'S BODY. Your part is whole_start (and what it stands on); all else here is the same for every law, but numbers. -/
def R_law : String := "BlameIsFurnitureLaw"
def lw_P (b : Addr) (xs : List Int32) (args : Array Value) (s : State) : Prop := args = #[.ref b] ∧ s.IntsAt b xs ∧ xs.length ≤ 2048 ∧ (Jvm.Cond.and given_1 narrow_1).before args s = true
def lw_Q (_ : Array Value) (s : State) (o : Outcome) (t : State) : Prop := o = .returned (some (.int 1)) ∧ Framed s o t [] 600000 7302250
def lw_Z (below : List Frame) (a : Array Value) (s : State) : State → Prop := fun t => ∃ o, t.status = .running ∧ Ended t below o ∧ lw_Q a s o t
/-- the law's own end, with 1 on the stack, nothing written that was there before, its room as the claim has it -/
theorem lw_ret {p : Program} {l : Launch} {e : Env} {s : State} {m : MethodId} {below : List Frame} {meth : Method} {c : Code} {b : Nat} (hx : p.tables.exec = Jvm.exec) (hb : c.code = code) (hr : meth.sig.returnType = ret) (hlocks : meth.locks = false) {pc : Nat} {H : Heap} {ls : Array Slot} (hdg : decode code pc = .ok (.ireturn, 1)) : W p l e room_1 s m #[Value.ref b] below meth c H [] 600000 7302250 (lw_Z below #[Value.ref b] s) (F0 m pc ls [.int 1]) := by
  intro T hT X
  obtain ⟨fs, hret, hrun, hended, hW, hframe⟩ := X.leave (v := some (.int 1)) (hlocks := hlocks) (fun h => by rw [hr] at h; cases h)
  have hmeth' : T.vm.method? m = some meth := X.method'
  refine ⟨T.setFrames fs, ?_, .returned (some (.int 1)), hrun, hended, rfl, ⟨_, rfl⟩, hW, hframe⟩
  jvm_step X.here [X.here.top, hx, hb, hdg, hmeth', hr, ret, narrow_b1]
  (try refine ⟨rfl, ?_⟩); (try refine ⟨rfl, ?_⟩)
  first | (intro acts; rw [hret _ acts rfl rfl rfl]) | rw [hret _ _ rfl rfl rfl]
  exact Steps.refl _
/-- what holds at the law's entry: the machine, the code, the tables' words (any of lw_tbl by 'hts w (by decide +kernel)'), the script of L ints xs at the cell b, what the Statement gives of the start (any of its parts by flat_of_before) -/
def lw_At (p : Program) (s : State) (m : MethodId) (meth : Method) (c : Code) (b L : Nat) (xs : Nat → Int32) : Prop :=
  p.tables.exec = Jvm.exec ∧ c.code = code ∧ meth.sig.returnType = ret ∧ c.maxLocals = 4 ∧ s.vm.findClass R_law = some m.cls ∧ (∀ w ∈ lw_tbl, w.before #[Value.ref b] s = true) ∧ va_X b L xs s s.heap ∧ b < s.heap.size ∧ meth.locks = false ∧ (Jvm.Cond.and given_1 narrow_1).before #[Value.ref b] s = true
/-! the law's layer: where it stands, over the world of all cells; 400 is the script -/
abbrev LxT : Type := Program × Launch × Env × State × MethodId × List Frame × Method × Code × va_G × ClassId × (Nat → Nat) × Nat × Nat × (Nat → Int32)
def LV (X : LxT) (pc : Nat) (lv : List (Nat × Value)) (st : List Value) (σ : St) : Prop := match X with
  | (p, l, e, s, m, below, meth, c, D, cI, ad, b, L, xs) => ∀ (H : Heap) (locs : List Loc) (ls : Array Slot), va_P D clss (wld ad cI σ) H → va_S (fun q : Nat => s.heap.size ≤ q) s.heap H locs → lv_has ls 4 (lv.map (fun q => (q.1, cv ad q.2))) → W p l e room_1 s m #[Value.ref b] below meth c H locs 55 929 (lw_Z below #[Value.ref b] s) (F0 m pc ls (st.map (cv ad)))
def LitL (ad : Nat → Nat) (A : Nat → Prop) (U : State) (H : Heap) : Prop := vk_S 6 litN litB (fun i => ad (100 + i)) (fun i => ad (200 + i)) A U H ∧ va_Z RStr "COMPACT_STRINGS" "Z" (.int 1) A U H ∧ (va_Z fmC fmN fmD .null A U H ∨ va_Z fmC fmN fmD (.ref (ad 300)) A U H)
def Lx (X : LxT) : Prop := match X with
  | (p, l, e, s, m, below, meth, c, D, cI, ad, b, L, xs) => p.tables.exec = Jvm.exec ∧ c.code = code ∧ c.maxLocals = 4 ∧ meth.sig.returnType = ret ∧ s.vm.findClass RL = some m.cls ∧ (∀ w ∈ BIG, w.before #[Value.ref b] s = true) ∧ nst s ∧ va_K D clss [(cI, .int)] s ∧ inj ad ∧ (∀ k : Nat, k < NC → s.heap.size ≤ ad k) ∧ LitL ad (fun q : Nat => s.heap.size ≤ q) s s.heap ∧ LitR ad s ∧ va_X b L xs s s.heap ∧ b < s.heap.size ∧ ad 400 = b ∧ meth.locks = false
def lenX (X : LxT) : Nat := match X with
  | (p, l, e, s, m, below, meth, c, D, cI, ad, b, L, xs) => L
def scrX (X : LxT) : Nat → Int32 := match X with
  | (p, l, e, s, m, below, meth, c, D, cI, ad, b, L, xs) => xs
theorem LitL.kept {ad : Nat → Nat} {A : Nat → Prop} {U : State} {H H1 : Heap} (h : LitL ad A U H) (hq : ∀ a : Nat, a < H.size → ¬ A a → H1[a]? = H[a]?) : LitL ad A U H1 :=
  ⟨h.1.kept hq, h.2.1.kept hq, h.2.2.elim (fun z => Or.inl (z.kept hq)) (fun z => Or.inr (z.kept hq))⟩
theorem LitL.to {ad : Nat → Nat} {A : Nat → Prop} {u U : State} {H : Heap} (hvm : u.vm.Alike U.vm) (hA : ∀ q, Aad ad q → A q) (h : LitL ad A u H) : LitH ad U H :=
  ⟨(vk_S.moved hvm h.1).narrow hA, (va_Z.moved hvm h.2.1).narrow hA, h.2.2.elim (fun z => Or.inl ((va_Z.moved hvm z).narrow hA)) (fun z => Or.inr ((va_Z.moved hvm z).narrow hA))⟩
theorem law_nsl {ad : Nat → Nat} {s U : State} {H : Heap} {locs : List Loc} (hW : s.WarmedH U.vm) (hU : U.heap = H) (hS : va_S (fun q : Nat => s.heap.size ≤ q) s.heap H locs) (hA : ∀ k : Nat, k < NC → s.heap.size ≤ ad k) (hN : nst s) (hL : LitL ad (fun q : Nat => s.heap.size ≤ q) s s.heap) (hR : LitR ad s) : nsl ad U :=
  ⟨nst_warm hW hN, by rw [hU]; exact (hL.kept hS.2.1).to hW.alike (fun q ⟨k, hk, e⟩ => by rw [e]; exact hA k hk), fun i hi => (hR i hi).warm hW⟩
section LROWS
variable {X : LxT} {pc pc' : Nat} {lv lv' : List (Nat × Value)} {st rest : List Value} {σ σ' : St}
theorem LV.tp {x y : Int32} (e : x = y) (k : LV X pc lv (.int y :: st) σ) : LV X pc lv (.int x :: st) σ := e ▸ k
theorem LV.sub (ks : List Nat) (hl : lv_pick lv ks = lv') (kk : LV X pc lv' st σ) : LV X pc lv st σ := by
  obtain ⟨p, l, e, s, m, below, meth, c, D, cI, ad, b, L, xs⟩ := X
  intro H locs ls hP hS hL
  refine kk H locs ls hP hS (lv_sub hL ks ?_)
  subst hl
  simp only [lv_pick, List.map_filterMap, List.getElem?_map]
theorem l_iload_n (C : Lx X) {k : Fin 4} {i : Nat} {x : Int32} (hd : decode code pc = .ok (.iload_n k, 1)) (hi : (k : Nat) = i) (hl : lv.lookup i = some (.int x)) (hn : pc + 1 = pc') (kk : LV X pc' lv (.int x :: st) σ) : LV X pc lv st σ := by
  obtain ⟨p, l, e, s, m, below, meth, c, D, cI, ad, b, L, xs⟩ := X
  subst hn
  intro H locs ls hP hS hL
  exact lv_iload_n C.1 C.2.1 hd hi (lat hL hl) (kk H locs ls hP hS hL)
theorem l_aload_n (C : Lx X) {k : Fin 4} {i x : Nat} (hd : decode code pc = .ok (.aload_n k, 1)) (hi : (k : Nat) = i) (hl : lv.lookup i = some (.ref x)) (hn : pc + 1 = pc') (kk : LV X pc' lv (.ref x :: st) σ) : LV X pc lv st σ := by
  obtain ⟨p, l, e, s, m, below, meth, c, D, cI, ad, b, L, xs⟩ := X
  subst hn
  intro H locs ls hP hS hL
  exact lv_aload_n C.1 C.2.1 hd hi (lat hL hl) (kk H locs ls hP hS hL)
theorem l_iinc (C : Lx X) {i : Nat} {d : Int} {x v : Int32} (hd : decode code pc = .ok (.iinc i d, 3)) (hl : lv.lookup i = some (.int x)) (hv : x + Int32.ofInt d = v) (hin : i < 4) (hs : lset lv i (.int v) = lv') (hn : pc + 3 = pc') (kk : LV X pc' lv' st σ) : LV X pc lv st σ := by
  obtain ⟨p, l, e, s, m, below, meth, c, D, cI, ad, b, L, xs⟩ := X
  subst hn; subst hs
  intro H locs ls hP hS hL
  obtain ⟨q, hq, hqe⟩ := List.mem_iff_getElem.mp (lk_mem hl)
  exact lv_iinc (v := v) (lv' := (lset lv i (.int v)).map (fun q => (q.1, cv ad q.2))) C.1 C.2.1 hd hL (k := q) (by rw [List.getElem?_map, List.getElem?_eq_getElem hq, hqe]; rfl) hv hin (by have z := lset_cv ad lv i (.int v); exact z) (fun ls hL => kk H locs ls hP hS hL)
theorem l_iconst (C : Lx X) {d : Int} {v : Int32} (hd : decode code pc = .ok (.iconst d, 1)) (hv : Int32.ofInt d = v) (hn : pc + 1 = pc') (kk : LV X pc' lv (.int v :: st) σ) : LV X pc lv st σ := by
  obtain ⟨p, l, e, s, m, below, meth, c, D, cI, ad, b, L, xs⟩ := X
  subst hn
  intro H locs ls hP hS hL
  exact lv_iconst C.1 C.2.1 hd hv (kk H locs ls hP hS hL)
theorem l_bipush (C : Lx X) {d : Int} {v : Int32} (hd : decode code pc = .ok (.bipush d, 2)) (hv : (Int8.ofInt d).toInt32 = v) (hn : pc + 2 = pc') (kk : LV X pc' lv (.int v :: st) σ) : LV X pc lv st σ := by
  obtain ⟨p, l, e, s, m, below, meth, c, D, cI, ad, b, L, xs⟩ := X
  subst hn
  intro H locs ls hP hS hL
  exact lv_bipush C.1 C.2.1 hd hv (kk H locs ls hP hS hL)
theorem l_iadd (C : Lx X) {x y : Int32} (hd : decode code pc = .ok (.iadd, 1)) (hn : pc + 1 = pc') (kk : LV X pc' lv (.int (x + y) :: st) σ) : LV X pc lv (.int y :: .int x :: st) σ := by
  obtain ⟨p, l, e, s, m, below, meth, c, D, cI, ad, b, L, xs⟩ := X
  subst hn
  intro H locs ls hP hS hL
  exact lv_iadd C.1 C.2.1 hd (kk H locs ls hP hS hL)
theorem l_isub (C : Lx X) {x y : Int32} (hd : decode code pc = .ok (.isub, 1)) (hn : pc + 1 = pc') (kk : LV X pc' lv (.int (x - y) :: st) σ) : LV X pc lv (.int y :: .int x :: st) σ := by
  obtain ⟨p, l, e, s, m, below, meth, c, D, cI, ad, b, L, xs⟩ := X
  subst hn
  intro H locs ls hP hS hL
  exact lv_isub C.1 C.2.1 hd (kk H locs ls hP hS hL)
theorem l_iand (C : Lx X) {x y : Int32} (hd : decode code pc = .ok (.iand, 1)) (hn : pc + 1 = pc') (kk : LV X pc' lv (.int (x &&& y) :: st) σ) : LV X pc lv (.int y :: .int x :: st) σ := by
  obtain ⟨p, l, e, s, m, below, meth, c, D, cI, ad, b, L, xs⟩ := X
  subst hn
  intro H locs ls hP hS hL
  exact lv_iand C.1 C.2.1 hd (kk H locs ls hP hS hL)
theorem l_pop (C : Lx X) {x : Int32} (hd : decode code pc = .ok (.pop, 1)) (hn : pc + 1 = pc') (kk : LV X pc' lv st σ) : LV X pc lv (.int x :: st) σ := by
  obtain ⟨p, l, e, s, m, below, meth, c, D, cI, ad, b, L, xs⟩ := X
  subst hn
  intro H locs ls hP hS hL
  exact lv_pop C.1 C.2.1 hd rfl (kk H locs ls hP hS hL)
theorem l_goto (C : Lx X) {off : Int} {tgt : Nat} (hd : decode code pc = .ok (.goto off, 3)) (ht : (pc : Int) + off = (tgt : Int)) (kk : LV X tgt lv st σ) : LV X pc lv st σ := by
  obtain ⟨p, l, e, s, m, below, meth, c, D, cI, ad, b, L, xs⟩ := X
  intro H locs ls hP hS hL
  exact lv_goto C.1 C.2.1 hd ht (kk H locs ls hP hS hL)
theorem l_icmp_gt (C : Lx X) {x y : Int32} {off : Int} {tgt : Nat} (hd : decode code pc = .ok (.if_icmp .gt off, 3)) (ht : (pc : Int) + off = (tgt : Int)) (hn : pc + 3 = pc') (kt : y < x → LV X tgt lv st σ) (kf : ¬ y < x → LV X pc' lv st σ) : LV X pc lv (.int y :: .int x :: st) σ := by
  obtain ⟨p, l, e, s, m, below, meth, c, D, cI, ad, b, L, xs⟩ := X
  subst hn
  intro H locs ls hP hS hL
  exact lv_icmp_gt C.1 C.2.1 hd ht (fun q => kt q H locs ls hP hS hL) (fun q => kf q H locs ls hP hS hL)
theorem l_icmp_eq (C : Lx X) {x y : Int32} {off : Int} {tgt : Nat} (hd : decode code pc = .ok (.if_icmp .eq off, 3)) (ht : (pc : Int) + off = (tgt : Int)) (he : x = y) (kt : LV X tgt lv st σ) : LV X pc lv (.int y :: .int x :: st) σ := by
  obtain ⟨p, l, e, s, m, below, meth, c, D, cI, ad, b, L, xs⟩ := X
  intro H locs ls hP hS hL
  exact lv_icmp_eq C.1 C.2.1 hd ht (fun _ => kt H locs ls hP hS hL) (fun q => absurd he q)
theorem l_tableIn (C : Lx X) {dflt lo hi : Int} {offs : Array Int} {len : Nat} {x : Int32} {off : Int} {tgt : Nat} (hd : decode code pc = .ok (.tableswitch dflt lo hi offs, len)) (h1 : ¬ x.toInt < lo) (h2 : ¬ hi < x.toInt) (ho : offs[(x.toInt - lo).toNat]? = some off) (ht : (pc : Int) + off = (tgt : Int)) (kk : LV X tgt lv st σ) : LV X pc lv (.int x :: st) σ := by
  obtain ⟨p, l, e, s, m, below, meth, c, D, cI, ad, b, L, xs⟩ := X
  intro H locs ls hP hS hL
  exact lv_tableIn C.1 C.2.1 hd h1 h2 ho ht (kk H locs ls hP hS hL)
theorem l_tableOut (C : Lx X) {dflt lo hi : Int} {offs : Array Int} {len : Nat} {x : Int32} {tgt : Nat} (hd : decode code pc = .ok (.tableswitch dflt lo hi offs, len)) (h : x.toInt < lo ∨ hi < x.toInt) (ht : (pc : Int) + dflt = (tgt : Int)) (kk : LV X tgt lv st σ) : LV X pc lv (.int x :: st) σ := by
  obtain ⟨p, l, e, s, m, below, meth, c, D, cI, ad, b, L, xs⟩ := X
  intro H locs ls hP hS hL
  exact lv_tableOut C.1 C.2.1 hd h ht (kk H locs ls hP hS hL)
theorem l_slen (C : Lx X) (hd : decode code pc = .ok (.arraylength, 1)) (hn : pc + 1 = pc') (kk : LV X pc' lv (.int (nI (lenX X)) :: st) σ) : LV X pc lv (.ref 400 :: st) σ := by
  obtain ⟨p, l, e, s, m, below, meth, c, D, cI, ad, b, L, xs⟩ := X
  subst hn
  intro H locs ls hP hS hL
  obtain ⟨hX, hb, hab, -⟩ := C.2.2.2.2.2.2.2.2.2.2.2.2
  have k := va_slen (p := p) (l := l) (e := e) (R := room_1) (m := m) (args := #[Value.ref b]) (below := below) (meth := meth) (cells := 55) (slots := 929) (Q := lw_Z below #[Value.ref b] s) (rest := st.map (cv ad)) (ls := ls) C.1 C.2.1 hX hb (Nat.not_le.mpr hb) hS hd (kk H locs ls hP hS hL)
  show W p l e room_1 s m #[Value.ref b] below meth c H locs 55 929 (lw_Z below #[Value.ref b] s) (F0 m pc ls (.ref (ad 400) :: st.map (cv ad)))
  rw [hab]; exact k
theorem l_sld (C : Lx X) {i : Nat} {x : Int32} (hx : x = nI i) (hi : i < lenX X) (hL2 : lenX X < 2 ^ 31) (hd : decode code pc = .ok (.iaload, 1)) (hn : pc + 1 = pc') (kk : LV X pc' lv (.int (scrX X i) :: st) σ) : LV X pc lv (.int x :: .ref 400 :: st) σ := by
  obtain ⟨p, l, e, s, m, below, meth, c, D, cI, ad, b, L, xs⟩ := X
  subst hn; subst hx
  intro H locs ls hP hS hL
  obtain ⟨hX, hb, hab, -⟩ := C.2.2.2.2.2.2.2.2.2.2.2.2
  have hi' : i < L := hi
  have hL2' : L < 2 ^ 31 := hL2
  have k0 := kk H locs ls hP hS hL
  have e1 : (nI i).toNatClampNeg = i := nI_clamp (by omega)
  have k := va_sld (p := p) (l := l) (e := e) (R := room_1) (m := m) (args := #[Value.ref b]) (below := below) (meth := meth) (cells := 55) (slots := 929) (Q := lw_Z below #[Value.ref b] s) (rest := st.map (cv ad)) (ls := ls) (i := nI i) C.1 C.2.1 hX hb (Nat.not_le.mpr hb) hS (vp_in_nI hi' (by omega)) hd (by rw [e1]; exact k0)
  show W p l e room_1 s m #[Value.ref b] below meth c H locs 55 929 (lw_Z below #[Value.ref b] s) (F0 m pc ls (.int (nI i) :: .ref (ad 400) :: st.map (cv ad)))
  rw [hab]; exact k
theorem l_call {y : MethodName} {bytes : ByteArray} {maxL lev idx : Nat} {ret' : Option FieldType} {As : List Value} {P' : Option Value → St → Prop} (C : Lx X) {k ci N : Nat} {fl : List (Option Nat)} {T : u_T} (hk : k < NC) (hs : shp k = .inl (ci, fl)) (hc : clss[ci]? = some (y.cls, T, N)) (hct : Ct y bytes maxL ret' lev (.ref k :: As) σ P') (hst : st = As.reverse ++ .ref k :: rest) (hlev : lev < 100) (hmx : maxL ≤ 41)
    (hw : Cond.methodLink RL idx y ∈ BIG ∧ Cond.instanceMethod y ∈ BIG ∧ Cond.selects y.cls y y ∈ BIG ∧ Cond.initialized y.cls ∈ BIG ∧ Cond.code y bytes maxL ret' ∈ BIG) (hdesc : dOK y As.length) (hsum : (rest.map fun v => v.category).sum ≤ 8)
    (hd : decode code pc = .ok (.invokevirtual idx, 3)) (hn : pc + 3 = pc') (kk : ∀ (r : Option Value) (σ' : St), P' r σ' → LV X pc' lv (r.toList ++ rest) σ') : LV X pc lv st σ := by
  obtain ⟨p, l, e, s, m, below, meth, c, D, cI, ad, b, L, xs⟩ := X
  obtain ⟨hx, hb, hml, hr, hown, hts, hN, hK, hI, hA, hLL, hLR, hX, hbl, hab, hlk⟩ := C
  subst hn; subst hst
  intro H locs ls hP hS hL
  have cw : CallW room_1 s #[Value.ref b] RL y.cls idx y bytes maxL ret' (Cond.code y bytes maxL ret' :: BIG) (rmL lev) 0 0 As.length := ⟨callB_of As.length hts (good_code hw.2.2.2.2) rfl rfl rfl (hts _ hw.2.2.2.1) (hts _ hw.1) hdesc ⟨by show lev + 1 ≤ 2048; omega, by show 8 + (maxL + 11) + 60 * lev ≤ 84000; omega⟩, hts _ hw.2.1, hts _ hw.2.2.1⟩
  have hr2 := va_runV (l := l) (e := e) (below := below) (meth := meth) (locs := locs) (cells := 55) (slots := 929) (g := F0 m pc ls ((As.reverse ++ .ref k :: rest).map (cv ad))) (As := As.map (cv ad)) (rest := rest.map (cv ad)) (b := ad k) ⟨hx, hb, hml, hown, hts⟩ (hct l D cI ad) cw ⟨bw_blind, va_recv hK hP hc ((wld_at hk).trans (by rw [ent_obj hs])), fun U hU hW => ⟨rfl, by rw [hU]; exact hP, va_K.moved hW.alike hK, law_nsl hW hU hS hA hN hLL hLR, hI⟩⟩ rfl (by simp) hL.1 (by simp [cv]) (lv_room (by rw [cv_sum]; exact hsum)) hd ⟨by show 55 + 0 ≤ 600000; omega, by show 929 + 0 ≤ 7302250; omega⟩
  intro T hT X
  obtain ⟨v, st₀, t, T', Lo, h0, X', hLo, e1, e2, ⟨⟨r, σ', hv, hp, hP'⟩, hz, hq⟩, stp⟩ := hr2 T hT X
  cases hv
  rw [h0] at hz hq
  have hAd : ∀ q, Aad ad q → s.heap.size ≤ q := fun q ⟨k, hk, e⟩ => by rw [e]; exact hA k hk
  obtain ⟨t2, a1, b1⟩ := kk r σ' hp T'.heap (locs ++ Lo) ls (by rw [e1]; exact hP')
    ⟨Nat.le_trans hS.1 (by rw [e1]; exact hz), fun q h1 h2 => by rw [e1, hq q (Nat.lt_of_lt_of_le h1 hS.1) (fun z => h2 (hAd q z))]; exact hS.2.1 q h1 h2, fun q hq2 => by
      rcases List.mem_append.mp hq2 with h | h
      · exact hS.2.2 q h
      · exact hAd _ (hLo q h)⟩ hL T' rfl X'
  refine ⟨t2, stp t2 ?_, b1⟩
  have e : (r.map (cv ad)).toList ++ rest.map (cv ad) = (r.toList ++ rest).map (cv ad) := by cases r <;> rfl
  rw [e]
  exact a1
theorem l_ret (C : Lx X) (hd : decode code pc = .ok (.ireturn, 1)) : LV X pc lv [.int 1] σ := by
  obtain ⟨p, l, e, s, m, below, meth, c, D, cI, ad, b, L, xs⟩ := X
  obtain ⟨hx, hb, hml, hr, hown, hts, hN, hK, hI, hA, hLL, hLR, hX, hbl, hab, hlk⟩ := C
  intro H locs ls hP hS hL
  refine va_forget hS.2.2 ?_
  refine W.widen (k := 600000) (n := 7302250) (Nat.le_of_ble_eq_true rfl) (Nat.le_of_ble_eq_true rfl) ?_
  exact lw_ret hx hb hr hlk hd
/-- a state may be told otherwise, beyond what its rows and fields are -/
def Agr (σ τ : St) : Prop := ∀ k, k < NC → match shp k with
  | .inl (_, fl) => ∀ j, j < fl.length → τ k j = σ k j
  | .inr N => ∀ j, j < N → τ k j = σ k j
theorem arrV_ext (cI : ClassId) {N : Nat} {f g : Nat → Value} (h : ∀ j, j < N → f j = g j) : arrV cI N f = arrV cI N g := by
  unfold arrV
  congr 1
  apply Array.ext
  · simp
  · intro i h1 h2
    simp only [Array.getElem_ofFn]
    exact h i (by simpa using h1)
theorem wld_agr {D : va_G} {cI : ClassId} {ad : Nat → Nat} {σ τ : St} {H : Heap} (h : Agr σ τ) (hP : va_P D clss (wld ad cI σ) H) : va_P D clss (wld ad cI τ) H := by
  intro k q hq
  obtain ⟨hk, rfl⟩ := wld_inv hq
  have h0 := hP k _ (wld_at hk)
  have hs := h k hk
  cases e : shp k with
  | inl o =>
    obtain ⟨ci, fl⟩ := o
    rw [e] at hs
    have e2 : ent ad cI τ k = ent ad cI σ k := by
      rw [ent_obj e, ent_obj e]
      congr 2
      apply List.map_congr_left
      intro j hj
      have := hs j (List.mem_range.mp hj)
      cases fl.getD j none <;> simp [fv, this]
    rw [e2]; exact h0
  | inr N =>
    rw [e] at hs
    rw [ent_arr e] at h0 ⊢
    show H[ad k]? = some (arrV cI N (fun j => .int (τ k j)))
    have h1 : H[ad k]? = some (arrV cI N (fun j => .int (σ k j))) := h0
    rw [h1]
    exact congrArg some (arrV_ext cI (fun j hj => congrArg Value.int (hs j hj).symm))
theorem LV.agr (h : Agr σ σ') (kk : LV X pc lv st σ') : LV X pc lv st σ := by
  obtain ⟨p, l, e, s, m, below, meth, c, D, cI, ad, b, L, xs⟩ := X
  intro H locs ls hP hS hL
  exact kk H locs ls (wld_agr h hP) hS hL
theorem lI {v : Int32} (k : LV X pc lv (.int v :: rest) σ') : ∀ r τ, fI v σ' r τ → LV X pc lv (r.toList ++ rest) τ := by
  rintro r τ ⟨rfl, rfl⟩; exact k
theorem lrI {post : Int32 → St → Prop} (k : ∀ v τ, post v τ → LV X pc lv (.int v :: rest) τ) : ∀ r τ, rI post r τ → LV X pc lv (r.toList ++ rest) τ := by
  rintro r τ ⟨v, rfl, h⟩; exact k v τ h
end LROWS
