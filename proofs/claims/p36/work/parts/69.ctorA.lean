/-! the constructors: words -/
theorem uw_ac : Cond.arrayClass .int ∈ BIG := big_of (List.mem_of_getElem? (i := 179) (by decide +kernel)) (by decide +kernel)
theorem uw_oi : Cond.instanceMethod objectInit ∈ BIG := big_of (List.mem_of_getElem? (i := 123) (by decide +kernel)) (by decide +kernel)
theorem uw_oc : Cond.code objectInit ⟨#[0xb1]⟩ 1 none ∈ BIG := big_of (List.mem_of_getElem? (i := 124) (by decide +kernel)) (by decide +kernel)
theorem uoX0 : Cond.methodLink RX0 3 objectInit ∈ BIG := big_of (List.mem_of_getElem? (i := 130) (by decide +kernel)) (by decide +kernel)
theorem uoX1 : Cond.methodLink RX1 3 objectInit ∈ BIG := big_of (List.mem_of_getElem? (i := 213) (by decide +kernel)) (by decide +kernel)
theorem uoX2 : Cond.methodLink RX2 3 objectInit ∈ BIG := big_of (List.mem_of_getElem? (i := 199) (by decide +kernel)) (by decide +kernel)
theorem uoX3 : Cond.methodLink RX3 3 objectInit ∈ BIG := big_of (List.mem_of_getElem? (i := 236) (by decide +kernel)) (by decide +kernel)
theorem uoX4 : Cond.methodLink RX4 3 objectInit ∈ BIG := big_of (List.mem_of_getElem? (i := 185) (by decide +kernel)) (by decide +kernel)
theorem uoX5 : Cond.methodLink RX5 1 objectInit ∈ BIG := big_of (List.mem_of_getElem? (i := 122) (by decide +kernel)) (by decide +kernel)
theorem uoX6 : Cond.methodLink RX6 1 objectInit ∈ BIG := big_of (List.mem_of_getElem? (i := 844) (by decide +kernel)) (by decide +kernel)
theorem uzX5 : Cond.initialized RX5 ∈ BIG := big_of (List.mem_of_getElem? (i := 103) (by decide +kernel)) (by decide +kernel)
theorem uzX0 : Cond.initialized RX0 ∈ BIG := big_of (List.mem_of_getElem? (i := 104) (by decide +kernel)) (by decide +kernel)
theorem uzX4 : Cond.initialized RX4 ∈ BIG := big_of (List.mem_of_getElem? (i := 106) (by decide +kernel)) (by decide +kernel)
theorem uzX2 : Cond.initialized RX2 ∈ BIG := big_of (List.mem_of_getElem? (i := 107) (by decide +kernel)) (by decide +kernel)
theorem uzX1 : Cond.initialized RX1 ∈ BIG := big_of (List.mem_of_getElem? (i := 108) (by decide +kernel)) (by decide +kernel)
theorem uzX3 : Cond.initialized RX3 ∈ BIG := big_of (List.mem_of_getElem? (i := 109) (by decide +kernel)) (by decide +kernel)
theorem uzX6 : Cond.initialized RX6 ∈ BIG := big_of (List.mem_of_getElem? (i := 110) (by decide +kernel)) (by decide +kernel)
theorem uiX5 : Cond.instantiable RX5 9 ∈ BIG := big_of (List.mem_of_getElem? (i := 118) (by decide +kernel)) (by decide +kernel)
theorem ucX0 : Cond.classLink RX5 7 RX0 ∈ BIG := big_of (List.mem_of_getElem? (i := 125) (by decide +kernel)) (by decide +kernel)
theorem uiX0 : Cond.instantiable RX0 10 ∈ BIG := big_of (List.mem_of_getElem? (i := 126) (by decide +kernel)) (by decide +kernel)
theorem ucX4 : Cond.classLink RX5 26 RX4 ∈ BIG := big_of (List.mem_of_getElem? (i := 180) (by decide +kernel)) (by decide +kernel)
theorem uiX4 : Cond.instantiable RX4 2 ∈ BIG := big_of (List.mem_of_getElem? (i := 181) (by decide +kernel)) (by decide +kernel)
theorem ucX2 : Cond.classLink RX5 33 RX2 ∈ BIG := big_of (List.mem_of_getElem? (i := 194) (by decide +kernel)) (by decide +kernel)
theorem uiX2 : Cond.instantiable RX2 2 ∈ BIG := big_of (List.mem_of_getElem? (i := 195) (by decide +kernel)) (by decide +kernel)
theorem ucX1 : Cond.classLink RX5 40 RX1 ∈ BIG := big_of (List.mem_of_getElem? (i := 208) (by decide +kernel)) (by decide +kernel)
theorem uiX1 : Cond.instantiable RX1 5 ∈ BIG := big_of (List.mem_of_getElem? (i := 209) (by decide +kernel)) (by decide +kernel)
theorem ucX3 : Cond.classLink RX5 49 RX3 ∈ BIG := big_of (List.mem_of_getElem? (i := 231) (by decide +kernel)) (by decide +kernel)
theorem uiX3 : Cond.instantiable RX3 9 ∈ BIG := big_of (List.mem_of_getElem? (i := 232) (by decide +kernel)) (by decide +kernel)
theorem uiX6 : Cond.instantiable RX6 28 ∈ BIG := big_of (List.mem_of_getElem? (i := 840) (by decide +kernel)) (by decide +kernel)
theorem ufX0 : Cond.instanceMethod yX0_init ∈ BIG ∧ Cond.initialized yX0_init.cls ∈ BIG ∧ Cond.code yX0_init cX0_init 1 none ∈ BIG := ⟨big_of (List.mem_of_getElem? (i := 128) (by decide +kernel)) (by decide +kernel), big_of (List.mem_of_getElem? (i := 104) (by decide +kernel)) (by decide +kernel), big_of (List.mem_of_getElem? (i := 129) (by decide +kernel)) (by decide +kernel)⟩
theorem udX0 : dOK yX0_init 0 := by unfold dOK; decide +kernel
theorem ufX1 : Cond.instanceMethod yX1_init ∈ BIG ∧ Cond.initialized yX1_init.cls ∈ BIG ∧ Cond.code yX1_init cX1_init 2 none ∈ BIG := ⟨big_of (List.mem_of_getElem? (i := 211) (by decide +kernel)) (by decide +kernel), big_of (List.mem_of_getElem? (i := 108) (by decide +kernel)) (by decide +kernel), big_of (List.mem_of_getElem? (i := 212) (by decide +kernel)) (by decide +kernel)⟩
theorem udX1 : dOK yX1_init 1 := by unfold dOK; decide +kernel
theorem ufX2 : Cond.instanceMethod yX2_init ∈ BIG ∧ Cond.initialized yX2_init.cls ∈ BIG ∧ Cond.code yX2_init cX2_init 1 none ∈ BIG := ⟨big_of (List.mem_of_getElem? (i := 197) (by decide +kernel)) (by decide +kernel), big_of (List.mem_of_getElem? (i := 107) (by decide +kernel)) (by decide +kernel), big_of (List.mem_of_getElem? (i := 198) (by decide +kernel)) (by decide +kernel)⟩
theorem udX2 : dOK yX2_init 0 := by unfold dOK; decide +kernel
theorem ufX3 : Cond.instanceMethod yX3_init ∈ BIG ∧ Cond.initialized yX3_init.cls ∈ BIG ∧ Cond.code yX3_init cX3_init 1 none ∈ BIG := ⟨big_of (List.mem_of_getElem? (i := 234) (by decide +kernel)) (by decide +kernel), big_of (List.mem_of_getElem? (i := 109) (by decide +kernel)) (by decide +kernel), big_of (List.mem_of_getElem? (i := 235) (by decide +kernel)) (by decide +kernel)⟩
theorem udX3 : dOK yX3_init 0 := by unfold dOK; decide +kernel
theorem ufX4 : Cond.instanceMethod yX4_init ∈ BIG ∧ Cond.initialized yX4_init.cls ∈ BIG ∧ Cond.code yX4_init cX4_init 1 none ∈ BIG := ⟨big_of (List.mem_of_getElem? (i := 183) (by decide +kernel)) (by decide +kernel), big_of (List.mem_of_getElem? (i := 106) (by decide +kernel)) (by decide +kernel), big_of (List.mem_of_getElem? (i := 184) (by decide +kernel)) (by decide +kernel)⟩
theorem udX4 : dOK yX4_init 0 := by unfold dOK; decide +kernel
theorem ufX5 : Cond.instanceMethod yX5_init ∈ BIG ∧ Cond.initialized yX5_init.cls ∈ BIG ∧ Cond.code yX5_init cX5_init 1 none ∈ BIG := ⟨big_of (List.mem_of_getElem? (i := 120) (by decide +kernel)) (by decide +kernel), big_of (List.mem_of_getElem? (i := 103) (by decide +kernel)) (by decide +kernel), big_of (List.mem_of_getElem? (i := 121) (by decide +kernel)) (by decide +kernel)⟩
theorem udX5 : dOK yX5_init 0 := by unfold dOK; decide +kernel
theorem ufX6 : Cond.instanceMethod yX6_init ∈ BIG ∧ Cond.initialized yX6_init.cls ∈ BIG ∧ Cond.code yX6_init cX6_init 2 none ∈ BIG := ⟨big_of (List.mem_of_getElem? (i := 842) (by decide +kernel)) (by decide +kernel), big_of (List.mem_of_getElem? (i := 110) (by decide +kernel)) (by decide +kernel), big_of (List.mem_of_getElem? (i := 843) (by decide +kernel)) (by decide +kernel)⟩
theorem udX6 : dOK yX6_init 0 := by unfold dOK; decide +kernel
theorem unX0 : Cond.methodLinkNest RX5 9 yX0_init "BlameIsFurniture" ∈ NST := nst_of (List.mem_of_getElem? (i := 25) (by decide +kernel)) rfl
theorem unX4 : Cond.methodLinkNest RX5 28 yX4_init "BlameIsFurniture" ∈ NST := nst_of (List.mem_of_getElem? (i := 80) (by decide +kernel)) rfl
theorem unX2 : Cond.methodLinkNest RX5 35 yX2_init "BlameIsFurniture" ∈ NST := nst_of (List.mem_of_getElem? (i := 94) (by decide +kernel)) rfl
theorem unX1 : Cond.methodLinkNest RX5 42 yX1_init "BlameIsFurniture" ∈ NST := nst_of (List.mem_of_getElem? (i := 108) (by decide +kernel)) rfl
theorem unX3 : Cond.methodLinkNest RX5 51 yX3_init "BlameIsFurniture" ∈ NST := nst_of (List.mem_of_getElem? (i := 131) (by decide +kernel)) rfl
theorem u_alen {X : UxT} {own : String} {cc : ByteArray} {nl : Nat} {R0 : Room} {pc pc' : Nat} {lv : List (Nat × Value)} {st : List Value} {ws : va_W} {k n : Nat} (C : Ux X own cc nl R0) {q0 a N : Nat} {f : Nat → Int32} (he : ws[q0]? = some (a, .inl (UcI X, N, .inl f))) (hN : N < 1000) (hd : decode cc pc = .ok (.arraylength, 1)) (hn : pc + 1 = pc') (kk : U X pc' lv (.int (nI N) :: st) ws k n) : U X pc lv (.ref a :: st) ws k n := by
  obtain ⟨p, l, e, R, s, m, args, below, meth, c, D, cI, A, nL, Q⟩ := X
  subst hn
  intro H locs ls hP hD hS hL
  exact va_alen (ws := ws) C.1 C.2.1 C.2.2.2.2.2.2.2.2.1 hP q0 0 he rfl rfl hd (kk H locs ls hP hD hS hL)
theorem cg_fill (cI : ClassId) (D : va_G) (a N : Nat) (hN : N < 1000) (v : Int32) (f : Nat → Int32) : Cg yJ7_fill_53178 cJ7_fill_53178 4 { frames := 0, cells := 0, slots := 0, locals := 0 } [.ref a, .int v] cI D [(a, .inl (cI, N, .inl f))] (fun _ : Unit => [(a, .inl (cI, N, .inl (pre N (fun _ => v) f)))]) := by
  refine cg_of plJ7 (Nat.le_of_ble_eq_true rfl) (fun X hcI hret C hI => ?_)
  subst hcI
  show U X 0 [(0, .ref a), (1, .int v)] [] [(a, .inl (UcI X, N, .inl f))] 0 0
  refine u_iconst (v := 0) C dJ7_fill_53178_0 (by decide) rfl ?_
  refine u_istore_n (lv' := [(2, .int 0), (0, .ref a), (1, .int v)]) C dJ7_fill_53178_1 rfl (Nat.le_of_ble_eq_true rfl) rfl rfl ?_
  refine u_aload_n C dJ7_fill_53178_2 rfl rfl rfl ?_
  refine u_alen (q0 := 0) C rfl hN dJ7_fill_53178_3 rfl ?_
  refine u_istore_n (lv' := [(3, .int (nI N)), (2, .int 0), (0, .ref a), (1, .int v)]) C dJ7_fill_53178_4 rfl (Nat.le_of_ble_eq_true rfl) rfl rfl ?_
  have lp : ∀ (kf i : Nat), N < i + kf → i ≤ N → U X 5 [(3, .int (nI N)), (2, .int (nI i)), (0, .ref a), (1, .int v)] [] [(a, .inl (UcI X, N, .inl (pre i (fun _ => v) f)))] 0 0 := by
    intro kf
    induction kf with
    | zero => intro i h1 h2; omega
    | succ kf ih =>
      intro i h1 h2
      refine u_iload_n C dJ7_fill_53178_5 rfl rfl rfl ?_
      refine u_iload_n C dJ7_fill_53178_6 rfl rfl rfl ?_
      refine u_icmp_ge (tgt := 20) C dJ7_fill_53178_7 (by decide) rfl (fun c => ?_) (fun c => ?_)
      · have c := mt (nI_ltI (a := i) (b := N) (by omega) (by omega)).mpr c
        have e : i = N := by omega
        subst e
        exact hret 20 _ () dJ7_fill_53178_20
      · have c := (nI_ltI (a := i) (b := N) (by omega) (by omega)).mp c
        refine u_aload_n C dJ7_fill_53178_10 rfl rfl rfl ?_
        refine u_iload_n C dJ7_fill_53178_11 rfl rfl rfl ?_
        refine u_iload_n C dJ7_fill_53178_12 rfl rfl rfl ?_
        refine u_iast (q0 := 0) (N := N) (i := i) (f := pre i (fun _ => v) f) C rfl rfl c hN dJ7_fill_53178_13 rfl rfl ?_
        refine u_iinc (lv' := [(2, .int (nI (i + 1))), (3, .int (nI N)), (0, .ref a), (1, .int v)]) C dJ7_fill_53178_14 rfl (nI_inc i) (Nat.le_of_ble_eq_true rfl) rfl rfl ?_
        refine u_goto (tgt := 5) C dJ7_fill_53178_17 (by decide) ?_
        refine U.sub [1, 0, 2, 3] rfl (U.wso ?_ (ih (i + 1) (by omega) (by omega)))
        have e : upd (pre i (fun _ => v) f) i v = pre (i + 1) (fun _ => v) f := by
          funext j
          unfold upd pre
          by_cases c1 : j = i
          · rw [if_pos c1, if_pos (by omega)]
          · rw [if_neg c1]
            by_cases c2 : j < i
            · rw [if_pos c2, if_pos (by omega)]
            · rw [if_neg c2, if_neg (by omega)]
        show [(a, _)] = _
        rw [e]
  exact U.sub [0, 1, 2, 3] rfl (U.wso (by
    rw [show pre 0 (fun _ => v) f = f from by funext j; unfold pre; rw [if_neg (Nat.not_lt_zero j)]]) (lp (N + 1) 0 (by omega) (Nat.zero_le N)))
theorem ufill : Cond.methodLink RX0 43 yJ7_fill_53178 ∈ BIG := big_of (List.mem_of_getElem? (i := 131) (by decide +kernel)) (by decide +kernel)
