/-! the law begins: from its entry to the head of its loop -/
set_option maxRecDepth 100000 in
set_option maxHeartbeats 4000000 in
theorem law_begin {p : Program} {e : Env} {s : State} {m : MethodId} {below : List Frame} {meth : Method} {c : Code} (l : Launch) {b L : Nat} {xs : Nat → Int32} (C0 : lw_At p s m meth c b L xs)
    (kk : ∀ X : LxT, Lx X → lenX X = L → scrX X = xs → LV X 18 [(3, .int 0), (2, .ref 0), (1, .ref 18), (0, .ref 400)] [] σ0) : W p l e room_1 s m #[Value.ref b] below meth c s.heap [] 0 0 (lw_Z below #[Value.ref b] s) (entryFrame m ([Value.ref b] : List Value).toArray 4) := by
  obtain ⟨hx, hb, hr, hml, hown, hts, hX, hbl, hlocks, hgv⟩ := id C0
  obtain ⟨c0, iS0, hKn0⟩ := u_known (C := RX6) (T := TX6) (N := 28) (n := 28) hts (fun w hw => big_sub (hinX6 w hw)) (hts (.instantiable RX6 28) (big_sub uiX6))
  obtain ⟨c1, iS1, hKn1⟩ := u_known (C := RX0) (T := TX0) (N := 10) (n := 10) hts (fun w hw => big_sub (hinX0 w hw)) (hts (.instantiable RX0 10) (big_sub uiX0))
  obtain ⟨c2, iS2, hKn2⟩ := u_known (C := RX1) (T := TX1) (N := 5) (n := 5) hts (fun w hw => big_sub (hinX1 w hw)) (hts (.instantiable RX1 5) (big_sub uiX1))
  obtain ⟨c3, iS3, hKn3⟩ := u_known (C := RX2) (T := TX2) (N := 2) (n := 2) hts (fun w hw => big_sub (hinX2 w hw)) (hts (.instantiable RX2 2) (big_sub uiX2))
  obtain ⟨c4, iS4, hKn4⟩ := u_known (C := RX3) (T := TX3) (N := 9) (n := 9) hts (fun w hw => big_sub (hinX3 w hw)) (hts (.instantiable RX3 9) (big_sub uiX3))
  obtain ⟨c5, iS5, hKn5⟩ := u_known (C := RX4) (T := TX4) (N := 2) (n := 2) hts (fun w hw => big_sub (hinX4 w hw)) (hts (.instantiable RX4 2) (big_sub uiX4))
  obtain ⟨c6, iS6, hKn6⟩ := u_known (C := RX5) (T := TX5) (N := 9) (n := 9) hts (fun w hw => big_sub (hinX5 w hw)) (hts (.instantiable RX5 9) (big_sub uiX5))
  obtain ⟨dC, dI, hKc⟩ : ∃ (dC : Nat → ClassId) (dI : Nat → Nat → Nat), ∀ (k : Nat) (q : vw_C), clss[k]? = some q → u_Kn s q.1 q.2.1 q.2.2 (dC k) (dI k) := by
    refine ⟨fun k => if k = 0 then c0 else if k = 1 then c1 else if k = 2 then c2 else if k = 3 then c3 else if k = 4 then c4 else if k = 5 then c5 else c6, fun k => if k = 0 then iS0 else if k = 1 then iS1 else if k = 2 then iS2 else if k = 3 then iS3 else if k = 4 then iS4 else if k = 5 then iS5 else iS6, ?_⟩
    intro k q hq
    match k, hq with
    | 0, hq => cases hq; exact hKn0
    | 1, hq => cases hq; exact hKn1
    | 2, hq => cases hq; exact hKn2
    | 3, hq => cases hq; exact hKn3
    | 4, hq => cases hq; exact hKn4
    | 5, hq => cases hq; exact hKn5
    | 6, hq => cases hq; exact hKn6
    | k + 7, hq => simp [clss] at hq
  obtain ⟨cI, kA, comp, hf1, hf2, hf3⟩ := Cond.arrayClass_spec (type := .int) (hts _ (big_sub uw_ac))
  have hK : va_K (dC, dI) clss [(cI, .int)] s := ⟨hKc, fun k q h => by
    match k, h with
    | 0, h => cases h; exact ⟨fun n z => ⟨fun k h => (by cases h), kA, hf2, comp, hf3⟩, hf1⟩
    | k + 1, h => simp at h⟩
  have hN : nst s := fun w hw => by
    have h1 := (List.mem_filter.mp hw).1
    have h2 := (List.mem_filter.mp hw).2
    have h3 := hts w (List.mem_append_right _ h1)
    cases w <;> first | exact va_Nw.of rfl h3 | simp [isNst] at h2
  obtain ⟨adK, adV, fm, hlS, hlR, hlZ, hlF⟩ := law_lit hts hgv
  have hA : ∀ q : Nat, s.heap.size ≤ q → (fun q : Nat => s.heap.size ≤ q) q := fun _ h => h
  have C : Ux (p, l, e, room_1, s, m, #[Value.ref b], below, meth, c, (dC, dI), cI, (fun q : Nat => s.heap.size ≤ q), 4, lw_Z below #[Value.ref b] s) RL code 4 room_1 := ⟨hx, hb, hml, rfl, rfl, hown, fun w hw => hts w (big_sub hw), hN, hK, hA⟩
  have hl := lv_entry ([.ref b]) (n := 4) (Nat.le_of_ble_eq_true rfl)
  rw [lg_entry_eq]
  suffices h : U (p, l, e, room_1, s, m, #[Value.ref b], below, meth, c, (dC, dI), cI, (fun q : Nat => s.heap.size ≤ q), 4, lw_Z below #[Value.ref b] s) 0 [(0, .ref b)] [] [] 0 0 from
    h s.heap [] _ (fun k q h => by simp at h) ⟨fun i j p q h => by simp at h, fun k q h => by simp at h⟩ va_S.rf hl
  have hC2 : (UcI (p, l, e, room_1, s, m, #[Value.ref b], below, meth, c, (dC, dI), cI, (fun q : Nat => s.heap.size ≤ q), 4, lw_Z below #[Value.ref b] s)) = cI := rfl
  generalize eX : (p, l, e, room_1, s, m, #[Value.ref b], below, meth, c, (dC, dI), cI, (fun q : Nat => s.heap.size ≤ q), 4, lw_Z below #[Value.ref b] s) = X at C hC2 ⊢
  refine u_new (ci := 6) (fs := [.null, .null, .null, .int 0, .null, .null, .null, .null, .null]) C rfl hinX5 tyX5_ok lcX5 uiX5 uzX5 (fun j hj => by rcases (show j = 0 ∨ j = 1 ∨ j = 2 ∨ j = 3 ∨ j = 4 ∨ j = 5 ∨ j = 6 ∨ j = 7 ∨ j = 8 by omega) with rfl | rfl | rfl | rfl | rfl | rfl | rfl | rfl | rfl <;> rfl) (Nat.le_of_ble_eq_true rfl) (Nat.le_of_ble_eq_true rfl) dL_law_0 rfl (fun a5 => ?_)
  refine u_dup C dL_law_3 rfl rfl ?_
  refine u_callP (rm := { frames := 2, cells := 36, slots := 327, locals := 100 }) (As := []) (rest := [.ref a5]) (wc := [(a5, .inr (6, [.null, .null, .null, .int 0, .null, .null, .null, .null, .null]))]) (wr := []) (S := Nat → Nat) (out := wX5 (UcI X) a5) C [0] [] (by decide) (fun D => cgX5_init (UcI X) D a5) rfl rfl (by decide) (by decide) rfl (Nat.le_of_ble_eq_true rfl) (Nat.le_of_ble_eq_true rfl) (Nat.le_of_ble_eq_true rfl) (Nat.le_of_ble_eq_true rfl) lmX5 ufX5 rfl udX5 (Nat.le_of_ble_eq_true rfl) dL_law_4 rfl (fun u5 => ?_)
  refine u_astore_n (lv' := [(1, .ref a5), (0, .ref b)]) C dL_law_7 rfl (Nat.le_of_ble_eq_true rfl) rfl rfl ?_
  refine u_new (ci := 0) (fs := [.null, .null, .null, .null, .null, .null, .null, .null, .int 0, .int 0, .int 0, .null, .null, .null, .null, .int 0, .int 0, .int 0, .null, .int 0, .int 0, .int 0, .null, .int 0, .null, .null, .null, .int 0]) C rfl hinX6 tyX6_ok lcX6 uiX6 uzX6 (fun j hj => by rcases (show j = 0 ∨ j = 1 ∨ j = 2 ∨ j = 3 ∨ j = 4 ∨ j = 5 ∨ j = 6 ∨ j = 7 ∨ j = 8 ∨ j = 9 ∨ j = 10 ∨ j = 11 ∨ j = 12 ∨ j = 13 ∨ j = 14 ∨ j = 15 ∨ j = 16 ∨ j = 17 ∨ j = 18 ∨ j = 19 ∨ j = 20 ∨ j = 21 ∨ j = 22 ∨ j = 23 ∨ j = 24 ∨ j = 25 ∨ j = 26 ∨ j = 27 by omega) with rfl | rfl | rfl | rfl | rfl | rfl | rfl | rfl | rfl | rfl | rfl | rfl | rfl | rfl | rfl | rfl | rfl | rfl | rfl | rfl | rfl | rfl | rfl | rfl | rfl | rfl | rfl | rfl <;> rfl) (Nat.le_of_ble_eq_true rfl) (Nat.le_of_ble_eq_true rfl) dL_law_8 rfl (fun a6 => ?_)
  refine u_dup C dL_law_11 rfl rfl ?_
  refine u_callP (rm := { frames := 1, cells := 17, slots := 565, locals := 60 }) (As := []) (rest := [.ref a6]) (wc := [(a6, .inr (0, [.null, .null, .null, .null, .null, .null, .null, .null, .int 0, .int 0, .int 0, .null, .null, .null, .null, .int 0, .int 0, .int 0, .null, .int 0, .int 0, .int 0, .null, .int 0, .null, .null, .null, .int 0]))]) (wr := wX5 (UcI X) a5 u5) (S := Nat → Nat) (out := wX6 (UcI X) a6) C [37] (List.range 37) (by decide) (fun D => cgX6_init (UcI X) D a6) rfl rfl (by decide) (by decide) rfl (Nat.le_of_ble_eq_true rfl) (Nat.le_of_ble_eq_true rfl) (Nat.le_of_ble_eq_true rfl) (Nat.le_of_ble_eq_true rfl) lmX6 ufX6 rfl udX6 (Nat.le_of_ble_eq_true rfl) dL_law_12 rfl (fun u6 => ?_)
  refine u_astore_n (lv' := [(2, .ref a6), (1, .ref a5), (0, .ref b)]) C dL_law_15 rfl (Nat.le_of_ble_eq_true rfl) rfl rfl ?_
  refine u_iconst (v := 0) C dL_law_16 (by decide) rfl ?_
  refine u_istore_n (lv' := [(3, .int 0), (2, .ref a6), (1, .ref a5), (0, .ref b)]) C dL_law_17 rfl (Nat.le_of_ble_eq_true rfl) rfl rfl ?_
  rw [hC2]
  subst eX
  intro H locs ls hP hD hS hL
  have hw := wld_0 cI a6 a5 u6 u5 adK adV fm b
  have hP2 := hP.sub _ (fm_of hw)
  have hD2 := hD.sub _ (by decide) hw
  have hI : inj (adF a6 a5 u6 u5 adK adV fm b) := fun i j hi hj he => hD2.1 i j _ _ (wld_at hi) (wld_at hj) he
  have hAd : ∀ k : Nat, k < NC → s.heap.size ≤ adF a6 a5 u6 u5 adK adV fm b k := fun k hk => hD2.2 k _ (wld_at hk)
  have hLL : LitL (adF a6 a5 u6 u5 adK adV fm b) (fun q : Nat => s.heap.size ≤ q) s s.heap := ⟨⟨fun i hi => by dsimp only; rw [ad_K _ _ _ _ _ _ _ _ hi, ad_V _ _ _ _ _ _ _ _ hi]; exact hlS.1 i hi, fun i j hi hj h => hlS.2 i j hi hj (by dsimp only at h; rw [ad_K _ _ _ _ _ _ _ _ hi, ad_K _ _ _ _ _ _ _ _ hj] at h; exact h)⟩, hlZ, hlF⟩
  have hLR : LitR (adF a6 a5 u6 u5 adK adV fm b) s := fun i hi => by rw [ad_K _ _ _ _ _ _ _ _ hi]; exact hlR i hi
  exact kk (p, l, e, s, m, below, meth, c, (dC, dI), cI, adF a6 a5 u6 u5 adK adV fm b, b, L, xs) ⟨hx, hb, hml, hr, hown, fun w hw => hts w (big_sub hw), hN, hK, hI, hAd, hLL, hLR, hX, hbl, rfl, hlocks⟩ rfl rfl H locs ls hP2 hS hL
