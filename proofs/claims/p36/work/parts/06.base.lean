/-! what an answer is, and how a call's answer goes on -/
section BASE
variable {X : CxT} {pc : Nat} {lv lv' : List (Nat × Value)} {st rest : List Value} {σ σ' : St}
theorem V.top {x : Int32} (k : ∀ y, y = x → V X pc lv (.int y :: st) σ) : V X pc lv (.int x :: st) σ := k x rfl
theorem V.nm (k : ∀ τ, τ = σ → V X pc lv st τ) : V X pc lv st σ := k σ rfl
theorem V.eqs (e : σ = σ') (k : V X pc lv st σ') : V X pc lv st σ := e ▸ k
theorem V.tp {x y : Int32} (e : x = y) (k : V X pc lv (.int y :: st) σ) : V X pc lv (.int x :: st) σ := e ▸ k
theorem V.lvs (e : lv = lv') (k : V X pc lv' st σ) : V X pc lv st σ := e ▸ k
end BASE
noncomputable def bI (p : Prop) : Int32 := @ite _ p (Classical.propDecidable p) 1 0
theorem bI_0 {p : Prop} (h : bI p = 0) : ¬ p := fun q => by simp [bI, q] at h
theorem bI_n {p : Prop} (h : ¬ bI p = 0) : p := by
  by_cases q : p
  · exact q
  · simp [bI, q] at h
theorem bI_t {p : Prop} (h : p) : (1 : Int32) = bI p := by simp [bI, h]
theorem bI_f {p : Prop} (h : ¬ p) : (0 : Int32) = bI p := by simp [bI, h]
theorem bI_nar {p : Prop} : narrow .boolean (.int (bI p)) = .int (bI p) := by
  by_cases q : p
  · simp only [bI, if_pos q]; rfl
  · simp only [bI, if_neg q]; rfl
def fI (v : Int32) (σ' : St) : Option Value → St → Prop := fun r τ => r = some (.int v) ∧ τ = σ'
def fV (σ' : St) : Option Value → St → Prop := fun r τ => r = none ∧ τ = σ'
def fR (k : Nat) (σ' : St) : Option Value → St → Prop := fun r τ => r = some (.ref k) ∧ τ = σ'
def rI (post : Int32 → St → Prop) : Option Value → St → Prop := fun r τ => ∃ v, r = some (.int v) ∧ post v τ
def rV (post : St → Prop) : Option Value → St → Prop := fun r τ => r = none ∧ post τ
theorem fI_of {v w : Int32} {σ τ : St} (h : v = w) (e : σ = τ) : fI w τ (some (.int v)) σ := ⟨by rw [h], e⟩
theorem fV_of {σ τ : St} (e : σ = τ) : fV τ none σ := ⟨rfl, e⟩
section BASE2
variable {X : CxT} {pc : Nat} {lv lv' : List (Nat × Value)} {st rest : List Value} {σ σ' : St}
theorem kI {v : Int32} (k : V X pc lv (.int v :: rest) σ') : ∀ r τ, fI v σ' r τ → V X pc lv (r.toList ++ rest) τ := by
  rintro r τ ⟨rfl, rfl⟩; exact k
theorem kV (k : V X pc lv rest σ') : ∀ r τ, fV σ' r τ → V X pc lv (r.toList ++ rest) τ := by
  rintro r τ ⟨rfl, rfl⟩; exact k
theorem kR {j : Nat} (k : V X pc lv (.ref j :: rest) σ') : ∀ r τ, fR j σ' r τ → V X pc lv (r.toList ++ rest) τ := by
  rintro r τ ⟨rfl, rfl⟩; exact k
theorem krI {post : Int32 → St → Prop} (k : ∀ v τ, post v τ → V X pc lv (.int v :: rest) τ) : ∀ r τ, rI post r τ → V X pc lv (r.toList ++ rest) τ := by
  rintro r τ ⟨v, rfl, h⟩; exact k v τ h
theorem krV {post : St → Prop} (k : ∀ τ, post τ → V X pc lv rest τ) : ∀ r τ, rV post r τ → V X pc lv (r.toList ++ rest) τ := by
  rintro r τ ⟨rfl, h⟩; exact k τ h
end BASE2
theorem nI_inc (i : Nat) : nI i + Int32.ofInt 1 = nI (i + 1) := nI_1 i
theorem nI_lit (n : Nat) : (OfNat.ofNat n : Int32) = nI n := rfl
/-- a sum, and what a loop gathers -/
def sumN (f : Nat → Int32) : Nat → Int32
  | 0 => 0
  | i + 1 => sumN f i + f i
theorem sumN_congr {f g : Nat → Int32} {n : Nat} (h : ∀ i, i < n → f i = g i) : sumN f n = sumN g n := by
  induction n with
  | zero => rfl
  | succ n ih => simp only [sumN, ih (fun i hi => h i (by omega)), h n (by omega)]
theorem s2_get (σ : St) (k j : Nat) (v : Int32) (a b : Nat) : s2 σ k j v a b = if a = k ∧ b = j then v else σ a b := by
  unfold s2
  by_cases h : a = k
  · subst h; by_cases g : b = j <;> simp [upd, g]
  · simp [h]
theorem nI_lt_iff {a b : Nat} (ha : a < 2 ^ 31) (hb : b < 2 ^ 31) : nI a < nI b ↔ a < b := nI_ltI ha hb
