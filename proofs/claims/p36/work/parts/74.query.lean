/-! the questions: what each leaves, on both sides -/
theorem kx_cI {P : Prop} (σ : St) (v : Int32) : Kx σ (cI P σ (ansS σ v)) := by
  by_cases p : P
  · rw [cI_t p]; exact Kx.rf σ
  · rw [cI_f p]; exact Kx.ans σ v
theorem km_cI {P : Prop} (σ : St) (k : Nat) : Km σ (cI P σ (noS σ k)) := by
  by_cases p : P
  · rw [cI_t p]; exact Km.rf σ
  · rw [cI_f p]; exact Km.no σ k
section QRY
variable {σ : St} {n q u : Nat} {p r v w z f : Int32}
theorem qx_f {a : Int32} {τ' : St} (h : Kx σ τ') : ∀ r τ, fI a τ' r τ → r = some (.int a) ∧ Kx σ τ := by
  rintro r τ ⟨rfl, rfl⟩; exact ⟨rfl, h⟩
theorem qm_f {a : Int32} {τ' : St} (h : Km σ τ') : ∀ r τ, fI a τ' r τ → r = some (.int a) ∧ Km σ τ := by
  rintro r τ ⟨rfl, rfl⟩; exact ⟨rfl, h⟩
theorem qx_r {a : Int32} {P : St → Prop} (h : ∀ τ, P τ → Kx σ τ) : ∀ r τ, rI (fun r τ => r = a ∧ P τ) r τ → r = some (.int a) ∧ Kx σ τ := by
  rintro r τ ⟨x, rfl, rfl, e⟩; exact ⟨rfl, h τ e⟩
theorem qm_r {a : Int32} {P : St → Prop} (h : ∀ τ, P τ → Km σ τ) : ∀ r τ, rI (fun r τ => r = a ∧ P τ) r τ → r = some (.int a) ∧ Km σ τ := by
  rintro r τ ⟨x, rfl, rfl, e⟩; exact ⟨rfl, h τ e⟩
theorem kx_2a {A B : Prop} {τ : St} {x : Int32} {E : Prop} (hE : E → Kx σ τ) (h : (A ∧ τ = ansS σ x) ∨ (B ∧ E)) : Kx σ τ := by
  rcases h with ⟨_, e⟩ | ⟨_, e⟩
  · rw [e]; exact Kx.ans σ _
  · exact hE e
theorem km_2a {A B : Prop} {τ : St} {k : Nat} {E : Prop} (hE : E → Km σ τ) (h : (A ∧ τ = noS σ k) ∨ (B ∧ E)) : Km σ τ := by
  rcases h with ⟨_, e⟩ | ⟨_, e⟩
  · rw [e]; exact Km.no σ _
  · exact hE e
theorem kx_bla (σ : St) (r : Int32) : Kx σ (mBlaS σ r) := by
  unfold mBlaS
  split
  · exact Kx.rf σ
  · exact kx_cI σ _
theorem km_pie (σ : St) (n : Nat) (p w : Int32) : Km σ (pieS σ n p w) := by
  unfold pieS
  by_cases h : pieceP p (nI n)
  · rw [cI_t h]; split
    · exact Km.rf σ
    · exact Km.no σ 2
  · rw [cI_f h]; exact Km.no σ 1
theorem km_rf (σ : St) (v m : Int32) : Km σ (rfS σ v m) := by
  unfold rfS
  split
  · exact Km.no σ 4
  · split
    · exact Km.no σ 6
    · exact Km.rf σ
noncomputable def selX (σ : St) (n : Nat) (v : Int32) : Int32 := cI (v = 0 ∨ v = 1) (selH σ n v) (-2)
noncomputable def selY (σ : St) (n : Nat) (v : Int32) : Int32 := cI (v = 0 ∨ v = 1) (selA σ n v) (-2)
theorem qx_sell : ∀ r τ, rI (fun r τ => (¬ (v = 0 ∨ v = 1) ∧ r = -2 ∧ τ = ansS σ (-2)) ∨ ((v = 0 ∨ v = 1) ∧ r = selH σ n v ∧ Thk σ τ)) r τ → r = some (.int (selX σ n v)) ∧ Kx σ τ := by
  rintro r τ ⟨x, rfl, ⟨h, rfl, rfl⟩ | ⟨h, rfl, e⟩⟩
  · exact ⟨by rw [selX, cI_f h], Kx.ans σ _⟩
  · exact ⟨by rw [selX, cI_t h], Kx.thk e⟩
theorem qm_sell : ∀ r τ, rI (fun r τ => (¬ (v = 0 ∨ v = 1) ∧ r = -2 ∧ τ = noS σ 2) ∨ ((v = 0 ∨ v = 1) ∧ r = selA σ n v ∧ Sm σ τ)) r τ → r = some (.int (selY σ n v)) ∧ Km σ τ := by
  rintro r τ ⟨x, rfl, ⟨h, rfl, rfl⟩ | ⟨h, rfl, e⟩⟩
  · exact ⟨by rw [selY, cI_f h], Km.no σ _⟩
  · exact ⟨by rw [selY, cI_t h], Km.sm e⟩
end QRY
theorem rel_s19 {σ : St} {n q y t u : Nat} (R : RelE σ n q y t u) : Sm19 σ n := by
  obtain ⟨_, ⟨r1, r2, r3, r4, r5, r6, _⟩, S, _⟩ := R
  show Sml (σ 20) (σ 21) (σ 22) (σ 23) (σ 25) n
  rw [r1, r2, r3, r4, r6]; exact S
theorem rel_bls {σ : St} {n q y t u : Nat} (R : RelE σ n q y t u) : Bls (blH σ 19 n) n := fun p hp => by
  have := bla_b (pl := σ (19 + 5)) (rel_s19 R) R.1.1.2.1 hp
  exact ⟨this.1, by have := this.2; unfold blH; omega⟩
section LQ
variable {X : LxT} {pc : Nat} {lv : List (Nat × Value)} {rest : List Value} {σ : St}
theorem lqx {P : Option Value → St → Prop} {a : Int32} (h : ∀ r τ, P r τ → r = some (.int a) ∧ Kx σ τ) (k : ∀ τ, Kx σ τ → LV X pc lv (.int a :: rest) τ) : ∀ r τ, P r τ → LV X pc lv (r.toList ++ rest) τ := fun r τ hp => by
  obtain ⟨rfl, h2⟩ := h r τ hp
  exact k τ h2
theorem lqm {P : Option Value → St → Prop} {a : Int32} (h : ∀ r τ, P r τ → r = some (.int a) ∧ Km σ τ) (k : ∀ τ, Km σ τ → LV X pc lv (.int a :: rest) τ) : ∀ r τ, P r τ → LV X pc lv (r.toList ++ rest) τ := fun r τ hp => by
  obtain ⟨rfl, h2⟩ := h r τ hp
  exact k τ h2
end LQ
