/-! WHAT STAYS: rows of a state that a function of the walks leaves as they were (laid by wip/whole/gen/frames.py) -/
def Fr (W : List Nat) (σ τ : Sg) : Prop := ∀ k, k ∉ W → gI τ k = gI σ k ∧ gL τ k = gL σ k ∧ gR τ k = gR σ k
theorem Fr.rfl {W : List Nat} {σ : Sg} : Fr W σ σ := fun _ _ => ⟨Eq.refl _, Eq.refl _, Eq.refl _⟩
theorem Fr.trans {W : List Nat} {σ τ υ : Sg} (h : Fr W σ τ) (h' : Fr W τ υ) : Fr W σ υ := fun k hk => ⟨(h' k hk).1.trans (h k hk).1, (h' k hk).2.1.trans (h k hk).2.1, (h' k hk).2.2.trans (h k hk).2.2⟩
theorem Fr.mono {V W : List Nat} {σ τ : Sg} (h : Fr V σ τ) (hs : ∀ k ∈ V, k ∈ W) : Fr W σ τ := fun k hk => h k (fun q => hk (hs k q))
theorem Fr.oI {W : List Nat} {σ τ υ : Sg} {a i : Nat} {v : Int32} (h : Fr W σ τ) (ha : a ∈ W) (e : υ = pI τ a i v) : Fr W σ υ := fun k hk => by
  subst e
  have hne : k ≠ a := fun q => hk (q ▸ ha)
  have := pI_off τ a i v k hne
  exact ⟨this.1.trans (h k hk).1, this.2.1.trans (h k hk).2.1, this.2.2.trans (h k hk).2.2⟩
theorem Fr.oL {W : List Nat} {σ τ υ : Sg} {a i : Nat} {v : Int64} (h : Fr W σ τ) (ha : a ∈ W) (e : υ = pL τ a i v) : Fr W σ υ := fun k hk => by
  subst e
  have hne : k ≠ a := fun q => hk (q ▸ ha)
  have := pL_off τ a i v k hne
  exact ⟨this.1.trans (h k hk).1, this.2.1.trans (h k hk).2.1, this.2.2.trans (h k hk).2.2⟩
theorem Fr.oR {W : List Nat} {σ τ υ : Sg} {a i v : Nat} (h : Fr W σ τ) (ha : a ∈ W) (e : υ = pR τ a i v) : Fr W σ υ := fun k hk => by
  subst e
  have hne : k ≠ a := fun q => hk (q ▸ ha)
  have := pR_off τ a i v k hne
  exact ⟨this.1.trans (h k hk).1, this.2.1.trans (h k hk).2.1, this.2.2.trans (h k hk).2.2⟩
theorem Fr.oC {W : List Nat} {σ τ υ : Sg} {k0 sp a dp n : Nat} (h : Fr W σ τ) (ha : a ∈ W) (e : υ = cpI τ k0 sp a dp n) : Fr W σ υ := fun k hk => by
  subst e
  have hne : k ≠ a := fun q => hk (q ▸ ha)
  have e1 : gI (cpI τ k0 sp a dp n) k = gI τ k := by funext j; simp [gI_cpI, hne]
  exact ⟨e1.trans (h k hk).1, (h k hk).2.1, (h k hk).2.2⟩
theorem oLtE {α β : Type} {v : α} {f : α → β} {y : β} (h : lt v f = y) : ∃ x, x = v ∧ f x = y := ⟨v, Eq.refl _, h⟩
theorem oIte {α : Type} {c : Prop} {dc : Decidable c} {x z y : α} (h : (@ite _ c dc x z) = y) : x = y ∨ z = y := by
  by_cases hc : c
  · rw [if_pos hc] at h; exact Or.inl h
  · rw [if_neg hc] at h; exact Or.inr h
theorem lp_fr {P O : Type} {b : P → Option (P ⊕ O)} {W : List Nat} {g : P → Sg} {gz : O → Sg} (hb : ∀ x o, b x = some o → Fr W (g x) (oElim o g gz)) : ∀ (n : Nat) (x : P) (z : O), lp b n x = some z → Fr W (g x) (gz z) := by
  intro n
  induction n with
  | zero => intro x z h; cases h
  | succ n ih =>
    intro x z h
    rw [lp] at h
    split at h
    next => cases h
    next y hy => exact (hb x _ hy).trans (ih y z h)
    next z' hz => cases h; exact hb x _ hz
