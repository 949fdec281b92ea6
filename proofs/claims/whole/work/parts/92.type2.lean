def by0 (v : Int64) (i : Nat) : Int32 := (Int64.toInt32 ((Int64.toUInt64 v >>> (Int64.toUInt64 (Int32.toInt64 (8 * nI i)) &&& Int64.toUInt64 63)).toInt64)) &&& 255
theorem type_lx {v : Int64} : ∀ (d : Nat) (σ : Sg) (n F : Nat), d ≤ 8 → n + d ≤ 250 → gI σ 0 9 = nI n → d < F → ∃ τ, lp (b_x_type_40 v) F (σ, nI d - 1) = some (τ, nI 0 - 1) ∧ gI τ 0 9 = nI (n + d) ∧ (∀ j, j < d → gI τ 3 (n + j) = by0 v (d - 1 - j)) ∧ (∀ c j, ¬ (c = 0 ∧ j = 9 ∨ c = 3 ∧ n ≤ j) → gI τ c j = gI σ c j) ∧ gL τ = gL σ ∧ gR τ = gR σ := by
  intro d
  induction d with
  | zero =>
    intro σ n F _ _ hn hF
    obtain ⟨F, rfl⟩ : ∃ f, F = f + 1 := ⟨F - 1, by omega⟩
    refine ⟨σ, lp_end ?_, hn, fun j hj => absurd hj (Nat.not_lt_zero j), fun _ _ _ => rfl, rfl, rfl⟩
    unfold b_x_type_40
    rw [if_pos (show nI 0 - 1 < 0 by decide)]
  | succ d ih =>
    intro σ n F h8 hnd hn hF
    obtain ⟨F, rfl⟩ : ∃ f, F = f + 1 := ⟨F - 1, by omega⟩
    obtain ⟨τ, h1, h2, h3, h4, h5, h6⟩ := ih (pI (pI σ 3 n (by0 v d)) 0 9 (nI (n + 1))) (n + 1) F (by omega) (by omega) gI_eq (by omega)
    refine ⟨τ, ?_, by rw [h2]; congr 1; omega, fun j hj => ?_, fun c j hc => ?_, h5, h6⟩
    · rw [nI_pred, lp_step (type_x hn (by omega) (by omega))]; exact h1
    · by_cases c : j = 0
      · subst c
        rw [h4 _ _ (by omega), gI_ne (by omega), Nat.add_zero, gI_eq]; rfl
      · have := h3 (j - 1) (by omega)
        rw [show n + 1 + (j - 1) = n + j by omega] at this
        rw [this]; congr 1; omega
    · rw [h4 _ _ (by omega), gI_ne (by omega), gI_ne (by omega)]
