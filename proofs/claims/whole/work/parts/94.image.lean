/-- a loop whose states are known -/
theorem lp_run {P O : Type} {b : P → Option (P ⊕ O)} (st : Nat → P) {z : O} : ∀ (N F : Nat), N < F → (∀ k, k < N → b (st k) = some (.inl (st (k + 1)))) → b (st N) = some (.inr z) → lp b F (st 0) = some z := by
  intro N
  induction N generalizing st with
  | zero =>
    intro F hF _ he
    obtain ⟨f, rfl⟩ : ∃ f, F = f + 1 := ⟨F - 1, by omega⟩
    exact lp_end he
  | succ N ih =>
    intro F hF h he
    obtain ⟨f, rfl⟩ : ∃ f, F = f + 1 := ⟨F - 1, by omega⟩
    rw [lp_step (h 0 (by omega))]
    exact ih (fun k => st (k + 1)) f (by omega) (fun k hk => h (k + 1) (by omega)) he
theorem cpI_0 (σ : Sg) (k0 sp k dp : Nat) : cpI σ k0 sp k dp 0 = σ := by
  show ((fun a j => if a = k ∧ dp ≤ j ∧ j < dp + 0 then σ.1 k0 (sp + (j - dp)) else σ.1 a j), σ.2) = σ
  have : (fun a j => if a = k ∧ dp ≤ j ∧ j < dp + 0 then σ.1 k0 (sp + (j - dp)) else σ.1 a j) = σ.1 := by
    funext a j; rw [if_neg (by omega)]
  rw [this]
theorem cpI_s {σ : Sg} {k0 sp k dp n : Nat} (h : k0 ≠ k) : pI (cpI σ k0 sp k dp n) k (dp + n) (gI (cpI σ k0 sp k dp n) k0 (sp + n)) = cpI σ k0 sp k dp (n + 1) := by
  have e : gI (cpI σ k0 sp k dp n) k0 (sp + n) = gI σ k0 (sp + n) := by rw [gI_cpI, if_neg (fun q => h q.1)]
  rw [e]
  show ((fun a j => if a = k ∧ j = dp + n then gI σ k0 (sp + n) else if a = k ∧ dp ≤ j ∧ j < dp + n then σ.1 k0 (sp + (j - dp)) else σ.1 a j), σ.2) = ((fun a j => if a = k ∧ dp ≤ j ∧ j < dp + (n + 1) then σ.1 k0 (sp + (j - dp)) else σ.1 a j), σ.2)
  congr 1
  funext a j
  by_cases c : a = k ∧ j = dp + n
  · rw [if_pos c, if_pos (by omega), c.2, show dp + n - dp = n from by omega]; rfl
  · rw [if_neg c]
    by_cases d : a = k ∧ dp ≤ j ∧ j < dp + n
    · rw [if_pos d, if_pos (by omega)]
    · rw [if_neg d, if_neg (by omega)]
theorem mul143 (n : Nat) : (143 : Int32) * nI n = nI (143 * n) := (Int32.ofNat_mul 143 n).symm
theorem m_image_lp {σ : Sg} {i : Nat} (hi : i < 2) : lp (b_m_image_19 (nI i)) 100000 (σ, 0) = some (cpI σ 72 0 73 (143 * i) 143, nI 143) := by
  have := lp_run (b := b_m_image_19 (nI i)) (fun k => (cpI σ 72 0 73 (143 * i) k, nI k)) (z := (cpI σ 72 0 73 (143 * i) 143, nI 143)) 143 100000 (by omega) (fun k hk => by
    unfold b_m_image_19
    rw [if_neg (by show ¬ nI 143 ≤ nI k; rw [nI_leI (by omega) (by omega)]; omega)]
    show (if inB (nI k) 143 = true then _ else _) = _
    rw [if_pos (inB_nI (by omega) (by omega)), mul143]
    show (if inB (nI (143 * i) + nI k) 286 = true then _ else _) = _
    rw [nI_add, if_pos (inB_nI (by omega) (by omega)), nI_clamp (by omega), nI_clamp (by omega)]
    show some (Sum.inl (pI (cpI σ 72 0 73 (143 * i) k) 73 (143 * i + k) (gI (cpI σ 72 0 73 (143 * i) k) 72 k), nI k + 1)) = _
    have := cpI_s (σ := σ) (k0 := 72) (sp := 0) (k := 73) (dp := 143 * i) (n := k) (by omega)
    rw [Nat.zero_add] at this
    rw [this, nI_1]) (by
    unfold b_m_image_19
    rw [if_pos (by show nI 143 ≤ nI 143; rw [nI_leI (by omega) (by omega)]; omega)])
  rw [cpI_0] at this; exact this
theorem m_from_lp {σ : Sg} {i : Nat} (hi : i < 2) : lp (b_m_from_35 (nI i)) 100000 (σ, 0) = some (cpI σ 73 (143 * i) 72 0 143, nI 143) := by
  have := lp_run (b := b_m_from_35 (nI i)) (fun k => (cpI σ 73 (143 * i) 72 0 k, nI k)) (z := (cpI σ 73 (143 * i) 72 0 143, nI 143)) 143 100000 (by omega) (fun k hk => by
    unfold b_m_from_35
    rw [if_neg (by show ¬ nI 143 ≤ nI k; rw [nI_leI (by omega) (by omega)]; omega), mul143]
    show (if inB (nI (143 * i) + nI k) 286 = true then _ else _) = _
    rw [nI_add, if_pos (inB_nI (by omega) (by omega))]
    show (if inB (nI k) 143 = true then _ else _) = _
    rw [if_pos (inB_nI (by omega) (by omega)), nI_clamp (by omega), nI_clamp (by omega)]
    show some (Sum.inl (pI (cpI σ 73 (143 * i) 72 0 k) 72 k (gI (cpI σ 73 (143 * i) 72 0 k) 73 (143 * i + k)), nI k + 1)) = _
    have := cpI_s (σ := σ) (k0 := 73) (sp := 143 * i) (k := 72) (dp := 0) (n := k) (by omega)
    rw [Nat.zero_add] at this
    rw [this, nI_1]) (by
    unfold b_m_from_35
    rw [if_pos (by show nI 143 ≤ nI 143; rw [nI_leI (by omega) (by omega)]; omega)])
  rw [cpI_0] at this; exact this
/-- the cells from s on are copied to t on -/
def Cp (σ τ : Sg) (s t : Nat) : Prop :=
  (gI τ t 5 = gI σ s 5 ∧ gI τ t 6 = gI σ s 6) ∧ (∀ j, j < 9 → gI τ (t + 1) j = gI σ (s + 1) j ∧ gI τ (t + 2) j = gI σ (s + 2) j ∧ gI τ (t + 3) j = gI σ (s + 3) j) ∧ (∀ j, j < 36 → gI τ (t + 4) j = gI σ (s + 4) j ∧ gI τ (t + 5) j = gI σ (s + 5) j) ∧ (gI τ (t + 6) 6 = gI σ (s + 6) 6 ∧ gI τ (t + 6) 7 = gI σ (s + 6) 7) ∧ (∀ j, j < 8 → gI τ (t + 7) j = gI σ (s + 7) j) ∧ (∀ j, j < 18 → gI τ (t + 8) j = gI σ (s + 8) j) ∧ (∀ j, j < 5 → gI τ (t + 9) j = gI σ (s + 9) j ∧ gI τ (t + 10) j = gI σ (s + 10) j ∧ gI τ (t + 11) j = gI σ (s + 11) j)
theorem XS_copy {σ τ : Sg} {s t : Nat} {A : Nat → Nat} (h : Cp σ τ s t) (W : WS A) (H : XS σ s A) : XS τ t A := by
  obtain ⟨⟨c1, c2⟩, c3, c4, ⟨c5, c6⟩, c7, c8, c9⟩ := h
  obtain ⟨⟨w1, w2, w3, w4⟩, w5, w6, w7⟩ := W
  obtain ⟨⟨x1, x2, x3⟩, x4, x5, x6⟩ := H
  have w61 := w6.1
  have w71 := w7.1
  refine ⟨⟨c1.trans x1, c2.trans x2, fun p hp => ?_⟩, fun j a b => (c7 j (by omega)).trans (x4 j a b), ⟨c5.trans x5.1, fun j hj => (c8 j (by omega)).trans (x5.2 j hj)⟩, ⟨c6.trans x6.1, fun i hi => ?_⟩⟩
  · obtain ⟨k1, k2, k3, k4⟩ := x3 p hp
    obtain ⟨d1, d2, d3⟩ := c3 p (by omega)
    refine ⟨d1.trans k1, d2.trans k2, d3.trans k3, fun e he => ?_⟩
    have := (w4 p hp).2.2.2.1
    obtain ⟨d4, d5⟩ := c4 (4 * p + e) (by omega)
    exact ⟨d4.trans (k4 e he).1, d5.trans (k4 e he).2⟩
  · obtain ⟨d1, d2, d3⟩ := c9 i (by omega)
    obtain ⟨k1, k2, k3⟩ := x6.2 i hi
    exact ⟨d1.trans k1, d2.trans k2, d3.trans k3⟩
def become (σ : Sg) (s t : Nat) : Sg :=
  pI (pI (cpI (cpI (cpI (cpI (cpI (cpI (cpI (cpI (cpI (cpI (pI (pI σ t 5 (gI σ s 5)) t 6 (gI σ s 6)) (s + 1) 0 (t + 1) 0 9) (s + 2) 0 (t + 2) 0 9) (s + 3) 0 (t + 3) 0 9) (s + 4) 0 (t + 4) 0 36) (s + 5) 0 (t + 5) 0 36) (s + 7) 0 (t + 7) 0 8) (s + 8) 0 (t + 8) 0 18) (s + 9) 0 (t + 9) 0 5) (s + 10) 0 (t + 10) 0 5) (s + 11) 0 (t + 11) 0 5) (t + 6) 6 (gI σ (s + 6) 6)) (t + 6) 7 (gI σ (s + 6) 7)
theorem gI_cne {σ : Sg} {k0 sp k dp n a j : Nat} (h : ¬ a = k) : gI (cpI σ k0 sp k dp n) a j = gI σ a j := by rw [gI_cpI, if_neg (fun q => h q.1)]
theorem become_ne {σ : Sg} {s t c j : Nat} (h : ¬ (t ≤ c ∧ c ≤ t + 11)) : gI (become σ s t) c j = gI σ c j := by
  unfold become
  rw [gI_ne (by omega), gI_ne (by omega), gI_cne (by omega), gI_cne (by omega), gI_cne (by omega), gI_cne (by omega), gI_cne (by omega), gI_cne (by omega), gI_cne (by omega), gI_cne (by omega), gI_cne (by omega), gI_cne (by omega), gI_ne (by omega), gI_ne (by omega)]
theorem gI_ceq {σ : Sg} {k0 k n j : Nat} (h : j < n) : gI (cpI σ k0 0 k 0 n) k j = gI σ k0 j := by rw [gI_cpI, if_pos (by omega)]; congr 1; omega
theorem become_Cp {σ : Sg} {s t : Nat} (h : s + 12 ≤ t ∨ t + 12 ≤ s) : Cp σ (become σ s t) s t := by
  refine ⟨⟨?_, ?_⟩, fun j hj => ⟨?_, ?_, ?_⟩, fun j hj => ⟨?_, ?_⟩, ⟨?_, ?_⟩, fun j hj => ?_, fun j hj => ?_, fun j hj => ⟨?_, ?_, ?_⟩⟩ <;> unfold become
  · rw [gI_ne (by omega), gI_ne (by omega), gI_cne (by omega), gI_cne (by omega), gI_cne (by omega), gI_cne (by omega), gI_cne (by omega), gI_cne (by omega), gI_cne (by omega), gI_cne (by omega), gI_cne (by omega), gI_cne (by omega), gI_ne (by omega), gI_eq]
  · rw [gI_ne (by omega), gI_ne (by omega), gI_cne (by omega), gI_cne (by omega), gI_cne (by omega), gI_cne (by omega), gI_cne (by omega), gI_cne (by omega), gI_cne (by omega), gI_cne (by omega), gI_cne (by omega), gI_cne (by omega), gI_eq]
  · rw [gI_ne (by omega), gI_ne (by omega), gI_cne (by omega), gI_cne (by omega), gI_cne (by omega), gI_cne (by omega), gI_cne (by omega), gI_cne (by omega), gI_cne (by omega), gI_cne (by omega), gI_cne (by omega), gI_ceq hj, gI_ne (by omega), gI_ne (by omega)]
  · rw [gI_ne (by omega), gI_ne (by omega), gI_cne (by omega), gI_cne (by omega), gI_cne (by omega), gI_cne (by omega), gI_cne (by omega), gI_cne (by omega), gI_cne (by omega), gI_cne (by omega), gI_ceq hj, gI_cne (by omega), gI_ne (by omega), gI_ne (by omega)]
  · rw [gI_ne (by omega), gI_ne (by omega), gI_cne (by omega), gI_cne (by omega), gI_cne (by omega), gI_cne (by omega), gI_cne (by omega), gI_cne (by omega), gI_cne (by omega), gI_ceq hj, gI_cne (by omega), gI_cne (by omega), gI_ne (by omega), gI_ne (by omega)]
  · rw [gI_ne (by omega), gI_ne (by omega), gI_cne (by omega), gI_cne (by omega), gI_cne (by omega), gI_cne (by omega), gI_cne (by omega), gI_cne (by omega), gI_ceq hj, gI_cne (by omega), gI_cne (by omega), gI_cne (by omega), gI_ne (by omega), gI_ne (by omega)]
  · rw [gI_ne (by omega), gI_ne (by omega), gI_cne (by omega), gI_cne (by omega), gI_cne (by omega), gI_cne (by omega), gI_cne (by omega), gI_ceq hj, gI_cne (by omega), gI_cne (by omega), gI_cne (by omega), gI_cne (by omega), gI_ne (by omega), gI_ne (by omega)]
  · rw [gI_ne (by omega), gI_eq]
  · rw [gI_eq]
  · rw [gI_ne (by omega), gI_ne (by omega), gI_cne (by omega), gI_cne (by omega), gI_cne (by omega), gI_cne (by omega), gI_ceq hj, gI_cne (by omega), gI_cne (by omega), gI_cne (by omega), gI_cne (by omega), gI_cne (by omega), gI_ne (by omega), gI_ne (by omega)]
  · rw [gI_ne (by omega), gI_ne (by omega), gI_cne (by omega), gI_cne (by omega), gI_cne (by omega), gI_ceq hj, gI_cne (by omega), gI_cne (by omega), gI_cne (by omega), gI_cne (by omega), gI_cne (by omega), gI_cne (by omega), gI_ne (by omega), gI_ne (by omega)]
  · rw [gI_ne (by omega), gI_ne (by omega), gI_cne (by omega), gI_cne (by omega), gI_ceq hj, gI_cne (by omega), gI_cne (by omega), gI_cne (by omega), gI_cne (by omega), gI_cne (by omega), gI_cne (by omega), gI_cne (by omega), gI_ne (by omega), gI_ne (by omega)]
  · rw [gI_ne (by omega), gI_ne (by omega), gI_cne (by omega), gI_ceq hj, gI_cne (by omega), gI_cne (by omega), gI_cne (by omega), gI_cne (by omega), gI_cne (by omega), gI_cne (by omega), gI_cne (by omega), gI_cne (by omega), gI_ne (by omega), gI_ne (by omega)]
  · rw [gI_ne (by omega), gI_ne (by omega), gI_ceq hj, gI_cne (by omega), gI_cne (by omega), gI_cne (by omega), gI_cne (by omega), gI_cne (by omega), gI_cne (by omega), gI_cne (by omega), gI_cne (by omega), gI_cne (by omega), gI_ne (by omega), gI_ne (by omega)]
theorem become_x0 (σ : Sg) : s_Scene_become σ = some (become σ 19 47) := rfl
theorem become_x1 (σ : Sg) : s_Scene_become_65_25 σ = some (become σ 19 59) := rfl
theorem become_y0 (σ : Sg) : s_Scene_become_25_53 σ = some (become σ 47 19) := rfl
theorem become_y1 (σ : Sg) : s_Scene_become_25_65 σ = some (become σ 59 19) := rfl
