theorem lp_congr {P O : Type} {b c : P → Option (P ⊕ O)} {I : P → Prop} (h : ∀ x, I x → b x = c x ∧ ∀ y, b x = some (.inl y) → I y) : ∀ (F : Nat) (x : P), I x → lp b F x = lp c F x := by
  intro F
  induction F with
  | zero => intro x _; rfl
  | succ F ih =>
    intro x hI
    obtain ⟨h1, h2⟩ := h x hI
    rw [lp, lp, ← h1]
    cases hb : b x with
    | none => rfl
    | some o =>
      cases o with
      | inl y => exact ih y (h2 y hb)
      | inr z => rfl
theorem m_gainOf {σ : Sg} {k : Nat} (h1 : 1 ≤ k) (h7 : k ≤ 7) : s_m_gainOf σ (nI k) = some (gI σ 72 (100 + k)) := by
  have ei : (101 + nI k) - 1 = nI (100 + k) := by
    rw [show (101 : Int32) + nI k = nI (100 + k + 1) from by rw [show (101 : Int32) + nI k = nI (101 + k) from nI_add 101 k]; congr 1; omega]
    exact nI_pred _
  rw [s_m_gainOf, if_neg (nI_ne0 (by omega) (by omega)), ei, if_pos (inB_nI (by omega) (by omega)), nI_clamp (by omega)]
theorem le7 {k : Nat} (h : k < 2 ^ 31) : (7 : Int32) ≤ nI k ↔ 7 ≤ k := nI_leI (a := 7) (by omega) h
theorem leaves_body {σ : Sg} {a b c : Int32} {k : Nat} (h : gI σ 26 k = gI σ 72 (100 + k)) (h1 : 1 ≤ k) (h7 : k ≤ 7) : b_x_leaves_52 σ a b c (nI k) = b_m_leaves_63 σ a b c (nI k) := by
  unfold b_x_leaves_52 b_m_leaves_63
  by_cases z : (7 : Int32) ≤ nI k
  · rw [if_pos z, if_pos z]
  · rw [if_neg z, if_neg z, m_gainOf h1 h7]
    show (if inB (nI k) 8 = true then _ else _) = _
    rw [if_pos (inB_nI (by omega) (by omega)), nI_clamp (by omega), h]
    rfl
theorem leaves_step {σ : Sg} {a b c : Int32} {k : Nat} (h7 : k < 7) : b_x_leaves_52 σ a b c (nI k) = some (.inl (nI (k + 1))) ∨ b_x_leaves_52 σ a b c (nI k) = some (.inr (.inr (nI k, σ))) := by
  unfold b_x_leaves_52
  rw [if_neg (by rw [le7 (by omega)]; omega)]
  generalize hv : ((((nI k &&& 1) * a) + (((nI k >>> ((1 : Int32) &&& 31)) &&& 1) * b)) + (((nI k >>> ((2 : Int32) &&& 31)) &&& 1) * c)) = v
  show (if inB (nI k) 8 = true then (if gI σ 26 (Int32.toNatClampNeg (nI k)) ≤ v then some (Sum.inl (nI k + 1)) else some (Sum.inr (Sum.inr (nI k, σ)))) else none) = _ ∨ (if inB (nI k) 8 = true then (if gI σ 26 (Int32.toNatClampNeg (nI k)) ≤ v then some (Sum.inl (nI k + 1)) else some (Sum.inr (Sum.inr (nI k, σ)))) else none) = _
  rw [if_pos (inB_nI (by omega) (by omega)), nI_1]
  by_cases z : gI σ 26 (Int32.toNatClampNeg (nI k)) ≤ v
  · rw [if_pos z]; exact Or.inl rfl
  · rw [if_neg z]; exact Or.inr rfl
theorem al_leaves {σ : Sg} (a b c : Int32) (hR : R σ) : Alike R σ (fun τ => s_x_leaves τ a b c) (fun τ => s_m_leaves τ a b c) := by
  by_cases ha : 0 ≤ a.toInt ∧ a.toInt ≤ 99
  rotate_left
  · exact al_bad (-2) hR (by show s_x_leaves σ a b c = _; rw [s_x_leaves, x_isAmount, if_neg ha, Option.bind_some, if_pos rfl, bEta]) (by show s_m_leaves _ a b c = _; rw [s_m_leaves, m_in32 a (x := 0) (y := 99) rfl rfl, if_neg ha, Option.bind_some, if_pos rfl, bEta])
  by_cases hb : 0 ≤ b.toInt ∧ b.toInt ≤ 99
  rotate_left
  · exact al_bad (-2) hR (by show s_x_leaves σ a b c = _; rw [s_x_leaves, x_isAmount, if_pos ha, Option.bind_some, if_neg (by decide), x_isAmount, if_neg hb, Option.bind_some, if_pos rfl, bEta]) (by show s_m_leaves _ a b c = _; rw [s_m_leaves, m_in32 a (x := 0) (y := 99) rfl rfl, if_pos ha, Option.bind_some, if_neg (by decide), m_in32 b (x := 0) (y := 99) rfl rfl, if_neg hb, Option.bind_some, if_pos rfl, bEta])
  by_cases hc : 0 ≤ c.toInt ∧ c.toInt ≤ 99
  rotate_left
  · exact al_bad (-2) hR (by show s_x_leaves σ a b c = _; rw [s_x_leaves, x_isAmount, if_pos ha, Option.bind_some, if_neg (by decide), x_isAmount, if_pos hb, Option.bind_some, if_neg (by decide), x_isAmount, if_neg hc, Option.bind_some, if_pos rfl, bEta]) (by show s_m_leaves _ a b c = _; rw [s_m_leaves, m_in32 a (x := 0) (y := 99) rfl rfl, if_pos ha, Option.bind_some, if_neg (by decide), m_in32 b (x := 0) (y := 99) rfl rfl, if_pos hb, Option.bind_some, if_neg (by decide), m_in32 c (x := 0) (y := 99) rfl rfl, if_neg hc, Option.bind_some, if_pos rfl, bEta])
  obtain ⟨A, hM, ⟨x1, x2, x3, x4⟩, w1, w2, w3, w4⟩ := hR.1
  have g : ∀ k, 1 ≤ k → k ≤ 7 → gI σ 26 k = gI σ 72 (100 + k) := fun k h1 h7 => by rw [M0 hM (by omega)]; exact x2 k h1 h7
  have hx : s_x_leaves σ a b c = if ((a + b) + c) = (gI σ 26 7) then (lp (b_x_leaves_52 σ a b c) 100000 1).bind fun o15 => oElim o15 (fun _ => some ((-1), σ)) (fun q17 => some q17) else some (7, σ) := by
    rw [s_x_leaves, x_isAmount, if_pos ha, Option.bind_some, if_neg (by decide), x_isAmount, if_pos hb, Option.bind_some, if_neg (by decide), x_isAmount, if_pos hc, Option.bind_some, if_neg (by decide)]; rfl
  have hm : s_m_leaves σ a b c = if ((a + b) + c) = (gI σ 26 7) then (lp (b_m_leaves_63 σ a b c) 100000 1).bind fun o15 => oElim o15 (fun _ => some ((-1), σ)) (fun q17 => some q17) else some (7, σ) := by
    rw [s_m_leaves, m_in32 a (x := 0) (y := 99) rfl rfl, if_pos ha, Option.bind_some, if_neg (by decide), m_in32 b (x := 0) (y := 99) rfl rfl, if_pos hb, Option.bind_some, if_neg (by decide), m_in32 c (x := 0) (y := 99) rfl rfl, if_pos hc, Option.bind_some, if_neg (by decide), show (7 : Int32) = nI 7 from rfl, m_gainOf (by omega) (by omega), Option.bind_some, g 7 (by omega) (by omega)]
  have hlp : lp (b_x_leaves_52 σ a b c) 100000 1 = lp (b_m_leaves_63 σ a b c) 100000 1 := lp_congr (I := fun x => ∃ k, x = nI k ∧ 1 ≤ k ∧ k ≤ 7) (fun x hx => by
    obtain ⟨k, rfl, h1, h7⟩ := hx
    refine ⟨leaves_body (g k h1 h7) h1 h7, fun y hy => ?_⟩
    by_cases z : k < 7
    · rcases leaves_step (σ := σ) (a := a) (b := b) (c := c) z with e | e
      · rw [e] at hy; cases hy; exact ⟨k + 1, rfl, by omega, by omega⟩
      · rw [e] at hy; cases hy
    · unfold b_x_leaves_52 at hy
      rw [if_pos (by rw [le7 (by omega)]; omega)] at hy
      cases hy) 100000 1 ⟨1, rfl, by omega, by omega⟩
  obtain ⟨z, hz, hG⟩ := lp_ex (b := b_x_leaves_52 σ a b c) (I := fun x n => ∃ k, x = nI k ∧ 1 ≤ k ∧ k ≤ 7 ∧ n = 7 - k) (G := fun z => ∀ r, z = .inr r → r.2 = σ) (fun x n hx => by
    obtain ⟨k, rfl, h1, h7, hn⟩ := hx
    by_cases z : k < 7
    · rcases leaves_step (σ := σ) (a := a) (b := b) (c := c) z with e | e
      · exact Or.inl ⟨_, 7 - (k + 1), e, by omega, k + 1, rfl, by omega, by omega, rfl⟩
      · exact Or.inr ⟨_, e, fun r hr => by cases hr; rfl⟩
    · refine Or.inr ⟨.inl (nI k), ?_, fun r hr => by cases hr⟩
      unfold b_x_leaves_52
      rw [if_pos (by rw [le7 (by omega)]; omega)]) 100000 6 1 (by omega) ⟨1, rfl, by omega, by omega, rfl⟩
  by_cases hs : ((a + b) + c) = (gI σ 26 7)
  · rw [if_pos hs, hz, Option.bind_some] at hx
    rw [if_pos hs, ← hlp, hz, Option.bind_some] at hm
    cases z with
    | inl y => exact ⟨-1, σ, σ, hx, hm, hR⟩
    | inr r =>
      have e : r = (r.1, σ) := by rw [← hG r rfl]
      rw [e] at hx hm
      exact ⟨r.1, σ, σ, hx, hm, hR⟩
  · rw [if_neg hs] at hx hm
    exact ⟨7, σ, σ, hx, hm, hR⟩
