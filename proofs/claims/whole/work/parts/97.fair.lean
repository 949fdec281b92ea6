/-- lowest terms of so many sixths, as the class finds them -/
def kx2 (p : Int32 × Int32) : Int32 × Int32 := if p.1 - p.1 / 3 * 3 = 0 then (p.1 / 3, p.2 / 3) else p
def kx (s : Int32) : Int32 × Int32 := kx2 (if s - s / 2 * 2 = 0 then (s / 2, 6 / 2) else (s, 6))
def bt (x : Int64 × Int64) : Option ((Int64 × Int64) ⊕ (Int64 × Int64)) :=
  if (lg_cmp x.2 0) = 0 then some (.inr (x.1, x.2)) else if ¬ x.2 = 0 then some (.inl (x.2, x.1 - x.1 / x.2 * x.2)) else none
/-- lowest terms, as the reference finds them -/
def tx (v : Int64) : Option (Int64 × Int64) :=
  (lp bt 100000 (if 0 ≤ (lg_cmp v 0) then v else -v, 6)).bind fun o => if ¬ o.1 = 0 then some (v / o.1, 6 / o.1) else none
theorem kx_tx : ∀ n : Nat, n < 1200 → tx (Int32.toInt64 (Int32.ofInt ((n : Int) - 600))) = some ((kx (Int32.ofInt ((n : Int) - 600))).1.toInt64, (kx (Int32.ofInt ((n : Int) - 600))).2.toInt64) := by decide +kernel
theorem keep3 {σ : Sg} : ∃ τ, j_x_keepSixths_40 σ = some τ ∧ (gI τ 0 10, gI τ 0 11) = kx2 (gI σ 0 10, gI σ 0 11) ∧ (∀ c j, ¬ (c = 0 ∧ (j = 10 ∨ j = 11)) → gI τ c j = gI σ c j) ∧ τ.2 = σ.2 := by
  unfold j_x_keepSixths_40 kx2
  by_cases c : (gI σ 0 10) - (gI σ 0 10) / 3 * 3 = 0
  · rw [if_pos c, if_pos c]
    refine ⟨_, rfl, ?_, fun c j h => ?_, rfl⟩
    · show (gI (pI (pI σ 0 10 _) 0 11 _) 0 10, gI (pI (pI σ 0 10 _) 0 11 _) 0 11) = _
      rw [gI_ne (by omega), gI_eq, gI_eq, gI_ne (by omega)]
    · show gI (pI (pI σ 0 10 _) 0 11 _) c j = _
      rw [gI_ne (by omega), gI_ne (by omega)]
  · rw [if_neg c, if_neg c]
    exact ⟨σ, rfl, rfl, fun _ _ _ => rfl, rfl⟩
theorem keep6 {σ : Sg} (s : Int32) : ∃ τ, s_x_keepSixths σ s = some τ ∧ (gI τ 0 10, gI τ 0 11) = kx s ∧ (∀ c j, ¬ (c = 0 ∧ (j = 10 ∨ j = 11)) → gI τ c j = gI σ c j) ∧ τ.2 = σ.2 := by
  rw [s_x_keepSixths]
  show ∃ τ, (if gI (pI (pI σ 0 10 s) 0 11 6) 0 10 - gI (pI (pI σ 0 10 s) 0 11 6) 0 10 / 2 * 2 = 0 then j_x_keepSixths_40 (pI (pI (pI (pI σ 0 10 s) 0 11 6) 0 10 (gI (pI (pI σ 0 10 s) 0 11 6) 0 10 / 2)) 0 11 (gI (pI (pI (pI σ 0 10 s) 0 11 6) 0 10 (gI (pI (pI σ 0 10 s) 0 11 6) 0 10 / 2)) 0 11 / 2)) else j_x_keepSixths_40 (pI (pI σ 0 10 s) 0 11 6)) = some τ ∧ _
  have e : gI (pI (pI σ 0 10 s) 0 11 6) 0 10 = s := by rw [gI_ne (by omega), gI_eq]
  have e' : gI (pI (pI (pI σ 0 10 s) 0 11 6) 0 10 (s / 2)) 0 11 = 6 := by rw [gI_ne (by omega), gI_eq]
  rw [e, e']
  unfold kx
  by_cases c : s - s / 2 * 2 = 0
  · rw [if_pos c, if_pos c]
    obtain ⟨τ, h1, h2, h3, h4⟩ := keep3 (σ := pI (pI (pI (pI σ 0 10 s) 0 11 6) 0 10 (s / 2)) 0 11 (6 / 2))
    refine ⟨τ, h1, ?_, fun c j h => ?_, h4⟩
    · rw [h2, gI_ne (by omega), gI_eq, gI_eq]
    · rw [h3 c j h, gI_ne (by omega), gI_ne (by omega), gI_ne (by omega), gI_ne (by omega)]
  · rw [if_neg c, if_neg c]
    obtain ⟨τ, h1, h2, h3, h4⟩ := keep3 (σ := pI (pI σ 0 10 s) 0 11 6)
    refine ⟨τ, h1, ?_, fun c j h => ?_, h4⟩
    · rw [h2, gI_ne (by omega), gI_eq, gI_eq]
    · rw [h3 c j h, gI_ne (by omega), gI_ne (by omega)]
theorem m_tell {σ : Sg} {v a b : Int64} (h : tx v = some (a, b)) : s_m_tell σ v 6 = some (1, pL (pL σ 71 4 a) 71 5 b) := by
  have e : s_m_tell σ v 6 = (lp bt 100000 (if 0 ≤ (lg_cmp v 0) then v else -v, 6)).bind fun o => if ¬ o.1 = 0 then (if ¬ o.1 = 0 then some (1, pL (pL σ 71 4 (v / o.1)) 71 5 (6 / o.1)) else none) else none := by
    rw [s_m_tell]
    by_cases c : 0 ≤ (lg_cmp v 0)
    · rw [if_pos c, if_pos c]; rfl
    · rw [if_neg c, if_neg c]; rfl
  rw [e]
  unfold tx at h
  generalize lp bt 100000 (if 0 ≤ (lg_cmp v 0) then v else -v, 6) = o at h ⊢
  cases o with
  | none => cases h
  | some o =>
    rw [Option.bind_some] at h ⊢
    by_cases c : ¬ o.1 = 0
    · rw [if_pos c] at h; rw [if_pos c, if_pos c]; cases h; rfl
    · rw [if_neg c] at h; cases h
theorem oi (n : Nat) : nI n = Int32.ofInt n := Int32.ofInt_eq_ofNat.symm
def bc (k : Nat) : Nat := if k = 0 then 0 else if k = 1 ∨ k = 2 ∨ k = 4 then 1 else if k = 7 then 3 else 2
theorem fair_bits : ∀ k, k < 8 → s_m_bits (nI k) = some (nI (bc k)) ∧ ((nI (bc k) = 1) ↔ (k = 1 ∨ k = 2 ∨ k = 4)) := by decide +kernel
theorem fair_and : ∀ k, k < 8 → ∀ m, m < 8 → ((nI k &&& nI m = 0) ↔ k &&& m = 0) ∧ nI k ||| nI m = nI (k ||| m) := by decide +kernel
/-- the loop of the reference over the groups, one round -/
theorem fair_step {σ : Sg} {s : Int32} {k me : Nat} (hk : k < 8) (hm : me = 1 ∨ me = 2 ∨ me = 4) : b_m_fair_28 σ (nI me) (s, nI k) = (if k &&& me = 0 then (s_m_gainOf σ (nI (k ||| me))).bind fun q10 => (s_m_gainOf σ (nI k)).bind fun q11 => some (.inl (s + (if k = 1 ∨ k = 2 ∨ k = 4 then 1 else 2) * (q10 - q11), nI (k + 1))) else some (.inl (s + 0, nI (k + 1)))) := by
  unfold b_m_fair_28
  obtain ⟨b1, b2⟩ := fair_bits k hk
  obtain ⟨c1, c2⟩ := fair_and k hk me (by omega)
  have hj : ∀ u, j_m_fair_49i28 σ (nI me) s (nI k) u = (if k &&& me = 0 then (s_m_gainOf σ (nI (k ||| me))).bind fun q10 => (s_m_gainOf σ (nI k)).bind fun q11 => some (.inl (s + u * (q10 - q11), nI (k + 1))) else some (.inl (s + 0, nI (k + 1)))) := fun u => by
    unfold j_m_fair_49i28
    by_cases c : k &&& me = 0
    · rw [if_pos (c1.mpr c), if_pos c, c2]
      show ((s_m_gainOf σ (nI (k ||| me))).bind fun q10 => (s_m_gainOf σ (nI k)).bind fun q11 => some (Sum.inl (s + u * (q10 - q11), nI k + 1))) = _
      rw [nI_1]
    · rw [if_neg (fun q => c (c1.mp q)), if_neg c]
      show some (Sum.inl (s + 0, nI k + 1)) = _
      rw [nI_1]
  rw [if_neg (by show ¬ nI 8 ≤ nI k; rw [nI_leI (by omega) (by omega)]; omega)]
  show ((s_m_bits (nI k)).bind fun q5 => if q5 = 1 then j_m_fair_49i28 σ (nI me) s (nI k) 1 else j_m_fair_49i28 σ (nI me) s (nI k) 2) = _
  rw [b1, Option.bind_some]
  by_cases d : k = 1 ∨ k = 2 ∨ k = 4
  · rw [if_pos (b2.mpr d), if_pos d]; exact hj 1
  · rw [if_neg (fun q => d (b2.mp q)), if_neg d]; exact hj 2
