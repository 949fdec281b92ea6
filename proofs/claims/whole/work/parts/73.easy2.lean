def updA (A : Nat → Nat) (i v : Nat) : Nat → Nat := fun j => if j = i then v else A j
theorem updA_eq {A : Nat → Nat} {i v j : Nat} (h : j = i) : updA A i v j = v := if_pos h
theorem updA_ne {A : Nat → Nat} {i v j : Nat} (h : ¬ j = i) : updA A i v j = A j := if_neg h
theorem MS_pI {σ : Sg} {m b : Nat} {A : Nat → Nat} {i v : Nat} {x : Int32} (hx : x = nI v) (H : MS σ m b A) : MS (pI σ m (b + i) x) m b (updA A i v) := fun j hj => by
  subst hx
  by_cases c : j = i
  · subst c; rw [updA_eq rfl, gI_pI, if_pos ⟨rfl, rfl⟩]
  · rw [updA_ne c, gI_pI, if_neg (by omega)]; exact H j hj
theorem MS_off {σ : Sg} {m b k i : Nat} {A : Nat → Nat} {x : Int32} (h : ¬ m = k) (H : MS σ m b A) : MS (pI σ k i x) m b A := fun j hj => by
  rw [gI_pI, if_neg (fun q => h q.1)]; exact H j hj
/-- a call that changes the scene alone -/
theorem R_scene {σ τ : Sg} {A : Nat → Nat} (hR : R σ) (hA : RA τ A) (h : ∀ c j, ¬ (19 ≤ c ∧ c ≤ 30 ∨ c = 72) → gI τ c j = gI σ c j) (hL : gL τ = gL σ) (hr : gR τ = gR σ) : R τ := by
  obtain ⟨-, hI, hT, hF, hC, hK⟩ := hR
  exact ⟨⟨A, hA⟩, RI_cong (fun c hc j => h c j (by omega)) hI, RT_cong (h _ _ (by omega)) (h _ _ (by omega)) (fun j => h _ _ (by omega)) (fun j => h _ _ (by omega)) hT, RF_cong (h _ _ (by omega)) (h _ _ (by omega)) (by rw [hL]) (by rw [hL]) hF, RC_cong (fun j _ => h _ _ (by omega)) (fun j => h _ _ (by omega)) hC, RK_cong (h _ _ (by omega)) (funext fun j => h _ _ (by omega)) (by rw [hL]) (by rw [hr]) (by rw [hr]) hK⟩
theorem M0 {σ : Sg} {m : Nat} {A : Nat → Nat} (H : MS σ m 0 A) {j : Nat} (hj : j < 143) : gI σ m j = nI (A j) := by have := H j hj; rw [Nat.zero_add] at this; exact this
theorem MS_p0 {σ : Sg} {m : Nat} {A : Nat → Nat} {i v : Nat} {x : Int32} (hx : x = nI v) (H : MS σ m 0 A) : MS (pI σ m i x) m 0 (updA A i v) := by
  have := MS_pI (i := i) hx H; rw [Nat.zero_add] at this; exact this
theorem al_loose {σ : Sg} (hR : R σ) : Alike R σ (fun τ => s_x_loose τ) (fun τ => s_m_loose τ) := by
  obtain ⟨A, hM, ⟨x1, x2, x3, x4⟩, w1, w2, w3, w4⟩ := hR.1
  have e1 : gI σ 25 6 = nI (A 108) := x3.1
  refine ⟨nI (A 108), pI σ 25 6 0, pI (pI σ 25 6 0) 72 108 0, ?_, ?_, ?_⟩
  · show some (gI σ 25 6, pI σ 25 6 0) = _; rw [e1]
  · show some (gI (pI σ 25 6 0) 72 108, pI (pI σ 25 6 0) 72 108 0) = _
    rw [gI_pI, if_neg (by omega), M0 hM (by omega)]
  · have hz : ∀ c j, ¬ (c = 25 ∧ j = 6 ∨ c = 72) → gI (pI (pI σ 25 6 0) 72 108 0) c j = gI σ c j := fun c j hc => by rw [gI_pI, if_neg (by omega), gI_pI, if_neg (by omega)]
    have hu : ∀ j, ¬ j = 108 → updA A 108 0 j = A j := fun j hj => updA_ne hj
    have h8 : updA A 108 0 108 = 0 := rfl
    refine R_scene hR (A := updA A 108 0) ⟨MS_p0 nI_0.symm (MS_off (by omega) hM), ⟨XT_cong (fun c a b j => hz c j (by omega)) (fun j h => hu j (by omega)) w1 x1, XG_cong (fun j => hz _ j (by omega)) (fun j a b => hu j (by omega)) x2, ⟨?_, fun j h => absurd h (by rw [h8]; omega)⟩, XO_cong (hz _ _ (by omega)) (fun c a b j => hz c j (by omega)) (fun j a b => hu j (by omega)) w4 x4⟩, WT_cong (fun j h => hu j (by omega)) w1, WG_cong (fun j a b => hu j (by omega)) w2, ⟨by rw [h8]; omega, fun j h => absurd h (by rw [h8]; omega)⟩, WO_cong (hu _ (by omega)) (hu _ (by omega)) (fun j a b => hu j (by omega)) w4⟩ (fun c j hc => hz c j (by omega)) rfl rfl
    show gI (pI (pI σ 25 6 0) 72 108 0) 25 6 = nI 0
    rw [gI_pI, if_neg (by omega), gI_pI, if_pos (by omega)]; rfl
theorem al_blind {σ : Sg} (hR : R σ) : Alike R σ (fun τ => s_x_blind τ) (fun τ => s_m_blind τ) := by
  obtain ⟨A, hM, ⟨x1, x2, x3, x4⟩, w1, w2, w3, w4⟩ := hR.1
  have e1 : gI σ 25 7 = nI (A 127) := x4.1
  refine ⟨nI (A 127), pI σ 25 7 0, pI (pI σ 25 7 0) 72 127 0, ?_, ?_, ?_⟩
  · show some (gI σ 25 7, pI σ 25 7 0) = _; rw [e1]
  · show some (gI (pI σ 25 7 0) 72 127, pI (pI σ 25 7 0) 72 127 0) = _
    rw [gI_pI, if_neg (by omega), M0 hM (by omega)]
  · have hz : ∀ c j, ¬ (c = 25 ∧ j = 7 ∨ c = 72) → gI (pI (pI σ 25 7 0) 72 127 0) c j = gI σ c j := fun c j hc => by rw [gI_pI, if_neg (by omega), gI_pI, if_neg (by omega)]
    have hu : ∀ j, ¬ j = 127 → updA A 127 0 j = A j := fun j hj => updA_ne hj
    have h8 : updA A 127 0 127 = 0 := rfl
    refine R_scene hR (A := updA A 127 0) ⟨MS_p0 nI_0.symm (MS_off (by omega) hM), ⟨XT_cong (fun c a b j => hz c j (by omega)) (fun j h => hu j (by omega)) w1 x1, XG_cong (fun j => hz _ j (by omega)) (fun j a b => hu j (by omega)) x2, XW_cong (hz _ _ (by omega)) (fun j => hz _ j (by omega)) (fun j a b => hu j (by omega)) w3 x3, ⟨?_, fun j h => absurd h (by rw [h8]; omega)⟩⟩, WT_cong (fun j h => hu j (by omega)) w1, WG_cong (fun j a b => hu j (by omega)) w2, WW_cong (hu _ (by omega)) (fun j a b => hu j (by omega)) w3, ⟨by rw [h8]; omega, fun j h => absurd h (by rw [h8]; omega)⟩⟩ (fun c j hc => hz c j (by omega)) rfl rfl
    show gI (pI (pI σ 25 7 0) 72 127 0) 25 7 = nI 0
    rw [gI_pI, if_neg (by omega), gI_pI, if_pos (by omega)]; rfl
