theorem al_clear {σ : Sg} (hR : R σ) : Alike R σ (fun τ => s_x_clear τ) (fun τ => s_m_clear τ) := by
  obtain ⟨⟨A, hA⟩, hI, ⟨n, hn, t1, t2, t3⟩, hF, hC, hK⟩ := hR
  refine ⟨nI n, pI σ 0 9 0, pI (pI σ 0 9 0) 71 21 0, ?_, ?_, ?_⟩
  · show some (gI σ 0 9, pI σ 0 9 0) = _; rw [t1]
  · show some (gI (pI σ 0 9 0) 71 21, pI (pI σ 0 9 0) 71 21 0) = _
    rw [gI_pI, if_neg (by omega), t2]
  · have hz : ∀ c j, ¬ (c = 0 ∧ j = 9 ∨ c = 71 ∧ j = 21) → gI (pI (pI σ 0 9 0) 71 21 0) c j = gI σ c j := fun c j hc => by rw [gI_pI, if_neg (by omega), gI_pI, if_neg (by omega)]
    refine ⟨⟨A, RA_cong (fun c hc j => hz c j (by omega)) hA⟩, RI_cong (fun c hc j => hz c j (by omega)) hI, ⟨0, by omega, ?_, ?_, fun j hj => absurd hj (Nat.not_lt_zero j)⟩, RF_cong (hz _ _ (by omega)) (hz _ _ (by omega)) rfl rfl hF, RC_cong (fun j hj => hz _ _ (by omega)) (fun j => hz _ _ (by omega)) hC, RK_cong (hz _ _ (by omega)) (funext fun j => hz _ _ (by omega)) rfl rfl rfl hK⟩
    · rw [gI_pI, if_neg (by omega), gI_pI, if_pos (by omega)]; rfl
    · rw [gI_pI, if_pos (by omega)]; rfl
theorem al_places {σ : Sg} (a : Int32) (hR : R σ) : Alike R σ (fun τ => s_x_places τ a) (fun τ => s_m_places τ a) := by
  have hm : ∀ τ, s_m_places τ a = (if 1 ≤ a.toInt ∧ a.toInt ≤ 6 then some (gI τ 72 0, pI (pI (pI (pI τ 72 0 a) 72 1 0) 72 108 0) 72 127 0) else s_m_bad τ (-2)) := fun τ => by
    rw [s_m_places, m_in32 a (x := 1) (y := 6) rfl rfl, Option.bind_some]
    by_cases h : 1 ≤ a.toInt ∧ a.toInt ≤ 6
    · rw [if_pos h, if_neg (by decide), if_pos h]; rfl
    · rw [if_neg h, if_pos rfl, if_neg h, bEta]
  have hx : s_x_places σ a = (if 1 ≤ a.toInt ∧ a.toInt ≤ 6 then some (gI σ 19 5, pI (pI (pI (pI σ 19 5 a) 19 6 0) 25 6 0) 25 7 0) else s_x_refusedBad σ (-2)) := by
    rw [s_x_places, bEta]
    by_cases h : 1 ≤ a.toInt ∧ a.toInt ≤ 6
    · rw [if_neg (by rw [l32 rfl (show (1 : Int32).toInt = 1 from rfl)]; omega), if_pos (by rw [e32 rfl (show (6 : Int32).toInt = 6 from rfl)]; omega), if_pos h]; rfl
    · rw [if_neg h]
      by_cases c : a < 1
      · rw [if_pos c]
      · rw [if_neg c, if_neg (by rw [l32 rfl (show (1 : Int32).toInt = 1 from rfl)] at c; rw [e32 rfl (show (6 : Int32).toInt = 6 from rfl)]; omega)]
  by_cases h : 1 ≤ a.toInt ∧ a.toInt ≤ 6
  · rw [if_pos h] at hx
    obtain ⟨k, hk, hk2, rfl⟩ := nat32 (a := a) (n := 6) (by omega) (by omega)
    rw [nI_toInt hk2] at h
    obtain ⟨A, hM, ⟨x1, x2, x3, x4⟩, w1, w2, w3, w4⟩ := hR.1
    have e1 : gI σ 19 5 = nI (A 0) := x1.1
    refine ⟨nI (A 0), pI (pI (pI (pI σ 19 5 (nI k)) 19 6 0) 25 6 0) 25 7 0, _, by show s_x_places σ (nI k) = _; rw [hx, e1], by show s_m_places _ (nI k) = _; rw [hm, if_pos (by rw [nI_toInt hk2]; exact h), gI_pI, if_neg (by omega), gI_pI, if_neg (by omega), gI_pI, if_neg (by omega), gI_pI, if_neg (by omega), M0 hM (by omega)], ?_⟩
    generalize hτ : pI (pI (pI (pI (pI (pI (pI (pI σ 19 5 (nI k)) 19 6 0) 25 6 0) 25 7 0) 72 0 (nI k)) 72 1 0) 72 108 0) 72 127 0 = τ
    have hz : ∀ c j, ¬ (c = 19 ∧ j = 5 ∨ c = 19 ∧ j = 6 ∨ c = 25 ∧ j = 6 ∨ c = 25 ∧ j = 7 ∨ c = 72) → gI τ c j = gI σ c j := fun c j hc => by
      rw [← hτ, gI_pI, if_neg (by omega), gI_pI, if_neg (by omega), gI_pI, if_neg (by omega), gI_pI, if_neg (by omega), gI_pI, if_neg (by omega), gI_pI, if_neg (by omega), gI_pI, if_neg (by omega), gI_pI, if_neg (by omega)]
    have hB : ∀ j, ¬ (j = 0 ∨ j = 1 ∨ j = 108 ∨ j = 127) → updA (updA (updA (updA A 0 k) 1 0) 108 0) 127 0 j = A j := fun j hj => by
      rw [updA_ne (by omega), updA_ne (by omega), updA_ne (by omega), updA_ne (by omega)]
    have b0 : updA (updA (updA (updA A 0 k) 1 0) 108 0) 127 0 0 = k := rfl
    have b1 : updA (updA (updA (updA A 0 k) 1 0) 108 0) 127 0 1 = 0 := rfl
    have b2 : updA (updA (updA (updA A 0 k) 1 0) 108 0) 127 0 108 = 0 := rfl
    have b3 : updA (updA (updA (updA A 0 k) 1 0) 108 0) 127 0 127 = 0 := rfl
    have hMM : MS τ 72 0 (updA (updA (updA (updA A 0 k) 1 0) 108 0) 127 0) := by
      rw [← hτ]
      exact MS_p0 rfl (MS_p0 rfl (MS_p0 rfl (MS_p0 rfl (MS_off (by omega) (MS_off (by omega) (MS_off (by omega) (MS_off (by omega) hM)))))))
    have g1 : gI τ 19 5 = nI k := by rw [← hτ]; rfl
    have g2 : gI τ 19 6 = nI 0 := by rw [← hτ]; rfl
    have g3 : gI τ 25 6 = nI 0 := by rw [← hτ]; rfl
    have g4 : gI τ 25 7 = nI 0 := by rw [← hτ]; rfl
    refine R_scene hR (A := updA (updA (updA (updA A 0 k) 1 0) 108 0) 127 0) ⟨hMM, ⟨⟨g1, g2, fun p hp => absurd hp (by rw [b1]; omega)⟩, XG_cong (fun j => hz _ j (by omega)) (fun j a b => hB j (by omega)) x2, ⟨g3, fun j hj => absurd hj (by rw [b2]; omega)⟩, ⟨g4, fun j hj => absurd hj (by rw [b3]; omega)⟩⟩, ⟨by rw [b0]; omega, by rw [b0]; omega, by rw [b1]; omega, fun p hp => absurd hp (by rw [b1]; omega)⟩, WG_cong (fun j a b => hB j (by omega)) w2, ⟨by rw [b2]; omega, fun j hj => absurd hj (by rw [b2]; omega)⟩, ⟨by rw [b3]; omega, fun j hj => absurd hj (by rw [b3]; omega)⟩⟩ (fun c j hc => hz c j (by omega)) ?_ ?_
    · rw [← hτ]; rfl
    · rw [← hτ]; rfl
  · exact al_bad (-2) hR (by show s_x_places σ a = _; rw [hx, if_neg h]) (by show s_m_places _ a = _; rw [hm, if_neg h])
theorem al_status {σ : Sg} (a : Int32) (hR : R σ) : Alike R σ (fun τ => s_x_status τ a) (fun τ => s_m_status τ a) := by
  obtain ⟨c1, c2, c3⟩ := hR.2.2.2.2.1
  by_cases h0 : a = 0
  · subst h0; exact ⟨gI σ 0 12, σ, σ, rfl, by rw [c1]; rfl, hR⟩
  by_cases h1 : a = 1
  · subst h1; exact ⟨gI σ 0 13, σ, σ, rfl, by rw [c2]; rfl, hR⟩
  by_cases h2 : a = 2
  · subst h2; exact ⟨gI σ 0 14, σ, σ, rfl, by rw [c3]; rfl, hR⟩
  refine al_bad (-1) hR ?_ ?_
  · show s_x_status σ a = _
    rw [s_x_status, if_neg h0, if_neg h1, if_neg h2, bEta]
  · show s_m_status _ a = _
    rw [s_m_status, m_in32 a (x := 0) (y := 2) rfl rfl, Option.bind_some]
    have : ¬ (0 ≤ a.toInt ∧ a.toInt ≤ 2) := fun q => by
      obtain ⟨k, k1, k2, rfl⟩ := nat32 (a := a) (n := 2) q.1 (by omega)
      match k, k1 with
      | 0, _ => exact h0 rfl
      | 1, _ => exact h1 rfl
      | 2, _ => exact h2 rfl
    rw [if_neg this, if_pos rfl, bEta]
