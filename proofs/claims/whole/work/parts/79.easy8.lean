theorem al_drop {σ : Sg} (a : Int32) (hR : R σ) : Alike R σ (fun τ => s_x_drop τ a) (fun τ => s_m_drop τ a) := by
  obtain ⟨A, hM, ⟨x1, x2, x3, x4⟩, w1, w2, w3, w4⟩ := hR.1
  obtain ⟨N, hN⟩ : ∃ N, N = A 1 := ⟨_, rfl⟩
  have e1 : gI σ 19 6 = nI N := by rw [hN]; exact x1.2.1
  have m1 : gI σ 72 1 = nI N := by rw [hN]; exact M0 hM (by omega)
  have n9 : N ≤ 9 := by rw [hN]; exact w1.2.2.1
  by_cases hk : 0 ≤ a.toInt ∧ a.toInt ≤ (N : Int) - 1
  rotate_left
  · refine al_bad (-2) hR ?_ ?_
    · show s_x_drop σ a = _
      rw [s_x_drop, x_hasPerson a e1 (by omega), if_neg hk, Option.bind_some, if_pos rfl, bEta]
    · show s_m_drop _ a = _
      rw [s_m_drop, m_isOne (n := N) a (by rw [gI_ne (by omega)]; exact m1) (by omega), if_neg hk, Option.bind_some, if_pos rfl, bEta]
  obtain ⟨k, k1, rfl⟩ := below_nI (by omega) hk
  obtain ⟨E, hE⟩ : ∃ E, E = A (4 + 11 * k) := ⟨_, rfl⟩
  have kN : k < A 1 := by rw [← hN]; exact k1
  have eE : gI σ 22 k = nI E := by rw [hE]; exact (x1.2.2 k kN).2.2.1
  have mE : gI σ 72 (4 + 11 * k) = nI E := by rw [hE]; exact M0 hM (by omega)
  have e4 : E ≤ 4 := by rw [hE]; exact (w1.2.2.2 k kN).2.2.2.1
  have i2 : (2 + 11 * nI k) + 2 = nI (4 + 11 * k) := by rw [mul11, show nI (2 + 11 * k) + 2 = nI (2 + 11 * k + 2) from nI_add _ 2]; congr 1; omega
  by_cases h0 : E = 0
  · refine al_no (-3) hR ?_ ?_
    · show s_x_drop σ (nI k) = _
      rw [s_x_drop, x_hasPerson (nI k) e1 (by omega), if_pos hk, Option.bind_some, if_neg (by decide), if_pos (inB_nI (by omega) (by omega)), nI_clamp (by omega), if_pos (by rw [eE, h0]; rfl), bEta]
    · show s_m_drop _ (nI k) = _
      rw [s_m_drop, m_isOne (n := N) (nI k) (by rw [gI_ne (by omega)]; exact m1) (by omega), if_pos hk, Option.bind_some, if_neg (by decide), m_of2 (E := E) (by rw [gI_ne (by omega)]; exact mE) (by omega), Option.bind_some, if_pos (by rw [h0]; rfl), bEta]
  obtain ⟨F, hF⟩ : ∃ F, E = F + 1 := ⟨E - 1, by omega⟩
  have hne : ¬ nI E = 0 := nI_ne0 (by omega) (by omega)
  refine ⟨nI F, pI σ 22 k (nI F), pI (pI σ 22 k (nI F)) 72 (4 + 11 * k) (nI F), ?_, ?_, ?_⟩
  · show s_x_drop σ (nI k) = _
    rw [s_x_drop, x_hasPerson (nI k) e1 (by omega), if_pos hk, Option.bind_some, if_neg (by decide), if_pos (inB_nI (by omega) (by omega)), nI_clamp (by omega), eE, if_neg hne, if_pos (inB_nI (by omega) (by omega)), if_pos (inB_nI (by omega) (by omega)), hF, nI_pred]
    show (if inB (nI k) 9 = true then _ else _) = _
    rw [if_pos (inB_nI (by omega) (by omega)), gI_eq]
  · show s_m_drop _ (nI k) = _
    rw [s_m_drop, m_isOne (n := N) (nI k) (by rw [gI_ne (by omega)]; exact m1) (by omega), if_pos hk, Option.bind_some, if_neg (by decide), m_of2 (E := E) (by rw [gI_ne (by omega)]; exact mE) (by omega), Option.bind_some, if_neg hne, i2, if_pos (inB_nI (by omega) (by omega)), if_pos (inB_nI (by omega) (by omega)), nI_clamp (by omega), gI_ne (by omega), mE, hF, nI_pred]
    show ((s_m_of (pI (pI σ 22 k (nI F)) 72 (4 + 11 * k) (nI F)) (nI k) 2).bind _) = _
    rw [m_of2 (E := F) (by rw [gI_eq]) (by omega), Option.bind_some]
  · generalize hτ : pI (pI σ 22 k (nI F)) 72 (4 + 11 * k) (nI F) = τ
    have hz : ∀ c j, ¬ (c = 22 ∧ j = k ∨ c = 72) → gI τ c j = gI σ c j := fun c j hc => by
      rw [← hτ, gI_ne (by omega), gI_ne (by omega)]
    obtain ⟨B, hB'⟩ : ∃ B, B = updA A (4 + 11 * k) F := ⟨_, rfl⟩
    have hB : ∀ j, ¬ j = 4 + 11 * k → B j = A j := fun j hj => by rw [hB', updA_ne (by omega)]
    have b1 : B (4 + 11 * k) = F := by rw [hB', updA_eq rfl]
    have g1 : gI τ 22 k = nI F := by rw [← hτ, gI_ne (by omega), gI_eq]
    have hMM : MS τ 72 0 B := by rw [← hτ, hB']; exact MS_p0 rfl (MS_off (by omega) hM)
    have hXP : ∀ p, p < B 1 → XP τ 19 p B := fun p hp => by
      rw [hB _ (by omega)] at hp
      obtain ⟨j1, j2, j3, j4⟩ := x1.2.2 p hp
      by_cases c : p = k
      · subst c
        refine ⟨by rw [hz _ _ (by omega), hB _ (by omega)]; exact j1, by rw [hz _ _ (by omega), hB _ (by omega)]; exact j2, g1.trans (by rw [b1]), fun e he => ?_⟩
        rw [b1] at he
        rw [hz _ _ (by omega), hz _ _ (by omega), hB _ (by omega), hB _ (by omega)]; exact j4 e (by omega)
      · have w5 := (w1.2.2.2 p hp).2.2.2.1
        refine ⟨by rw [hz _ _ (by omega), hB _ (by omega)]; exact j1, by rw [hz _ _ (by omega), hB _ (by omega)]; exact j2, by rw [hz _ _ (by omega), hB _ (by omega)]; exact j3, fun e he => ?_⟩
        rw [hB _ (by omega)] at he
        rw [hz _ _ (by omega), hz _ _ (by omega), hB _ (by omega), hB _ (by omega)]; exact j4 e he
    have hWP : ∀ p, p < B 1 → WP (B 0) p B := fun p hp => by
      rw [hB 1 (by omega)] at hp
      rw [hB 0 (by omega)]
      obtain ⟨j1, j2, j3, j4, j5⟩ := w1.2.2.2 p hp
      by_cases c : p = k
      · subst c
        refine ⟨by rw [hB _ (by omega)]; exact j1, by rw [hB _ (by omega)]; exact j2, by rw [hB _ (by omega)]; exact j3, by rw [b1]; omega, fun e he => ?_⟩
        rw [b1] at he
        rw [hB _ (by omega), hB _ (by omega)]; exact j5 e (by omega)
      · refine ⟨by rw [hB _ (by omega)]; exact j1, by rw [hB _ (by omega)]; exact j2, by rw [hB _ (by omega)]; exact j3, by rw [hB _ (by omega)]; exact j4, fun e he => ?_⟩
        rw [hB _ (by omega)] at he
        rw [hB _ (by omega), hB _ (by omega)]; exact j5 e he
    exact R_scene hR (A := B) ⟨hMM, ⟨⟨by rw [hz _ _ (by omega), hB _ (by omega)]; exact x1.1, by rw [hz _ _ (by omega), hB _ (by omega)]; exact x1.2.1, hXP⟩, XG_cong (fun j => hz _ j (by omega)) (fun j a b => hB j (by omega)) x2, XW_cong (hz _ _ (by omega)) (fun j => hz _ j (by omega)) (fun j a b => hB j (by omega)) w3 x3, XO_cong (hz _ _ (by omega)) (fun c a b j => hz c j (by omega)) (fun j a b => hB j (by omega)) w4 x4⟩, ⟨by rw [hB _ (by omega)]; exact w1.1, by rw [hB _ (by omega)]; exact w1.2.1, by rw [hB _ (by omega)]; exact w1.2.2.1, hWP⟩, WG_cong (fun j a b => hB j (by omega)) w2, WW_cong (hB _ (by omega)) (fun j a b => hB j (by omega)) w3, WO_cong (hB _ (by omega)) (hB _ (by omega)) (fun j a b => hB j (by omega)) w4⟩ (fun c j hc => hz c j (by omega)) (by rw [← hτ]; rfl) (by rw [← hτ]; rfl)
theorem al_part {σ : Sg} (a : Int32) (hR : R σ) : Alike R σ (fun τ => s_x_part τ a) (fun τ => s_m_part τ a) := by
  obtain ⟨f1, f2⟩ := hR.2.2.2.1
  by_cases h0 : a = 0
  · subst h0; exact ⟨gL σ 71 4, σ, σ, by rw [← f1]; rfl, rfl, hR⟩
  by_cases h1 : a = 1
  · subst h1; exact ⟨gL σ 71 5, σ, σ, by rw [← f2]; rfl, rfl, hR⟩
  refine ⟨Int32.toInt64 (-1000), pI σ 0 12 (gI σ 0 12 + 1), _, ?_, by show s_m_part _ a = _; rw [s_m_part, if_neg h0, if_neg h1]; rfl, R_bad hR⟩
  show s_x_part σ a = _
  rw [s_x_part]
  by_cases c : a < 0
  · rw [if_pos c]; rfl
  · rw [if_neg c, if_neg]
    · rfl
    · rw [e32 rfl (show (1 : Int32).toInt = 1 from rfl)]
      rw [l32 rfl (show (0 : Int32).toInt = 0 from rfl)] at c
      intro q
      obtain ⟨k, k1, k2, rfl⟩ := nat32 (a := a) (n := 1) (by omega) (by omega)
      match k, k1 with
      | 0, _ => exact h0 rfl
      | 1, _ => exact h1 rfl
