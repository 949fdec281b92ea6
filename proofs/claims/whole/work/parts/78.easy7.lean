theorem m_of2 {τ : Sg} {k E : Nat} (h : gI τ 72 (4 + 11 * k) = nI E) (hk : k < 9) : s_m_of τ (nI k) 2 = some (nI E) := by
  rw [s_m_of, mul11, show nI (2 + 11 * k) + 2 = nI (4 + 11 * k) from by rw [show nI (2 + 11 * k) + 2 = nI (2 + 11 * k + 2) from nI_add _ 2]; congr 1; omega, if_pos (inB_nI (by omega) (by omega)), nI_clamp (by omega), h]
theorem al_errand {σ : Sg} (a b c : Int32) (hR : R σ) : Alike R σ (fun τ => s_x_errand τ a b c) (fun τ => s_m_errand τ a b c) := by
  obtain ⟨A, hM, ⟨x1, x2, x3, x4⟩, w1, w2, w3, w4⟩ := hR.1
  obtain ⟨N, hN⟩ : ∃ N, N = A 1 := ⟨_, rfl⟩
  obtain ⟨P, hP⟩ : ∃ P, P = A 0 := ⟨_, rfl⟩
  have e1 : gI σ 19 6 = nI N := by rw [hN]; exact x1.2.1
  have e0 : gI σ 19 5 = nI P := by rw [hP]; exact x1.1
  have m1 : gI σ 72 1 = nI N := by rw [hN]; exact M0 hM (by omega)
  have m0 : gI σ 72 0 = nI P := by rw [hP]; exact M0 hM (by omega)
  have n9 : N ≤ 9 := by rw [hN]; exact w1.2.2.1
  have p6 : P ≤ 6 := by rw [hP]; exact w1.2.1
  have hx := (show s_x_errand σ a b c = _ from x_ok3 (a := a) (b := b) (c := c) e1 e0 (by omega) (by omega))
  have hm := fun (τ : Sg) (h1 : gI τ 72 1 = nI N) (h0 : gI τ 72 0 = nI P) => (show s_m_errand τ a b c = _ from m_ok3 h1 h0 (by omega) (by omega))
  by_cases hk : ok3 a b c N P
  rotate_left
  · exact al_bad (-2) hR (by show s_x_errand σ a b c = _; rw [hx, if_neg hk]) (by show s_m_errand _ a b c = _; rw [hm _ (by rw [gI_ne (by omega)]; exact m1) (by rw [gI_ne (by omega)]; exact m0), if_neg hk])
  obtain ⟨⟨k, k1, rfl⟩, ⟨q, q1, rfl⟩, hc⟩ : (∃ k, k < N ∧ a = nI k) ∧ (∃ q, q < P ∧ b = nI q) ∧ (0 ≤ c.toInt ∧ c.toInt ≤ 9) := ⟨below_nI (by omega) hk.1, below_nI (by omega) hk.2.1, hk.2.2⟩
  obtain ⟨h, h1, h2, rfl, h3, h4⟩ := b32 (n := 9) hc (by omega) (by omega)
  obtain ⟨E, hE⟩ : ∃ E, E = A (4 + 11 * k) := ⟨_, rfl⟩
  have kN : k < A 1 := by rw [← hN]; exact k1
  have eE : gI σ 22 k = nI E := by rw [hE]; exact (x1.2.2 k kN).2.2.1
  have mE : gI σ 72 (4 + 11 * k) = nI E := by rw [hE]; exact M0 hM (by omega)
  have e4 : E ≤ 4 := by rw [hE]; exact (w1.2.2.2 k kN).2.2.2.1
  rw [if_pos hk, if_pos (inB_nI (by omega) (by omega)), nI_clamp (by omega), bEta, bEta] at hx
  by_cases hf : E = 4
  · refine al_full hR ?_ ?_
    · show s_x_errand σ (nI k) (nI q) (nI h) = _
      rw [hx, if_neg (by rw [eE, hf]; decide)]
    · show s_m_errand _ (nI k) (nI q) (nI h) = _
      rw [hm _ (by rw [gI_ne (by omega)]; exact m1) (by rw [gI_ne (by omega)]; exact m0), if_pos hk, m_of2 (E := E) (by rw [gI_ne (by omega)]; exact mE) (by omega), Option.bind_some, if_pos (by rw [hf]; rfl), bEta]
  have hlt : nI E < 4 := (ltN (a := E) (b := 4) (by omega) (by omega)).mpr (by omega)
  refine ⟨nI E, pI (pI (pI σ 23 (4 * k + E) (nI q)) 24 (4 * k + E) (nI h)) 22 k (nI (E + 1)), pI (pI (pI (pI (pI (pI σ 23 (4 * k + E) (nI q)) 24 (4 * k + E) (nI h)) 22 k (nI (E + 1))) 72 (5 + 11 * k + 2 * E) (nI q)) 72 (6 + 11 * k + 2 * E) (nI h)) 72 (4 + 11 * k) (nI (E + 1)), ?_, ?_, ?_⟩
  · show s_x_errand σ (nI k) (nI q) (nI h) = _
    rw [hx, if_pos (by rw [eE]; exact hlt), s_Town_addErrand, x_hasPerson (nI k) e1 (by omega), if_pos hk.1, Option.bind_some, if_neg (by decide), if_pos (inB_nI (by omega) (by omega)), nI_clamp (by omega), eE, if_pos hlt, if_pos (inB_nI (by omega) (by omega))]
    rw [show nI k * 4 = nI (4 * k) from by rw [show nI k * 4 = nI (k * 4) from (Int32.ofNat_mul k 4).symm, Nat.mul_comm]]
    show (if inB (nI (4 * k) + nI E) 36 = true then _ else _) = _
    rw [nI_add, if_pos (inB_nI (by omega) (by omega)), nI_clamp (by omega)]
    show (if inB (nI (4 * k + E)) 36 = true then _ else _) = _
    rw [if_pos (inB_nI (by omega) (by omega))]
    show (if inB (nI k) 9 = true then (if inB (nI k) 9 = true then _ else _) else _) = _
    rw [if_pos (inB_nI (by omega) (by omega)), if_pos (inB_nI (by omega) (by omega))]
    generalize hκ : pI (pI σ 23 (4 * k + E) (nI q)) 24 (4 * k + E) (nI h) = κ
    have r2 : gI κ 22 k = nI E := by rw [← hκ, gI_ne (by omega), gI_ne (by omega), eE]
    show some (nI E, pI κ 22 k (gI κ 22 k + 1)) = _
    rw [r2, nI_1]
  · generalize hρ : pI (pI (pI σ 23 (4 * k + E) (nI q)) 24 (4 * k + E) (nI h)) 22 k (nI (E + 1)) = ρ
    have r1 : ∀ j, gI ρ 72 j = gI σ 72 j := fun j => by rw [← hρ, gI_ne (by omega), gI_ne (by omega), gI_ne (by omega)]
    show s_m_errand ρ (nI k) (nI q) (nI h) = _
    rw [hm ρ (by rw [r1, m1]) (by rw [r1, m0]), if_pos hk, m_of2 (E := E) (by rw [r1]; exact mE) (by omega), Option.bind_some, if_neg (by rw [show (4 : Int32) = nI 4 from rfl, nI_eq (by omega) (by omega)]; exact hf)]
    have hl : s_m_layErrand ρ (nI k) (nI q) (nI h) = some (pI (pI (pI ρ 72 (5 + 11 * k + 2 * E) (nI q)) 72 (6 + 11 * k + 2 * E) (nI h)) 72 (4 + 11 * k) (nI (E + 1))) := by
      have i2 : nI (2 + 11 * k) + 2 = nI (4 + 11 * k) := by rw [show nI (2 + 11 * k) + 2 = nI (2 + 11 * k + 2) from nI_add _ 2]; congr 1; omega
      have i3 : nI (2 + 11 * k) + 3 + 2 * nI E = nI (5 + 11 * k + 2 * E) := by
        rw [show nI (2 + 11 * k) + 3 = nI (2 + 11 * k + 3) from nI_add _ 3, show (2 : Int32) * nI E = nI (2 * E) from (Int32.ofNat_mul 2 E).symm, nI_add]; congr 1; omega
      have i4 : nI (5 + 11 * k + 2 * E) + 1 = nI (6 + 11 * k + 2 * E) := by rw [nI_1]; congr 1; omega
      rw [s_m_layErrand, mul11]
      show (if inB (nI (2 + 11 * k) + 2) 143 = true then _ else _) = _
      rw [i2, if_pos (inB_nI (by omega) (by omega)), nI_clamp (by omega), r1, mE]
      show (if inB (nI (2 + 11 * k) + 3 + 2 * nI E) 143 = true then _ else _) = _
      rw [i3, if_pos (inB_nI (by omega) (by omega)), nI_clamp (by omega), i4]
      show (if inB (nI (6 + 11 * k + 2 * E)) 143 = true then _ else _) = _
      rw [if_pos (inB_nI (by omega) (by omega)), nI_clamp (by omega)]
      show (if inB (nI (4 + 11 * k)) 143 = true then (if inB (nI (4 + 11 * k)) 143 = true then _ else _) else _) = _
      rw [if_pos (inB_nI (by omega) (by omega)), if_pos (inB_nI (by omega) (by omega))]
      generalize hκ : pI (pI ρ 72 (5 + 11 * k + 2 * E) (nI q)) 72 (6 + 11 * k + 2 * E) (nI h) = κ
      have r2 : gI κ 72 (4 + 11 * k) = nI E := by rw [← hκ, gI_ne (by omega), gI_ne (by omega), r1, mE]
      show some (pI κ 72 (4 + 11 * k) (gI κ 72 (4 + 11 * k) + 1)) = _
      rw [r2, nI_1]
    rw [hl, Option.bind_some, m_of2 (E := E + 1) (by rw [gI_eq]) (by omega), Option.bind_some, nI_pred]
  · generalize hτ : pI (pI (pI (pI (pI (pI σ 23 (4 * k + E) (nI q)) 24 (4 * k + E) (nI h)) 22 k (nI (E + 1))) 72 (5 + 11 * k + 2 * E) (nI q)) 72 (6 + 11 * k + 2 * E) (nI h)) 72 (4 + 11 * k) (nI (E + 1)) = τ
    obtain ⟨B, hB'⟩ : ∃ B, B = updA (updA (updA A (5 + 11 * k + 2 * E) q) (6 + 11 * k + 2 * E) h) (4 + 11 * k) (E + 1) := ⟨_, rfl⟩
    have hz : ∀ c j, ¬ (c = 23 ∧ j = 4 * k + E ∨ c = 24 ∧ j = 4 * k + E ∨ c = 22 ∧ j = k ∨ c = 72) → gI τ c j = gI σ c j := fun c j hc => by
      rw [← hτ, gI_ne (by omega), gI_ne (by omega), gI_ne (by omega), gI_ne (by omega), gI_ne (by omega), gI_ne (by omega)]
    have hB : ∀ j, ¬ (j = 4 + 11 * k ∨ j = 5 + 11 * k + 2 * E ∨ j = 6 + 11 * k + 2 * E) → B j = A j := fun j hj => by
      rw [hB', updA_ne (by omega), updA_ne (by omega), updA_ne (by omega)]
    have b1 : B (4 + 11 * k) = E + 1 := by rw [hB', updA_eq rfl]
    have b2 : B (5 + 11 * k + 2 * E) = q := by rw [hB', updA_ne (by omega), updA_ne (by omega), updA_eq rfl]
    have b3 : B (6 + 11 * k + 2 * E) = h := by rw [hB', updA_ne (by omega), updA_eq (by omega)]
    have g1 : gI τ 22 k = nI (E + 1) := by rw [← hτ, gI_ne (by omega), gI_ne (by omega), gI_ne (by omega), gI_eq]
    have g3 : gI τ 24 (4 * k + E) = nI h := by rw [← hτ, gI_ne (by omega), gI_ne (by omega), gI_ne (by omega), gI_ne (by omega), gI_eq]
    have g2 : gI τ 23 (4 * k + E) = nI q := by rw [← hτ, gI_ne (by omega), gI_ne (by omega), gI_ne (by omega), gI_ne (by omega), gI_ne (by omega), gI_eq]
    have hMM : MS τ 72 0 B := by
      rw [← hτ, hB']
      exact MS_p0 rfl (MS_p0 rfl (MS_p0 rfl (MS_off (by omega) (MS_off (by omega) (MS_off (by omega) hM)))))
    have hXP : ∀ p, p < B 1 → XP τ 19 p B := fun p hp => by
      rw [hB _ (by omega)] at hp
      obtain ⟨j1, j2, j3, j4⟩ := x1.2.2 p hp
      have w5 := (w1.2.2.2 p hp).2.2.2.1
      by_cases c : p = k
      · subst c
        refine ⟨by rw [hz _ _ (by omega), hB _ (by omega)]; exact j1, by rw [hz _ _ (by omega), hB _ (by omega)]; exact j2, g1.trans (by rw [b1]), fun e he => ?_⟩
        rw [b1] at he
        by_cases d : e = E
        · subst d; exact ⟨g2.trans (by rw [b2]), g3.trans (by rw [b3])⟩
        · rw [hz _ _ (by omega), hz _ _ (by omega), hB _ (by omega), hB _ (by omega)]; exact j4 e (by omega)
      · refine ⟨by rw [hz _ _ (by omega), hB _ (by omega)]; exact j1, by rw [hz _ _ (by omega), hB _ (by omega)]; exact j2, by rw [hz _ _ (by omega), hB _ (by omega)]; exact j3, fun e he => ?_⟩
        rw [hB _ (by omega)] at he
        rw [hz _ _ (by omega), hz _ _ (by omega), hB _ (by omega), hB _ (by omega)]; exact j4 e he
    have hWP : ∀ p, p < B 1 → WP (B 0) p B := fun p hp => by
      rw [hB 1 (by omega)] at hp
      rw [hB 0 (by omega)]
      obtain ⟨j1, j2, j3, j4, j5⟩ := w1.2.2.2 p hp
      by_cases c : p = k
      · subst c
        refine ⟨by rw [hB _ (by omega)]; exact j1, by rw [hB _ (by omega)]; exact j2, by rw [hB _ (by omega)]; exact j3, by rw [b1]; omega, fun e he => ?_⟩
        rw [b1] at he
        by_cases d : e = E
        · subst d; rw [b2, b3, ← hP]; exact ⟨q1, by omega⟩
        · rw [hB _ (by omega), hB _ (by omega)]; exact j5 e (by omega)
      · refine ⟨by rw [hB _ (by omega)]; exact j1, by rw [hB _ (by omega)]; exact j2, by rw [hB _ (by omega)]; exact j3, by rw [hB _ (by omega)]; exact j4, fun e he => ?_⟩
        rw [hB _ (by omega)] at he
        rw [hB _ (by omega), hB _ (by omega)]; exact j5 e he
    exact R_scene hR (A := B) ⟨hMM, ⟨⟨by rw [hz _ _ (by omega), hB _ (by omega)]; exact x1.1, by rw [hz _ _ (by omega), hB _ (by omega)]; exact x1.2.1, hXP⟩, XG_cong (fun j => hz _ j (by omega)) (fun j a b => hB j (by omega)) x2, XW_cong (hz _ _ (by omega)) (fun j => hz _ j (by omega)) (fun j a b => hB j (by omega)) w3 x3, XO_cong (hz _ _ (by omega)) (fun c a b j => hz c j (by omega)) (fun j a b => hB j (by omega)) w4 x4⟩, ⟨by rw [hB _ (by omega)]; exact w1.1, by rw [hB _ (by omega)]; exact w1.2.1, by rw [hB _ (by omega)]; exact w1.2.2.1, hWP⟩, WG_cong (fun j a b => hB j (by omega)) w2, WW_cong (hB _ (by omega)) (fun j a b => hB j (by omega)) w3, WO_cong (hB _ (by omega)) (hB _ (by omega)) (fun j a b => hB j (by omega)) w4⟩ (fun c j hc => hz c j (by omega)) (by rw [← hτ]; rfl) (by rw [← hτ]; rfl)
