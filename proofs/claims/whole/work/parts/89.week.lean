theorem al_week {σ : Sg} (a b c : Int32) (hR : R σ) : Alike R σ (fun τ => s_x_week τ a b c) (fun τ => s_m_week τ a b c) := by
  obtain ⟨A, hM, ⟨x1, x2, x3, x4⟩, w1, w2, w3, w4⟩ := hR.1
  obtain ⟨N, hN⟩ : ∃ N, N = A 1 := ⟨_, rfl⟩
  obtain ⟨S, hS⟩ : ∃ S, S = A 108 := ⟨_, rfl⟩
  have e1 : gI σ 19 6 = nI N := by rw [hN]; exact x1.2.1
  have eS : gI σ 25 6 = nI S := by rw [hS]; exact x3.1
  have m1 : gI σ 72 1 = nI N := by rw [hN]; exact M0 hM (by omega)
  have mS : gI σ 72 108 = nI S := by rw [hS]; exact M0 hM (by omega)
  have n9 : N ≤ 9 := by rw [hN]; exact w1.2.2.1
  have s6 : S ≤ 6 := by rw [hS]; exact w3.1
  have hx := x_week (σ := σ) a b c e1 n9
  have hm := fun (τ : Sg) (h1 : gI τ 72 1 = nI N) => m_week (σ := τ) a b c h1 n9
  by_cases hk : okW N a b c
  rotate_left
  · exact al_bad (-2) hR (by show s_x_week σ a b c = _; rw [hx, if_neg hk]) (by show s_m_week _ a b c = _; rw [hm _ (by rw [gI_ne (by omega)]; exact m1), if_neg hk])
  obtain ⟨y1, y2, y3, y4, y5, y6⟩ := id hk
  by_cases hf : S = 6
  · refine al_full hR ?_ ?_
    · show s_x_week σ a b c = _
      rw [hx, if_pos hk, if_neg (by rw [eS, hf]; decide)]
    · show s_m_week _ a b c = _
      rw [hm _ (by rw [gI_ne (by omega)]; exact m1), if_pos hk, j_m_week_41, if_neg (by decide), if_pos y4, if_pos y5, if_pos y6, show Int32.toNatClampNeg 108 = 108 from rfl, gI_ne (by omega), mS]
      show (if nI S = 6 then _ else _) = _
      rw [if_pos (by rw [hf]; rfl), bEta]
  obtain ⟨k, k1, k2, rfl⟩ := z3_nI n9 y1
  obtain ⟨q, q1, q2, rfl⟩ := z3_nI n9 y2
  obtain ⟨h, h1, h2, rfl⟩ := z3_nI n9 y3
  have hlt : nI S < 6 := (ltN (a := S) (b := 6) (by omega) (by omega)).mpr (by omega)
  have nz : ∀ x y : Nat, x < 512 → nI x &&& nI y = 0 → x &&& y = 0 := fun x y hx e => by
    rw [nI_and] at e
    exact (nI_eq (a := x &&& y) (b := 0) (Nat.lt_of_le_of_lt Nat.and_le_left (by omega)) (by omega)).mp e
  have z1 := nz k q k2 y4
  have z2 := nz k h k2 y5
  have z3' := nz q h q2 y6
  have im : nI S * 3 = nI (3 * S) := by rw [show nI S * 3 = nI (S * 3) from (Int32.ofNat_mul S 3).symm, Nat.mul_comm]
  refine ⟨nI S, pI (pI (pI (pI σ 27 (3 * S) (nI k)) 27 (3 * S + 1) (nI q)) 27 (3 * S + 2) (nI h)) 25 6 (nI (S + 1)), pI (pI (pI (pI (pI (pI (pI (pI σ 27 (3 * S) (nI k)) 27 (3 * S + 1) (nI q)) 27 (3 * S + 2) (nI h)) 25 6 (nI (S + 1))) 72 (109 + 3 * S) (nI k)) 72 (109 + 3 * S + 1) (nI q)) 72 (109 + 3 * S + 2) (nI h)) 72 108 (nI (S + 1)), ?_, ?_, ?_⟩
  · show s_x_week σ (nI k) (nI q) (nI h) = _
    rw [hx, if_pos hk, if_pos (by rw [eS]; exact hlt), s_Scene_addWeek, if_pos (by rw [eS]; exact hlt), eS, im, if_pos (inB_nI (by omega) (by omega)), nI_clamp (by omega)]
    show (if inB (gI (pI σ 27 (3 * S) (nI k)) 25 6 * 3 + 1) 18 = true then _ else _) = _
    rw [gI_ne (by omega), eS, im, show nI (3 * S) + 1 = nI (3 * S + 1) from nI_add _ 1, if_pos (inB_nI (by omega) (by omega)), nI_clamp (by omega)]
    show (if inB (gI (pI (pI σ 27 (3 * S) (nI k)) 27 (3 * S + 1) (nI q)) 25 6 * 3 + 2) 18 = true then _ else _) = _
    rw [gI_ne (by omega), gI_ne (by omega), eS, im, show nI (3 * S) + 2 = nI (3 * S + 2) from nI_add _ 2, if_pos (inB_nI (by omega) (by omega)), nI_clamp (by omega)]
    generalize hκ : pI (pI (pI σ 27 (3 * S) (nI k)) 27 (3 * S + 1) (nI q)) 27 (3 * S + 2) (nI h) = κ
    have r2 : gI κ 25 6 = nI S := by rw [← hκ, gI_ne (by omega), gI_ne (by omega), gI_ne (by omega), eS]
    show some (gI (pI κ 25 6 (gI κ 25 6 + 1)) 25 6 - 1, pI κ 25 6 (gI κ 25 6 + 1)) = _
    rw [gI_eq, r2, nI_1, nI_pred]
  · generalize hρ : pI (pI (pI (pI σ 27 (3 * S) (nI k)) 27 (3 * S + 1) (nI q)) 27 (3 * S + 2) (nI h)) 25 6 (nI (S + 1)) = ρ
    have r1 : ∀ j, gI ρ 72 j = gI σ 72 j := fun j => by rw [← hρ, gI_ne (by omega), gI_ne (by omega), gI_ne (by omega), gI_ne (by omega)]
    show s_m_week ρ (nI k) (nI q) (nI h) = _
    rw [hm ρ (by rw [r1, m1]), if_pos hk, j_m_week_41, if_neg (by decide), if_pos y4, if_pos y5, if_pos y6, show Int32.toNatClampNeg 108 = 108 from rfl, r1, mS]
    show (if nI S = 6 then _ else _) = _
    rw [if_neg (by rw [show (6 : Int32) = nI 6 from rfl, nI_eq (by omega) (by omega)]; exact hf), show (109 : Int32) + 3 * nI S = nI (109 + 3 * S) from by rw [show (3 : Int32) * nI S = nI (3 * S) from (Int32.ofNat_mul 3 S).symm]; exact nI_add 109 _]
    rw [if_pos (inB_nI (by omega) (by omega)), nI_clamp (by omega), show nI (109 + 3 * S) + 1 = nI (109 + 3 * S + 1) from nI_add _ 1, show nI (109 + 3 * S) + 2 = nI (109 + 3 * S + 2) from nI_add _ 2]
    show (if inB (nI (109 + 3 * S + 1)) 143 = true then _ else _) = _
    rw [if_pos (inB_nI (by omega) (by omega)), nI_clamp (by omega)]
    show (if inB (nI (109 + 3 * S + 2)) 143 = true then _ else _) = _
    rw [if_pos (inB_nI (by omega) (by omega)), nI_clamp (by omega)]
    generalize hκ : pI (pI (pI ρ 72 (109 + 3 * S) (nI k)) 72 (109 + 3 * S + 1) (nI q)) 72 (109 + 3 * S + 2) (nI h) = κ
    have r2 : gI κ 72 108 = nI S := by rw [← hκ, gI_ne (by omega), gI_ne (by omega), gI_ne (by omega), r1, mS]
    show some (nI S, pI κ 72 108 (gI κ 72 108 + 1)) = _
    rw [r2, nI_1]
  · generalize hτ : pI (pI (pI (pI (pI (pI (pI (pI σ 27 (3 * S) (nI k)) 27 (3 * S + 1) (nI q)) 27 (3 * S + 2) (nI h)) 25 6 (nI (S + 1))) 72 (109 + 3 * S) (nI k)) 72 (109 + 3 * S + 1) (nI q)) 72 (109 + 3 * S + 2) (nI h)) 72 108 (nI (S + 1)) = τ
    obtain ⟨B, hB'⟩ : ∃ B, B = updA (updA (updA (updA A (109 + 3 * S) k) (109 + 3 * S + 1) q) (109 + 3 * S + 2) h) 108 (S + 1) := ⟨_, rfl⟩
    have hz : ∀ c j, ¬ (c = 27 ∧ (j = 3 * S ∨ j = 3 * S + 1 ∨ j = 3 * S + 2) ∨ c = 25 ∧ j = 6 ∨ c = 72) → gI τ c j = gI σ c j := fun c j hc => by
      rw [← hτ, gI_ne (by omega), gI_ne (by omega), gI_ne (by omega), gI_ne (by omega), gI_ne (by omega), gI_ne (by omega), gI_ne (by omega), gI_ne (by omega)]
    have hB : ∀ j, ¬ (j = 108 ∨ j = 109 + 3 * S ∨ j = 109 + 3 * S + 1 ∨ j = 109 + 3 * S + 2) → B j = A j := fun j hj => by
      rw [hB', updA_ne (by omega), updA_ne (by omega), updA_ne (by omega), updA_ne (by omega)]
    have b1 : B 108 = S + 1 := by rw [hB', updA_eq rfl]
    have b2 : B (109 + (3 * S)) = k := by rw [hB', updA_ne (by omega), updA_ne (by omega), updA_ne (by omega), updA_eq rfl]
    have b3 : B (109 + (3 * S + 1)) = q := by rw [hB', updA_ne (by omega), updA_ne (by omega), updA_eq (by omega)]
    have b4 : B (109 + (3 * S + 2)) = h := by rw [hB', updA_ne (by omega), updA_eq (by omega)]
    have g0 : gI τ 25 6 = nI (S + 1) := by rw [← hτ, gI_ne (by omega), gI_ne (by omega), gI_ne (by omega), gI_ne (by omega), gI_eq]
    have g3 : gI τ 27 (3 * S + 2) = nI h := by rw [← hτ, gI_ne (by omega), gI_ne (by omega), gI_ne (by omega), gI_ne (by omega), gI_ne (by omega), gI_eq]
    have g2 : gI τ 27 (3 * S + 1) = nI q := by rw [← hτ, gI_ne (by omega), gI_ne (by omega), gI_ne (by omega), gI_ne (by omega), gI_ne (by omega), gI_ne (by omega), gI_eq]
    have g1 : gI τ 27 (3 * S) = nI k := by rw [← hτ, gI_ne (by omega), gI_ne (by omega), gI_ne (by omega), gI_ne (by omega), gI_ne (by omega), gI_ne (by omega), gI_ne (by omega), gI_eq]
    have hMM : MS τ 72 0 B := by
      rw [← hτ, hB']
      exact MS_p0 rfl (MS_p0 rfl (MS_p0 rfl (MS_p0 rfl (MS_off (by omega) (MS_off (by omega) (MS_off (by omega) (MS_off (by omega) hM)))))))
    have cs : ∀ j, j < 3 * (S + 1) → j < 3 * S ∨ j = 3 * S ∨ j = 3 * S + 1 ∨ j = 3 * S + 2 := fun j hj => by omega
    have hXW : XW τ 19 B := by
      refine ⟨g0.trans (by rw [b1]), fun j hj => ?_⟩
      rw [b1] at hj
      rcases cs j hj with e | rfl | rfl | rfl
      · rw [hz _ _ (by omega), hB _ (by omega)]; exact x3.2 j (by omega)
      · exact g1.trans (by rw [b2])
      · exact g2.trans (by rw [b3])
      · exact g3.trans (by rw [b4])
    have hWW : WW B := by
      refine ⟨by rw [b1]; omega, fun j hj => ?_⟩
      rw [b1, hB 1 (by omega)]
      rw [b1] at hj
      rcases cs j hj with e | rfl | rfl | rfl
      · rw [hB (109 + j) (by omega)]
        refine ⟨(w3.2 j (by omega)).1, fun i hi c d => ?_⟩
        rw [hB (109 + i) (by omega)]; exact (w3.2 j (by omega)).2 i (by omega) c d
      · rw [b2]
        refine ⟨by rw [← hN]; exact k1, fun i hi c d => ?_⟩
        rcases cs i hi with f | rfl | rfl | rfl
        · omega
        · omega
        · rw [b3, Nat.and_comm]; exact z1
        · rw [b4, Nat.and_comm]; exact z2
      · rw [b3]
        refine ⟨by rw [← hN]; exact q1, fun i hi c d => ?_⟩
        rcases cs i hi with f | rfl | rfl | rfl
        · omega
        · rw [b2]; exact z1
        · omega
        · rw [b4, Nat.and_comm]; exact z3'
      · rw [b4]
        refine ⟨by rw [← hN]; exact h1, fun i hi c d => ?_⟩
        rcases cs i hi with f | rfl | rfl | rfl
        · omega
        · rw [b2]; exact z2
        · rw [b3]; exact z3'
        · omega
    exact R_scene hR (A := B) ⟨hMM, ⟨XT_cong (fun c a b j => hz c j (by omega)) (fun j h => hB j (by omega)) w1 x1, XG_cong (fun j => hz _ j (by omega)) (fun j a b => hB j (by omega)) x2, hXW, XO_cong (hz _ _ (by omega)) (fun c a b j => hz c j (by omega)) (fun j a b => hB j (by omega)) w4 x4⟩, WT_cong (fun j h => hB j (by omega)) w1, WG_cong (fun j a b => hB j (by omega)) w2, hWW, WO_cong (hB _ (by omega)) (hB _ (by omega)) (fun j a b => hB j (by omega)) w4⟩ (fun c j hc => hz c j (by omega)) (by rw [← hτ]; rfl) (by rw [← hτ]; rfl)
