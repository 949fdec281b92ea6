def ok3 (a b c : Int32) (N P : Nat) : Prop := (0 ≤ a.toInt ∧ a.toInt ≤ (N : Int) - 1) ∧ (0 ≤ b.toInt ∧ b.toInt ≤ (P : Int) - 1) ∧ 0 ≤ c.toInt ∧ c.toInt ≤ 9
theorem m_ok3 {τ : Sg} {N P : Nat} {a b c : Int32} {K : Option (Int32 × Sg)} (h1 : gI τ 72 1 = nI N) (h0 : gI τ 72 0 = nI P) (hN : N < 2 ^ 31) (hP : P < 2 ^ 31) :
    ((s_m_isOne τ a).bind fun q1 => if q1 = 0 then (s_m_bad τ (-2)).bind fun q3 => some (q3.1, q3.2) else
      (s_m_ring τ ).bind fun q4 => (s_m_in (Int32.toInt64 b) 0 (Int32.toInt64 (q4 - 1))).bind fun q5 =>
      if q5 = 0 then (s_m_bad τ (-2)).bind fun q7 => some (q7.1, q7.2) else
      (s_m_in (Int32.toInt64 c) 0 9).bind fun q8 => if q8 = 0 then (s_m_bad τ (-2)).bind fun q15 => some (q15.1, q15.2) else K) =
    @ite _ (ok3 a b c N P) (Classical.propDecidable _) K (s_m_bad τ (-2)) := by
  rw [m_isOne a h1 hN, Option.bind_some, bEta]
  by_cases ha : 0 ≤ a.toInt ∧ a.toInt ≤ (N : Int) - 1
  · rw [if_pos ha, if_neg (by decide), s_m_ring, Option.bind_some, va_cl0, h0, m_in32 b (x := 0) (y := (P : Int) - 1) rfl (pred64 hP), Option.bind_some]
    by_cases hb : 0 ≤ b.toInt ∧ b.toInt ≤ (P : Int) - 1
    · rw [if_pos hb, if_neg (by decide), m_in32 c (x := 0) (y := 9) rfl rfl, Option.bind_some]
      by_cases hc : 0 ≤ c.toInt ∧ c.toInt ≤ 9
      · rw [if_pos hc, if_neg (by decide), if_pos ⟨ha, hb, hc⟩]
      · rw [if_neg hc, if_pos rfl, if_neg (fun q => hc q.2.2)]
    · rw [if_neg hb, if_pos rfl, if_neg (fun q => hb q.2.1)]
  · rw [if_neg ha, if_pos rfl, if_neg (fun q => ha q.1)]
theorem x_ok3 {τ : Sg} {N P : Nat} {a b c : Int32} {K : Option (Int32 × Sg)} (h1 : gI τ 19 6 = nI N) (h0 : gI τ 19 5 = nI P) (hN : N < 2 ^ 31) (hP : P < 2 ^ 31) :
    ((s_Town_hasPerson τ a).bind fun q1 => if q1 = 0 then (s_x_refusedBad τ (-2)).bind fun q3 => some (q3.1, q3.2) else
      (s_Town_hasPlace τ b).bind fun q4 =>
      if q4 = 0 then (s_x_refusedBad τ (-2)).bind fun q7 => some (q7.1, q7.2) else
      (s_x_isHour c).bind fun q8 => if q8 = 0 then (s_x_refusedBad τ (-2)).bind fun q15 => some (q15.1, q15.2) else K) =
    @ite _ (ok3 a b c N P) (Classical.propDecidable _) K (s_x_refusedBad τ (-2)) := by
  rw [x_hasPerson a h1 hN, Option.bind_some, bEta]
  by_cases ha : 0 ≤ a.toInt ∧ a.toInt ≤ (N : Int) - 1
  · rw [if_pos ha, if_neg (by decide), x_hasPlace b h0 hP, Option.bind_some]
    by_cases hb : 0 ≤ b.toInt ∧ b.toInt ≤ (P : Int) - 1
    · rw [if_pos hb, if_neg (by decide), x_isHour, Option.bind_some]
      by_cases hc : 0 ≤ c.toInt ∧ c.toInt ≤ 9
      · rw [if_pos hc, if_neg (by decide), if_pos ⟨ha, hb, hc⟩]
      · rw [if_neg hc, if_pos rfl, if_neg (fun q => hc q.2.2)]
    · rw [if_neg hb, if_pos rfl, if_neg (fun q => hb q.2.1)]
  · rw [if_neg ha, if_pos rfl, if_neg (fun q => ha q.1)]
theorem al_sight {σ : Sg} (a b c : Int32) (hR : R σ) : Alike R σ (fun τ => s_x_sight τ a b c) (fun τ => s_m_sight τ a b c) := by
  obtain ⟨A, hM, ⟨x1, x2, x3, x4⟩, w1, w2, w3, w4⟩ := hR.1
  obtain ⟨N, hN⟩ : ∃ N, N = A 1 := ⟨_, rfl⟩
  obtain ⟨P, hP⟩ : ∃ P, P = A 0 := ⟨_, rfl⟩
  obtain ⟨S, hS⟩ : ∃ S, S = A 127 := ⟨_, rfl⟩
  have e1 : gI σ 19 6 = nI N := by rw [hN]; exact x1.2.1
  have e0 : gI σ 19 5 = nI P := by rw [hP]; exact x1.1
  have eS : gI σ 25 7 = nI S := by rw [hS]; exact x4.1
  have m1 : gI σ 72 1 = nI N := by rw [hN]; exact M0 hM (by omega)
  have m0 : gI σ 72 0 = nI P := by rw [hP]; exact M0 hM (by omega)
  have mS : gI σ 72 127 = nI S := by rw [hS]; exact M0 hM (by omega)
  have n9 : N ≤ 9 := by rw [hN]; exact w1.2.2.1
  have p6 : P ≤ 6 := by rw [hP]; exact w1.2.1
  have s5 : S ≤ 5 := by rw [hS]; exact w4.1
  have hx : s_x_sight σ a b c = @ite _ (ok3 a b c N P) (Classical.propDecidable _) (if (gI σ 25 7) < 5 then (s_Scene_addSight σ a b c).bind fun q10 => some (q10.1, q10.2) else (s_x_refusedFull σ ).bind fun q11 => some (q11.1, q11.2)) (s_x_refusedBad σ (-2)) := x_ok3 e1 e0 (by omega) (by omega)
  have hm := fun (τ : Sg) (h1 : gI τ 72 1 = nI N) (h0 : gI τ 72 0 = nI P) => (show s_m_sight τ a b c = _ from m_ok3 h1 h0 (by omega) (by omega))
  by_cases hk : ok3 a b c N P
  rotate_left
  · exact al_bad (-2) hR (by show s_x_sight σ a b c = _; rw [hx, if_neg hk]) (by show s_m_sight _ a b c = _; rw [hm _ (by rw [gI_ne (by omega)]; exact m1) (by rw [gI_ne (by omega)]; exact m0), if_neg hk])
  by_cases hf : S = 5
  · refine al_full hR ?_ ?_
    · show s_x_sight σ a b c = _
      rw [hx, if_pos hk, if_neg (by rw [eS, hf]; decide), bEta]
    · show s_m_sight _ a b c = _
      rw [hm _ (by rw [gI_ne (by omega)]; exact m1) (by rw [gI_ne (by omega)]; exact m0), if_pos hk]
      show (if gI (pI σ 0 14 (gI σ 0 14 + 1)) 72 127 = 5 then _ else _) = _
      rw [gI_ne (by omega), mS, if_pos (by rw [hf]; rfl), bEta]
  obtain ⟨⟨k, k1, rfl⟩, ⟨q, q1, rfl⟩, hc⟩ : (∃ k, k < N ∧ a = nI k) ∧ (∃ q, q < P ∧ b = nI q) ∧ (0 ≤ c.toInt ∧ c.toInt ≤ 9) := ⟨below_nI (by omega) hk.1, below_nI (by omega) hk.2.1, hk.2.2⟩
  obtain ⟨h, h1, h2, rfl, h3, h4⟩ := b32 (n := 9) hc (by omega) (by omega)
  have hlt : nI S < 5 := (ltN (a := S) (b := 5) (by omega) (by omega)).mpr (by omega)
  refine ⟨nI S, pI (pI (pI (pI σ 28 S (nI k)) 29 S (nI q)) 30 S (nI h)) 25 7 (nI (S + 1)), pI (pI (pI (pI (pI (pI (pI (pI σ 28 S (nI k)) 29 S (nI q)) 30 S (nI h)) 25 7 (nI (S + 1))) 72 (128 + 3 * S) (nI k)) 72 (128 + 3 * S + 1) (nI q)) 72 (128 + 3 * S + 2) (nI h)) 72 127 (nI (S + 1)), ?_, ?_, ?_⟩
  · show s_x_sight σ (nI k) (nI q) (nI h) = _
    rw [hx, if_pos hk, if_pos (by rw [eS]; exact hlt), bEta, s_Scene_addSight, if_pos (by rw [eS]; exact hlt), eS, if_pos (inB_nI (by omega) (by omega)), nI_clamp (by omega)]
    show (if inB (gI (pI σ 28 S (nI k)) 25 7) 5 = true then _ else _) = _
    rw [gI_ne (by omega), eS, if_pos (inB_nI (by omega) (by omega)), nI_clamp (by omega)]
    show (if inB (gI (pI (pI σ 28 S (nI k)) 29 S (nI q)) 25 7) 5 = true then _ else _) = _
    rw [gI_ne (by omega), gI_ne (by omega), eS, if_pos (inB_nI (by omega) (by omega)), nI_clamp (by omega)]
    generalize hκ : pI (pI (pI σ 28 S (nI k)) 29 S (nI q)) 30 S (nI h) = κ
    have r2 : gI κ 25 7 = nI S := by rw [← hκ, gI_ne (by omega), gI_ne (by omega), gI_ne (by omega), eS]
    show some (gI (pI κ 25 7 (gI κ 25 7 + 1)) 25 7 - 1, pI κ 25 7 (gI κ 25 7 + 1)) = _
    rw [gI_eq, r2, nI_1, nI_pred]
  · generalize hρ : pI (pI (pI (pI σ 28 S (nI k)) 29 S (nI q)) 30 S (nI h)) 25 7 (nI (S + 1)) = ρ
    have r1 : ∀ j, gI ρ 72 j = gI σ 72 j := fun j => by rw [← hρ, gI_ne (by omega), gI_ne (by omega), gI_ne (by omega), gI_ne (by omega)]
    show s_m_sight ρ (nI k) (nI q) (nI h) = _
    rw [hm ρ (by rw [r1, m1]) (by rw [r1, m0]), if_pos hk]
    rw [show Int32.toNatClampNeg 127 = 127 from rfl, r1, mS]
    show (if nI S = 5 then _ else _) = _
    rw [if_neg (by rw [show (5 : Int32) = nI 5 from rfl, nI_eq (by omega) (by omega)]; exact hf), show (128 : Int32) + 3 * nI S = nI (128 + 3 * S) from by rw [show (3 : Int32) * nI S = nI (3 * S) from (Int32.ofNat_mul 3 S).symm]; exact nI_add 128 _]
    rw [if_pos (inB_nI (by omega) (by omega)), nI_clamp (by omega), show nI (128 + 3 * S) + 1 = nI (128 + 3 * S + 1) from nI_add _ 1, show nI (128 + 3 * S) + 2 = nI (128 + 3 * S + 2) from nI_add _ 2]
    show (if inB (nI (128 + 3 * S + 1)) 143 = true then _ else _) = _
    rw [if_pos (inB_nI (by omega) (by omega)), nI_clamp (by omega)]
    show (if inB (nI (128 + 3 * S + 2)) 143 = true then _ else _) = _
    rw [if_pos (inB_nI (by omega) (by omega)), nI_clamp (by omega)]
    generalize hκ : pI (pI (pI ρ 72 (128 + 3 * S) (nI k)) 72 (128 + 3 * S + 1) (nI q)) 72 (128 + 3 * S + 2) (nI h) = κ
    have r2 : gI κ 72 127 = nI S := by rw [← hκ, gI_ne (by omega), gI_ne (by omega), gI_ne (by omega), r1, mS]
    show some (nI S, pI κ 72 127 (gI κ 72 127 + 1)) = _
    rw [r2, nI_1]
  · generalize hτ : pI (pI (pI (pI (pI (pI (pI (pI σ 28 S (nI k)) 29 S (nI q)) 30 S (nI h)) 25 7 (nI (S + 1))) 72 (128 + 3 * S) (nI k)) 72 (128 + 3 * S + 1) (nI q)) 72 (128 + 3 * S + 2) (nI h)) 72 127 (nI (S + 1)) = τ
    obtain ⟨B, hB'⟩ : ∃ B, B = updA (updA (updA (updA A (128 + 3 * S) k) (128 + 3 * S + 1) q) (128 + 3 * S + 2) h) 127 (S + 1) := ⟨_, rfl⟩
    have hz : ∀ c j, ¬ (c = 28 ∧ j = S ∨ c = 29 ∧ j = S ∨ c = 30 ∧ j = S ∨ c = 25 ∧ j = 7 ∨ c = 72) → gI τ c j = gI σ c j := fun c j hc => by
      rw [← hτ, gI_ne (by omega), gI_ne (by omega), gI_ne (by omega), gI_ne (by omega), gI_ne (by omega), gI_ne (by omega), gI_ne (by omega), gI_ne (by omega)]
    have hB : ∀ j, ¬ (j = 127 ∨ j = 128 + 3 * S ∨ j = 129 + 3 * S ∨ j = 130 + 3 * S) → B j = A j := fun j hj => by
      rw [hB', updA_ne (by omega), updA_ne (by omega), updA_ne (by omega), updA_ne (by omega)]
    have b1 : B 127 = S + 1 := by rw [hB', updA_eq rfl]
    have b2 : B (128 + 3 * S) = k := by rw [hB', updA_ne (by omega), updA_ne (by omega), updA_ne (by omega), updA_eq rfl]
    have b3 : B (129 + 3 * S) = q := by rw [hB', updA_ne (by omega), updA_ne (by omega), updA_eq (by omega)]
    have b4 : B (130 + 3 * S) = h := by rw [hB', updA_ne (by omega), updA_eq (by omega)]
    have g0 : gI τ 25 7 = nI (S + 1) := by rw [← hτ, gI_ne (by omega), gI_ne (by omega), gI_ne (by omega), gI_ne (by omega), gI_eq]
    have g3 : gI τ 30 S = nI h := by rw [← hτ, gI_ne (by omega), gI_ne (by omega), gI_ne (by omega), gI_ne (by omega), gI_ne (by omega), gI_eq]
    have g2 : gI τ 29 S = nI q := by rw [← hτ, gI_ne (by omega), gI_ne (by omega), gI_ne (by omega), gI_ne (by omega), gI_ne (by omega), gI_ne (by omega), gI_eq]
    have g1 : gI τ 28 S = nI k := by rw [← hτ, gI_ne (by omega), gI_ne (by omega), gI_ne (by omega), gI_ne (by omega), gI_ne (by omega), gI_ne (by omega), gI_ne (by omega), gI_eq]
    have hMM : MS τ 72 0 B := by
      rw [← hτ, hB']
      exact MS_p0 rfl (MS_p0 rfl (MS_p0 rfl (MS_p0 rfl (MS_off (by omega) (MS_off (by omega) (MS_off (by omega) (MS_off (by omega) hM)))))))
    have w31 := w3.1
    have hXO : XO τ 19 B := by
      refine ⟨g0.trans (by rw [b1]), fun i hi => ?_⟩
      by_cases e : i = S
      · subst e; exact ⟨g1.trans (by rw [b2]), g2.trans (by rw [b3]), g3.trans (by rw [b4])⟩
      · rw [b1] at hi
        rw [hz _ _ (by omega), hz _ _ (by omega), hz _ _ (by omega), hB _ (by omega), hB _ (by omega), hB _ (by omega)]
        exact x4.2 i (by omega)
    have hWO : WO B := by
      refine ⟨by rw [b1]; omega, fun i hi => ?_⟩
      rw [hB 0 (by omega), hB 1 (by omega), ← hN, ← hP]
      by_cases e : i = S
      · subst e; rw [b2, b3, b4]; exact ⟨k1, q1, by omega⟩
      · rw [b1] at hi
        rw [hB (128 + 3 * i) (by omega), hB (129 + 3 * i) (by omega), hB (130 + 3 * i) (by omega), hN, hP]
        exact w4.2 i (by omega)
    exact R_scene hR (A := B) ⟨hMM, ⟨XT_cong (fun c a b j => hz c j (by omega)) (fun j h => hB j (by omega)) w1 x1, XG_cong (fun j => hz _ j (by omega)) (fun j a b => hB j (by omega)) x2, XW_cong (hz _ _ (by omega)) (fun j => hz _ j (by omega)) (fun j a b => hB j (by omega)) w3 x3, hXO⟩, WT_cong (fun j h => hB j (by omega)) w1, WG_cong (fun j a b => hB j (by omega)) w2, WW_cong (hB _ (by omega)) (fun j a b => hB j (by omega)) w3, hWO⟩ (fun c j hc => hz c j (by omega)) (by rw [← hτ]; rfl) (by rw [← hτ]; rfl)
