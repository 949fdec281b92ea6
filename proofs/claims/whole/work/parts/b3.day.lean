/-- the day's scratch cells bind nothing -/
theorem R_day {σ τ : Sg} (hR : R σ) (hz : ∀ c j, ¬ (c = 31 ∨ 33 ≤ c ∧ c ≤ 37 ∨ c = 71 ∧ j = 9 ∨ 76 ≤ c ∧ c ≤ 78) → gI τ c j = gI σ c j) (h2 : τ.2 = σ.2) : R τ := by
  obtain ⟨⟨A, hA⟩, hI, hT, hF, hC, hK⟩ := hR
  have gL4 : gL τ = gL σ := by show τ.2.1 = σ.2.1; rw [h2]
  have gR4 : gR τ = gR σ := by show τ.2.2 = σ.2.2; rw [h2]
  exact ⟨⟨A, RA_cong (fun c hc j => hz c j (by omega)) hA⟩, RI_cong (fun c hc j => hz c j (by omega)) hI, RT_cong (hz _ _ (by omega)) (hz _ _ (by omega)) (fun j => hz _ _ (by omega)) (fun j => hz _ _ (by omega)) hT, RF_cong (hz _ _ (by omega)) (hz _ _ (by omega)) (by rw [gL4]) (by rw [gL4]) hF, RC_cong (fun j _ => hz _ _ (by omega)) (fun j => hz _ _ (by omega)) hC, RK_cong (hz _ _ (by omega)) (funext fun j => hz _ _ (by omega)) (by rw [gL4]) (by rw [gR4]) (by rw [gR4]) hK⟩
theorem al_day {σ : Sg} (a b : Int32) (hR : R σ) : Alike R σ (fun τ => s_x_day τ a b) (fun τ => s_m_day τ a b) := by
  obtain ⟨A, hM, ⟨x1, x2, x3, x4⟩, w1, w2, w3, w4⟩ := hR.1
  have e1 : gI σ 19 6 = nI (A 1) := x1.2.1
  have m1 : gI σ 72 1 = nI (A 1) := M0 hM (by omega)
  have n9 := w1.2.2.1
  by_cases ha : is3 (A 1) a
  rotate_left
  · refine al_bad (-10) hR ?_ ?_
    · show s_x_day σ a b = _
      rw [s_x_day, x_isThree a e1 n9, if_neg ha, Option.bind_some, if_pos rfl, bEta]
    · show s_m_day _ a b = _
      rw [s_m_day, m_isThree a (by rw [gI_ne (by omega)]; exact m1) n9, if_neg ha, Option.bind_some, if_pos rfl, bEta]
  obtain ⟨m, p1, p2, rfl, p3⟩ := is3_nI n9 ha
  have hx : s_x_day σ (nI m) b = if b = -1 then j_x_day_33 σ (nI m) b else (if (if 0 ≤ b.toInt ∧ b.toInt ≤ 9 then (1 : Int32) else 0) = 0 then s_x_refusedBad σ (-10) else j_x_day_33 σ (nI m) b) := by
    rw [s_x_day, x_isThree _ e1 n9, if_pos ha, Option.bind_some, if_neg (by decide), x_isHour, Option.bind_some, bEta]
  have hm : ∀ ρ, gI ρ 72 1 = nI (A 1) → s_m_day ρ (nI m) b = (if (if -1 ≤ b.toInt ∧ b.toInt ≤ 9 then (1 : Int32) else 0) = 0 then s_m_bad ρ (-10) else (s_m_goDay ρ (nI m)).bind fun q6 => if b = (-1) then some (q6.1, q6.2) else (if inB b 10 = true then some ((gI q6.2 78 (Int32.toNatClampNeg b)), q6.2) else none)) := fun ρ hρ => by
    rw [s_m_day, m_isThree _ hρ n9, if_pos ha, Option.bind_some, if_neg (by decide), m_in32 b (x := -1) (y := 9) rfl rfl, Option.bind_some, bEta]
  have hb1 : b = -1 ↔ b.toInt = -1 := ⟨fun q => by rw [q]; rfl, fun q => Int32.toInt.inj (q.trans rfl)⟩
  obtain ⟨ρ, r1, r2, r3, r4, r5⟩ := x_pass x1 w1 p1 p2 p3
  obtain ⟨τ, t1, t2, t3, t4⟩ := m_goDay (σ := ρ) (MS_cong (fun j => r4 _ _ (by omega)) hM) w1 p1 p2 p3
  have hRτ : R τ := R_day hR (fun c j q => (t3 c j (by omega)).trans (r4 c j (by omega))) (t4.trans r5)
  have hρ1 : gI ρ 72 1 = nI (A 1) := (r4 _ _ (by omega)).trans m1
  by_cases c : b = -1
  · refine ⟨nI (dC A m), ρ, τ, ?_, ?_, hRτ⟩
    · show s_x_day σ (nI m) b = _
      rw [hx, if_pos c]; unfold j_x_day_33; rw [r1, Option.bind_some, if_pos c, r2]
    · show s_m_day ρ (nI m) b = _
      rw [hm ρ hρ1, if_pos (show -1 ≤ b.toInt ∧ b.toInt ≤ 9 by rw [hb1.mp c]; omega), if_neg (by decide), t1, Option.bind_some, if_pos c]
  by_cases d : 0 ≤ b.toInt ∧ b.toInt ≤ 9
  · obtain ⟨h, h1, -, rfl, -, -⟩ := b32 (n := 9) d (by omega) (by omega)
    refine ⟨nI (dW A m h), ρ, τ, ?_, ?_, hRτ⟩
    · show s_x_day σ (nI m) (nI h) = _
      rw [hx, if_neg c, if_pos d, if_neg (by decide)]; unfold j_x_day_33; rw [r1, Option.bind_some, if_neg c, if_pos (inB_nI (by omega) (by omega)), nI_clamp (by omega), r3 h (by omega)]
    · show s_m_day ρ (nI m) (nI h) = _
      rw [hm ρ hρ1, if_pos (show -1 ≤ (nI h).toInt ∧ (nI h).toInt ≤ 9 by omega), if_neg (by decide), t1, Option.bind_some, if_neg c, if_pos (inB_nI (by omega) (by omega)), nI_clamp (by omega), t2 h (by omega)]
  · refine al_bad (-10) hR ?_ ?_
    · show s_x_day σ (nI m) b = _
      rw [hx, if_neg c, if_neg d, if_pos rfl]
    · show s_m_day _ (nI m) b = _
      have : ¬ (-1 ≤ b.toInt ∧ b.toInt ≤ 9) := fun q => c (hb1.mpr (by omega))
      rw [hm _ (by rw [gI_ne (by omega)]; exact m1), if_neg this, if_pos rfl]
