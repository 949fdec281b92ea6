theorem type_lm {v : Int64} : ∀ (d : Nat) (σ : Sg) (n F : Nat), d ≤ 8 → n + d ≤ 250 → gI σ 71 21 = nI n → d < F → ∃ τ, lp (b_m_type_41 v) F (σ, nI d - 1) = some (τ, nI 0 - 1) ∧ gI τ 71 21 = nI (n + d) ∧ (∀ j, j < d → gI τ 88 (n + j) = by0 v (d - 1 - j)) ∧ (∀ c j, ¬ (c = 71 ∧ j = 21 ∨ c = 88 ∧ n ≤ j) → gI τ c j = gI σ c j) ∧ gL τ = gL σ ∧ gR τ = gR σ := by
  intro d
  induction d with
  | zero =>
    intro σ n F _ _ hn hF
    obtain ⟨F, rfl⟩ : ∃ f, F = f + 1 := ⟨F - 1, by omega⟩
    refine ⟨σ, lp_end ?_, hn, fun j hj => absurd hj (Nat.not_lt_zero j), fun _ _ _ => rfl, rfl, rfl⟩
    unfold b_m_type_41
    rw [if_pos (show nI 0 - 1 < 0 by decide)]
  | succ d ih =>
    intro σ n F h8 hnd hn hF
    obtain ⟨F, rfl⟩ : ∃ f, F = f + 1 := ⟨F - 1, by omega⟩
    obtain ⟨τ, h1, h2, h3, h4, h5, h6⟩ := ih (pI (pI σ 88 n (by0 v d)) 71 21 (nI (n + 1))) (n + 1) F (by omega) (by omega) gI_eq (by omega)
    refine ⟨τ, ?_, by rw [h2]; congr 1; omega, fun j hj => ?_, fun c j hc => ?_, h5, h6⟩
    · rw [nI_pred, lp_step (type_m hn (by omega) (by omega))]; exact h1
    · by_cases c : j = 0
      · subst c
        rw [h4 _ _ (by omega), gI_ne (by omega), Nat.add_zero, gI_eq]; rfl
      · have := h3 (j - 1) (by omega)
        rw [show n + 1 + (j - 1) = n + j by omega] at this
        rw [this]; congr 1; omega
    · rw [h4 _ _ (by omega), gI_ne (by omega), gI_ne (by omega)]
theorem al_type {σ : Sg} (a : Int64) (b : Int32) (hR : R σ) : Alike R σ (fun τ => s_x_type τ a b) (fun τ => s_m_type τ a b) := by
  obtain ⟨⟨A, hA⟩, hI, ⟨n, hn, t1, t2, t3⟩, hF, hC, hK⟩ := id hR
  have h1 : (b < 1) ↔ b.toInt < 1 := l32 rfl (show (1 : Int32).toInt = 1 from rfl)
  have h8 : (b ≤ 8) ↔ b.toInt ≤ 8 := e32 rfl (show (8 : Int32).toInt = 8 from rfl)
  by_cases hb : 1 ≤ b.toInt ∧ b.toInt ≤ 8
  rotate_left
  · refine al_bad (-2) hR ?_ ?_
    · show s_x_type σ a b = _
      rw [s_x_type, bEta, bEta]
      by_cases c : b < 1
      · rw [if_pos c]
      · rw [if_neg c, if_neg (by rw [h8]; rw [h1] at c; omega)]
    · show s_m_type _ a b = _
      rw [s_m_type, m_in32 b (x := 1) (y := 8) rfl rfl, if_neg hb, Option.bind_some, if_pos rfl, bEta]
  obtain ⟨m, -, m2, rfl, m3, m4⟩ := b32 (n := 8) hb (by omega) (by omega)
  have le : (nI n + nI m ≤ 250) ↔ n + m ≤ 250 := by rw [nI_add]; exact nI_leI (b := 250) (by omega) (by omega)
  have hx : s_x_type σ a (nI m) = if n + m ≤ 250 then (lp (b_x_type_40 a) 100000 (σ, nI m - 1)).bind fun o11 => some ((gI o11.1 0 9), o11.1) else s_x_refusedFull σ := by
    rw [s_x_type, if_neg (by rw [h1]; omega), if_pos (by rw [h8]; omega), t1, bEta]
    by_cases c : n + m ≤ 250
    · rw [if_pos (le.mpr c), if_pos c]; rfl
    · rw [if_neg (fun q => c (le.mp q)), if_neg c]
  have hm : ∀ τ, gI τ 71 21 = nI n → s_m_type τ a (nI m) = if n + m ≤ 250 then (lp (b_m_type_41 a) 100000 (τ, nI m - 1)).bind fun o11 => some ((gI o11.1 71 21), o11.1) else s_m_full τ := fun τ h => by
    rw [s_m_type, m_in32 (nI m) (x := 1) (y := 8) rfl rfl, if_pos hb, Option.bind_some, if_neg (by decide), h, bEta]
    by_cases c : n + m ≤ 250
    · rw [if_pos (le.mpr c), if_pos c]; rfl
    · rw [if_neg (fun q => c (le.mp q)), if_neg c]
  by_cases c : n + m ≤ 250
  rotate_left
  · exact al_full hR (by show s_x_type σ a (nI m) = _; rw [hx, if_neg c]) (by show s_m_type _ a (nI m) = _; rw [hm _ (by rw [gI_ne (by omega)]; exact t2), if_neg c])
  obtain ⟨τ, p1, p2, p3, p4, p5, p6⟩ := type_lx (v := a) m σ n 100000 (by omega) c t1 (by omega)
  obtain ⟨υ, q1, q2, q3, q4, q5, q6⟩ := type_lm (v := a) m τ n 100000 (by omega) c (by rw [p4 _ _ (by omega)]; exact t2) (by omega)
  refine ⟨nI (n + m), τ, υ, ?_, ?_, ?_⟩
  · show s_x_type σ a (nI m) = _
    rw [hx, if_pos c, p1, Option.bind_some, p2]
  · show s_m_type τ a (nI m) = _
    rw [hm τ (by rw [p4 _ _ (by omega)]; exact t2), if_pos c, q1, Option.bind_some, q2]
  · have hz : ∀ c j, ¬ (c = 0 ∧ j = 9 ∨ c = 3 ∨ c = 71 ∧ j = 21 ∨ c = 88) → gI υ c j = gI σ c j := fun c j hc => by rw [q4 _ _ (by omega), p4 _ _ (by omega)]
    have hL : gL υ = gL σ := q5.trans p5
    have hr : gR υ = gR σ := q6.trans p6
    refine ⟨⟨A, RA_cong (fun c hc j => hz c j (by omega)) hA⟩, RI_cong (fun c hc j => hz c j (by omega)) hI, ⟨n + m, c, by rw [q4 _ _ (by omega)]; exact p2, q2, fun j hj => ?_⟩, RF_cong (hz _ _ (by omega)) (hz _ _ (by omega)) (by rw [hL]) (by rw [hL]) hF, RC_cong (fun j hj => hz _ _ (by omega)) (fun j => hz _ _ (by omega)) hC, RK_cong (hz _ _ (by omega)) (funext fun j => hz _ _ (by omega)) (by rw [hL]) (by rw [hr]) (by rw [hr]) hK⟩
    by_cases d : j < n
    · rw [q4 3 j (by omega), p4 3 j (by omega), q4 88 j (by omega), p4 88 j (by omega)]
      exact t3 j d
    · obtain ⟨e, rfl⟩ : ∃ e, j = n + e := ⟨j - n, by omega⟩
      rw [q3 e (by omega), q4 3 _ (by omega), p3 e (by omega)]
      obtain ⟨w, w1, w2⟩ := byte_nI (Int64.toInt32 ((Int64.toUInt64 a >>> (Int64.toUInt64 (Int32.toInt64 (8 * nI (m - 1 - e))) &&& Int64.toUInt64 63)).toInt64))
      exact ⟨w, w1, w2, w2⟩
