theorem b32 {a : Int32} {n : Nat} {x y : Int} (h : x ≤ a.toInt ∧ a.toInt ≤ y) (hx : 0 ≤ x) (hy : y ≤ n) : ∃ k, k ≤ n ∧ k < 2 ^ 31 ∧ a = nI k ∧ x ≤ k ∧ (k : Int) ≤ y := by
  obtain ⟨k, k1, k2, rfl⟩ := nat32 (a := a) (n := n) (by omega) (by omega)
  rw [nI_toInt k2] at h
  exact ⟨k, k1, k2, rfl, h.1, h.2⟩
theorem x_isAmount (a : Int32) : s_x_isAmount a = some (if 0 ≤ a.toInt ∧ a.toInt ≤ 99 then 1 else 0) := by
  rw [s_x_isAmount]
  by_cases c : a < 0
  · rw [if_pos c, if_neg]; rw [l32 rfl (show (0 : Int32).toInt = 0 from rfl)] at c; omega
  · rw [if_neg c]; rw [l32 rfl (show (0 : Int32).toInt = 0 from rfl)] at c
    by_cases d : 99 < a
    · rw [if_pos d, if_neg]; rw [l32 (show (99 : Int32).toInt = 99 from rfl) rfl] at d; omega
    · rw [if_neg d, if_pos]; rw [l32 (show (99 : Int32).toInt = 99 from rfl) rfl] at d; omega
theorem x_isHour (a : Int32) : s_x_isHour a = some (if 0 ≤ a.toInt ∧ a.toInt ≤ 9 then 1 else 0) := by
  rw [s_x_isHour]
  by_cases c : a < 0
  · rw [if_pos c, if_neg]; rw [l32 rfl (show (0 : Int32).toInt = 0 from rfl)] at c; omega
  · rw [if_neg c]; rw [l32 rfl (show (0 : Int32).toInt = 0 from rfl)] at c
    by_cases d : 10 ≤ a
    · rw [if_pos d, if_neg]; rw [e32 (show (10 : Int32).toInt = 10 from rfl) rfl] at d; omega
    · rw [if_neg d, if_pos]; rw [e32 (show (10 : Int32).toInt = 10 from rfl) rfl] at d; omega
theorem x_isKP (a b : Int32) : s_x_isKindAndPace a b = some (if (0 ≤ a.toInt ∧ a.toInt ≤ 4) ∧ 1 ≤ b.toInt ∧ b.toInt ≤ 9 then 1 else 0) := by
  rw [s_x_isKindAndPace]
  by_cases c : a < 0
  · rw [if_pos c, if_neg]; rw [l32 rfl (show (0 : Int32).toInt = 0 from rfl)] at c; omega
  · rw [if_neg c]; rw [l32 rfl (show (0 : Int32).toInt = 0 from rfl)] at c
    by_cases d : 5 ≤ a
    · rw [if_pos d, if_neg]; rw [e32 (show (5 : Int32).toInt = 5 from rfl) rfl] at d; omega
    · rw [if_neg d]; rw [e32 (show (5 : Int32).toInt = 5 from rfl) rfl] at d
      by_cases e : b < 1
      · rw [if_pos e, if_neg]; rw [l32 rfl (show (1 : Int32).toInt = 1 from rfl)] at e; omega
      · rw [if_neg e]; rw [l32 rfl (show (1 : Int32).toInt = 1 from rfl)] at e
        by_cases f : 9 < b
        · rw [if_pos f, if_neg]; rw [l32 (show (9 : Int32).toInt = 9 from rfl) rfl] at f; omega
        · rw [if_neg f, if_pos]; rw [l32 (show (9 : Int32).toInt = 9 from rfl) rfl] at f; omega
theorem al_gain {σ : Sg} (a b : Int32) (hR : R σ) : Alike R σ (fun τ => s_x_gain τ a b) (fun τ => s_m_gain τ a b) := by
  have h1 : (a < 1) ↔ a.toInt < 1 := l32 rfl (show (1 : Int32).toInt = 1 from rfl)
  have h7 : (7 < a) ↔ 7 < a.toInt := l32 (show (7 : Int32).toInt = 7 from rfl) rfl
  by_cases ha : 1 ≤ a.toInt ∧ a.toInt ≤ 7
  · by_cases hb : 0 ≤ b.toInt ∧ b.toInt ≤ 99
    · obtain ⟨k, -, k2, rfl, k3, k4⟩ := b32 (n := 7) ha (by omega) (by omega)
      obtain ⟨v, v1, v2, rfl, -, v4⟩ := b32 (n := 99) hb (by omega) (by omega)
      obtain ⟨A, hM, ⟨x1, x2, x3, x4⟩, w1, w2, w3, w4⟩ := hR.1
      have e1 : gI σ 26 k = nI (A (100 + k)) := x2 k (by omega) (by omega)
      have ei : (101 + nI k) - 1 = nI (100 + k) := by
        rw [show (101 : Int32) + nI k = nI (100 + k + 1) from by rw [show (101 : Int32) + nI k = nI (101 + k) from nI_add 101 k]; congr 1; omega]
        exact nI_pred _
      refine ⟨nI (A (100 + k)), pI σ 26 k (nI v), pI (pI σ 26 k (nI v)) 72 (100 + k) (nI v), ?_, ?_, ?_⟩
      · show s_x_gain σ (nI k) (nI v) = _
        rw [s_x_gain, if_neg (by rw [h1]; omega), if_neg (by rw [h7]; omega), x_isAmount, if_pos hb, Option.bind_some, if_neg (by decide), if_pos (inB_nI (by omega) (by omega)), nI_clamp k2, e1]
        show (if inB (nI k) 8 = true then _ else _) = _
        rw [if_pos (inB_nI (by omega) (by omega))]; rfl
      · show s_m_gain _ (nI k) (nI v) = _
        rw [s_m_gain, m_in32 (nI k) (x := 1) (y := 7) rfl rfl, if_pos ha, Option.bind_some, if_neg (by decide), m_in32 (nI v) (x := 0) (y := 99) rfl rfl, if_pos hb, Option.bind_some, if_neg (by decide), ei, if_pos (inB_nI (by omega) (by omega)), nI_clamp (by omega)]
        show (if inB (nI (100 + k)) 143 = true then _ else _) = _
        rw [if_pos (inB_nI (by omega) (by omega))]
        show some (gI (pI σ 26 k (nI v)) 72 (100 + k), _) = _
        rw [gI_pI, if_neg (by omega), M0 hM (by omega)]
      · generalize hτ : pI (pI σ 26 k (nI v)) 72 (100 + k) (nI v) = τ
        have hz : ∀ c j, ¬ (c = 26 ∧ j = k ∨ c = 72) → gI τ c j = gI σ c j := fun c j hc => by rw [← hτ, gI_pI, if_neg (by omega), gI_pI, if_neg (by omega)]
        have hu : ∀ j, ¬ j = 100 + k → updA A (100 + k) v j = A j := fun j hj => updA_ne hj
        refine R_scene hR (A := updA A (100 + k) v) ⟨by rw [← hτ]; exact MS_p0 rfl (MS_off (by omega) hM), ⟨XT_cong (fun c a b j => hz c j (by omega)) (fun j h => hu j (by omega)) w1 x1, fun j j1 j7 => ?_, XW_cong (hz _ _ (by omega)) (fun j => hz _ j (by omega)) (fun j a b => hu j (by omega)) w3 x3, XO_cong (hz _ _ (by omega)) (fun c a b j => hz c j (by omega)) (fun j a b => hu j (by omega)) w4 x4⟩, WT_cong (fun j h => hu j (by omega)) w1, fun j j1 j7 => ?_, WW_cong (hu _ (by omega)) (fun j a b => hu j (by omega)) w3, WO_cong (hu _ (by omega)) (hu _ (by omega)) (fun j a b => hu j (by omega)) w4⟩ (fun c j hc => hz c j (by omega)) (by rw [← hτ]; rfl) (by rw [← hτ]; rfl)
        · by_cases hj : j = k
          · subst hj; rw [updA_eq rfl, ← hτ, gI_pI, if_neg (by omega), gI_pI, if_pos (by omega)]
          · rw [updA_ne (by omega), hz _ _ (by omega)]; exact x2 j j1 j7
        · by_cases hj : j = k
          · subst hj; rw [updA_eq rfl]; exact v1
          · rw [updA_ne (by omega)]; exact w2 j j1 j7
    · refine al_bad (-2) hR ?_ ?_
      · show s_x_gain σ a b = _
        rw [s_x_gain, if_neg (by rw [h1]; omega), if_neg (by rw [h7]; omega), x_isAmount, if_neg hb, Option.bind_some, if_pos rfl, bEta]
      · show s_m_gain _ a b = _
        rw [s_m_gain, m_in32 a (x := 1) (y := 7) rfl rfl, if_pos ha, Option.bind_some, if_neg (by decide), m_in32 b (x := 0) (y := 99) rfl rfl, if_neg hb, Option.bind_some, if_pos rfl, bEta]
  · refine al_bad (-2) hR ?_ ?_
    · show s_x_gain σ a b = _
      rw [s_x_gain]
      by_cases c : a < 1
      · rw [if_pos c, bEta]
      · rw [if_neg c, if_pos (by rw [h7]; rw [h1] at c; omega), bEta]
    · show s_m_gain _ a b = _
      rw [s_m_gain, m_in32 a (x := 1) (y := 7) rfl rfl, if_neg ha, Option.bind_some, if_pos rfl, bEta]
