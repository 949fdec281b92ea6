theorem gI_ne {σ : Sg} {k i a j : Nat} {v : Int32} (h : ¬ (a = k ∧ j = i)) : gI (pI σ k i v) a j = gI σ a j := by rw [gI_pI, if_neg h]
theorem gI_eq {σ : Sg} {k i : Nat} {v : Int32} : gI (pI σ k i v) k i = v := by rw [gI_pI, if_pos ⟨rfl, rfl⟩]
theorem pred32 {n : Nat} (h : n < 2 ^ 31) : (nI n - 1).toInt = (n : Int) - 1 := by
  rw [Int32.toInt_sub, nI_toInt h, show (1 : Int32).toInt = 1 from rfl, Int.bmod_def]; omega
theorem pred64 {n : Nat} (h : n < 2 ^ 31) : ((nI n - 1).toInt64).toInt = (n : Int) - 1 := by
  rw [Int32.toInt_toInt64, pred32 h]
theorem x_below {x a : Int32} {n : Nat} (hn : n < 2 ^ 31) (h : x = nI n) : (if a < 0 then some 0 else if x ≤ a then some 0 else some 1 : Option Int32) = some (if 0 ≤ a.toInt ∧ a.toInt ≤ (n : Int) - 1 then 1 else 0) := by
  subst h
  by_cases c : a < 0
  · rw [if_pos c, if_neg]; rw [l32 rfl (show (0 : Int32).toInt = 0 from rfl)] at c; omega
  · rw [if_neg c]; rw [l32 rfl (show (0 : Int32).toInt = 0 from rfl)] at c
    by_cases d : nI n ≤ a
    · rw [if_pos d, if_neg]; rw [e32 (nI_toInt hn) rfl] at d; omega
    · rw [if_neg d, if_pos]; rw [e32 (nI_toInt hn) rfl] at d; omega
theorem x_hasPerson {σ : Sg} {n : Nat} (a : Int32) (h : gI σ 19 6 = nI n) (hn : n < 2 ^ 31) : s_Town_hasPerson σ a = some (if 0 ≤ a.toInt ∧ a.toInt ≤ (n : Int) - 1 then 1 else 0) := x_below hn h
theorem x_hasPlace {σ : Sg} {n : Nat} (a : Int32) (h : gI σ 19 5 = nI n) (hn : n < 2 ^ 31) : s_Town_hasPlace σ a = some (if 0 ≤ a.toInt ∧ a.toInt ≤ (n : Int) - 1 then 1 else 0) := x_below hn h
theorem m_isOne {σ : Sg} {n : Nat} (a : Int32) (h : gI σ 72 1 = nI n) (hn : n < 2 ^ 31) : s_m_isOne σ a = some (if 0 ≤ a.toInt ∧ a.toInt ≤ (n : Int) - 1 then 1 else 0) := by
  rw [s_m_isOne, s_m_people, Option.bind_some, va_cl1, h, m_in32 a (x := 0) (y := (n : Int) - 1) rfl (pred64 hn), Option.bind_some]
  by_cases c : 0 ≤ a.toInt ∧ a.toInt ≤ (n : Int) - 1
  · rw [if_pos c]; rfl
  · rw [if_neg c]; rfl
theorem below_nI {a : Int32} {n : Nat} (hn : n < 2 ^ 31) (h : 0 ≤ a.toInt ∧ a.toInt ≤ (n : Int) - 1) : ∃ k, k < n ∧ a = nI k := by
  obtain ⟨k, k1, k2, k3⟩ := nat32 (a := a) (n := n) (by omega) (by omega)
  subst k3; rw [nI_toInt k2] at h
  exact ⟨k, by omega, rfl⟩
theorem mul11 (n : Nat) : (2 : Int32) + 11 * nI n = nI (2 + 11 * n) := by
  rw [show (11 : Int32) * nI n = nI (11 * n) from (Int32.ofNat_mul 11 n).symm]; exact nI_add 2 _
theorem ltN {a b : Nat} (ha : a < 2 ^ 31) (hb : b < 2 ^ 31) : nI a < nI b ↔ a < b := nI_ltI ha hb
theorem al_person {σ : Sg} (a b : Int32) (hR : R σ) : Alike R σ (fun τ => s_x_person τ a b) (fun τ => s_m_person τ a b) := by
  by_cases ha : 0 ≤ a.toInt ∧ a.toInt ≤ 4
  rotate_left
  · refine al_bad (-2) hR ?_ ?_
    · show s_x_person σ a b = _
      rw [s_x_person, x_isKP, if_neg (fun q => ha q.1), Option.bind_some, if_pos rfl, bEta]
    · show s_m_person _ a b = _
      rw [s_m_person, m_in32 a (x := 0) (y := 4) rfl rfl, if_neg ha, Option.bind_some, if_pos rfl, bEta]
  by_cases hb : 1 ≤ b.toInt ∧ b.toInt ≤ 9
  rotate_left
  · refine al_bad (-2) hR ?_ ?_
    · show s_x_person σ a b = _
      rw [s_x_person, x_isKP, if_neg (fun q => hb q.2), Option.bind_some, if_pos rfl, bEta]
    · show s_m_person _ a b = _
      rw [s_m_person, m_in32 a (x := 0) (y := 4) rfl rfl, if_pos ha, Option.bind_some, if_neg (by decide), m_in32 b (x := 1) (y := 9) rfl rfl, if_neg hb, Option.bind_some, if_pos rfl, bEta]
  obtain ⟨A, hM, ⟨x1, x2, x3, x4⟩, w1, w2, w3, w4⟩ := hR.1
  obtain ⟨N, hN⟩ : ∃ N, N = A 1 := ⟨_, rfl⟩
  have e1 : gI σ 19 6 = nI N := by rw [hN]; exact x1.2.1
  have m1 : gI σ 72 1 = nI N := by rw [hN]; exact M0 hM (by omega)
  have n9 : N ≤ 9 := by rw [hN]; exact w1.2.2.1
  have hm : ∀ τ, s_m_person τ a b = (s_m_people τ ).bind fun q6 => if q6 = 9 then (s_m_full τ ).bind fun q10 => some (q10.1, q10.2) else (s_m_layPerson τ a b).bind fun q8 => (s_m_people q8 ).bind fun q9 => some ((q9 - 1), q8) := fun τ => by
    rw [s_m_person, m_in32 a (x := 0) (y := 4) rfl rfl, if_pos ha, Option.bind_some, if_neg (by decide), m_in32 b (x := 1) (y := 9) rfl rfl, if_pos hb, Option.bind_some, if_neg (by decide)]
  have hx : s_x_person σ a b = if (gI σ 19 6) < 9 then (s_Town_addPerson σ a b) else s_x_refusedFull σ := by
    rw [s_x_person, x_isKP, if_pos ⟨ha, hb⟩, Option.bind_some, if_neg (by decide), bEta, bEta]
  by_cases hf : N = 9
  · refine al_full hR ?_ ?_
    · show s_x_person σ a b = _
      rw [hx, if_neg]; rw [e1, hf]; decide
    · show s_m_person _ a b = _
      rw [hm, s_m_people, Option.bind_some, va_cl1, gI_ne (by omega), if_pos (by rw [m1, hf]; rfl), bEta]
  obtain ⟨k, -, k2, rfl, k3, k4⟩ := b32 (n := 4) ha (by omega) (by omega)
  obtain ⟨v, -, v2, rfl, v3, v4⟩ := b32 (n := 9) hb (by omega) (by omega)
  have hlt : nI N < 9 := (ltN (a := N) (b := 9) (by omega) (by omega)).mpr (by omega)
  refine ⟨nI N, pI (pI (pI (pI σ 20 N (nI k)) 21 N (nI v)) 22 N 0) 19 6 (nI (N + 1)), pI (pI (pI (pI (pI (pI (pI (pI σ 20 N (nI k)) 21 N (nI v)) 22 N 0) 19 6 (nI (N + 1))) 72 (2 + 11 * N) (nI k)) 72 (2 + 11 * N + 1) (nI v)) 72 (2 + 11 * N + 2) 0) 72 1 (nI (N + 1)), ?_, ?_, ?_⟩
  · show s_x_person σ (nI k) (nI v) = _
    rw [hx, if_pos (by rw [e1]; exact hlt), s_Town_addPerson, if_pos (by rw [e1]; exact hlt), e1, if_pos (inB_nI (by omega) (by omega)), nI_clamp (by omega)]
    show (if inB (gI (pI σ 20 N (nI k)) 19 6) 9 = true then _ else _) = _
    rw [gI_ne (by omega), e1, if_pos (inB_nI (by omega) (by omega)), nI_clamp (by omega)]
    show (if inB (gI (pI (pI σ 20 N (nI k)) 21 N (nI v)) 19 6) 9 = true then _ else _) = _
    rw [gI_ne (by omega), gI_ne (by omega), e1, if_pos (inB_nI (by omega) (by omega)), nI_clamp (by omega)]
    show some (gI (pI (pI (pI (pI σ 20 N (nI k)) 21 N (nI v)) 22 N 0) 19 6 (gI (pI (pI (pI σ 20 N (nI k)) 21 N (nI v)) 22 N 0) 19 6 + 1)) 19 6 - 1, pI (pI (pI (pI σ 20 N (nI k)) 21 N (nI v)) 22 N 0) 19 6 (gI (pI (pI (pI σ 20 N (nI k)) 21 N (nI v)) 22 N 0) 19 6 + 1)) = _
    rw [gI_eq, gI_ne (by omega), gI_ne (by omega), gI_ne (by omega), e1, nI_1, nI_pred]
  · generalize hρ : pI (pI (pI (pI σ 20 N (nI k)) 21 N (nI v)) 22 N 0) 19 6 (nI (N + 1)) = ρ
    have r1 : ∀ j, gI ρ 72 j = gI σ 72 j := fun j => by rw [← hρ, gI_ne (by omega), gI_ne (by omega), gI_ne (by omega), gI_ne (by omega)]
    show s_m_person ρ (nI k) (nI v) = _
    rw [hm, s_m_people, Option.bind_some, va_cl1, r1, m1, if_neg (by rw [show (9 : Int32) = nI 9 from rfl, nI_eq (by omega) (by omega)]; exact hf), s_m_layPerson, va_cl1, r1, m1, mul11]
    show (((if inB (nI (2 + 11 * N) + 0) 143 = true then _ else _) : Option Sg).bind _) = _
    rw [show nI (2 + 11 * N) + 0 = nI (2 + 11 * N) from nI_add _ 0, if_pos (inB_nI (by omega) (by omega)), nI_clamp (by omega)]
    show (((if inB (nI (2 + 11 * N) + 1) 143 = true then _ else _) : Option Sg).bind _) = _
    rw [show nI (2 + 11 * N) + 1 = nI (2 + 11 * N + 1) from nI_add _ 1, if_pos (inB_nI (by omega) (by omega)), nI_clamp (by omega)]
    show (((if inB (nI (2 + 11 * N) + 2) 143 = true then _ else _) : Option Sg).bind _) = _
    rw [show nI (2 + 11 * N) + 2 = nI (2 + 11 * N + 2) from nI_add _ 2, if_pos (inB_nI (by omega) (by omega)), nI_clamp (by omega)]
    generalize hκ : pI (pI (pI ρ 72 (2 + 11 * N) (nI k)) 72 (2 + 11 * N + 1) (nI v)) 72 (2 + 11 * N + 2) 0 = κ
    have r2 : gI κ 72 1 = nI N := by rw [← hκ, gI_ne (by omega), gI_ne (by omega), gI_ne (by omega), r1, m1]
    show some (gI (pI κ 72 1 (gI κ 72 1 + 1)) 72 1 - 1, pI κ 72 1 (gI κ 72 1 + 1)) = _
    rw [gI_eq, r2, nI_1, nI_pred]
  · generalize hτ : pI (pI (pI (pI (pI (pI (pI (pI σ 20 N (nI k)) 21 N (nI v)) 22 N 0) 19 6 (nI (N + 1))) 72 (2 + 11 * N) (nI k)) 72 (2 + 11 * N + 1) (nI v)) 72 (2 + 11 * N + 2) 0) 72 1 (nI (N + 1)) = τ
    obtain ⟨B, hB'⟩ : ∃ B, B = updA (updA (updA (updA A (2 + 11 * N) k) (2 + 11 * N + 1) v) (2 + 11 * N + 2) 0) 1 (N + 1) := ⟨_, rfl⟩
    have hz : ∀ c j, ¬ (c = 20 ∧ j = N ∨ c = 21 ∧ j = N ∨ c = 22 ∧ j = N ∨ c = 19 ∧ j = 6 ∨ c = 72) → gI τ c j = gI σ c j := fun c j hc => by
      rw [← hτ, gI_ne (by omega), gI_ne (by omega), gI_ne (by omega), gI_ne (by omega), gI_ne (by omega), gI_ne (by omega), gI_ne (by omega), gI_ne (by omega)]
    have hB : ∀ j, ¬ (j = 1 ∨ j = 2 + 11 * N ∨ j = 3 + 11 * N ∨ j = 4 + 11 * N) → B j = A j := fun j hj => by
      rw [hB', updA_ne (by omega), updA_ne (by omega), updA_ne (by omega), updA_ne (by omega)]
    have b1 : B 1 = N + 1 := by rw [hB', updA_eq rfl]
    have b2 : B (2 + 11 * N) = k := by rw [hB', updA_ne (by omega), updA_ne (by omega), updA_ne (by omega), updA_eq rfl]
    have b3 : B (3 + 11 * N) = v := by rw [hB', updA_ne (by omega), updA_ne (by omega), updA_eq (by omega)]
    have b4 : B (4 + 11 * N) = 0 := by rw [hB', updA_ne (by omega), updA_eq (by omega)]
    have g0 : gI τ 19 6 = nI (N + 1) := by rw [← hτ, gI_ne (by omega), gI_ne (by omega), gI_ne (by omega), gI_ne (by omega), gI_eq]
    have g3 : gI τ 22 N = nI 0 := by rw [← hτ, gI_ne (by omega), gI_ne (by omega), gI_ne (by omega), gI_ne (by omega), gI_ne (by omega), gI_eq]; rfl
    have g2 : gI τ 21 N = nI v := by rw [← hτ, gI_ne (by omega), gI_ne (by omega), gI_ne (by omega), gI_ne (by omega), gI_ne (by omega), gI_ne (by omega), gI_eq]
    have g1 : gI τ 20 N = nI k := by rw [← hτ, gI_ne (by omega), gI_ne (by omega), gI_ne (by omega), gI_ne (by omega), gI_ne (by omega), gI_ne (by omega), gI_ne (by omega), gI_eq]
    have hMM : MS τ 72 0 B := by
      rw [← hτ, hB']
      exact MS_p0 rfl (MS_p0 rfl (MS_p0 rfl (MS_p0 rfl (MS_off (by omega) (MS_off (by omega) (MS_off (by omega) (MS_off (by omega) hM)))))))
    have hXP : ∀ p, p < B 1 → XP τ 19 p B := fun p hp => by
      by_cases c : p = N
      · subst c
        exact ⟨g1.trans (by rw [b2]), g2.trans (by rw [b3]), g3.trans (by rw [b4]), fun e he => absurd he (by rw [b4]; omega)⟩
      · rw [b1] at hp
        obtain ⟨k1, k2, k3, k4⟩ := x1.2.2 p (by omega)
        have w5 := (w1.2.2.2 p (by omega)).2.2.2.1
        refine ⟨by rw [hz _ _ (by omega), hB _ (by omega)]; exact k1, by rw [hz _ _ (by omega), hB _ (by omega)]; exact k2, by rw [hz _ _ (by omega), hB _ (by omega)]; exact k3, fun e he => ?_⟩
        rw [hB _ (by omega)] at he
        rw [hz _ _ (by omega), hz _ _ (by omega), hB _ (by omega), hB _ (by omega)]; exact k4 e he
    have hWP : ∀ p, p < B 1 → WP (B 0) p B := fun p hp => by
      rw [hB 0 (by omega)]
      by_cases c : p = N
      · subst c
        exact ⟨by rw [b2]; omega, by rw [b3]; omega, by rw [b3]; omega, by rw [b4]; omega, fun e he => absurd he (by rw [b4]; omega)⟩
      · rw [b1] at hp
        obtain ⟨k1, k2, k3, k4, k5⟩ := w1.2.2.2 p (by omega)
        refine ⟨by rw [hB _ (by omega)]; exact k1, by rw [hB _ (by omega)]; exact k2, by rw [hB _ (by omega)]; exact k3, by rw [hB _ (by omega)]; exact k4, fun e he => ?_⟩
        rw [hB _ (by omega)] at he
        rw [hB _ (by omega), hB _ (by omega)]; exact k5 e he
    have w31 := w3.1
    have w41 := w4.1
    have hWW : WW B := by
      refine ⟨by rw [hB _ (by omega)]; exact w3.1, fun j hj => ?_⟩
      rw [hB _ (by omega)] at hj
      rw [hB (109 + j) (by omega), b1]
      refine ⟨Nat.lt_of_lt_of_le (w3.2 j hj).1 (Nat.pow_le_pow_right (by omega) (by omega)), fun i hi c d => ?_⟩
      rw [hB 108 (by omega)] at hi
      rw [hB (109 + i) (by omega)]; exact (w3.2 j hj).2 i hi c d
    have hWO : WO B := by
      refine ⟨by rw [hB _ (by omega)]; exact w4.1, fun i hi => ?_⟩
      rw [hB _ (by omega)] at hi
      obtain ⟨o1, o2, o3⟩ := w4.2 i hi
      rw [hB _ (by omega), hB (129 + 3 * i) (by omega), hB (130 + 3 * i) (by omega), hB 0 (by omega), b1]
      exact ⟨by omega, o2, o3⟩
    exact R_scene hR (A := B) ⟨hMM, ⟨⟨by rw [hz _ _ (by omega), hB _ (by omega)]; exact x1.1, g0.trans (by rw [b1]), hXP⟩, XG_cong (fun j => hz _ j (by omega)) (fun j a b => hB j (by omega)) x2, XW_cong (hz _ _ (by omega)) (fun j => hz _ j (by omega)) (fun j a b => hB j (by omega)) w3 x3, XO_cong (hz _ _ (by omega)) (fun c a b j => hz c j (by omega)) (fun j a b => hB j (by omega)) w4 x4⟩, ⟨by rw [hB _ (by omega)]; exact w1.1, by rw [hB _ (by omega)]; exact w1.2.1, by rw [b1]; omega, hWP⟩, WG_cong (fun j a b => hB j (by omega)) w2, hWW, hWO⟩ (fun c j hc => hz c j (by omega)) (by rw [← hτ]; rfl) (by rw [← hτ]; rfl)
