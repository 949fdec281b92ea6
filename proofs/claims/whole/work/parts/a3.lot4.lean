theorem lot_end {v2 : Int32} {σ : Sg} {x : Int64} {f : Int32} : b_m_lot_57 σ v2 (x, nI 0, f) = some (.inr (x, nI 0, f)) := by
  unfold b_m_lot_57
  rw [if_pos (show nI 0 = 0 from rfl)]
theorem no0 : ∀ p, p < 10 → ¬ (((nI 0 >>> (nI p &&& 31)) &&& 1) = 1) := by decide +kernel
theorem full9 : ∀ P, P < 10 → ((P = 3 ∨ P = 6 ∨ P = 9) → bN (2 ^ P - 1) = P) ∧ ∀ p, p < P → (2 ^ P - 1).testBit p = true := by decide +kernel
theorem x_lotsEnd {τ : Sg} {x : Int64} {y : Int32} : b_x_drawLots_21 (τ, x, y, nI 3) = some (.inr (τ, x, y, nI 3)) := by
  unfold b_x_drawLots_21
  rw [if_pos (show (3 : Int32) ≤ nI 3 by decide)]
/-- the threes that the lots give, on both sides -/
theorem lots_eq {σ : Sg} {P s p : Nat} (hP : P = 3 ∨ P = 6 ∨ P = 9) (h6 : gI σ 19 6 = nI P) (hs : s < 2147483648) (hp : p < P) : ∃ t0 t1 t2, s_x_drawLots σ (nL s) = some (pI (pI (pI σ 18 0 (nI t0)) 18 1 (nI t1)) 18 2 (nI t2)) ∧ (∀ ρ, ∃ o, lp (b_m_lot_57 ρ (nI p)) 100000 (nL s, nI (2 ^ P - 1), -1) = some o ∧ o.2.2 = fd (nI p) t2 (fd (nI p) t1 (fd (nI p) t0 (-1)))) ∧ (t0 < 512 ∧ t1 < 512 ∧ t2 < 512) ∧
    ((t0.testBit p || t1.testBit p || t2.testBit p) = true ∧ (t0.testBit p && t1.testBit p) = false ∧ (t0.testBit p && t2.testBit p) = false ∧ (t1.testBit p && t2.testBit p) = false) := by
  have hpw := pow_le P (by omega)
  obtain ⟨fb, ft⟩ := full9 P (by omega)
  have fb := fb hP
  have ft := ft p hp
  have hm : 2 ^ P - 1 < 512 := by omega
  have hx : s_x_drawLots σ (nL s) = (lp (b_x_drawLots_21) 100000 (σ, nL s, nI (2 ^ P - 1), nI 0)).bind fun o18 => some o18.1 := by
    rw [s_x_drawLots, lt_eq, h6, shl_ok P (by omega)]
    obtain ⟨q, hq⟩ : ∃ q, 2 ^ P = q + 1 := ⟨2 ^ P - 1, by omega⟩
    rw [hq, nI_pred]; rfl
  have fd0 : ∀ f, fd (nI p) 0 f = f := fun f => if_neg (no0 p (by omega))
  have z0 : ∀ m, m < 512 → bN m = 0 → m = 0 := fun m h => (bN_ok m h).2.2
  obtain ⟨r1, r2, r3, r4, r5⟩ := rd_inv (n := s) (m := 2 ^ P - 1) hm (by omega)
  obtain ⟨g1, g2⟩ := r5 p
  rw [hx]
  have e0 := fun τ => x_round (σ := τ) (n := s) (m := 2 ^ P - 1) (i := 0) hs hm (by omega) (by omega)
  have f0 := fun ρ f => m_round (σ := ρ) (v2 := nI p) (f := f) (n := s) (m := 2 ^ P - 1) hs hm (by omega)
  generalize rd s (2 ^ P - 1) = w0 at *
  obtain ⟨n1, m1, t0⟩ := w0
  have r3 : bN m1 + 3 = bN (2 ^ P - 1) := r3
  by_cases h3 : P = 3
  · have : m1 = 0 := z0 m1 r2 (by omega)
    subst this
    refine ⟨t0, 0, 0, ?_, fun ρ => ⟨_, (lp_step (f0 ρ (-1))).trans (lp_end (n := 99998) lot_end), ?_⟩, ⟨r4, by omega, by omega⟩, ?_⟩
    · rw [show lp (b_x_drawLots_21) 100000 (σ, nL s, nI (2 ^ P - 1), nI 0) = _ from (lp_step (e0 σ)).trans ((lp_step (x_round0 r1 (by omega))).trans ((lp_step (x_round0 (nx_lt _) (by omega))).trans (lp_end (n := 99996) x_lotsEnd)))]; rfl
    · rw [fd0, fd0]
      try rfl
    · have g1 : (2 ^ P - 1).testBit p = (t0.testBit p || (0 : Nat).testBit p) := g1
      rw [ft, Nat.zero_testBit, Bool.or_false] at g1
      rw [← g1, Nat.zero_testBit]; decide
  have ht0 : (t0.testBit p && m1.testBit p) = false := g2
  have hm0 : (2 ^ P - 1).testBit p = (t0.testBit p || m1.testBit p) := g1
  have r2 : m1 < 512 := r2
  have r4 : t0 < 512 := r4
  have r1 : n1 < 2147483648 := r1
  obtain ⟨s1, s2, s3, s4, s5⟩ := rd_inv (n := n1) (m := m1) r2 (by omega)
  obtain ⟨g3, g4⟩ := s5 p
  have e1 := fun τ => x_round (σ := τ) (n := n1) (m := m1) (i := 1) r1 r2 (by omega) (by omega)
  have f1 := fun ρ f => m_round (σ := ρ) (v2 := nI p) (f := f) (n := n1) (m := m1) r1 r2 (by omega)
  generalize rd n1 m1 = w1 at *
  obtain ⟨n2, m2, t1⟩ := w1
  have s3 : bN m2 + 3 = bN m1 := s3
  have ht1 : (t1.testBit p && m2.testBit p) = false := g4
  have hm1 : m1.testBit p = (t1.testBit p || m2.testBit p) := g3
  by_cases h6' : P = 6
  · have : m2 = 0 := z0 m2 s2 (by omega)
    subst this
    refine ⟨t0, t1, 0, ?_, fun ρ => ⟨_, (lp_step (f0 ρ (-1))).trans ((lp_step (f1 ρ _)).trans (lp_end (n := 99997) lot_end)), ?_⟩, ⟨r4, s4, by omega⟩, ?_⟩
    · rw [show lp (b_x_drawLots_21) 100000 (σ, nL s, nI (2 ^ P - 1), nI 0) = _ from (lp_step (e0 σ)).trans ((lp_step (e1 _)).trans ((lp_step (x_round0 s1 (by omega))).trans (lp_end (n := 99996) x_lotsEnd)))]; rfl
    · rw [fd0]
      try rfl
    · rw [ft] at hm0
      rw [hm1] at hm0 ht0
      rw [Nat.zero_testBit] at hm0 ht0 ⊢
      generalize t0.testBit p = A at *
      generalize t1.testBit p = B at *
      revert hm0 ht0
      cases A <;> cases B <;> decide
  have s2 : m2 < 512 := s2
  have s4 : t1 < 512 := s4
  have s1 : n2 < 2147483648 := s1
  obtain ⟨u1, u2, u3, u4, u5⟩ := rd_inv (n := n2) (m := m2) s2 (by omega)
  obtain ⟨g5, g6⟩ := u5 p
  have e2 := fun τ => x_round (σ := τ) (n := n2) (m := m2) (i := 2) s1 s2 (by omega) (by omega)
  have f2 := fun ρ f => m_round (σ := ρ) (v2 := nI p) (f := f) (n := n2) (m := m2) s1 s2 (by omega)
  generalize rd n2 m2 = w2 at *
  obtain ⟨n3, m3, t2⟩ := w2
  have u3 : bN m3 + 3 = bN m2 := u3
  have ht2 : (t2.testBit p && m3.testBit p) = false := g6
  have hm2 : m2.testBit p = (t2.testBit p || m3.testBit p) := g5
  have : m3 = 0 := z0 m3 u2 (by omega)
  subst this
  refine ⟨t0, t1, t2, ?_, fun ρ => ⟨_, (lp_step (f0 ρ (-1))).trans ((lp_step (f1 ρ _)).trans ((lp_step (f2 ρ _)).trans (lp_end (n := 99996) lot_end))), rfl⟩, ⟨r4, s4, u4⟩, ?_⟩
  · rw [show lp (b_x_drawLots_21) 100000 (σ, nL s, nI (2 ^ P - 1), nI 0) = _ from (lp_step (e0 σ)).trans ((lp_step (e1 _)).trans ((lp_step (e2 _)).trans (lp_end (n := 99996) x_lotsEnd)))]; rfl
  · rw [ft] at hm0
    rw [Nat.zero_testBit] at hm2
    rw [hm1, hm2] at hm0 ht0
    rw [hm2] at ht1
    generalize t0.testBit p = A at *
    generalize t1.testBit p = B at *
    generalize t2.testBit p = C at *
    revert hm0 ht0 ht1
    cases A <;> cases B <;> cases C <;> decide
theorem x_all3 {σ : Sg} {P : Nat} (h : gI σ 19 6 = nI P) (hP : P ≤ 9) : s_x_isAllInThrees σ = some (if P = 3 ∨ P = 6 ∨ P = 9 then 1 else 0) := by
  rw [s_x_isAllInThrees, lt_eq, h]
  have e3 : nI P = (3 : Int32) ↔ P = 3 := nI_eq (b := 3) (by omega) (by omega)
  have e6 : nI P = (6 : Int32) ↔ P = 6 := nI_eq (b := 6) (by omega) (by omega)
  have e9 : nI P = (9 : Int32) ↔ P = 9 := nI_eq (b := 9) (by omega) (by omega)
  by_cases a : P = 3
  · rw [if_pos (e3.mpr a), if_pos (Or.inl a)]
  rw [if_neg (fun q => a (e3.mp q))]
  by_cases b : P = 6
  · rw [if_pos (e6.mpr b), if_pos (Or.inr (Or.inl b))]
  rw [if_neg (fun q => b (e6.mp q))]
  by_cases c : P = 9
  · rw [if_pos (e9.mpr c), if_pos (Or.inr (Or.inr c))]
  rw [if_neg (fun q => c (e9.mp q)), if_neg (by omega)]
theorem m_all3 {σ : Sg} {P : Nat} (h : gI σ 72 1 = nI P) (hP : P ≤ 9) : s_m_areThrees σ = some (if P = 3 ∨ P = 6 ∨ P = 9 then 1 else 0) := by
  have hp : s_m_people σ = some (nI P) := by rw [s_m_people, va_cl1, h]
  rw [s_m_areThrees, hp, Option.bind_some, Option.bind_some, Option.bind_some]
  have e3 : nI P = (3 : Int32) ↔ P = 3 := nI_eq (b := 3) (by omega) (by omega)
  have e6 : nI P = (6 : Int32) ↔ P = 6 := nI_eq (b := 6) (by omega) (by omega)
  have e9 : nI P = (9 : Int32) ↔ P = 9 := nI_eq (b := 9) (by omega) (by omega)
  by_cases a : P = 3
  · rw [if_pos (e3.mpr a), if_pos (Or.inl a)]
  rw [if_neg (fun q => a (e3.mp q))]
  by_cases b : P = 6
  · rw [if_pos (e6.mpr b), if_pos (Or.inr (Or.inl b))]
  rw [if_neg (fun q => b (e6.mp q))]
  by_cases c : P = 9
  · rw [if_pos (e9.mpr c), if_pos (Or.inr (Or.inr c))]
  rw [if_neg (fun q => c (e9.mp q)), if_neg (by omega)]
theorem threeWith_step {σ : Sg} {p i t : Nat} (hi : i < 3) (h : gI σ 18 i = nI t) : b_x_threeWith_11 σ (nI p) 3 (nI i) = if ((nI t >>> (nI p &&& 31)) &&& 1) = 1 then some (.inr (.inr (nI t))) else some (.inl (nI (i + 1))) := by
  unfold b_x_threeWith_11
  rw [if_neg (by show ¬ nI 3 ≤ nI i; rw [nI_leI (by omega) (by omega)]; omega), if_pos (inB_nI (by omega) (by omega)), nI_clamp (by omega), h, lt_eq, s_x_isIn]
  by_cases c : ((nI t >>> (nI p &&& 31)) &&& 1) = 1
  · rw [if_pos c, if_pos c]; rfl
  · rw [if_neg c, if_neg c, Option.bind_some, if_pos rfl, lt_eq, nI_1]
theorem R_cell18 {σ : Sg} {u v w : Int32} (hR : R σ) : R (pI (pI (pI σ 18 0 u) 18 1 v) 18 2 w) := by
  have hz : ∀ c j, ¬ c = 18 → gI (pI (pI (pI σ 18 0 u) 18 1 v) 18 2 w) c j = gI σ c j := fun c j h => by rw [gI_ne (by omega), gI_ne (by omega), gI_ne (by omega)]
  obtain ⟨⟨A, hA⟩, hI, hT, hF, hC, hK⟩ := hR
  exact ⟨⟨A, RA_cong (fun c hc j => hz c j (by omega)) hA⟩, RI_cong (fun c hc j => hz c j (by omega)) hI, RT_cong (hz _ _ (by omega)) (hz _ _ (by omega)) (fun j => hz _ _ (by omega)) (fun j => hz _ _ (by omega)) hT, RF_cong (hz _ _ (by omega)) (hz _ _ (by omega)) rfl rfl hF, RC_cong (fun j _ => hz _ _ (by omega)) (fun j => hz _ _ (by omega)) hC, RK_cong (hz _ _ (by omega)) (funext fun j => hz _ _ (by omega)) rfl rfl rfl hK⟩
theorem al_lot {σ : Sg} (a b : Int32) (hR : R σ) : Alike R σ (fun τ => s_x_lot τ a b) (fun τ => s_m_lot τ a b) := by
  obtain ⟨A, hM, ⟨x1, x2, x3, x4⟩, w1, w2, w3, w4⟩ := hR.1
  obtain ⟨P, hPA⟩ : ∃ P, P = A 1 := ⟨_, rfl⟩
  have e1 : gI σ 19 6 = nI P := by rw [hPA]; exact x1.2.1
  have m1 : gI σ 72 1 = nI P := by rw [hPA]; exact M0 hM (by omega)
  have n9 : P ≤ 9 := by rw [hPA]; exact w1.2.2.1
  have hxb : ∀ q : Int32, s_x_lot σ a b = if a < 0 then s_x_refusedBad σ (-2) else if 999999 < a then s_x_refusedBad σ (-2) else (s_Town_hasPerson σ b).bind fun q5 => if q5 = 0 then s_x_refusedBad σ (-2) else (s_x_isAllInThrees σ).bind fun q7 => if q7 = 0 then s_x_refusedNo σ (-3) else (s_x_drawLots σ (Int32.toInt64 a)).bind fun q9 => (s_x_threeWith q9 b).bind fun q10 => some (q10, q9) := fun _ => by
    rw [s_x_lot, bEta, bEta]
  have hxb := hxb 0
  by_cases ha : 0 ≤ a.toInt ∧ a.toInt ≤ 999999
  rotate_left
  · refine al_bad (-2) hR ?_ ?_
    · show s_x_lot σ a b = _
      rw [hxb]
      by_cases c : a < 0
      · rw [if_pos c]
      · rw [if_neg c, if_pos]; rw [l32 rfl (show (0 : Int32).toInt = 0 from rfl)] at c; rw [l32 (show (999999 : Int32).toInt = 999999 from rfl) rfl]; omega
    · show s_m_lot _ a b = _
      rw [s_m_lot, m_in32 a (x := 0) (y := 999999) rfl rfl, if_neg ha, Option.bind_some, if_pos rfl, bEta]
  rw [if_neg (by rw [l32 rfl (show (0 : Int32).toInt = 0 from rfl)]; omega), if_neg (by rw [l32 (show (999999 : Int32).toInt = 999999 from rfl) rfl]; omega), x_hasPerson b e1 (by omega), Option.bind_some] at hxb
  have hmb : ∀ ρ, gI ρ 72 1 = nI P → s_m_lot ρ a b = (if (if 0 ≤ b.toInt ∧ b.toInt ≤ (P : Int) - 1 then (1 : Int32) else 0) = 0 then s_m_bad ρ (-2) else if (if P = 3 ∨ P = 6 ∨ P = 9 then (1 : Int32) else 0) = 0 then s_m_no ρ (-3) else (lp (b_m_lot_57 ρ b) 100000 (Int32.toInt64 a, ((1 : Int32) <<< (nI P &&& 31)) - 1, (-1))).bind fun o31 => some (o31.2.2, ρ)) := fun ρ hρ => by
    rw [s_m_lot, m_in32 a (x := 0) (y := 999999) rfl rfl, if_pos ha, Option.bind_some, if_neg (by decide), m_isOne b hρ (by omega), Option.bind_some, bEta, m_all3 hρ n9, Option.bind_some, bEta, lt_eq, s_m_people, va_cl1, hρ]
    rfl
  by_cases hb : 0 ≤ b.toInt ∧ b.toInt ≤ (P : Int) - 1
  rotate_left
  · refine al_bad (-2) hR ?_ ?_
    · show s_x_lot σ a b = _
      rw [hxb, if_neg hb, if_pos rfl]
    · show s_m_lot _ a b = _
      rw [hmb _ (by rw [gI_ne (by omega), m1]), if_neg hb, if_pos rfl]
  rw [if_pos hb, if_neg (by decide), x_all3 e1 n9, Option.bind_some] at hxb
  by_cases hP : P = 3 ∨ P = 6 ∨ P = 9
  rotate_left
  · refine al_no (-3) hR ?_ ?_
    · show s_x_lot σ a b = _
      rw [hxb, if_neg hP, if_pos rfl]
    · show s_m_lot _ a b = _
      rw [hmb _ (by rw [gI_ne (by omega), m1]), if_pos hb, if_neg (by decide), if_neg hP, if_pos rfl]
  rw [if_pos hP, if_neg (by decide)] at hxb
  obtain ⟨s, s1, -, rfl, -, -⟩ := b32 (n := 999999) ha (by omega) (by omega)
  obtain ⟨p, p1, rfl⟩ := below_nI (n := P) (by omega) hb
  have e64 : Int32.toInt64 (nI s) = nL s := Int32.toInt64_ofNat' (by rw [show Int32.maxValue.toInt = 2147483647 from rfl]; omega)
  obtain ⟨t0, t1, t2, hx, hm, ⟨b0, b1, b2⟩, h3, h01, h02, h12⟩ := lots_eq (σ := σ) (s := s) hP e1 (by omega) p1
  have hpw := pow_le P (by omega)
  have hv : ∃ v, s_x_threeWith (pI (pI (pI σ 18 0 (nI t0)) 18 1 (nI t1)) 18 2 (nI t2)) (nI p) = some v ∧ v = fd (nI p) t2 (fd (nI p) t1 (fd (nI p) t0 (-1))) := by
    generalize hτ : pI (pI (pI σ 18 0 (nI t0)) 18 1 (nI t1)) 18 2 (nI t2) = τ
    have g0 := threeWith_step (σ := τ) (p := p) (i := 0) (t := t0) (by omega) (by rw [← hτ, gI_ne (by omega), gI_ne (by omega), gI_eq])
    have g1 := threeWith_step (σ := τ) (p := p) (i := 1) (t := t1) (by omega) (by rw [← hτ, gI_ne (by omega), gI_eq])
    have g2 := threeWith_step (σ := τ) (p := p) (i := 2) (t := t2) (by omega) (by rw [← hτ, gI_eq])
    have q0 := tb_ok t0 b0 p (by omega)
    have q1 := tb_ok t1 b1 p (by omega)
    have q2 := tb_ok t2 b2 p (by omega)
    unfold fd
    cases c0 : t0.testBit p with
    | true =>
      rw [c0] at h01 h02
      have c1 : t1.testBit p = false := by cases h : t1.testBit p; rfl; rw [h] at h01; exact absurd h01 (by decide)
      have c2 : t2.testBit p = false := by cases h : t2.testBit p; rfl; rw [h] at h02; exact absurd h02 (by decide)
      rw [c1] at q1; rw [c2] at q2
      rw [if_pos (q0.mpr c0)] at g0
      refine ⟨nI t0, by rw [s_x_threeWith, show lp (b_x_threeWith_11 τ (nI p) 3) 100000 0 = _ from lp_end (n := 99999) g0]; rfl, ?_⟩
      rw [if_neg (fun h => absurd (q2.mp h) (by decide)), if_neg (fun h => absurd (q1.mp h) (by decide)), if_pos (q0.mpr c0)]
    | false =>
      rw [c0] at q0 h3
      rw [if_neg (fun h => absurd (q0.mp h) (by decide))] at g0
      cases c1 : t1.testBit p with
      | true =>
        rw [c1] at h12
        have c2 : t2.testBit p = false := by cases h : t2.testBit p; rfl; rw [h] at h12; exact absurd h12 (by decide)
        rw [c2] at q2
        rw [if_pos (q1.mpr c1)] at g1
        refine ⟨nI t1, by rw [s_x_threeWith, show lp (b_x_threeWith_11 τ (nI p) 3) 100000 0 = _ from (lp_step g0).trans (lp_end (n := 99998) g1)]; rfl, ?_⟩
        rw [if_neg (fun h => absurd (q2.mp h) (by decide)), if_pos (q1.mpr c1)]
      | false =>
        rw [c1] at q1 h3
        rw [if_neg (fun h => absurd (q1.mp h) (by decide))] at g1
        have c2 : t2.testBit p = true := by cases h : t2.testBit p; rw [h] at h3; exact absurd h3 (by decide); rfl
        rw [if_pos (q2.mpr c2)] at g2
        refine ⟨nI t2, by rw [s_x_threeWith, show lp (b_x_threeWith_11 τ (nI p) 3) 100000 0 = _ from (lp_step g0).trans ((lp_step g1).trans (lp_end (n := 99997) g2))]; rfl, ?_⟩
        rw [if_pos (q2.mpr c2)]
  obtain ⟨v, hv1, hv2⟩ := hv
  rw [e64, hx, Option.bind_some, hv1, Option.bind_some] at hxb
  obtain ⟨o, ho1, ho2⟩ := hm (pI (pI (pI σ 18 0 (nI t0)) 18 1 (nI t1)) 18 2 (nI t2))
  have hmm := hmb (pI (pI (pI σ 18 0 (nI t0)) 18 1 (nI t1)) 18 2 (nI t2)) (by rw [gI_ne (by omega), gI_ne (by omega), gI_ne (by omega), m1])
  obtain ⟨q, hq⟩ : ∃ q, 2 ^ P = q + 1 := ⟨2 ^ P - 1, by omega⟩
  rw [if_pos hb, if_neg (by decide), if_pos hP, if_neg (by decide), e64, shl_ok P (by omega), hq, nI_pred, show q = 2 ^ P - 1 from by omega, ho1, Option.bind_some, ho2, ← hv2] at hmm
  refine ⟨v, _, _, hxb, hmm, ?_⟩
  exact R_cell18 hR
