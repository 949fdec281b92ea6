theorem way1 {ρ : Sg} {P k t x : Nat} (h1 : gI ρ 72 1 = nI P) (hP : P = 3 ∨ P = 6 ∨ P = 9) (hk : k < P / 3) (h81 : gI ρ 81 k = nI t) (h5 : t < 512) (h3 : bN t = 3) : ∃ τ, b_m_findWays_20 (ρ, nL x, nI k) = some (.inl (τ, nL (x ||| prt t), nI (k + 1))) ∧ (∀ c j, ¬ (c = 76 ∨ c = 77 ∨ c = 71 ∧ j = 9) → gI τ c j = gI ρ c j) ∧ τ.2 = ρ.2 := by
  obtain ⟨τ, t1, t2, t3, t4, t5⟩ := m_take (σ := ρ) h5 h3
  obtain ⟨-, -, ⟨o1, o2, o3⟩, -, -⟩ := mem_ok t h5 h3
  have hd : nI P / 3 = nI (P / 3) := by rcases hP with rfl | rfl | rfl <;> rfl
  have hp : s_m_people ρ = some (nI P) := by rw [s_m_people, va_cl1, h1]
  refine ⟨τ, ?_, t4, t5⟩
  obtain ⟨p1, l1⟩ := m_pair (wm t 0) (by omega) (wm t 1) (by omega) (by omega)
  obtain ⟨p2, l2⟩ := m_pair (wm t 0) (by omega) (wm t 2) (by omega) (by omega)
  obtain ⟨p3, l3⟩ := m_pair (wm t 1) (by omega) (wm t 2) (by omega) (by omega)
  have t0 : t ≠ 0 := fun q => by subst q; exact absurd h3 (by decide +kernel)
  unfold b_m_findWays_20
  show ((s_m_people ρ).bind fun q5 => if q5 / 3 ≤ nI k then _ else (if inB (nI k) 3 = true then ((s_m_takeThree ρ (gI ρ 81 (Int32.toNatClampNeg (nI k)))).bind fun q8 => (s_m_pair (gI q8 76 (Int32.toNatClampNeg 0)) (gI q8 76 (Int32.toNatClampNeg 1))).bind fun q9 => (s_m_pair (gI q8 76 (Int32.toNatClampNeg 0)) (gI q8 76 (Int32.toNatClampNeg 2))).bind fun q10 => (s_m_pair (gI q8 76 (Int32.toNatClampNeg 1)) (gI q8 76 (Int32.toNatClampNeg 2))).bind fun q11 => some (Sum.inl (q8, nL x ||| ((((1 : Int64) <<< ((Int32.toInt64 q9) &&& 63)) ||| ((1 : Int64) <<< ((Int32.toInt64 q10) &&& 63))) ||| ((1 : Int64) <<< ((Int32.toInt64 q11) &&& 63))), nI k + 1))) else none)) = _
  rw [hp, Option.bind_some, hd, if_neg (by rw [nI_leI (by omega) (by omega)]; omega), if_pos (inB_nI (by omega) (by omega)), nI_clamp (by omega), h81, t1, Option.bind_some, va_cl0, va_cl1, va_cl2, (t2 0 (by omega)).1, (t2 1 (by omega)).1, (t2 2 (by omega)).1, p1, Option.bind_some, p2, Option.bind_some, p3, Option.bind_some, shl64 _ l1, shl64 _ l2, shl64 _ l3, nL_or, nL_or, nL_or, nI_1]
  unfold prt
  rw [if_neg t0]
theorem way_end {ρ : Sg} {P k : Nat} {x : Int64} (h1 : gI ρ 72 1 = nI P) (hP : P = 3 ∨ P = 6 ∨ P = 9) (hk : k = P / 3) : b_m_findWays_20 (ρ, x, nI k) = some (.inr (ρ, x, nI k)) := by
  have hd : nI P / 3 = nI (P / 3) := by rcases hP with rfl | rfl | rfl <;> rfl
  have hp : s_m_people ρ = some (nI P) := by rw [s_m_people, va_cl1, h1]
  unfold b_m_findWays_20
  show ((s_m_people ρ).bind fun q5 => if q5 / 3 ≤ nI k then some (Sum.inr (ρ, x, nI k)) else _) = _
  rw [hp, Option.bind_some, hd, if_pos (by rw [nI_leI (by omega) (by omega)]; omega)]
theorem way_all {κ : Sg} {P s : Nat} {e : Nat × Nat × Nat} (hP : P = 3 ∨ P = 6 ∨ P = 9) (h1 : gI κ 72 1 = nI P) (he : (SL P)[s]? = some e) (H : RGB κ (rg P s)) : ∃ o, lp b_m_findWays_20 100000 (κ, 0, 0) = some o ∧ o.2.1 = nL (pv e) ∧ (∀ c j, ¬ (c = 76 ∨ c = 77 ∨ c = 71 ∧ j = 9) → gI o.1 c j = gI κ c j) ∧ o.1.2 = κ.2 := by
  obtain ⟨a, b, c⟩ := e
  have hmem : (a, b, c) ∈ SL P := List.mem_of_getElem? he
  have hrg : rg P s = (match (a, b, c) with | (a, b, c) => if P = 3 then (some a, none, none) else if P = 6 then (some a, some b, none) else (some a, some b, some c)) := by
    unfold rg; rw [List.getD_eq_getElem?_getD, he]; rfl
  have hrg : rg P s = if P = 3 then (some a, none, none) else if P = 6 then (some a, some b, none) else (some a, some b, some c) := hrg
  have p0 : prt 0 = 0 := rfl
  rcases hP with rfl | rfl | rfl
  · obtain ⟨⟨a5, a3⟩, b0, c0⟩ := SL_3 _ hmem
    rw [hrg, if_pos rfl] at H
    obtain ⟨τ, t1, t2, t3⟩ := way1 (x := 0) (k := 0) h1 (by omega) (by omega) (H.1 0 (by omega)) a5 a3
    refine ⟨_, (lp_step t1).trans (lp_end (n := 99998) (way_end ((t2 _ _ (by omega)).trans h1) (by omega) rfl)), ?_, t2, t3⟩
    have b0 : b = 0 := b0
    have c0 : c = 0 := c0
    show nL _ = nL (prt a ||| prt b ||| prt c)
    rw [b0, c0, p0, Nat.or_zero, Nat.or_zero, Nat.zero_or]
  · obtain ⟨⟨a5, a3⟩, ⟨b5, b3⟩, c0⟩ := SL_6 _ hmem
    rw [hrg, if_neg (by omega), if_pos rfl] at H
    obtain ⟨τ, t1, t2, t3⟩ := way1 (x := 0) (k := 0) h1 (by omega) (by omega) (H.1 0 (by omega)) a5 a3
    obtain ⟨ω, u1, u2, u3⟩ := way1 (x := 0 ||| prt a) (k := 1) ((t2 _ _ (by omega)).trans h1) (by omega) (by omega) ((t2 _ _ (by omega)).trans (H.1 1 (by omega))) b5 b3
    refine ⟨_, (lp_step t1).trans ((lp_step u1).trans (lp_end (n := 99997) (way_end ((u2 _ _ (by omega)).trans ((t2 _ _ (by omega)).trans h1)) (by omega) rfl))), ?_, fun c j q => (u2 c j q).trans (t2 c j q), u3.trans t3⟩
    have c0 : c = 0 := c0
    show nL _ = nL (prt a ||| prt b ||| prt c)
    rw [c0, p0, Nat.or_zero, Nat.zero_or]
  · obtain ⟨⟨a5, a3⟩, ⟨b5, b3⟩, c5, c3⟩ := SL_9 _ hmem
    rw [hrg, if_neg (by omega), if_neg (by omega)] at H
    obtain ⟨τ, t1, t2, t3⟩ := way1 (x := 0) (k := 0) h1 (by omega) (by omega) (H.1 0 (by omega)) a5 a3
    obtain ⟨ω, u1, u2, u3⟩ := way1 (x := 0 ||| prt a) (k := 1) ((t2 _ _ (by omega)).trans h1) (by omega) (by omega) ((t2 _ _ (by omega)).trans (H.1 1 (by omega))) b5 b3
    obtain ⟨ψ, v1, v2, v3⟩ := way1 (x := 0 ||| prt a ||| prt b) (k := 2) ((u2 _ _ (by omega)).trans ((t2 _ _ (by omega)).trans h1)) (by omega) (by omega) ((u2 _ _ (by omega)).trans ((t2 _ _ (by omega)).trans (H.1 2 (by omega)))) c5 c3
    refine ⟨_, (lp_step t1).trans ((lp_step u1).trans ((lp_step v1).trans (lp_end (n := 99996) (way_end ((v2 _ _ (by omega)).trans ((u2 _ _ (by omega)).trans ((t2 _ _ (by omega)).trans h1))) (by omega) rfl)))), ?_, fun c j q => (v2 c j q).trans ((u2 c j q).trans (t2 c j q)), v3.trans (u3.trans t3)⟩
    show nL _ = nL (prt a ||| prt b ||| prt c)
    rw [Nat.zero_or]
theorem SL_280 {P : Nat} (hP : P = 3 ∨ P = 6 ∨ P = 9) : (SL P).length ≤ 280 ∧ 1 ≤ (SL P).length := by
  obtain ⟨l3, l6, l9⟩ := SL_len
  rcases hP with rfl | rfl | rfl
  · rw [l3]; omega
  · rw [l6]; omega
  · rw [l9]; omega
theorem m_ways {σ : Sg} {P : Nat} (hP : P = 3 ∨ P = 6 ∨ P = 9) (h1 : gI σ 72 1 = nI P) : ∃ τ, s_m_findWays σ = some τ ∧ gI τ 71 16 = nI (SL P).length ∧ (∀ i e, (SL P)[i]? = some e → gL τ 84 i = nL (pv e)) ∧ (∀ c j, ¬ (c = 71 ∧ (j = 9 ∨ j = 16) ∨ c = 76 ∨ c = 77 ∨ c = 81) → gI τ c j = gI σ c j) ∧ (∀ c j, ¬ c = 84 → gL τ c j = gL σ c j) ∧ gR τ = gR σ := by
  obtain ⟨n280, -⟩ := SL_280 hP
  obtain ⟨ρ, r1, r2, r3, r4⟩ := m_none (σ := pI σ 71 16 0)
  rw [s_m_findWays, lt_eq, r1, Option.bind_some]
  have hz0 : ∀ c j, ¬ (c = 71 ∧ (j = 9 ∨ j = 16) ∨ c = 76 ∨ c = 77 ∨ c = 81) → gI ρ c j = gI σ c j := fun c j q => (r3 c j (by omega)).trans (gI_ne (by omega))
  have r4' : ρ.2 = σ.2 := r4
  obtain ⟨z, hz, g1, g2, g3, g4, g5⟩ := lp_ex (b := b_m_findWays_9) (I := fun x n => ∃ s, s ≤ (SL P).length ∧ n = (SL P).length - s ∧ RGB x (rs P s) ∧ gI x 71 16 = nI s ∧ (∀ i e, i < s → (SL P)[i]? = some e → gL x 84 i = nL (pv e)) ∧ (∀ c j, ¬ (c = 71 ∧ (j = 9 ∨ j = 16) ∨ c = 76 ∨ c = 77 ∨ c = 81) → gI x c j = gI σ c j) ∧ (∀ c j, ¬ c = 84 → gL x c j = gL σ c j) ∧ gR x = gR σ) (G := fun x => gI x 71 16 = nI (SL P).length ∧ (∀ i e, (SL P)[i]? = some e → gL x 84 i = nL (pv e)) ∧ (∀ c j, ¬ (c = 71 ∧ (j = 9 ∨ j = 16) ∨ c = 76 ∨ c = 77 ∨ c = 81) → gI x c j = gI σ c j) ∧ (∀ c j, ¬ c = 84 → gL x c j = gL σ c j) ∧ gR x = gR σ) (fun x n hx => by
    obtain ⟨s, s1, s2, i1, i2, i3, i4, i5, i6⟩ := hx
    have e1 : gI x 72 1 = nI P := (i4 _ _ (by omega)).trans h1
    obtain ⟨κ, k1, k2, k3, k4⟩ := all_next hP e1 s1 i1
    have hL : gL κ = gL x := by show κ.2.1 = x.2.1; rw [k4]
    have hR : gR κ = gR x := by show κ.2.2 = x.2.2; rw [k4]
    by_cases c : s < (SL P).length
    · rw [if_pos c] at k1
      left
      obtain ⟨e, he⟩ : ∃ e, (SL P)[s]? = some e := ⟨_, List.getElem?_eq_getElem c⟩
      have hk2 : RGB κ (rg P s) := by have := k2 c; unfold rs at this; rw [if_neg (by omega), Nat.add_sub_cancel] at this; exact this
      obtain ⟨o, o1, o2, o3, o4⟩ := way_all hP ((k3 _ _ (by omega)).trans e1) he hk2
      have oL : gL o.1 = gL κ := by show o.1.2.1 = κ.2.1; rw [o4]
      have oR : gR o.1 = gR κ := by show o.1.2.2 = κ.2.2; rw [o4]
      have e16 : gI o.1 71 16 = nI s := (o3 _ _ (by omega)).trans ((k3 _ _ (by omega)).trans i2)
      refine ⟨pI (pL o.1 84 s (nL (pv e))) 71 16 (nI (s + 1)), (SL P).length - (s + 1), ?_, by omega, s + 1, c, rfl, ?_, gI_eq, fun i e' hi he' => ?_, fun c j q => ?_, fun c j q => ?_, ?_⟩
      · unfold b_m_findWays_9
        rw [k1, Option.bind_some, if_neg (show ¬ (1 : Int32) = 0 by decide)]
        show ((lp b_m_findWays_20 100000 (κ, 0, 0)).bind _) = _
        rw [o1, Option.bind_some, e16, if_pos (inB_nI (by omega) (by omega)), lt_eq, lt_eq, nI_clamp (by omega), o2]
        show some (Sum.inl (pI (pL o.1 84 s (nL (pv e))) 71 16 (gI o.1 71 16 + 1))) = _
        rw [e16, nI_1]
      · have := k2 c
        exact ⟨fun j hj => by rw [gI_ne (by omega), gI_pL, o3 _ _ (by omega)]; exact this.1 j hj, this.2⟩
      · show gL (pL o.1 84 s (nL (pv e))) 84 i = _
        rw [gL_pL]
        by_cases d : i = s
        · subst d; rw [if_pos ⟨rfl, rfl⟩]; rw [he] at he'; cases he'; rfl
        · rw [if_neg (fun q => d q.2), oL, hL]; exact i3 i e' (by omega) he'
      · rw [gI_ne (by omega), gI_pL, o3 _ _ (by omega), k3 _ _ (by omega)]; exact i4 c j q
      · show gL (pL o.1 84 s (nL (pv e))) c j = _
        rw [gL_pL, if_neg (fun x => q x.1), oL, hL]; exact i5 c j q
      · show gR o.1 = _; rw [oR, hR]; exact i6
    · rw [if_neg c] at k1
      refine Or.inr ⟨κ, ?_, (k3 _ _ (by omega)).trans (i2.trans (by rw [show s = (SL P).length by omega])), fun i e he => ?_, fun c j q => (k3 c j (by omega)).trans (i4 c j q), fun c j q => by rw [hL]; exact i5 c j q, hR.trans i6⟩
      · unfold b_m_findWays_9
        rw [k1, Option.bind_some, if_pos (show (0 : Int32) = 0 from rfl)]
      · have : i < (SL P).length := by
          by_cases d : i < (SL P).length
          · exact d
          · rw [List.getElem?_eq_none (by omega)] at he; cases he
        rw [hL]; exact i3 i e (by omega) he) 100000 (SL P).length ρ (by omega) ⟨0, by omega, by omega, r2, by rw [r3 _ _ (by omega), gI_eq]; rfl, fun i e hi => by omega, hz0, fun c j q => by show ρ.2.1 c j = _; rw [r4']; rfl, by show ρ.2.2 = _; rw [r4']; rfl⟩
  rw [hz, Option.bind_some]
  exact ⟨_, rfl, g1, g2, g3, g4, g5⟩
