/-! BEST is alike. -/
theorem m_151 {σ : Sg} {Q : Nat → Prop} (HB : BT (gI σ 79) Q) : ∃ M v, lp (b_m_best_151 σ) 100000 (0, 0) = some (nI M, v) ∧ M ≤ 12 ∧ (∀ t, t < 24576 → Q t → pcn (t % 4096) ≤ M) ∧ (M = 0 ∨ ∃ t, t < 24576 ∧ Q t ∧ M = pcn (t % 4096)) := by
  obtain ⟨z, hz, M, g1, g2, g3, g4⟩ := lp_ex (b := b_m_best_151 σ) (I := fun x n => ∃ k M, x.2 = nI k ∧ x.1 = nI M ∧ k ≤ 24576 ∧ n = 24576 - k ∧ M ≤ 12 ∧ (∀ t, t < k → Q t → pcn (t % 4096) ≤ M) ∧ (M = 0 ∨ ∃ t, t < k ∧ Q t ∧ M = pcn (t % 4096))) (G := fun x => ∃ M, x.1 = nI M ∧ M ≤ 12 ∧ (∀ t, t < 24576 → Q t → pcn (t % 4096) ≤ M) ∧ (M = 0 ∨ ∃ t, t < 24576 ∧ Q t ∧ M = pcn (t % 4096))) (fun x n hx => by
    obtain ⟨p, q⟩ := x
    obtain ⟨k, M, hq, hp, k1, k2, i1, i2, i3⟩ := hx
    have hq : q = nI k := hq
    have hp : p = nI M := hp
    subst hq; subst hp
    by_cases d : k = 24576
    · subst d
      refine Or.inr ⟨(nI M, nI 24576), ?_, M, rfl, i1, i2, i3⟩
      unfold b_m_best_151
      rw [if_pos (show (24576 : Int32) ≤ nI 24576 by decide)]
    · have hk : k < 24576 := by omega
      obtain ⟨e1, e2⟩ := pcn_ok (n := k % 4096) (by omega)
      have hj : ∀ u, u ≤ 12 → j_m_best_179i151 σ (nI M) (nI k) (nI u) = some (Sum.inl (nI (if u ≤ M then M else u), nI (k + 1))) := fun u hu => by
        unfold j_m_best_179i151
        show (if nI u ≤ nI M then some (Sum.inl (nI M, nI k + 1)) else some (Sum.inl (nI u, nI k + 1))) = _
        rw [nI_1]
        by_cases c : u ≤ M
        · rw [if_pos ((nI_leI (by omega) (by omega)).mpr c), if_pos c]
        · rw [if_neg (fun q => c ((nI_leI (by omega) (by omega)).mp q)), if_neg c]
      have hb : b_m_best_151 σ (nI M, nI k) = if gI σ 79 k = 0 then j_m_best_179i151 σ (nI M) (nI k) (nI 0) else j_m_best_179i151 σ (nI M) (nI k) (nI (pcn (k % 4096))) := by
        unfold b_m_best_151
        rw [if_neg (by show ¬ nI 24576 ≤ nI k; rw [nI_leI (by omega) (by omega)]; omega)]
        show (if inB (nI k) 24576 = true then (if gI σ 79 (Int32.toNatClampNeg (nI k)) = 0 then j_m_best_179i151 σ (nI M) (nI k) (nI 0) else (s_m_bits (nI k - nI k / 4096 * 4096)).bind fun q40 => j_m_best_179i151 σ (nI M) (nI k) q40) else none) = _
        rw [if_pos (inB_nI hk (by omega)), nI_clamp (by omega), rem_nI (by omega), e1, Option.bind_some]
      rcases HB k hk with ⟨a, b⟩ | ⟨a, b⟩
      · refine Or.inl ⟨_, 24576 - (k + 1), (by rw [hb, a, if_neg (show ¬ nI 1 = 0 by decide)]; exact hj _ e2), by omega, k + 1, _, rfl, rfl, by omega, rfl, ?_, fun t ht hQ => ?_, ?_⟩
        · by_cases c : pcn (k % 4096) ≤ M
          · rw [if_pos c]; exact i1
          · rw [if_neg c]; exact e2
        · by_cases f : t = k
          · subst f
            by_cases c : pcn (t % 4096) ≤ M
            · rw [if_pos c]; exact c
            · rw [if_neg c]; exact Nat.le_refl _
          · have := i2 t (by omega) hQ
            by_cases c : pcn (k % 4096) ≤ M
            · rw [if_pos c]; exact this
            · rw [if_neg c]; omega
        · by_cases c : pcn (k % 4096) ≤ M
          · rw [if_pos c]
            rcases i3 with f | ⟨t, f1, f2⟩
            · exact Or.inl f
            · exact Or.inr ⟨t, by omega, f2⟩
          · rw [if_neg c]
            exact Or.inr ⟨k, by omega, b, rfl⟩
      · refine Or.inl ⟨_, 24576 - (k + 1), (by rw [hb, a, if_pos (show nI 0 = 0 from rfl)]; exact hj 0 (by omega)), by omega, k + 1, _, rfl, rfl, by omega, rfl, ?_, fun t ht hQ => ?_, ?_⟩
        · rw [if_pos (Nat.zero_le M)]; exact i1
        · rw [if_pos (Nat.zero_le M)]
          by_cases f : t = k
          · subst f; exact absurd hQ b
          · exact i2 t (by omega) hQ
        · rw [if_pos (Nat.zero_le M)]
          rcases i3 with f | ⟨t, f1, f2⟩
          · exact Or.inl f
          · exact Or.inr ⟨t, by omega, f2⟩) 100000 24576 (0, 0) (by omega) ⟨0, 0, rfl, rfl, by omega, by omega, by omega, fun t ht => by omega, Or.inl rfl⟩
  obtain ⟨z1, z2⟩ := z
  have g1 : z1 = nI M := g1
  subst g1
  exact ⟨M, z2, hz, g2, g3, g4⟩
theorem m_best7 {σ : Sg} {A : Nat → Nat} {m M : Nat} (hM : MS σ 72 0 A) (W : WT A) (hm : m < 2 ^ A 1) (h5 : m < 512) (h3 : bN m = 3) (hI : ISM (PG A (wm m) (rch A (wm m)) 10) M) : ∃ τ, ((s_m_takeThree σ (nI m)).bind fun q3 => (lp (b_m_best_22 ) 100000 (q3, 0)).bind fun o11 => (lp (b_m_best_59 ) 100000 (o11.1, 0)).bind fun o33 => (lp (b_m_best_151 o33.1) 100000 (0, 0)).bind fun o41 => some (o41.1, o33.1)) = some (nI M, τ) ∧ (∀ c j, ¬ (c = 71 ∧ j = 9 ∨ 76 ≤ c ∧ c ≤ 77 ∨ 79 ≤ c ∧ c ≤ 80) → gI τ c j = gI σ c j) ∧ τ.2 = σ.2 := by
  have n9 := W.2.2.1
  have hw : ∀ j, j < 3 → wm m j < A 1 := fun j hj => wm_lt n9 hm h5 h3 hj
  have hE : ∀ i, i < 3 → A (4 + 11 * wm m i) ≤ 4 := fun i hi => (W.2.2.2 _ (hw i hi)).2.2.2.1
  obtain ⟨ρ, r1, r2, r3, r4, r5⟩ := m_take (σ := σ) h5 h3
  have H0 : M7 ρ A (wm m) := ⟨MS_cong (fun j => r4 _ _ (by omega)) hM, fun j hj => (r2 j hj).1⟩
  obtain ⟨o, o1, o2, o3, o4⟩ := m_22 (σ := ρ) (A := A) (w := wm m) (r := rch A (wm m))
  obtain ⟨u, u1, u2, u3⟩ := m_59 W hw (M7_FM o4 H0) o2 o3
  obtain ⟨M', v, t1, t2, t3, t4⟩ := m_151 u2
  have hF := FM_trans o4 u3
  have hMM : M' = M := by
    obtain ⟨q1, q2, q3⟩ := hI
    apply Nat.le_antisymm
    · rcases t4 with f | ⟨t, f1, ⟨b, v, f2⟩, f3⟩
      · omega
      · obtain ⟨p1, p2, p3, p4, -⟩ := Pth_all W.1 W.2.1 hE _ _ _ _ _ f2
        have h6 := W.2.1
        rw [f3, ← p4]
        refine q2 (64 * (t / 4096) + b) v (by omega) ⟨t % 4096, ?_⟩
        rw [show (64 * (t / 4096) + b) / 64 = t / 4096 by omega, show (64 * (t / 4096) + b) % 64 = b by omega]
        exact f2
    · rcases q3 with f | ⟨st, n, f⟩
      · omega
      · obtain ⟨p1, p2, p3, p4, -⟩ := Pth_all W.1 W.2.1 hE _ _ _ _ _ f
        have h6 := W.2.1
        have := t3 (4096 * (st / 64) + n) (by omega) ⟨st % 64, M, by rw [show (4096 * (st / 64) + n) / 4096 = st / 64 by omega, show (4096 * (st / 64) + n) % 4096 = n by omega]; exact f⟩
        rw [show (4096 * (st / 64) + n) % 4096 = n by omega] at this
        rw [p4]; exact this
  subst hMM
  refine ⟨u.1, ?_, fun c j q => (hF.1 c j (by omega)).trans (r4 c j (by omega)), hF.2.trans r5⟩
  rw [r1, Option.bind_some, o1, Option.bind_some, u1, Option.bind_some, t1, Option.bind_some]
theorem R_best {σ τ : Sg} (hR : R σ) (hz : ∀ c j, ¬ (44 ≤ c ∧ c ≤ 46 ∨ c = 71 ∧ j = 9 ∨ 76 ≤ c ∧ c ≤ 77 ∨ 79 ≤ c ∧ c ≤ 80) → gI τ c j = gI σ c j) (hL : gL τ = gL σ) (h43 : gR τ 43 2 = 45 ∧ gR τ 43 3 = 46 ∨ gR τ 43 2 = 46 ∧ gR τ 43 3 = 45) (h4 : gR τ 4 1 = gR σ 4 1) : R τ := by
  obtain ⟨⟨A, hA⟩, hI, hT, hF, hC, k1, k2, k3, k4, k5⟩ := hR
  exact ⟨⟨A, RA_cong (fun c hc j => hz c j (by omega)) hA⟩, RI_cong (fun c hc j => hz c j (by omega)) hI, RT_cong (hz _ _ (by omega)) (hz _ _ (by omega)) (fun j => hz _ _ (by omega)) (fun j => hz _ _ (by omega)) hT, RF_cong (hz _ _ (by omega)) (hz _ _ (by omega)) (by rw [hL]) (by rw [hL]) hF, RC_cong (fun j _ => hz _ _ (by omega)) (fun j => hz _ _ (by omega)) hC, (funext fun j => hz _ _ (by omega)).trans k1, (by rw [hL]; exact k2), h43, (by rw [h4]; exact k4), (hz _ _ (by omega)).trans k5⟩
theorem al_best {σ : Sg} (a : Int32) (hR : R σ) : Alike R σ (fun τ => s_x_best τ a) (fun τ => s_m_best τ a) := by
  obtain ⟨A, hM, ⟨x1, x2, x3, x4⟩, w1, w2, w3, w4⟩ := hR.1
  have e1 : gI σ 19 6 = nI (A 1) := x1.2.1
  have m1 : gI σ 72 1 = nI (A 1) := M0 hM (by omega)
  have n9 := w1.2.2.1
  by_cases ha : is3 (A 1) a
  rotate_left
  · refine al_bad (-2) hR ?_ ?_
    · show s_x_best σ a = _
      rw [s_x_best, x_isThree a e1 n9, if_neg ha, Option.bind_some, if_pos rfl, bEta]
    · show s_m_best _ a = _
      rw [s_m_best, m_isThree a (by rw [gI_ne (by omega)]; exact m1) n9, if_neg ha, Option.bind_some, if_pos rfl, bEta]
  obtain ⟨m, p1, p2, rfl, p3⟩ := is3_nI n9 ha
  have hK := hR.2.2.2.2.2.2.2.1
  have hFD : ∃ cN cX, FDR σ cN cX := by
    rcases hK with ⟨a, b⟩ | ⟨a, b⟩
    · exact ⟨45, 46, a, b, Or.inl ⟨rfl, rfl⟩⟩
    · exact ⟨46, 45, a, b, Or.inr ⟨rfl, rfl⟩⟩
  obtain ⟨cN, cX, hFD⟩ := hFD
  obtain ⟨ρ, M, r1, r2, ⟨dN, dX, y1, y2, y3⟩, r4, r5, r6⟩ := x_mostDone x1 w1 p1 p2 p3 hFD
  have hρ1 : gI ρ 72 1 = nI (A 1) := (r4 _ _ (by omega)).trans m1
  obtain ⟨τ, t1, t2, t3⟩ := m_best7 (σ := ρ) (MS_cong (fun j => r4 _ _ (by omega)) hM) w1 p1 p2 p3 r2
  have tL : gL τ = gL ρ := by show τ.2.1 = ρ.2.1; rw [t3]
  have tR : gR τ = gR ρ := by show τ.2.2 = ρ.2.2; rw [t3]
  refine ⟨nI M, ρ, τ, ?_, ?_, R_best hR (fun c j q => (t2 c j (by omega)).trans (r4 c j (by omega))) (tL.trans r5) ?_ ?_⟩
  · show s_x_best σ (nI m) = _
    rw [s_x_best, x_isThree _ e1 n9, if_pos ha, Option.bind_some, if_neg (by decide), bEta, r1]
  · show s_m_best ρ (nI m) = _
    rw [s_m_best, m_isThree _ hρ1 n9, if_pos ha, Option.bind_some, if_neg (show ¬ (1 : Int32) = 0 by decide)]
    exact t1
  · rw [tR, y1, y2]
    rcases y3 with ⟨a, b⟩ | ⟨a, b⟩
    · exact Or.inl ⟨a, b⟩
    · exact Or.inr ⟨a, b⟩
  · rw [tR]; exact r6 _ _ (by omega)
