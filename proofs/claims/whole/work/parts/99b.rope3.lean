theorem oi_pred {T : Nat} (h : 1 ≤ T) : Int32.ofInt ((T : Int) - 1) = nI (T - 1) := by
  obtain ⟨m, rfl⟩ : ∃ m, T = m + 1 := ⟨T - 1, by omega⟩
  rw [Nat.add_sub_cancel, oi]; congr 1; omega
def Ua (a b t : Nat) : Nat × Nat × Nat := V (la a t).toNat (lb b t).toNat (t % 2)
/-- what the class holds k turns back from the end T of the line -/
def Ek (a b T k : Nat) : Nat × Nat × Nat := if k = 0 then ((la a T).toNat, (lb b T).toNat, T - 1) else ((Ua a b (T - k)).1, (Ua a b (T - k)).2.1, (T - k) + (Ua a b (T - k)).2.2)
theorem Ek_step {a b T t : Nat} (h1 : la a T ≤ 0 ∨ lb b T ≤ 0) (h2 : ∀ t, t < T → ¬ (la a t ≤ 0 ∨ lb b t ≤ 0)) (ht : t < T) :
    Ek a b T (T - 1 - t) = ((Vp (la a t).toNat (lb b t).toNat (t % 2)).1, (Vp (la a t).toNat (lb b t).toNat (t % 2)).2.1, t + (Vp (la a t).toNat (lb b t).toNat (t % 2)).2.2) := by
  have := h2 t ht
  have ea : (la a t).toNat - (1 + t % 2) = (la a (t + 1)).toNat := by unfold la at *; omega
  have eb : (lb b t).toNat - (2 - t % 2) = (lb b (t + 1)).toNat := by unfold lb at *; omega
  unfold Ek Vp
  rw [ea, eb]
  by_cases c : t + 1 = T
  · rw [if_pos (by omega), if_pos (by rw [c]; omega), c]
    show _ = (_, _, t + 0)
    rw [show T - 1 = t + 0 from by omega]
  · have := h2 (t + 1) (by omega)
    rw [if_neg (by omega), if_neg (by omega), show T - (T - 1 - t) = t + 1 from by omega]
    unfold Ua
    rw [show (t + 1) % 2 = 1 - t % 2 from by omega]
    show (_, _, t + 1 + _) = (_, _, t + (_ + 1))
    rw [Nat.add_right_comm, Nat.add_assoc]
theorem ropeBack {a3 : Int32} {a b T : Nat} (ha : a ≤ 60) (hb : b ≤ 60) (hT : T ≤ 60) (h1 : la a T ≤ 0 ∨ lb b T ≤ 0) (h2 : ∀ t, t < T → ¬ (la a t ≤ 0 ∨ lb b t ≤ 0)) :
    lp (b_x_ropeEnd_77 a3) 100000 (Int32.ofInt (la a T), Int32.ofInt (lb b T), nI (Ek a b T 0).1, nI (Ek a b T 0).2.1, nI (Ek a b T 0).2.2, Int32.ofInt ((T : Int) - 1)) = some (Int32.ofInt (la a 0), Int32.ofInt (lb b 0), nI (Ek a b T T).1, nI (Ek a b T T).2.1, nI (Ek a b T T).2.2, Int32.ofInt (-1)) := by
  have := lp_run (b := b_x_ropeEnd_77 a3) (fun k => (Int32.ofInt (la a (T - k)), Int32.ofInt (lb b (T - k)), nI (Ek a b T k).1, nI (Ek a b T k).2.1, nI (Ek a b T k).2.2, Int32.ofInt ((T : Int) - 1 - k))) (z := (Int32.ofInt (la a 0), Int32.ofInt (lb b 0), nI (Ek a b T T).1, nI (Ek a b T T).2.1, nI (Ek a b T T).2.2, Int32.ofInt (-1))) T 100000 (by omega) (fun k hk => by
    obtain ⟨t, ht⟩ : ∃ t, t = T - 1 - k := ⟨_, rfl⟩
    have htT : t < T := by omega
    have hq := h2 t htT
    have hE := Ek_step h1 h2 htT
    rw [show T - 1 - t = k from by omega] at hE
    have e1 : Ek a b T (k + 1) = ((Ua a b t).1, (Ua a b t).2.1, t + (Ua a b t).2.2) := by
      unfold Ek; rw [if_neg (by omega), show T - (k + 1) = t from by omega]
    obtain ⟨A, hA⟩ : ∃ A, A = (la a t).toNat := ⟨_, rfl⟩
    obtain ⟨B, hB⟩ : ∃ B, B = (lb b t).toNat := ⟨_, rfl⟩
    have lA : la a t = A := by omega
    have lB : lb b t = B := by omega
    have A6 : A ≤ 60 := by unfold la at lA; omega
    have B6 : B ≤ 60 := by unfold lb at lB; omega
    rw [← hA, ← hB] at hE
    have hU : Ua a b t = V A B (t % 2) := by unfold Ua; rw [← hA, ← hB]
    rw [e1, hE, hU, V_eq (by omega)]
    have hV : (Vp A B (t % 2)).1 ≤ 60 ∧ (Vp A B (t % 2)).2.1 ≤ 60 := by
      unfold Vp
      by_cases c : A - (1 + t % 2) = 0 ∨ B - (2 - t % 2) = 0
      · rw [if_pos c]; exact ⟨by show _ - _ ≤ _; omega, by show _ - _ ≤ _; omega⟩
      · rw [if_neg c]
        obtain ⟨k1, k2, -⟩ := V_le 60 (A - (1 + t % 2)) (B - (2 - t % 2)) (1 - t % 2) (by omega) (by omega)
        exact ⟨by show (V _ _ _).1 ≤ _; omega, by show (V _ _ _).2.1 ≤ _; omega⟩
    generalize Vp A B (t % 2) = p at hV ⊢
    rw [show Int32.ofInt ((T : Int) - 1 - k) = nI t from by rw [oi]; congr 1; omega]
    unfold b_x_ropeEnd_77
    show (if nI t < 0 then _ else (s_x_pullLoss (nI t) 0).bind fun q15 => (s_x_pullLoss (nI t) 1).bind fun q17 => if (nI t - nI t / 2 * 2) = 0 then
      (if ((Int32.ofInt (la a (T - k)) + q15) - (Int32.ofInt (la a (T - k)) + q15) / 2) ≤ nI p.1 then
        j_x_ropeEnd_137i77 a3 (Int32.ofInt (la a (T - k)) + q15) (Int32.ofInt (lb b (T - k)) + q17) (nI p.1) (nI p.2.1) (nI (t + p.2.2)) (nI t)
      else some (.inl ((Int32.ofInt (la a (T - k)) + q15), (Int32.ofInt (lb b (T - k)) + q17), (Int32.ofInt (la a (T - k)) + q15) - (Int32.ofInt (la a (T - k)) + q15) / 2, (Int32.ofInt (lb b (T - k)) + q17), nI t, nI t + (-1))))
      else j_x_ropeEnd_137i77 a3 (Int32.ofInt (la a (T - k)) + q15) (Int32.ofInt (lb b (T - k)) + q17) (nI p.1) (nI p.2.1) (nI (t + p.2.2)) (nI t)) = _
    have eA : Int32.ofInt (la a (T - k)) + nI (1 + t % 2) = nI A := by
      rw [oi, oi, ← Int32.ofInt_add]; congr 1; rw [← lA, show T - k = t + 1 from by omega]; unfold la; omega
    have eB : Int32.ofInt (lb b (T - k)) + nI (2 - t % 2) = nI B := by
      rw [show 2 - t % 2 = 1 + (t + 1) % 2 from by omega, oi, oi, ← Int32.ofInt_add]; congr 1; rw [← lB, show T - k = t + 1 from by omega]; unfold lb; omega
    have et : nI t + (-1) = Int32.ofInt ((T : Int) - 1 - ((k + 1 : Nat) : Int)) := by
      rw [oi, show (-1 : Int32) = Int32.ofInt (-1) from rfl, ← Int32.ofInt_add]; congr 1; omega
    have la' : la a (T - (k + 1)) = A := by rw [show T - (k + 1) = t from by omega, lA]
    have lb' : lb b (T - (k + 1)) = B := by rw [show T - (k + 1) = t from by omega, lB]
    obtain ⟨p0, p1, p2⟩ := pull_ok t (by omega)
    rw [if_neg (by show ¬ nI t < nI 0; rw [nI_ltI (by omega) (by omega)]; omega), p0, Option.bind_some, p1, Option.bind_some, p2, eA, eB, (cut A (by omega) 0 (by omega)).2.2.2.1, la', lb', ← oi A, ← oi B]
    have h01 : t % 2 = 0 ∨ t % 2 = 1 := by omega
    rcases h01 with h | h
    · rw [h, if_pos zz0, if_pos rfl]
      by_cases c : A - A / 2 ≤ p.1
      · rw [if_pos (by rw [nI_leI (by omega) (by omega)]; exact c), if_pos c]
        unfold j_x_ropeEnd_137i77
        rw [p2, h, if_neg (by decide)]
        show some (Sum.inl (nI A, nI B, nI p.1, nI p.2.1, nI (t + p.2.2), nI t + (-1))) = _
        rw [et]
      · rw [if_neg (by rw [nI_leI (by omega) (by omega)]; exact c), if_neg c, et]; rfl
    · rw [h, if_neg (by decide), if_neg (by omega)]
      unfold j_x_ropeEnd_137i77
      rw [p2, h, if_pos (show nI 1 = 1 from rfl), (cut B (by omega) 0 (by omega)).2.2.2.1]
      by_cases c : B - B / 2 ≤ p.2.1
      · rw [if_pos (by rw [nI_leI (by omega) (by omega)]; exact c), if_pos c]
        show some (Sum.inl (nI A, nI B, nI p.1, nI p.2.1, nI (t + p.2.2), nI t + (-1))) = _
        rw [et]
      · rw [if_neg (by rw [nI_leI (by omega) (by omega)]; exact c), if_neg c]
        show some (Sum.inl (nI A, nI B, nI A, nI (B - B / 2), nI t, nI t + (-1))) = _
        rw [et]; rfl) (by
    rw [show T - T = 0 from by omega, show (T : Int) - 1 - (T : Nat) = -1 from by omega]
    unfold b_x_ropeEnd_77
    show (if Int32.ofInt (-1) < 0 then some (Sum.inr _) else _) = _
    rw [if_pos (by decide)])
  rw [Nat.sub_zero, show (T : Int) - 1 - (0 : Nat) = (T : Int) - 1 from by omega] at this
  exact this
theorem x_ropeEnd {a3 : Int32} {a b : Nat} (a1 : 1 ≤ a) (b1 : 1 ≤ b) (ha : a ≤ 60) (hb : b ≤ 60) : s_x_ropeEnd (nI a) (nI b) a3 = some (if a3 = 0 then nI (V a b 0).1 else if a3 = 1 then nI (V a b 0).2.1 else nI (V a b 0).2.2) := by
  obtain ⟨T, hT, h1, h2⟩ := first (P := fun t => la a t ≤ 0 ∨ lb b t ≤ 0) (n := 60) (by left; unfold la; omega)
  have T1 : 1 ≤ T := by
    by_cases c : T = 0
    · subst c; unfold la lb at h1; omega
    · omega
  rw [s_x_ropeEnd, x_ropeFwd ha hb hT h1 h2, Option.bind_some]
  unfold j_x_ropeEnd_50
  have hmx : ∀ z : Int, -200 ≤ z → z ≤ 200 → s_Math_max (Int32.ofInt z) 0 = some (nI z.toNat) := fun z p q => by
    rw [s_Math_max]
    by_cases c : 0 ≤ z
    · rw [oi]
      first
        | (rw [if_pos (by rw [e32 (show (0 : Int32).toInt = 0 from rfl) (oi_le p q)]; exact c), Int.toNat_of_nonneg c])
        | (rw [if_neg (by rw [l32 (oi_le p q) (show (0 : Int32).toInt = 0 from rfl)]; omega), Int.toNat_of_nonneg c])
    · rw [show z.toNat = 0 from by omega]
      first
        | (rw [if_neg (by rw [e32 (show (0 : Int32).toInt = 0 from rfl) (oi_le p q)]; exact c)]; rfl)
        | (rw [if_pos (by rw [l32 (oi_le p q) (show (0 : Int32).toInt = 0 from rfl)]; omega)]; rfl)
  have hbd : (-200 ≤ la a T ∧ la a T ≤ 200) ∧ -200 ≤ lb b T ∧ lb b T ≤ 200 := by unfold la lb; omega
  show ((s_Math_max (Int32.ofInt (la a T)) 0).bind fun q10 => (s_Math_max (Int32.ofInt (lb b T)) 0).bind fun q11 => (lp (b_x_ropeEnd_77 a3) 100000 (Int32.ofInt (la a T), Int32.ofInt (lb b T), q10, q11, nI T - 1, nI T - 1)).bind _) = _
  rw [hmx _ hbd.1.1 hbd.1.2, Option.bind_some, hmx _ hbd.2.1 hbd.2.2, Option.bind_some, show nI T - 1 = nI (T - 1) from by
    obtain ⟨m, rfl⟩ : ∃ m, T = m + 1 := ⟨T - 1, by omega⟩
    exact nI_pred m]
  have := ropeBack (a3 := a3) ha hb hT h1 h2
  rw [show Ek a b T 0 = ((la a T).toNat, (lb b T).toNat, T - 1) from if_pos rfl, oi_pred T1] at this
  rw [show lp (b_x_ropeEnd_77 a3) 100000 (Int32.ofInt (la a T), Int32.ofInt (lb b T), nI (la a T).toNat, nI (lb b T).toNat, nI (T - 1), nI (T - 1)) = _ from this, Option.bind_some]
  have eE : Ek a b T T = V a b 0 := by
    unfold Ek Ua; rw [if_neg (by omega), show T - T = 0 from by omega, show (la a 0).toNat = a from by unfold la; omega, show (lb b 0).toNat = b from by unfold lb; omega, Nat.zero_add]
  rw [eE]
  by_cases c : a3 = 0
  · rw [if_pos c, if_pos c]
  · rw [if_neg c, if_neg c]
    by_cases d : a3 = 1
    · rw [if_pos d, if_pos d]
    · rw [if_neg d, if_neg d]
theorem x_isStrength (a : Int32) : s_x_isStrength a = some (if 1 ≤ a.toInt ∧ a.toInt ≤ 60 then 1 else 0) := by
  rw [s_x_isStrength]
  by_cases c : a < 1
  · rw [if_pos c, if_neg]; rw [l32 rfl (show (1 : Int32).toInt = 1 from rfl)] at c; omega
  · rw [if_neg c]; rw [l32 rfl (show (1 : Int32).toInt = 1 from rfl)] at c
    by_cases d : 60 < a
    · rw [if_pos d, if_neg]; rw [l32 (show (60 : Int32).toInt = 60 from rfl) rfl] at d; omega
    · rw [if_neg d, if_pos]; rw [l32 (show (60 : Int32).toInt = 60 from rfl) rfl] at d; omega
theorem al_rope {σ : Sg} (a b c : Int32) (hR : R σ) : Alike R σ (fun τ => s_x_rope τ a b c) (fun τ => s_m_rope τ a b c) := by
  by_cases ha : 1 ≤ a.toInt ∧ a.toInt ≤ 60
  rotate_left
  · exact al_bad (-2) hR (by show s_x_rope σ a b c = _; rw [s_x_rope, x_isStrength, if_neg ha, Option.bind_some, if_pos rfl, bEta]) (by show s_m_rope _ a b c = _; rw [s_m_rope, m_in32 a (x := 1) (y := 60) rfl rfl, if_neg ha, Option.bind_some, if_pos rfl, bEta])
  by_cases hb : 1 ≤ b.toInt ∧ b.toInt ≤ 60
  rotate_left
  · exact al_bad (-2) hR (by show s_x_rope σ a b c = _; rw [s_x_rope, x_isStrength, if_pos ha, Option.bind_some, if_neg (by decide), x_isStrength, if_neg hb, Option.bind_some, if_pos rfl, bEta]) (by show s_m_rope _ a b c = _; rw [s_m_rope, m_in32 a (x := 1) (y := 60) rfl rfl, if_pos ha, Option.bind_some, if_neg (by decide), m_in32 b (x := 1) (y := 60) rfl rfl, if_neg hb, Option.bind_some, if_pos rfl, bEta])
  have hx : s_x_rope σ a b c = if c < 0 then s_x_refusedBad σ (-2) else if c ≤ 2 then (s_x_ropeEnd a b c).bind fun q10 => some (q10, σ) else s_x_refusedBad σ (-2) := by
    rw [s_x_rope, x_isStrength, if_pos ha, Option.bind_some, if_neg (by decide), x_isStrength, if_pos hb, Option.bind_some, if_neg (by decide), bEta]
  by_cases hc : 0 ≤ c.toInt ∧ c.toInt ≤ 2
  rotate_left
  · refine al_bad (-2) hR ?_ ?_
    · show s_x_rope σ a b c = _
      rw [hx]
      by_cases d : c < 0
      · rw [if_pos d]
      · rw [if_neg d, if_neg]; rw [l32 rfl (show (0 : Int32).toInt = 0 from rfl)] at d; rw [e32 rfl (show (2 : Int32).toInt = 2 from rfl)]; omega
    · show s_m_rope _ a b c = _
      rw [s_m_rope, m_in32 a (x := 1) (y := 60) rfl rfl, if_pos ha, Option.bind_some, if_neg (by decide), m_in32 b (x := 1) (y := 60) rfl rfl, if_pos hb, Option.bind_some, if_neg (by decide), m_in32 c (x := 0) (y := 2) rfl rfl, if_neg hc, Option.bind_some, if_pos rfl, bEta]
  obtain ⟨p, p6, -, rfl, p1, -⟩ := b32 (n := 60) ha (by omega) (by omega)
  obtain ⟨q, q6, -, rfl, q1, -⟩ := b32 (n := 60) hb (by omega) (by omega)
  rw [if_neg (by rw [l32 rfl (show (0 : Int32).toInt = 0 from rfl)]; omega), if_pos (by rw [e32 rfl (show (2 : Int32).toInt = 2 from rfl)]; omega), x_ropeEnd (by omega) (by omega) p6 q6, Option.bind_some] at hx
  obtain ⟨o, e1, f1, f2, f3⟩ := m_ropeLp (σ := σ) (a3 := c) p6 q6
  have hi : rix p q 0 < 7442 := by unfold rix; omega
  obtain ⟨t1, t2, t3⟩ := f1 p q 0 (by omega) (by omega) (by omega) (by omega) (by omega)
  refine ⟨if c = 0 then nI (V p q 0).1 else if c = 1 then nI (V p q 0).2.1 else nI (V p q 0).2.2, σ, o.1, hx, ?_, ?_⟩
  · show s_m_rope σ (nI p) (nI q) c = _
    rw [s_m_rope, m_in32 (nI p) (x := 1) (y := 60) rfl rfl, if_pos ha, Option.bind_some, if_neg (by decide), m_in32 (nI q) (x := 1) (y := 60) rfl rfl, if_pos hb, Option.bind_some, if_neg (by decide), m_in32 c (x := 0) (y := 2) rfl rfl, if_pos hc, Option.bind_some, if_neg (by decide), e1, Option.bind_some]
    show ((s_m_ropeAt (nI p) (nI q) (nI 0)).bind _) = _
    rw [rix_ok, Option.bind_some, if_pos (inB_nI hi (by omega)), if_pos (inB_nI hi (by omega)), if_pos (inB_nI hi (by omega)), nI_clamp (by omega), t1, t2, t3]
    by_cases c0 : c = 0
    · rw [if_pos c0, if_pos c0]
    · rw [if_neg c0, if_neg c0]
      by_cases c1 : c = 1
      · rw [if_pos c1, if_pos c1]
      · rw [if_neg c1, if_neg c1]
  · obtain ⟨⟨A, hA⟩, hI, hT, hF, hC, hK⟩ := hR
    have gL4 : gL o.1 = gL σ := by show o.1.2.1 = σ.2.1; rw [f3]
    have gR4 : gR o.1 = gR σ := by show o.1.2.2 = σ.2.2; rw [f3]
    exact ⟨⟨A, RA_cong (fun c hc j => f2 c j (by omega)) hA⟩, RI_cong (fun c hc j => f2 c j (by omega)) hI, RT_cong (f2 _ _ (by omega)) (f2 _ _ (by omega)) (fun j => f2 _ _ (by omega)) (fun j => f2 _ _ (by omega)) hT, RF_cong (f2 _ _ (by omega)) (f2 _ _ (by omega)) (by rw [gL4]) (by rw [gL4]) hF, RC_cong (fun j _ => f2 _ _ (by omega)) (fun j => f2 _ _ (by omega)) hC, RK_cong (f2 _ _ (by omega)) (funext fun j => f2 _ _ (by omega)) (by rw [gL4]) (by rw [gR4]) (by rw [gR4]) hK⟩
