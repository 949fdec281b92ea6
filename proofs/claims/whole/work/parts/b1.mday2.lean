theorem m_kind {σ : Sg} {A w D : Nat → Nat} {h at_ i : Nat} (W : WT A) (hw : ∀ j, j < 3 → w j < A 1) (hh : h < 10) (H : DM σ A w D at_) (hi : i < 3) : s_m_kindVote σ (nI i) (nI h) = some (nI (knd A w D h at_ i)) := by
  have e2 := (W.2.2.2 (w i) (hw i hi)).2.2.2.1
  have p0 : s_m_plainVote σ 0 (nI h) = _ := m_plain W hw hh H (i := 0) (by omega)
  have p1 : s_m_plainVote σ 1 (nI h) = _ := m_plain W hw hh H (i := 1) (by omega)
  rw [s_m_kindVote, m_first W hw hh H hi, Option.bind_some, m_plain W hw hh H hi, p0, p1]
  unfold knd bsy
  cases c : frs A w D h i with
  | none =>
    rw [if_pos (show oI none = -1 from rfl), if_neg (show ¬ (none : Option Nat).isSome = true by decide)]
    by_cases d : i = 0
    · rw [if_pos d, if_pos (by rw [d]; rfl), Option.bind_some]
    · rw [if_neg d, if_neg (nI_ne0 (by omega) (by omega)), Option.bind_some]
  | some e =>
    have := fst1_lt _ _ _ c
    rw [if_neg (show ¬ oI (some e) = -1 from nI_nm (by omega)), if_pos (show (some e).isSome = true from rfl), Option.bind_some]
theorem m_vote {σ : Sg} {A w D : Nat → Nat} {h at_ i : Nat} (W : WT A) (hw : ∀ j, j < 3 → w j < A 1) (hh : h < 10) (H : DM σ A w D at_) (hi : i < 3) : s_m_vote σ (nI i) (nI h) = some (nI (vt A w D h at_ i)) := by
  obtain ⟨⟨e1, e2⟩, e3, e4, e5, -⟩ := DM_E W hw H hi
  have hK := (W.2.2.2 (w i) (hw i hi)).1
  obtain ⟨-, d1, d2⟩ := H.2.1 i hi
  rw [s_m_vote, if_pos (inB_nI (by omega) (by omega)), nI_clamp (by omega), e3, e5, Option.bind_some, e4, m_plain W hw hh H hi, m_kind W hw hh H hi, m_hasty W hw hh H hi, H.2.2, (pull_ok h (by omega)).2.2, d1]
  have ek1 : nI (A (2 + 11 * w i)) = (1 : Int32) ↔ A (2 + 11 * w i) = 1 := nI_eq (b := 1) (by omega) (by omega)
  have ek2 : nI (A (2 + 11 * w i)) = (2 : Int32) ↔ A (2 + 11 * w i) = 2 := nI_eq (b := 2) (by omega) (by omega)
  have ek3 : nI (A (2 + 11 * w i)) = (3 : Int32) ↔ A (2 + 11 * w i) = 3 := nI_eq (b := 3) (by omega) (by omega)
  have ek4 : nI (A (2 + 11 * w i)) = (4 : Int32) ↔ A (2 + 11 * w i) = 4 := nI_eq (b := 4) (by omega) (by omega)
  unfold vt
  by_cases c1 : A (2 + 11 * w i) = 1
  · rw [if_pos (ek1.mpr c1), if_pos c1, Option.bind_some]
  rw [if_neg (fun q => c1 (ek1.mp q)), if_neg c1]
  by_cases c2 : A (2 + 11 * w i) = 2
  · rw [if_pos (ek2.mpr c2), if_pos c2, if_pos (inB_nI (by omega) (by omega)), Option.bind_some]
    by_cases d : A (4 + 11 * w i) = 0
    · rw [if_pos (by show _ ≤ nI 0; rw [nI_leI (by omega) (by omega)]; omega), if_neg (by omega), Option.bind_some]
    · rw [if_neg (by show ¬ _ ≤ nI 0; rw [nI_leI (by omega) (by omega)]; omega), if_pos (inB_nI (by omega) (by omega)), if_pos (inB_nI (by omega) (by omega))]
      have t := tb1_ok (D i) d2
      show (if nI (D i) &&& 1 = 0 then (s_m_placeOf σ (nI (w i)) (nI 0)).bind fun q14 => some q14 else _) = _
      rw [m_placeOf H.1 e1 (by omega), Option.bind_some, Option.bind_some, Nat.mul_zero, Nat.add_zero]
      cases b : (D i).testBit 0 with
      | true =>
        rw [b] at t
        rw [if_neg (fun q => absurd (t.mp q) (by decide)), if_neg (fun q => absurd q.2 (by decide))]
      | false => rw [if_pos (t.mpr b), if_pos ⟨by omega, rfl⟩]
  rw [if_neg (fun q => c2 (ek2.mp q)), if_neg c2]
  by_cases c3 : A (2 + 11 * w i) = 3
  · rw [if_pos (ek3.mpr c3), if_pos c3, Option.bind_some]
  rw [if_neg (fun q => c3 (ek3.mp q)), if_neg c3]
  by_cases c4 : A (2 + 11 * w i) = 4
  · rw [if_pos (ek4.mpr c4), if_pos c4]
    by_cases d : h % 2 = 0
    · rw [if_pos d, if_pos (by rw [d]; rfl)]
    · rw [if_neg d, if_neg (nI_ne0 (by omega) (by omega)), Option.bind_some]
  · rw [if_neg (fun q => c4 (ek4.mp q)), if_neg c4, Option.bind_some]
theorem m_step {σ : Sg} {P a t : Nat} (h0 : gI σ 72 0 = nI P) (h1 : 1 ≤ P) (h6 : P ≤ 6) (ha : a < P) (ht : t < P) (h9 : gI σ 71 9 = nI a) : ∃ τ, s_m_stepTo σ (nI t) = some τ ∧ gI τ 71 9 = nI (stp P a t) ∧ (∀ c j, ¬ (c = 71 ∧ j = 9) → gI τ c j = gI σ c j) ∧ τ.2 = σ.2 := by
  obtain ⟨-, -, r1, r2⟩ := ring_ok P (by omega) a ha
  obtain ⟨-, r3, r4⟩ := ring_ok2 P (by omega) a ha t ht
  have hr : s_m_ring σ = some (nI P) := by rw [s_m_ring, va_cl0, h0]
  rw [s_m_stepTo, hr, Option.bind_some, Option.bind_some, if_pos (nI_ne0 (by omega) (by omega)), lt_eq, h9, r3, Option.bind_some, Option.bind_some, Option.bind_some, Option.bind_some, if_pos (nI_ne0 (by omega) (by omega)), r1, r2]
  unfold stp
  generalize (t + P - a) % P = r at *
  by_cases c : r = 0
  · rw [if_pos c, if_pos (by show _ ≤ nI 0; rw [nI_leI (by omega) (by omega)]; omega)]; exact ⟨σ, rfl, h9, fun _ _ _ => rfl, rfl⟩
  rw [if_neg c, if_neg (by show ¬ _ ≤ nI 0; rw [nI_leI (by omega) (by omega)]; omega), show (2 : Int32) * nI r = nI (2 * r) from (Int32.ofNat_mul 2 r).symm]
  by_cases d : P < 2 * r
  · rw [if_pos d, if_pos (by rw [nI_ltI (by omega) (by omega)]; exact d)]
    exact ⟨_, rfl, gI_eq, fun c j h => gI_ne h, rfl⟩
  · rw [if_neg d, if_neg (by rw [nI_ltI (by omega) (by omega)]; exact d), if_pos (nI_ne0 (by omega) (by omega))]
    exact ⟨_, rfl, gI_eq, fun c j h => gI_ne h, rfl⟩
theorem m_fast {σ : Sg} {A w D : Nat → Nat} {at_ : Nat} (W : WT A) (hw : ∀ j, j < 3 → w j < A 1) (H : DM σ A w D at_) : s_m_isFast σ = some (if fs A w = true then 1 else 0) := by
  obtain ⟨-, a3, -, -, a5⟩ := DM_E W hw H (i := 0) (by omega)
  obtain ⟨-, b3, -, -, b5⟩ := DM_E W hw H (i := 1) (by omega)
  obtain ⟨-, c3, -, -, c5⟩ := DM_E W hw H (i := 2) (by omega)
  have p0 := (W.2.2.2 (w 0) (hw 0 (by omega))).2.2.1
  have p1 := (W.2.2.2 (w 1) (hw 1 (by omega))).2.2.1
  have p2 := (W.2.2.2 (w 2) (hw 2 (by omega))).2.2.1
  have e : ∀ x, x ≤ 9 → (nI x < 5 ↔ ¬ 5 ≤ x) := fun x hx => by
    show nI x < nI 5 ↔ _
    rw [nI_ltI (by omega) (by omega)]; omega
  rw [s_m_isFast, va_cl0, va_cl1, va_cl2, a3, b3, c3, a5, Option.bind_some, b5, Option.bind_some, c5, Option.bind_some]
  unfold fs
  by_cases q0 : 5 ≤ A (3 + 11 * w 0)
  · rw [if_neg (fun q => (e _ p0).mp q q0), decide_eq_true q0]
    by_cases q1 : 5 ≤ A (3 + 11 * w 1)
    · rw [if_neg (fun q => (e _ p1).mp q q1), decide_eq_true q1]
      by_cases q2 : 5 ≤ A (3 + 11 * w 2)
      · rw [if_neg (fun q => (e _ p2).mp q q2), decide_eq_true q2]; rfl
      · rw [if_pos ((e _ p2).mpr q2), decide_eq_false q2]; rfl
    · rw [if_pos ((e _ p1).mpr q1), decide_eq_false q1]; rfl
  · rw [if_pos ((e _ p0).mpr q0), decide_eq_false q0]; rfl
theorem m_do1 {A w D : Nat → Nat} {h at_ i : Nat} (W : WT A) (hw : ∀ j, j < 3 → w j < A 1) (hh : h < 10) (hi : i < 3) (ha : at_ < A 0) : ∀ (m k F : Nat) (ρ : Sg) (d c : Nat), m < F → k + m = A (4 + 11 * w i) → DM ρ A w (updA D i d) at_ →
    ∃ o, lp (b_m_doAll_12 (nI h) (nI i)) F (ρ, nI c, nI k) = some o ∧ DM o.1 A w (updA D i (dE A w h at_ i k m (d, c)).1) at_ ∧ o.2.1 = nI (dE A w h at_ i k m (d, c)).2 ∧ (∀ c j, ¬ c = 77 → gI o.1 c j = gI ρ c j) ∧ o.1.2 = ρ.2 := by
  have h6 := W.2.1
  intro m
  induction m with
  | zero =>
    intro k F ρ d c hF hk H
    obtain ⟨f, rfl⟩ : ∃ f, F = f + 1 := ⟨F - 1, by omega⟩
    obtain ⟨⟨e1, e2⟩, e3, e4, -⟩ := DM_E W hw H hi
    refine ⟨(ρ, nI c, nI k), lp_end ?_, H, rfl, fun _ _ _ => rfl, rfl⟩
    unfold b_m_doAll_12
    show (if inB (nI i) 3 = true then (s_m_of ρ (gI ρ 76 (Int32.toNatClampNeg (nI i))) 2).bind fun q3 => (if q3 ≤ nI k then _ else _) else _) = _
    rw [if_pos (inB_nI (by omega) (by omega)), nI_clamp (by omega), e3, e4, Option.bind_some, if_pos (by rw [nI_leI (by omega) (by omega)]; omega)]
  | succ m ih =>
    intro k F ρ d c hF hk H
    obtain ⟨f, rfl⟩ : ∃ f, F = f + 1 := ⟨F - 1, by omega⟩
    obtain ⟨⟨e1, e2⟩, e3, e4, -⟩ := DM_E W hw H hi
    obtain ⟨-, d1, d2⟩ := H.2.1 i hi
    rw [updA_eq rfl] at d1 d2
    obtain ⟨-, t2, t3⟩ := tb0_ok d d2 k (by omega)
    have hP := ((W.2.2.2 (w i) (hw i hi)).2.2.2.2 k (by omega)).1
    have hop := m_opn W hw hh H hi (e := k) (by omega)
    have hopn : opn A w (updA D i d) h i k = (!d.testBit k && decide (h ≤ A (6 + 11 * w i + 2 * k))) := by unfold opn; rw [updA_eq rfl]
    rw [hopn] at hop
    have hbody : b_m_doAll_12 (nI h) (nI i) (ρ, nI c, nI k) = if (!d.testBit k && decide (h ≤ A (6 + 11 * w i + 2 * k))) = true then (if A (5 + 11 * w i + 2 * k) = at_ then some (.inl (pI ρ 77 i (nI (d ||| 2 ^ k)), nI (c + 1), nI (k + 1))) else some (.inl (ρ, nI c, nI (k + 1)))) else some (.inl (ρ, nI c, nI (k + 1))) := by
      unfold b_m_doAll_12
      show (if inB (nI i) 3 = true then (s_m_of ρ (gI ρ 76 (Int32.toNatClampNeg (nI i))) 2).bind fun q3 => (if q3 ≤ nI k then _ else (s_m_isOpen ρ (nI i) (nI k) (nI h)).bind fun q5 => if q5 = 0 then some (Sum.inl (ρ, nI c, nI k + 1)) else (if inB (nI i) 3 = true then ((s_m_placeOf ρ (gI ρ 76 (Int32.toNatClampNeg (nI i))) (nI k)).bind fun q9 => if q9 = gI ρ 71 9 then (if inB (nI i) 3 = true then (if inB (nI i) 3 = true then some (Sum.inl (pI ρ 77 (Int32.toNatClampNeg (nI i)) (gI ρ 77 (Int32.toNatClampNeg (nI i)) ||| ((1 : Int32) <<< (nI k &&& 31))), nI c + 1, nI k + 1)) else none) else none) else some (Sum.inl (ρ, nI c, nI k + 1))) else none)) else none) = _
      rw [if_pos (inB_nI (by omega) (by omega)), nI_clamp (by omega), e3, e4, Option.bind_some, if_neg (by rw [nI_leI (by omega) (by omega)]; omega), hop, Option.bind_some, m_placeOf H.1 e1 (by omega), Option.bind_some, if_pos (inB_nI (by omega) (by omega)), if_pos (inB_nI (by omega) (by omega)), if_pos (inB_nI (by omega) (by omega)), d1, t2, H.2.2, nI_1, nI_1]
      by_cases y : (!d.testBit k && decide (h ≤ A (6 + 11 * w i + 2 * k))) = true
      · rw [if_pos y, if_neg (by decide), if_pos y]
        by_cases x : A (5 + 11 * w i + 2 * k) = at_
        · rw [if_pos (by rw [x]), if_pos x]
        · rw [if_neg (by rw [nI_eq (by omega) (by omega)]; exact x), if_neg x]
      · rw [if_neg y, if_pos rfl, if_neg y]
    rw [dE_s]
    by_cases x : (!d.testBit k && decide (h ≤ A (6 + 11 * w i + 2 * k))) = true ∧ A (5 + 11 * w i + 2 * k) = at_
    · rw [if_pos x.1, if_pos x.2] at hbody
      rw [lp_step hbody, if_pos (show (!(d, c).1.testBit k && decide (h ≤ A (6 + 11 * w i + 2 * k))) = true ∧ A (5 + 11 * w i + 2 * k) = at_ from x)]
      have H2 : DM (pI ρ 77 i (nI (d ||| 2 ^ k))) A w (updA D i (d ||| 2 ^ k)) at_ := by
        refine ⟨MS_cong (fun j => gI_ne (by omega)) H.1, fun j hj => ?_, by rw [gI_ne (by omega)]; exact H.2.2⟩
        have := H.2.1 j hj
        by_cases y : j = i
        · subst y; rw [updA_eq rfl, gI_eq, gI_ne (by omega)]; exact ⟨this.1, rfl, t3⟩
        · rw [updA_ne y] at this ⊢; rw [gI_ne (by omega), gI_ne (by omega)]; exact this
      obtain ⟨o, o1, o2, o3, o4, o5⟩ := ih (k + 1) f _ (d ||| 2 ^ k) (c + 1) (by omega) (by omega) H2
      exact ⟨o, o1, o2, o3, fun a j q => (o4 a j q).trans (gI_ne (by omega)), o5⟩
    · have hb2 : b_m_doAll_12 (nI h) (nI i) (ρ, nI c, nI k) = some (.inl (ρ, nI c, nI (k + 1))) := by
        rw [hbody]
        by_cases y : (!d.testBit k && decide (h ≤ A (6 + 11 * w i + 2 * k))) = true
        · rw [if_pos y, if_neg (fun q => x ⟨y, q⟩)]
        · rw [if_neg y]
      rw [lp_step hb2, if_neg (show ¬ ((!(d, c).1.testBit k && decide (h ≤ A (6 + 11 * w i + 2 * k))) = true ∧ A (5 + 11 * w i + 2 * k) = at_) from x)]
      exact ih (k + 1) f ρ d c (by omega) (by omega) H
theorem m_do {σ : Sg} {A w D : Nat → Nat} {h at_ : Nat} (W : WT A) (hw : ∀ j, j < 3 → w j < A 1) (hh : h < 10) (ha : at_ < A 0) (H : DM σ A w D at_) : ∃ τ, s_m_doAll σ (nI h) = some (nI (do3 A w D h at_ 0).2, τ) ∧ DM τ A w (do3 A w D h at_ 0).1 at_ ∧ (∀ c j, ¬ c = 77 → gI τ c j = gI σ c j) ∧ τ.2 = σ.2 := by
  have hstep : ∀ (i : Nat) (ρ : Sg) (D' : Nat → Nat) (c' : Nat), i < 3 → DM ρ A w D' at_ → ∃ κ, b_m_doAll_4 (nI h) (ρ, nI c', nI i) = some (.inl (κ, nI (dos A w D' h at_ i c').2, nI (i + 1))) ∧ DM κ A w (updA D' i (dos A w D' h at_ i c').1) at_ ∧ (∀ c j, ¬ c = 77 → gI κ c j = gI ρ c j) ∧ κ.2 = ρ.2 := fun i ρ D' c' hi H' => by
    obtain ⟨⟨e1, e2⟩, -⟩ := DM_E W hw H' hi
    obtain ⟨o, o1, o2, o3, o4, o5⟩ := m_do1 (D := D') W hw hh hi ha (A (4 + 11 * w i)) 0 100000 ρ (D' i) c' (by omega) (by omega) (by rw [updA_self]; exact H')
    refine ⟨o.1, ?_, o2, o4, o5⟩
    unfold b_m_doAll_4
    rw [if_neg (by show ¬ nI 3 ≤ nI i; rw [nI_leI (by omega) (by omega)]; omega)]
    show ((lp (b_m_doAll_12 (nI h) (nI i)) 100000 (ρ, nI c', nI 0)).bind fun o17 => some (Sum.inl (o17.1, o17.2.1, nI i + 1))) = _
    rw [o1, Option.bind_some, nI_1, o3]; rfl
  obtain ⟨ρ1, a1, a2, a4, a5⟩ := hstep 0 σ D 0 (by omega) H
  obtain ⟨ρ2, b1, b2, b4, b5⟩ := hstep 1 ρ1 _ _ (by omega) a2
  obtain ⟨ρ3, c1, c2, c4, c5⟩ := hstep 2 ρ2 _ _ (by omega) b2
  refine ⟨ρ3, ?_, c2, fun a j q => (c4 a j q).trans ((b4 a j q).trans (a4 a j q)), c5.trans (b5.trans a5)⟩
  rw [s_m_doAll, show lp (b_m_doAll_4 (nI h)) 100000 (σ, 0, 0) = some (ρ3, _, nI 3) from (lp_step a1).trans ((lp_step b1).trans ((lp_step c1).trans (lp_end (n := 99996) (by unfold b_m_doAll_4; rw [if_pos (show (3 : Int32) ≤ nI (2 + 1) by decide)]))))]; rfl
