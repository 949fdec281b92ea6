theorem dE_add {A w : Nat → Nat} {h at_ i : Nat} : ∀ (m k : Nat) (d c : Nat), dE A w h at_ i k m (d, c) = ((dE A w h at_ i k m (d, 0)).1, c + (dE A w h at_ i k m (d, 0)).2) := by
  intro m
  induction m with
  | zero => intro k d c; rfl
  | succ m ih =>
    intro k d c
    rw [dE_s, dE_s]
    by_cases x : (!d.testBit k && decide (h ≤ A (6 + 11 * w i + 2 * k))) = true ∧ A (5 + 11 * w i + 2 * k) = at_
    · rw [if_pos (show (!(d, c).1.testBit k && decide (h ≤ A (6 + 11 * w i + 2 * k))) = true ∧ A (5 + 11 * w i + 2 * k) = at_ from x), if_pos (show (!(d, 0).1.testBit k && decide (h ≤ A (6 + 11 * w i + 2 * k))) = true ∧ A (5 + 11 * w i + 2 * k) = at_ from x)]
      show dE A w h at_ i (k + 1) m (d ||| 2 ^ k, c + 1) = ((dE A w h at_ i (k + 1) m (d ||| 2 ^ k, 0 + 1)).1, c + (dE A w h at_ i (k + 1) m (d ||| 2 ^ k, 0 + 1)).2)
      rw [ih (k + 1) (d ||| 2 ^ k) (c + 1), ih (k + 1) (d ||| 2 ^ k) (0 + 1)]
      congr 1
      show c + 1 + _ = c + (0 + 1 + _)
      omega
    · rw [if_neg (show ¬ ((!(d, c).1.testBit k && decide (h ≤ A (6 + 11 * w i + 2 * k))) = true ∧ A (5 + 11 * w i + 2 * k) = at_) from x), if_neg (show ¬ ((!(d, 0).1.testBit k && decide (h ≤ A (6 + 11 * w i + 2 * k))) = true ∧ A (5 + 11 * w i + 2 * k) = at_) from x)]
      exact ih (k + 1) d c
theorem do3_add {A w D : Nat → Nat} {h at_ c : Nat} : do3 A w D h at_ c = ((do3 A w D h at_ 0).1, c + (do3 A w D h at_ 0).2) := by
  unfold do3 dos
  rw [dE_add _ _ (D 0) c]
  simp only []
  generalize dE A w h at_ 0 0 (A (4 + 11 * w 0)) (D 0, 0) = r0
  rw [dE_add _ _ (updA D 0 r0.1 1) (c + r0.2), dE_add _ _ (updA D 0 r0.1 1) r0.2]
  simp only []
  generalize dE A w h at_ 1 0 (A (4 + 11 * w 1)) (updA D 0 r0.1 1, 0) = r1
  rw [dE_add _ _ (updA (updA D 0 r0.1) 1 r1.1 2) (c + r0.2 + r1.2), dE_add _ _ (updA (updA D 0 r0.1) 1 r1.1 2) (r0.2 + r1.2)]
  simp only [Nat.add_assoc]
theorem m_hour {ρ : Sg} {A w : Nat → Nat} {h : Nat} {s : (Nat → Nat) × Nat × Nat} (W : WT A) (hw : ∀ j, j < 3 → w j < A 1) (hh : h < 10) (ha : s.2.1 < A 0) (H : DM ρ A w s.1 s.2.1) : ∃ κ, b_m_goDay_9 (ρ, nI s.2.2, nI h) = some (.inl (κ, nI (hour1 A w (fs A w) h s).2.2, nI (h + 1))) ∧ DM κ A w (hour1 A w (fs A w) h s).1 (hour1 A w (fs A w) h s).2.1 ∧ gI κ 78 h = nI (hour1 A w (fs A w) h s).2.1 ∧ (∀ c j, ¬ (c = 71 ∧ j = 9 ∨ c = 77 ∨ c = 78 ∧ j = h) → gI κ c j = gI ρ c j) ∧ κ.2 = ρ.2 := by
  obtain ⟨D, at_, c⟩ := s
  have H : DM ρ A w D at_ := H
  have ha : at_ < A 0 := ha
  obtain ⟨p1, p6, -, -⟩ := id W
  have V0 : s_m_vote ρ 0 (nI h) = _ := m_vote W hw hh H (i := 0) (by omega)
  have V1 : s_m_vote ρ 1 (nI h) = _ := m_vote W hw hh H (i := 1) (by omega)
  have V2 : s_m_vote ρ 2 (nI h) = _ := m_vote W hw hh H (i := 2) (by omega)
  have v1 := vt_lt (D := D) (h := h) W hw (i := 1) (by omega) ha
  have v2 := vt_lt (D := D) (h := h) W hw (i := 2) (by omega) ha
  have v0 := vt_lt (D := D) (h := h) W hw (i := 0) (by omega) ha
  have tl := tgt_lt (D := D) (h := h) W hw ha
  have hstep : ∀ (τ : Sg) (a : Nat), a < A 0 → DM τ A w D a → ∃ κ, s_m_stepTo τ (nI (tgt A w D h at_)) = some κ ∧ DM κ A w D (stp (A 0) a (tgt A w D h at_)) ∧ (∀ c j, ¬ (c = 71 ∧ j = 9) → gI κ c j = gI τ c j) ∧ κ.2 = τ.2 := fun τ a al HT => by
    obtain ⟨κ, k1, k2, k3, k4⟩ := m_step (M0 HT.1 (by omega)) p1 p6 al tl HT.2.2
    exact ⟨κ, k1, ⟨MS_cong (fun j => k3 _ _ (by omega)) HT.1, fun j hj => by rw [k3 _ _ (by omega), k3 _ _ (by omega)]; exact HT.2.1 j hj, k2⟩, k3, k4⟩
  obtain ⟨σ2, b1, b2, b3, b4⟩ := hstep ρ at_ ha H
  have s1l := stp_lt (to := tgt A w D h at_) p1 ha
  have hend : ∀ (τ : Sg) (a : Nat), a < A 0 → a = stps A (fs A w) at_ (tgt A w D h at_) → DM τ A w D a → (∀ c j, ¬ (c = 71 ∧ j = 9) → gI τ c j = gI ρ c j) → τ.2 = ρ.2 → ∃ κ, j_m_goDay_74i9 τ (nI c) (nI h) = some (.inl (κ, nI (hour1 A w (fs A w) h (D, at_, c)).2.2, nI (h + 1))) ∧ DM κ A w (hour1 A w (fs A w) h (D, at_, c)).1 (hour1 A w (fs A w) h (D, at_, c)).2.1 ∧ gI κ 78 h = nI (hour1 A w (fs A w) h (D, at_, c)).2.1 ∧ (∀ c j, ¬ (c = 71 ∧ j = 9 ∨ c = 77 ∨ c = 78 ∧ j = h) → gI κ c j = gI ρ c j) ∧ κ.2 = ρ.2 := fun τ a al hae HT k3 k4 => by
    obtain ⟨κ, c1, c2, c4, c5⟩ := m_do W hw hh al HT
    have eh : hour1 A w (fs A w) h (D, at_, c) = ((do3 A w D h a 0).1, a, c + (do3 A w D h a 0).2) := by
      have : hour1 A w (fs A w) h (D, at_, c) = ((do3 A w D h a c).1, a, (do3 A w D h a c).2) := by rw [hae]; rfl
      rw [this, do3_add]
    rw [eh]
    refine ⟨pI κ 78 h (nI a), ?_, DM_cong (fun c j q => gI_ne (by omega)) c2, by rw [gI_eq], fun b j q => ?_, ?_⟩
    · unfold j_m_goDay_74i9
      rw [c1, Option.bind_some]
      show (if inB (nI h) 10 = true then some (Sum.inl (pI κ 78 (Int32.toNatClampNeg (nI h)) (gI κ 71 9), nI c + nI (do3 A w D h a 0).2, nI h + 1)) else none) = _
      rw [if_pos (inB_nI (by omega) (by omega)), nI_clamp (by omega), c2.2.2, nI_1, nI_add]
    · rw [gI_ne (by omega), c4 _ _ (by omega), k3 _ _ (by omega)]
    · exact c5.trans k4
  have h53 : b_m_goDay_9 (ρ, nI c, nI h) = j_m_goDay_53i9 ρ (nI c) (nI h) (nI (tgt A w D h at_)) := by
    unfold b_m_goDay_9
    rw [if_neg (by show ¬ nI 10 ≤ nI h; rw [nI_leI (by omega) (by omega)]; omega)]
    show ((s_m_vote ρ 0 (nI h)).bind fun q3 => (s_m_vote ρ 1 (nI h)).bind fun q4 => (s_m_vote ρ 2 (nI h)).bind fun q5 => if q4 = q5 then j_m_goDay_53i9 ρ (nI c) (nI h) q4 else j_m_goDay_53i9 ρ (nI c) (nI h) q3) = _
    rw [V0, Option.bind_some, V1, Option.bind_some, V2, Option.bind_some]
    unfold tgt
    by_cases d : vt A w D h at_ 1 = vt A w D h at_ 2
    · rw [if_pos (by rw [d]), if_pos d]
    · rw [if_neg (by rw [nI_eq (by omega) (by omega)]; exact d), if_neg d]
  show ∃ κ, b_m_goDay_9 (ρ, nI c, nI h) = _ ∧ _
  rw [h53]
  unfold j_m_goDay_53i9
  rw [b1, Option.bind_some, m_fast W hw b2, Option.bind_some]
  cases hf : fs A w with
  | false =>
    rw [hf] at hend
    rw [if_pos (show (if false = true then (1 : Int32) else 0) = 0 from rfl)]
    exact hend σ2 _ s1l rfl b2 b3 b4
  | true =>
    rw [hf] at hend
    rw [if_neg (show ¬ (if true = true then (1 : Int32) else 0) = 0 from by decide)]
    obtain ⟨σ3, d1, d2, d3, d4⟩ := hstep σ2 _ s1l b2
    rw [d1, Option.bind_some]
    exact hend σ3 _ (stp_lt p1 s1l) rfl d2 (fun c j q => (d3 c j q).trans (b3 c j q)) (d4.trans b4)
theorem m_goDay {σ : Sg} {A : Nat → Nat} {m : Nat} (hM : MS σ 72 0 A) (W : WT A) (hm : m < 2 ^ A 1) (h5 : m < 512) (h3 : bN m = 3) : ∃ τ, s_m_goDay σ (nI m) = some (nI (dC A m), τ) ∧ (∀ h, h < 10 → gI τ 78 h = nI (dW A m h)) ∧ (∀ c j, ¬ (c = 71 ∧ j = 9 ∨ 76 ≤ c ∧ c ≤ 78) → gI τ c j = gI σ c j) ∧ τ.2 = σ.2 := by
  have n9 := W.2.2.1
  have hw : ∀ j, j < 3 → wm m j < A 1 := fun j hj => wm_lt n9 hm h5 h3 hj
  obtain ⟨ρ, r1, r2, r3, r4, r5⟩ := m_take (σ := σ) h5 h3
  have H0 : DM ρ A (wm m) (dst A (wm m) (fs A (wm m)) 0).1 (dst A (wm m) (fs A (wm m)) 0).2.1 := ⟨MS_cong (fun j => r4 _ _ (by omega)) hM, fun j hj => ⟨(r2 j hj).1, (r2 j hj).2, by show 0 < 16; omega⟩, r3⟩
  rw [s_m_goDay, r1, Option.bind_some]
  obtain ⟨z, hz, g1, g2, g3, g4⟩ := lp_ex (b := b_m_goDay_9) (I := fun x n => ∃ k, x.2.2 = nI k ∧ k ≤ 10 ∧ n = 10 - k ∧ x.2.1 = nI (dst A (wm m) (fs A (wm m)) k).2.2 ∧ DM x.1 A (wm m) (dst A (wm m) (fs A (wm m)) k).1 (dst A (wm m) (fs A (wm m)) k).2.1 ∧ (∀ h, h < k → gI x.1 78 h = nI (dW A m h)) ∧ (∀ c j, ¬ (c = 71 ∧ j = 9 ∨ 77 ≤ c ∧ c ≤ 78) → gI x.1 c j = gI ρ c j) ∧ x.1.2 = ρ.2) (G := fun x => x.2.1 = nI (dC A m) ∧ (∀ h, h < 10 → gI x.1 78 h = nI (dW A m h)) ∧ (∀ c j, ¬ (c = 71 ∧ j = 9 ∨ 77 ≤ c ∧ c ≤ 78) → gI x.1 c j = gI ρ c j) ∧ x.1.2 = ρ.2) (fun x n hx => by
    obtain ⟨τ, q, p⟩ := x
    obtain ⟨k, hp, k1, k2, hq, i1, i2, i3, i4⟩ := hx
    have hp : p = nI k := hp
    have hq : q = nI (dst A (wm m) (fs A (wm m)) k).2.2 := hq
    subst hp; subst hq
    by_cases d : k = 10
    · subst d
      refine Or.inr ⟨(τ, nI (dst A (wm m) (fs A (wm m)) 10).2.2, nI 10), ?_, rfl, i2, i3, i4⟩
      unfold b_m_goDay_9
      rw [if_pos (show (10 : Int32) ≤ nI 10 by decide)]
    · obtain ⟨κ, c1, c2, c3, c4, c5⟩ := m_hour W hw (show k < 10 by omega) (dst_lt W.1 k) i1
      refine Or.inl ⟨_, 10 - (k + 1), c1, by omega, k + 1, rfl, by omega, rfl, rfl, c2, fun h hh => ?_, fun c j q => (c4 c j (by omega)).trans (i3 c j q), c5.trans i4⟩
      by_cases e : h = k
      · subst e; exact c3
      · exact (c4 78 h (by omega)).trans (i2 h (by omega))) 100000 10 (ρ, 0, 0) (by omega) ⟨0, rfl, by omega, by omega, rfl, H0, fun h hh => by omega, fun _ _ _ => rfl, rfl⟩
  rw [hz, Option.bind_some, g1]
  exact ⟨_, rfl, g2, fun c j q => (g3 c j (by omega)).trans (r4 c j (by omega)), g4.trans r5⟩
