/-! BEST, the reference's side: which states can be, hour by hour. -/
def BT (f : Nat → Int32) (Q : Nat → Prop) : Prop := ∀ k, k < 24576 → (f k = nI 1 ∧ Q k) ∨ (f k = nI 0 ∧ ¬ Q k)
theorem BT_of {f : Nat → Int32} {Q Q' : Nat → Prop} (h : ∀ k, k < 24576 → (Q k ↔ Q' k)) (H : BT f Q) : BT f Q' := fun k hk => by
  rcases H k hk with ⟨a, b⟩ | ⟨a, b⟩
  · exact Or.inl ⟨a, (h k hk).mp b⟩
  · exact Or.inr ⟨a, fun q => b ((h k hk).mpr q)⟩
theorem BT_add {f g : Nat → Int32} {Q : Nat → Prop} {t : Nat} (h : ∀ j, g j = if j = t then nI 1 else f j) (H : BT f Q) : BT g (fun k => Q k ∨ k = t) := fun k hk => by
  rw [h k]
  by_cases c : k = t
  · rw [if_pos c]; exact Or.inl ⟨rfl, Or.inr c⟩
  · rw [if_neg c]
    rcases H k hk with ⟨a, b⟩ | ⟨a, b⟩
    · exact Or.inl ⟨a, Or.inl b⟩
    · exact Or.inr ⟨a, fun q => q.elim b c⟩
theorem BT_eq {f g : Nat → Int32} {Q : Nat → Prop} (h : ∀ k, k < 24576 → g k = f k) (H : BT f Q) : BT g Q := fun k hk => by
  rw [h k hk]; exact H k hk
/-- what the states below k, and k's steps below s, lead to -/
def HQ (A w : Nat → Nat) (r h : Nat) (Q : Nat → Prop) (k s t : Nat) : Prop := ∃ k' s', (k' < k ∧ s' ≤ 2 * r ∨ k' = k ∧ s' < s) ∧ k' < 24576 ∧ Q k' ∧ t = nxq A w r h k' s'
def FM (σ τ : Sg) : Prop := (∀ c j, ¬ (c = 71 ∧ j = 9 ∨ c = 77 ∨ c = 79 ∨ c = 80) → gI τ c j = gI σ c j) ∧ τ.2 = σ.2
theorem FM_refl {σ : Sg} : FM σ σ := ⟨fun _ _ _ => rfl, rfl⟩
theorem FM_trans {σ τ ρ : Sg} (h1 : FM σ τ) (h2 : FM τ ρ) : FM σ ρ := ⟨fun c j q => (h2.1 c j q).trans (h1.1 c j q), h2.2.trans h1.2⟩
theorem M7_FM {σ τ : Sg} {A w : Nat → Nat} (h : FM σ τ) (H : M7 σ A w) : M7 τ A w := M7_cong (fun c j q => h.1 c j (by omega)) H
theorem m_goOn {σ : Sg} {A w : Nat → Nat} {k h r : Nat} {Q : Nat → Prop} (W : WT A) (hw : ∀ j, j < 3 → w j < A 1) (H : M7 σ A w) (hk : k < 24576) (ha : k / 4096 < A 0) (hh : h < 10) (hr : r < 3) (hQ : Q k) (HB : BT (gI σ 80) (HQ A w r h Q k 0)) : ∃ τ, s_m_goOn σ (nI k) (nI h) (nI r) = some τ ∧ BT (gI τ 80) (HQ A w r h Q (k + 1) 0) ∧ FM σ τ ∧ gI τ 79 = gI σ 79 := by
  obtain ⟨-, -, b3⟩ := by_ok r hr 0 (by omega)
  rw [s_m_goOn, lt_eq, b3]
  obtain ⟨z, hz, g1, g2, g3⟩ := lp_ex (b := b_m_goOn_4 (nI k) (nI h) (nI r)) (I := fun x n => ∃ s, x.2 = nI s - nI r ∧ s ≤ 2 * r + 1 ∧ n = 2 * r + 1 - s ∧ BT (gI x.1 80) (HQ A w r h Q k s) ∧ FM σ x.1 ∧ gI x.1 79 = gI σ 79) (G := fun x => BT (gI x.1 80) (HQ A w r h Q (k + 1) 0) ∧ FM σ x.1 ∧ gI x.1 79 = gI σ 79) (fun x n hx => by
    obtain ⟨ρ, q⟩ := x
    obtain ⟨s, hq, k1, k2, i1, i2, i3⟩ := hx
    have hq : q = nI s - nI r := hq
    subst hq
    have i1 : BT (gI ρ 80) (HQ A w r h Q k s) := i1
    have i2 : FM σ ρ := i2
    have i3 : gI ρ 79 = gI σ 79 := i3
    obtain ⟨y1, y2, -⟩ := by_ok r hr s (by omega)
    by_cases d : s = 2 * r + 1
    · refine Or.inr ⟨(ρ, nI s - nI r), ?_, ?_, i2, i3⟩
      · unfold b_m_goOn_4
        show (if nI r < nI s - nI r then some (Sum.inr (ρ, nI s - nI r)) else _) = _
        rw [if_pos (y2.mpr (by omega))]
      · refine BT_of (fun t _ => ⟨fun g => ?_, fun g => ?_⟩) i1
        · obtain ⟨a, b, e1, e2⟩ := g
          exact ⟨a, b, by omega, e2⟩
        · obtain ⟨a, b, e1, e2⟩ := g
          refine ⟨a, b, ?_, e2⟩
          by_cases f : a = k
          · right; omega
          · left; omega
    · obtain ⟨κ, c1, c2, c3, c4⟩ := m_step4 (s := s) W hw (M7_FM i2 H) hk ha hh hr (by omega)
      refine Or.inl ⟨_, 2 * r + 1 - (s + 1), c1, by omega, s + 1, rfl, by omega, rfl, ?_, ⟨fun c j q => (gI_ne (by omega)).trans ((c3 c j (by omega)).trans (i2.1 c j q)), c4.trans i2.2⟩, ?_⟩
      · have hadd := BT_add (t := nxq A w r h k s) (g := gI (pI κ 80 (nxq A w r h k s) 1) 80) (fun j => by
          by_cases f : j = nxq A w r h k s
          · rw [if_pos f, f, gI_eq]; rfl
          · rw [if_neg f, gI_ne (by omega)]; exact c3 _ _ (by omega)) i1
        refine BT_of (fun t _ => ⟨fun g => ?_, fun g => ?_⟩) hadd
        · rcases g with ⟨a, b, e1, e2⟩ | e
          · exact ⟨a, b, by omega, e2⟩
          · exact ⟨k, s, by omega, hk, hQ, e⟩
        · obtain ⟨a, b, e1, e2, e3, e4⟩ := g
          by_cases f : a = k ∧ b = s
          · obtain ⟨rfl, rfl⟩ := f
            exact Or.inr e4
          · exact Or.inl ⟨a, b, by omega, e2, e3, e4⟩
      · funext j
        show gI (pI κ 80 (nxq A w r h k s) 1) 79 j = _
        rw [gI_ne (by omega), c3 _ _ (by omega), i3]) 100000 (2 * r + 1) (σ, nI 0 - nI r) (by omega) ⟨0, rfl, by omega, by omega, HB, FM_refl, rfl⟩
  rw [hz, Option.bind_some]
  exact ⟨_, rfl, g1, g2, g3⟩
theorem m_fast7 {σ : Sg} {A w : Nat → Nat} (W : WT A) (hw : ∀ j, j < 3 → w j < A 1) (H : M7 σ A w) : s_m_isFast σ = some (if fs A w = true then 1 else 0) := by
  have n9 := W.2.2.1
  have a5 : ∀ j, j < 3 → s_m_of σ (gI σ 76 j) 1 = some (nI (A (3 + 11 * w j))) := fun j hj => by
    have hj9 := hw j hj
    rw [H.2 j hj]
    have := m_ofN (p := w j) (x := 1) H.1 (by omega) (by omega)
    rw [show 2 + 11 * w j + 1 = 3 + 11 * w j by omega] at this
    exact this
  have p0 := (W.2.2.2 (w 0) (hw 0 (by omega))).2.2.1
  have p1 := (W.2.2.2 (w 1) (hw 1 (by omega))).2.2.1
  have p2 := (W.2.2.2 (w 2) (hw 2 (by omega))).2.2.1
  have e : ∀ x, x ≤ 9 → (nI x < 5 ↔ ¬ 5 ≤ x) := fun x hx => by
    show nI x < nI 5 ↔ _
    rw [nI_ltI (by omega) (by omega)]; omega
  rw [s_m_isFast, va_cl0, va_cl1, va_cl2, a5 0 (by omega), Option.bind_some, a5 1 (by omega), Option.bind_some, a5 2 (by omega), Option.bind_some]
  unfold fs
  by_cases q0 : 5 ≤ A (3 + 11 * w 0)
  · rw [if_neg (fun q => (e _ p0).mp q q0), decide_eq_true q0]
    by_cases q1 : 5 ≤ A (3 + 11 * w 1)
    · rw [if_neg (fun q => (e _ p1).mp q q1), decide_eq_true q1]
      by_cases q2 : 5 ≤ A (3 + 11 * w 2)
      · rw [if_neg (fun q => (e _ p2).mp q q2), decide_eq_true q2]; rfl
      · rw [if_pos ((e _ p2).mpr q2), decide_eq_false q2]; rfl
    · rw [if_pos ((e _ p1).mpr q1), decide_eq_false q1]; rfl
  · rw [if_pos ((e _ p0).mpr q0), decide_eq_false q0]; rfl
