/-! BEST, the reference's side: the hours. -/
def MQb (A w : Nat → Nat) (r h k : Nat) : Prop := ∃ b v, Pth A w r h (k / 4096) b (k % 4096) v
theorem m_67 {σ : Sg} {A w : Nat → Nat} {h : Nat} {Q : Nat → Prop} (W : WT A) (hw : ∀ j, j < 3 → w j < A 1) (H : M7 σ A w) (hh : h < 10) (hQa : ∀ k, k < 24576 → Q k → k / 4096 < A 0) (H9 : BT (gI σ 79) Q) (HB : BT (gI σ 80) (fun _ => False)) : ∃ o, lp (b_m_best_67 (nI h)) 100000 (σ, 0) = some o ∧ BT (gI o.1 80) (HQ A w (rch A w) h Q 24576 0) ∧ FM σ o.1 := by
  obtain ⟨z, hz, g1, g2⟩ := lp_ex (b := b_m_best_67 (nI h)) (I := fun x n => ∃ k, x.2 = nI k ∧ k ≤ 24576 ∧ n = 24576 - k ∧ BT (gI x.1 80) (HQ A w (rch A w) h Q k 0) ∧ FM σ x.1 ∧ gI x.1 79 = gI σ 79) (G := fun x => BT (gI x.1 80) (HQ A w (rch A w) h Q 24576 0) ∧ FM σ x.1) (fun x n hx => by
    obtain ⟨ρ, q⟩ := x
    obtain ⟨k, hq, k1, k2, i1, i2, i3⟩ := hx
    have hq : q = nI k := hq
    subst hq
    have i1 : BT (gI ρ 80) (HQ A w (rch A w) h Q k 0) := i1
    have i2 : FM σ ρ := i2
    have i3 : gI ρ 79 = gI σ 79 := i3
    by_cases d : k = 24576
    · subst d
      refine Or.inr ⟨(ρ, nI 24576), ?_, i1, i2⟩
      unfold b_m_best_67
      rw [if_pos (show (24576 : Int32) ≤ nI 24576 by decide)]
    · have hk : k < 24576 := by omega
      have hf := m_fast7 W hw (M7_FM i2 H)
      have hb : b_m_best_67 (nI h) (ρ, nI k) = if gI ρ 79 k = 0 then some (Sum.inl (ρ, nI (k + 1))) else (s_m_isFast ρ).bind fun q17 => if q17 = 0 then (s_m_goOn ρ (nI k) (nI h) (nI 1)).bind fun q19 => some (Sum.inl (q19, nI (k + 1))) else (s_m_goOn ρ (nI k) (nI h) (nI 2)).bind fun q21 => some (Sum.inl (q21, nI (k + 1))) := by
        unfold b_m_best_67
        rw [if_neg (by show ¬ nI 24576 ≤ nI k; rw [nI_leI (by omega) (by omega)]; omega)]
        show (if inB (nI k) 24576 = true then (if gI ρ 79 (Int32.toNatClampNeg (nI k)) = 0 then some (Sum.inl (ρ, nI k + 1)) else (s_m_isFast ρ).bind fun q17 => if q17 = 0 then (s_m_goOn ρ (nI k) (nI h) (nI 1)).bind fun q19 => some (Sum.inl (q19, nI k + 1)) else (s_m_goOn ρ (nI k) (nI h) (nI 2)).bind fun q21 => some (Sum.inl (q21, nI k + 1))) else none) = _
        rw [if_pos (inB_nI hk (by omega)), nI_clamp (by omega), nI_1]
      rcases H9 k hk with ⟨a, b⟩ | ⟨a, b⟩
      · have hr : rch A w < 3 := by
          unfold rch
          by_cases c : fs A w = true
          · rw [if_pos c]; omega
          · rw [if_neg c]; omega
        obtain ⟨τ, t1, t2, t3, t4⟩ := m_goOn (r := rch A w) W hw (M7_FM i2 H) hk (hQa k hk b) hh hr b i1
        refine Or.inl ⟨(τ, nI (k + 1)), 24576 - (k + 1), ?_, by omega, k + 1, rfl, by omega, rfl, t2, FM_trans i2 t3, t4.trans i3⟩
        rw [hb, i3, a, if_neg (show ¬ nI 1 = 0 by decide), hf, Option.bind_some]
        unfold rch at t1
        by_cases c : fs A w = true
        · rw [if_pos c] at t1 ⊢
          rw [if_neg (show ¬ (1 : Int32) = 0 by decide), t1]; rfl
        · rw [if_neg c] at t1 ⊢
          rw [if_pos (show (0 : Int32) = 0 from rfl), t1]; rfl
      · refine Or.inl ⟨(ρ, nI (k + 1)), 24576 - (k + 1), ?_, by omega, k + 1, rfl, by omega, rfl, ?_, i2, i3⟩
        · rw [hb, i3, a, if_pos (show nI 0 = 0 from rfl)]
        · refine BT_of (fun t _ => ⟨fun g => ?_, fun g => ?_⟩) i1
          · obtain ⟨x, y, e1, e2⟩ := g
            exact ⟨x, y, by omega, e2⟩
          · obtain ⟨x, y, e1, e2, e3, e4⟩ := g
            refine ⟨x, y, ?_, e2, e3, e4⟩
            by_cases f : x = k
            · subst f; exact absurd e3 b
            · left; omega) 100000 24576 (σ, 0) (by omega) ⟨0, rfl, by omega, by omega, BT_of (fun t _ => ⟨fun g => g.elim, fun g => by obtain ⟨x, y, e1, -⟩ := g; omega⟩) HB, FM_refl, rfl⟩
  exact ⟨z, hz, g1, g2⟩
theorem m_109 {σ : Sg} {v : Int32} {Q : Nat → Prop} (HB : BT (gI σ 80) Q) : ∃ o, lp (b_m_best_109 v) 100000 (σ, 0) = some o ∧ BT (gI o.1 79) Q ∧ BT (gI o.1 80) (fun _ => False) ∧ FM σ o.1 := by
  obtain ⟨z, hz, g1, g2, g3⟩ := lp_ex (b := b_m_best_109 v) (I := fun x n => ∃ k, x.2 = nI k ∧ k ≤ 24576 ∧ n = 24576 - k ∧ (∀ j, j < k → gI x.1 79 j = gI σ 80 j ∧ gI x.1 80 j = nI 0) ∧ (∀ j, k ≤ j → gI x.1 80 j = gI σ 80 j) ∧ FM σ x.1) (G := fun x => BT (gI x.1 79) Q ∧ BT (gI x.1 80) (fun _ => False) ∧ FM σ x.1) (fun x n hx => by
    obtain ⟨ρ, q⟩ := x
    obtain ⟨k, hq, k1, k2, i1, i2, i3⟩ := hx
    have hq : q = nI k := hq
    subst hq
    have i1 : ∀ j, j < k → gI ρ 79 j = gI σ 80 j ∧ gI ρ 80 j = nI 0 := i1
    have i2 : ∀ j, k ≤ j → gI ρ 80 j = gI σ 80 j := i2
    have i3 : FM σ ρ := i3
    by_cases d : k = 24576
    · subst d
      refine Or.inr ⟨(ρ, nI 24576), ?_, BT_eq (fun j hj => (i1 j hj).1) HB, fun j hj => Or.inr ⟨(i1 j hj).2, fun q => q⟩, i3⟩
      unfold b_m_best_109
      rw [if_pos (show (24576 : Int32) ≤ nI 24576 by decide)]
    · have hk : k < 24576 := by omega
      have h1 : gI σ 80 k &&& 1 = gI σ 80 k := by
        rcases HB k hk with ⟨a, -⟩ | ⟨a, -⟩
        · rw [a]; rfl
        · rw [a]; rfl
      refine Or.inl ⟨(pI (pI ρ 79 k (gI σ 80 k)) 80 k (nI 0), nI (k + 1)), 24576 - (k + 1), ?_, by omega, k + 1, rfl, by omega, rfl, fun j hj => ?_, fun j hj => ?_, fun c j q => ?_, i3.2⟩
      · unfold b_m_best_109
        rw [if_neg (by show ¬ nI 24576 ≤ nI k; rw [nI_leI (by omega) (by omega)]; omega)]
        show (if inB (nI k) 24576 = true then (if inB (nI k) 24576 = true then (if inB (nI k) 24576 = true then some (Sum.inl (pI (pI ρ 79 (Int32.toNatClampNeg (nI k)) (gI ρ 80 (Int32.toNatClampNeg (nI k)) &&& 1)) 80 (Int32.toNatClampNeg (nI k)) (nI 0), nI k + 1)) else none) else none) else none) = _
        rw [if_pos (inB_nI hk (by omega)), if_pos (inB_nI hk (by omega)), if_pos (inB_nI hk (by omega)), nI_clamp (by omega), nI_1, i2 k (by omega), h1]
      · show gI (pI (pI ρ 79 k (gI σ 80 k)) 80 k (nI 0)) 79 j = _ ∧ gI (pI (pI ρ 79 k (gI σ 80 k)) 80 k (nI 0)) 80 j = _
        by_cases e : j = k
        · subst e
          refine ⟨?_, gI_eq⟩
          rw [gI_ne (by omega), gI_eq]
        · rw [gI_ne (by omega), gI_ne (by omega), gI_ne (by omega), gI_ne (by omega)]
          exact i1 j (by omega)
      · show gI (pI (pI ρ 79 k (gI σ 80 k)) 80 k (nI 0)) 80 j = _
        rw [gI_ne (by omega), gI_ne (by omega)]; exact i2 j (by omega)
      · show gI (pI (pI ρ 79 k (gI σ 80 k)) 80 k (nI 0)) c j = _
        rw [gI_ne (by omega), gI_ne (by omega)]; exact i3.1 c j q) 100000 24576 (σ, 0) (by omega) ⟨0, rfl, by omega, by omega, fun j hj => by omega, fun _ _ => rfl, FM_refl⟩
  exact ⟨z, hz, g1, g2, g3⟩
theorem m_22 {σ : Sg} {A w : Nat → Nat} {r : Nat} : ∃ o, lp b_m_best_22 100000 (σ, 0) = some o ∧ BT (gI o.1 79) (MQb A w r 0) ∧ BT (gI o.1 80) (fun _ => False) ∧ FM σ o.1 := by
  obtain ⟨z, hz, g1, g2, g3⟩ := lp_ex (b := b_m_best_22) (I := fun x n => ∃ k, x.2 = nI k ∧ k ≤ 24576 ∧ n = 24576 - k ∧ (∀ j, j < k → gI x.1 79 j = (if j = 0 then nI 1 else nI 0) ∧ gI x.1 80 j = nI 0) ∧ FM σ x.1) (G := fun x => BT (gI x.1 79) (MQb A w r 0) ∧ BT (gI x.1 80) (fun _ => False) ∧ FM σ x.1) (fun x n hx => by
    obtain ⟨ρ, q⟩ := x
    obtain ⟨k, hq, k1, k2, i1, i3⟩ := hx
    have hq : q = nI k := hq
    subst hq
    have i1 : ∀ j, j < k → gI ρ 79 j = (if j = 0 then nI 1 else nI 0) ∧ gI ρ 80 j = nI 0 := i1
    have i3 : FM σ ρ := i3
    by_cases d : k = 24576
    · subst d
      refine Or.inr ⟨(ρ, nI 24576), ?_, fun j hj => ?_, fun j hj => Or.inr ⟨(i1 j hj).2, fun q => q⟩, i3⟩
      · unfold b_m_best_22
        rw [if_pos (show (24576 : Int32) ≤ nI 24576 by decide)]
      · have e := (i1 j hj).1
        by_cases c : j = 0
        · rw [if_pos c] at e
          subst c
          exact Or.inl ⟨e, 0, 0, rfl, rfl, rfl, rfl⟩
        · rw [if_neg c] at e
          refine Or.inr ⟨e, fun q => ?_⟩
          obtain ⟨b, v, x1, -, x3, -⟩ := q
          omega
    · have hk : k < 24576 := by omega
      refine Or.inl ⟨(pI (pI ρ 79 k (if k = 0 then nI 1 else nI 0)) 80 k (nI 0), nI (k + 1)), 24576 - (k + 1), ?_, by omega, k + 1, rfl, by omega, rfl, fun j hj => ?_, fun c j q => ?_, i3.2⟩
      · have hj : ∀ u : Int32, u &&& 1 = u → j_m_best_43i22 ρ (nI k) u (nI k) = some (Sum.inl (pI (pI ρ 79 k u) 80 k (nI 0), nI (k + 1))) := fun u hu => by
          unfold j_m_best_43i22
          show (if inB (nI k) 24576 = true then (if inB (nI k) 24576 = true then some (Sum.inl (pI (pI ρ 79 (Int32.toNatClampNeg (nI k)) (u &&& 1)) 80 (Int32.toNatClampNeg (nI k)) (nI 0), nI k + 1)) else none) else none) = _
          rw [if_pos (inB_nI hk (by omega)), if_pos (inB_nI hk (by omega)), nI_clamp (by omega), nI_1, hu]
        unfold b_m_best_22
        rw [if_neg (by show ¬ nI 24576 ≤ nI k; rw [nI_leI (by omega) (by omega)]; omega)]
        show (if nI k = nI 0 then j_m_best_43i22 ρ (nI k) 1 (nI k) else j_m_best_43i22 ρ (nI k) 0 (nI k)) = _
        rw [hj 1 rfl, hj 0 rfl]
        by_cases c : k = 0
        · rw [if_pos (by rw [c]), if_pos c]; rfl
        · rw [if_neg (by rw [nI_eq (by omega) (by omega)]; exact c), if_neg c]; rfl
      · show gI (pI (pI ρ 79 k (if k = 0 then nI 1 else nI 0)) 80 k (nI 0)) 79 j = _ ∧ gI (pI (pI ρ 79 k (if k = 0 then nI 1 else nI 0)) 80 k (nI 0)) 80 j = _
        by_cases e : j = k
        · subst e
          refine ⟨?_, gI_eq⟩
          rw [gI_ne (by omega), gI_eq]
        · rw [gI_ne (by omega), gI_ne (by omega), gI_ne (by omega), gI_ne (by omega)]
          exact i1 j (by omega)
      · show gI (pI (pI ρ 79 k (if k = 0 then nI 1 else nI 0)) 80 k (nI 0)) c j = _
        rw [gI_ne (by omega), gI_ne (by omega)]; exact i3.1 c j q) 100000 24576 (σ, 0) (by omega) ⟨0, rfl, by omega, by omega, fun j hj => by omega, FM_refl⟩
  exact ⟨z, hz, g1, g2, g3⟩
theorem HQ_MQ {A w : Nat → Nat} {r h : Nat} (h0 : 1 ≤ A 0) (h6 : A 0 ≤ 6) (hE : ∀ i, i < 3 → A (4 + 11 * w i) ≤ 4) (t : Nat) : HQ A w r h (MQb A w r h) 24576 0 t ↔ MQb A w r (h + 1) t := by
  constructor
  · intro g
    obtain ⟨k, s, e1, e2, ⟨b, v, hp⟩, e4⟩ := g
    have hs := (stc_dec (h := h) (a := mvr (A 0) r (k / 4096) s) (n := k % 4096) hE).1
    unfold nxq at e4
    have q1 : t / 4096 = mvr (A 0) r (k / 4096) s := by omega
    have q2 : t % 4096 = stc A w h (mvr (A 0) r (k / 4096) s) (k % 4096) := by omega
    refine ⟨_, _, k / 4096, b, k % 4096, v, s, hp, by omega, q1, rfl, ?_, rfl⟩
    rw [q2, q1]
  · intro g
    obtain ⟨b, v, a', b', n', v', s, hp, f2, f3, f4, f5, f6⟩ := g
    obtain ⟨p1, p2, p3, -, -⟩ := Pth_all h0 h6 hE h a' b' n' v' hp
    have q1 : (4096 * a' + n') / 4096 = a' := by omega
    have q2 : (4096 * a' + n') % 4096 = n' := by omega
    refine ⟨4096 * a' + n', s, Or.inl ⟨by omega, f2⟩, by omega, ⟨b', v', by rw [q1, q2]; exact hp⟩, ?_⟩
    unfold nxq
    rw [q1, q2, ← f3, ← f5]; omega
theorem m_59 {σ : Sg} {A w : Nat → Nat} (W : WT A) (hw : ∀ j, j < 3 → w j < A 1) (H : M7 σ A w) (H9 : BT (gI σ 79) (MQb A w (rch A w) 0)) (HB : BT (gI σ 80) (fun _ => False)) : ∃ o, lp b_m_best_59 100000 (σ, 0) = some o ∧ BT (gI o.1 79) (MQb A w (rch A w) 10) ∧ FM σ o.1 := by
  have hE : ∀ i, i < 3 → A (4 + 11 * w i) ≤ 4 := fun i hi => (W.2.2.2 _ (hw i hi)).2.2.2.1
  obtain ⟨z, hz, g1, g2⟩ := lp_ex (b := b_m_best_59) (I := fun x n => ∃ h, x.2 = nI h ∧ h ≤ 10 ∧ n = 10 - h ∧ BT (gI x.1 79) (MQb A w (rch A w) h) ∧ BT (gI x.1 80) (fun _ => False) ∧ FM σ x.1) (G := fun x => BT (gI x.1 79) (MQb A w (rch A w) 10) ∧ FM σ x.1) (fun x n hx => by
    obtain ⟨ρ, q⟩ := x
    obtain ⟨h, hq, k1, k2, i1, i2, i3⟩ := hx
    have hq : q = nI h := hq
    subst hq
    have i1 : BT (gI ρ 79) (MQb A w (rch A w) h) := i1
    have i2 : BT (gI ρ 80) (fun _ => False) := i2
    have i3 : FM σ ρ := i3
    by_cases d : h = 10
    · subst d
      refine Or.inr ⟨(ρ, nI 10), ?_, i1, i3⟩
      unfold b_m_best_59
      rw [if_pos (show (10 : Int32) ≤ nI 10 by decide)]
    · obtain ⟨o, o1, o2, o3⟩ := m_67 (h := h) W hw (M7_FM i3 H) (by omega) (fun k _ hk => by obtain ⟨b, v, hp⟩ := hk; exact (Pth_all W.1 W.2.1 hE _ _ _ _ _ hp).1) i1 i2
      obtain ⟨u, u1, u2, u3, u4⟩ := m_109 (v := nI h) o2
      refine Or.inl ⟨(u.1, nI (h + 1)), 10 - (h + 1), ?_, by omega, h + 1, rfl, by omega, rfl, BT_of (fun t _ => HQ_MQ W.1 W.2.1 hE t) u2, u3, FM_trans i3 (FM_trans o3 u4)⟩
      unfold b_m_best_59
      rw [if_neg (by show ¬ nI 10 ≤ nI h; rw [nI_leI (by omega) (by omega)]; omega)]
      show ((lp (b_m_best_67 (nI h)) 100000 (ρ, 0)).bind fun o23 => (lp (b_m_best_109 (nI h)) 100000 (o23.1, 0)).bind fun o31 => some (Sum.inl (o31.1, nI h + 1))) = _
      rw [o1, Option.bind_some, u1, Option.bind_some, nI_1]) 100000 10 (σ, 0) (by omega) ⟨0, rfl, by omega, by omega, H9, HB, FM_refl⟩
  exact ⟨z, hz, g1, g2⟩
