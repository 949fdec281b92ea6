def PG (A w : Nat → Nat) (r h st v : Nat) : Prop := ∃ n, Pth A w r h (st / 64) (st % 64) n v
theorem pcn_le {n : Nat} : pcn n ≤ 12 := by
  have h : ∀ d, pc4 d ≤ 1 * 4 := fun d => sm_le 4 (fun i _ => by
    unfold b1
    by_cases c : d.testBit i = true
    · rw [if_pos c]; omega
    · rw [if_neg c]; omega)
  have a := h (dec n 0)
  have b := h (dec n 1)
  have c := h (dec n 2)
  unfold pcn; omega
theorem ce_le {A : Nat → Nat} {p a h : Nat} : ce A p a h ≤ A (4 + 11 * p) := by
  have := sm_le (f := fun e => b1 (decide (h ≤ A (6 + 11 * p + 2 * e)) && decide (A (5 + 11 * p + 2 * e) = a))) (b := 1) (A (4 + 11 * p)) (fun i _ => by
    unfold b1
    by_cases c : (decide (h ≤ A (6 + 11 * p + 2 * i)) && decide (A (5 + 11 * p + 2 * i) = a)) = true
    · rw [if_pos c]; omega
    · rw [if_neg c]; omega)
  unfold ce; omega
theorem gn_le {A w : Nat → Nat} {h st to : Nat} (hE : ∀ i, i < 3 → A (4 + 11 * w i) ≤ 4) : gn A w h st to ≤ 12 := by
  unfold gn
  by_cases c : (st % 64).testBit to = true
  · rw [if_pos c]; omega
  · rw [if_neg c]
    have a := ce_le (A := A) (p := w 0) (a := to) (h := h)
    have b := ce_le (A := A) (p := w 1) (a := to) (h := h)
    have c := ce_le (A := A) (p := w 2) (a := to) (h := h)
    have e0 := hE 0 (by omega)
    have e1 := hE 1 (by omega)
    have e2 := hE 2 (by omega)
    unfold wo; omega
/-- an hour's walk from the most of each state is the most of each state an hour later -/
theorem GG_PG {A w : Nat → Nat} {r h : Nat} {T f : Nat → Int32} (h0 : 1 ≤ A 0) (h6 : A 0 ≤ 6) (hE : ∀ i, i < 3 → A (4 + 11 * w i) ≤ 4) (hT : RPT T (PG A w r h)) (H : RPT f (GG A w T h r 384 0)) : RPT f (PG A w r (h + 1)) := by
  refine RPT_of (fun st v g => ?_) (fun st v' g => ?_) H
  · obtain ⟨st', s', u, g1, g2, g3, g4, g5, g6⟩ := g
    rcases hT.2 st' g2 with ⟨a, -⟩ | ⟨v0, a, ⟨n, hn⟩, -⟩
    · rw [a] at g3; exact absurd g3.symm (nI_nm (by omega))
    · have hall := Pth_all h0 h6 hE _ _ _ _ _ hn
      have hv12 : v0 ≤ 12 := by rw [hall.2.2.2.1]; exact pcn_le
      have : u = v0 := by rw [a] at g3; exact ((nI_eq (by omega) (by omega)).mp g3).symm
      subst this
      have hm : mvr (A 0) r (st' / 64) s' < A 0 := Nat.mod_lt _ (by omega)
      have hb := (th_ok (mvr (A 0) r (st' / 64) s') (by omega) (st' % 64) (by omega)).2
      have e1 : st / 64 = mvr (A 0) r (st' / 64) s' := by rw [g5]; unfold thn; omega
      have e2 : st % 64 = st' % 64 ||| 2 ^ mvr (A 0) r (st' / 64) s' := by rw [g5]; unfold thn; omega
      refine ⟨stc A w h (st / 64) n, st' / 64, st' % 64, n, u, s', hn, by omega, e1, by rw [e2, e1], rfl, ?_⟩
      rw [g6, INV_cnt hall.2.2.2.2, e1]; rfl
  · obtain ⟨n, a', b', n', v'', s, p1, p2, p3, p4, p5, p6⟩ := g
    obtain ⟨q1, q2, q3, q4, q5⟩ := Pth_all h0 h6 hE _ _ _ _ _ p1
    have hst : 64 * a' + b' < 384 := by omega
    have d1 : (64 * a' + b') / 64 = a' := by omega
    have d2 : (64 * a' + b') % 64 = b' := by omega
    have hPG : PG A w r h (64 * a' + b') v'' := ⟨n', by rw [d1, d2]; exact p1⟩
    rcases hT.2 (64 * a' + b') hst with ⟨-, b⟩ | ⟨v0, a, ⟨n0, hn0⟩, c⟩
    · exact absurd hPG (b v'')
    · have hv12 : v0 ≤ 12 := by rw [(Pth_all h0 h6 hE _ _ _ _ _ hn0).2.2.2.1]; exact pcn_le
      have hle := c v'' hPG
      refine ⟨v0 + gn A w h (64 * a' + b') (mvr (A 0) r ((64 * a' + b') / 64) s), ⟨64 * a' + b', s, v0, by omega, hst, a, hv12, ?_, rfl⟩, ?_⟩
      · unfold thn; rw [d1, d2, ← p3]; omega
      · rw [p6, INV_cnt q5]
        unfold gn
        rw [d1, d2, ← p3]; omega
theorem x_fill45 {σ : Sg} : ∃ τ, s_Arrays_fill_45 σ (-1) = some τ ∧ (∀ j, j < 384 → gI τ 45 j = -1) ∧ (∀ a j, ¬ a = 45 → gI τ a j = gI σ a j) ∧ τ.2 = σ.2 := by
  rw [s_Arrays_fill_45]
  obtain ⟨z, hz, g1, g2, g3⟩ := lp_ex (b := b_Arrays_fill_45_5 (-1) 384) (I := fun x n => ∃ k, x.2 = nI k ∧ k ≤ 384 ∧ n = 384 - k ∧ (∀ j, j < k → gI x.1 45 j = -1) ∧ (∀ a j, ¬ a = 45 → gI x.1 a j = gI σ a j) ∧ x.1.2 = σ.2) (G := fun x => (∀ j, j < 384 → gI x.1 45 j = -1) ∧ (∀ a j, ¬ a = 45 → gI x.1 a j = gI σ a j) ∧ x.1.2 = σ.2) (fun x n hx => by
    obtain ⟨τ, p⟩ := x
    obtain ⟨k, hp, k1, k2, i1, i2, i3⟩ := hx
    have hp : p = nI k := hp
    subst hp
    have i1 : ∀ j, j < k → gI τ 45 j = -1 := i1
    have i2 : ∀ a j, ¬ a = 45 → gI τ a j = gI σ a j := i2
    by_cases d : k = 384
    · subst d
      refine Or.inr ⟨(τ, nI 384), ?_, i1, i2, i3⟩
      unfold b_Arrays_fill_45_5
      rw [if_pos (show (384 : Int32) ≤ nI 384 by decide)]
    · refine Or.inl ⟨(pI τ 45 k (-1), nI (k + 1)), 384 - (k + 1), ?_, by omega, k + 1, rfl, by omega, rfl, fun j hj => ?_, fun c j h => (gI_ne (by omega)).trans (i2 c j h), i3⟩
      · unfold b_Arrays_fill_45_5
        rw [if_neg (by show ¬ nI 384 ≤ nI k; rw [nI_leI (by omega) (by omega)]; omega)]
        show (if inB (nI k) 384 = true then some (Sum.inl (pI τ 45 (Int32.toNatClampNeg (nI k)) (-1), nI k + 1)) else none) = _
        rw [if_pos (inB_nI (by omega) (by omega)), nI_clamp (by omega), nI_1]
      · show gI (pI τ 45 k (-1)) 45 j = -1
        by_cases e : j = k
        · subst e; rw [gI_eq]
        · rw [gI_ne (by omega), i1 j (by omega)]) 100000 384 (σ, 0) (by omega) ⟨0, rfl, by omega, by omega, fun j hj => by omega, fun _ _ _ => rfl, rfl⟩
  rw [hz, Option.bind_some]
  exact ⟨_, rfl, g1, g2, g3⟩
theorem x_fill46 {σ : Sg} : ∃ τ, s_Arrays_fill_46 σ (-1) = some τ ∧ (∀ j, j < 384 → gI τ 46 j = -1) ∧ (∀ a j, ¬ a = 46 → gI τ a j = gI σ a j) ∧ τ.2 = σ.2 := by
  rw [s_Arrays_fill_46]
  obtain ⟨z, hz, g1, g2, g3⟩ := lp_ex (b := b_Arrays_fill_46_5 (-1) 384) (I := fun x n => ∃ k, x.2 = nI k ∧ k ≤ 384 ∧ n = 384 - k ∧ (∀ j, j < k → gI x.1 46 j = -1) ∧ (∀ a j, ¬ a = 46 → gI x.1 a j = gI σ a j) ∧ x.1.2 = σ.2) (G := fun x => (∀ j, j < 384 → gI x.1 46 j = -1) ∧ (∀ a j, ¬ a = 46 → gI x.1 a j = gI σ a j) ∧ x.1.2 = σ.2) (fun x n hx => by
    obtain ⟨τ, p⟩ := x
    obtain ⟨k, hp, k1, k2, i1, i2, i3⟩ := hx
    have hp : p = nI k := hp
    subst hp
    have i1 : ∀ j, j < k → gI τ 46 j = -1 := i1
    have i2 : ∀ a j, ¬ a = 46 → gI τ a j = gI σ a j := i2
    by_cases d : k = 384
    · subst d
      refine Or.inr ⟨(τ, nI 384), ?_, i1, i2, i3⟩
      unfold b_Arrays_fill_46_5
      rw [if_pos (show (384 : Int32) ≤ nI 384 by decide)]
    · refine Or.inl ⟨(pI τ 46 k (-1), nI (k + 1)), 384 - (k + 1), ?_, by omega, k + 1, rfl, by omega, rfl, fun j hj => ?_, fun c j h => (gI_ne (by omega)).trans (i2 c j h), i3⟩
      · unfold b_Arrays_fill_46_5
        rw [if_neg (by show ¬ nI 384 ≤ nI k; rw [nI_leI (by omega) (by omega)]; omega)]
        show (if inB (nI k) 384 = true then some (Sum.inl (pI τ 46 (Int32.toNatClampNeg (nI k)) (-1), nI k + 1)) else none) = _
        rw [if_pos (inB_nI (by omega) (by omega)), nI_clamp (by omega), nI_1]
      · show gI (pI τ 46 k (-1)) 46 j = -1
        by_cases e : j = k
        · subst e; rw [gI_eq]
        · rw [gI_ne (by omega), i1 j (by omega)]) 100000 384 (σ, 0) (by omega) ⟨0, rfl, by omega, by omega, fun j hj => by omega, fun _ _ _ => rfl, rfl⟩
  rw [hz, Option.bind_some]
  exact ⟨_, rfl, g1, g2, g3⟩
/-- all states go on for an hour -/
theorem x_states {σ : Sg} {A w : Nat → Nat} {cN cX h r : Nat} {T : Nat → Int32} (h0 : 1 ≤ A 0) (h6 : A 0 ≤ 6) (hE : ∀ i, i < 3 → A (4 + 11 * w i) ≤ 4) (hR : FDR σ cN cX) (h5 : gI σ 19 5 = nI (A 0)) (hW : W44 σ (fun j => wo A w (j / 10) (j % 10))) (hT : ∀ j, j < 384 → gI σ cN j = T j) (hTP : RPT T (PG A w r h)) (hh : h < 10) (hr : r < 3) (hr1 : 1 ≤ r) (hX : ∀ j, j < 384 → gI σ cX j = -1) : ∃ o, lp (b_FreeDay_passHour_10 (nI h) (nI r)) 100000 (σ, 0) = some o ∧ RPT (gI o.1 cX) (PG A w r (h + 1)) ∧ (∀ a j, ¬ a = cX → gI o.1 a j = gI σ a j) ∧ o.1.2 = σ.2 := by
  have hc : ¬ cN = cX ∧ ¬ 19 = cX ∧ ¬ 44 = cX := by obtain ⟨-, -, q⟩ := hR; omega
  obtain ⟨z, hz, g1, g2, g3⟩ := lp_ex (b := b_FreeDay_passHour_10 (nI h) (nI r)) (I := fun x n => ∃ k, x.2 = nI k ∧ k ≤ 384 ∧ n = 384 - k ∧ RPT (gI x.1 cX) (GG A w T h r k 0) ∧ (∀ a j, ¬ a = cX → gI x.1 a j = gI σ a j) ∧ x.1.2 = σ.2) (G := fun x => RPT (gI x.1 cX) (GG A w T h r 384 0) ∧ (∀ a j, ¬ a = cX → gI x.1 a j = gI σ a j) ∧ x.1.2 = σ.2) (fun x n hx => by
    obtain ⟨ρ, q⟩ := x
    obtain ⟨k, hq, k1, k2, i1, i2, i3⟩ := hx
    have hq : q = nI k := hq
    subst hq
    have i2 : ∀ a j, ¬ a = cX → gI ρ a j = gI σ a j := i2
    have i3 : ρ.2 = σ.2 := i3
    by_cases d : k = 384
    · subst d
      refine Or.inr ⟨(ρ, nI 384), ?_, i1, i2, i3⟩
      unfold b_FreeDay_passHour_10
      rw [if_pos (show (384 : Int32) ≤ nI 384 by decide)]
    have hRρ : FDR ρ cN cX := by
      have : gR ρ = gR σ := by show ρ.2.2 = σ.2.2; rw [i3]
      unfold FDR; rw [this]; exact hR
    have hNk : gI ρ cN k = T k := (i2 _ _ hc.1).trans (hT k (by omega))
    have hb : b_FreeDay_passHour_10 (nI h) (nI r) (ρ, nI k) = if T k = -1 then some (.inl (ρ, nI (k + 1))) else (s_FreeDay_goOn ρ (nI k) (nI h) (nI r)).bind fun q8 => some (.inl (q8, nI (k + 1))) := by
      obtain ⟨r1, r2, r3⟩ := hRρ
      unfold b_FreeDay_passHour_10
      show (if nI 384 ≤ nI k then _ else (if gR ρ 43 2 = 45 then (if inB (nI k) 384 = true then (if gI ρ 45 (Int32.toNatClampNeg (nI k)) = -1 then some (Sum.inl (ρ, nI k + 1)) else (s_FreeDay_goOn ρ (nI k) (nI h) (nI r)).bind fun q8 => some (Sum.inl (q8, nI k + 1))) else none) else (if gR ρ 43 2 = 46 then (if inB (nI k) 384 = true then (if gI ρ 46 (Int32.toNatClampNeg (nI k)) = -1 then some (Sum.inl (ρ, nI k + 1)) else (s_FreeDay_goOn ρ (nI k) (nI h) (nI r)).bind fun q14 => some (Sum.inl (q14, nI k + 1))) else none) else none))) = _
      rw [if_neg (by rw [nI_leI (by omega) (by omega)]; omega), r1, nI_1, nI_clamp (by omega)]
      rcases r3 with ⟨rfl, -⟩ | ⟨rfl, -⟩
      · rw [if_pos (show 45 = 45 from rfl), if_pos (inB_nI (by omega) (by omega)), hNk]
      · rw [if_neg (show ¬ 46 = 45 by omega), if_pos (show 46 = 46 from rfl), if_pos (inB_nI (by omega) (by omega)), hNk]
    left
    rcases hTP.2 k (by omega) with ⟨a, b⟩ | ⟨v, a, ⟨nn, hn⟩, c⟩
    · rw [if_pos a] at hb
      refine ⟨_, 384 - (k + 1), hb, by omega, k + 1, rfl, by omega, rfl, ?_, i2, i3⟩
      refine RPT_of (fun st' v' g => ?_) (fun st' v' g => ⟨v', ?_, Nat.le_refl _⟩) i1
      · obtain ⟨x, y, z, e1, e2⟩ := g
        exact ⟨x, y, z, by omega, e2⟩
      · obtain ⟨x, y, z, e1, e2, e3, e4, e5⟩ := g
        have : ¬ x = k := fun q => by subst q; rw [a] at e3; exact absurd e3.symm (nI_nm (by omega))
        exact ⟨x, y, z, by omega, e2, e3, e4, e5⟩
    · have hall := Pth_all h0 h6 hE _ _ _ _ _ hn
      have hv12 : v ≤ 12 := by rw [hall.2.2.2.1]; exact pcn_le
      rw [if_neg (by rw [a]; exact nI_nm (by omega))] at hb
      obtain ⟨τ, t1, t2, t3, t4⟩ := x_goOn (T := T) h0 h6 hRρ ((i2 _ _ hc.2.1).trans h5) (fun j hj => (i2 _ _ hc.2.2).trans (hW j hj)) (fun j hj => (i2 _ _ hc.1).trans (hT j hj)) (show k < 384 by omega) hall.1 hh hr hr1 a hv12 (fun to => gn_le hE) i1
      rw [t1, Option.bind_some] at hb
      exact ⟨_, 384 - (k + 1), hb, by omega, k + 1, rfl, by omega, rfl, t2, fun a j q => (t3 a j q).trans (i2 a j q), t4.trans i3⟩) 100000 384 (σ, 0) (by omega) ⟨0, rfl, by omega, by omega, ⟨fun st v g => by
      obtain ⟨x, y, z, e1, -⟩ := g
      omega, fun st hst => Or.inl ⟨hX st hst, fun v g => by
      obtain ⟨x, y, z, e1, -⟩ := g
      omega⟩⟩, fun _ _ _ => rfl, rfl⟩
  exact ⟨z, hz, GG_PG h0 h6 hE hTP g1, g2, g3⟩
def FB (σ τ : Sg) : Prop := (∀ a j, ¬ (a = 45 ∨ a = 46) → gI τ a j = gI σ a j) ∧ gL τ = gL σ ∧ ∀ a j, ¬ (a = 43 ∧ (j = 2 ∨ j = 3)) → gR τ a j = gR σ a j
theorem FB_trans {σ τ κ : Sg} (h : FB σ τ) (k : FB τ κ) : FB σ κ := ⟨fun a j q => (k.1 a j q).trans (h.1 a j q), k.2.1.trans h.2.1, fun a j q => (k.2.2 a j q).trans (h.2.2 a j q)⟩
theorem FDR_swap {σ : Sg} {cN cX : Nat} (h : cN = 45 ∧ cX = 46 ∨ cN = 46 ∧ cX = 45) : FDR (pR (pR σ 43 2 cX) 43 3 cN) cX cN := by
  refine ⟨?_, ?_, by omega⟩
  · rw [gR_pR, if_neg (by omega), gR_pR, if_pos ⟨rfl, rfl⟩]
  · rw [gR_pR, if_pos ⟨rfl, rfl⟩]
theorem x_hourB {σ : Sg} {A w : Nat → Nat} {cN cX h r : Nat} (h0 : 1 ≤ A 0) (h6 : A 0 ≤ 6) (hE : ∀ i, i < 3 → A (4 + 11 * w i) ≤ 4) (hR : FDR σ cN cX) (h5 : gI σ 19 5 = nI (A 0)) (hW : W44 σ (fun j => wo A w (j / 10) (j % 10))) (hTP : RPT (gI σ cN) (PG A w r h)) (hh : h < 10) (hr : r < 3) (hr1 : 1 ≤ r) : ∃ τ, s_FreeDay_passHour σ (nI h) (nI r) = some τ ∧ FDR τ cX cN ∧ RPT (gI τ cX) (PG A w r (h + 1)) ∧ FB σ τ := by
  obtain ⟨r1, r2, r3⟩ := id hR
  have main : ∀ ρ, (∀ j, j < 384 → gI ρ cX j = -1) → (∀ a j, ¬ a = cX → gI ρ a j = gI σ a j) → ρ.2 = σ.2 → ∃ o, lp (b_FreeDay_passHour_10 (nI h) (nI r)) 100000 (ρ, 0) = some o ∧ gR o.1 43 2 = cN ∧ gR o.1 43 3 = cX ∧ RPT (gI (pR (pR o.1 43 2 cX) 43 3 cN) cX) (PG A w r (h + 1)) ∧ FB σ (pR (pR o.1 43 2 cX) 43 3 cN) := fun ρ p1 p2 p3 => by
    have hRρ : FDR ρ cN cX := by
      have : gR ρ = gR σ := by show ρ.2.2 = σ.2.2; rw [p3]
      unfold FDR; rw [this]; exact hR
    obtain ⟨o, o1, o2, o3, o4⟩ := x_states (σ := ρ) (T := gI σ cN) h0 h6 hE hRρ ((p2 _ _ (by omega)).trans h5) (fun j hj => (p2 _ _ (by omega)).trans (hW j hj)) (fun j _ => p2 _ _ (by omega)) hTP hh hr hr1 p1
    have oR : gR o.1 = gR σ := by show o.1.2.2 = σ.2.2; rw [o4, p3]
    have oL : gL o.1 = gL σ := by show o.1.2.1 = σ.2.1; rw [o4, p3]
    refine ⟨o, o1, by rw [oR]; exact r1, by rw [oR]; exact r2, o2, fun a j q => ?_, oL, fun a j q => ?_⟩
    · show gI o.1 a j = _
      rw [o3 a j (by omega), p2 a j (by omega)]
    · rw [gR_pR, if_neg (by omega), gR_pR, if_neg (by omega), oR]
  rw [s_FreeDay_passHour, r2]
  rcases r3 with ⟨rfl, rfl⟩ | ⟨rfl, rfl⟩
  · obtain ⟨ρ, p1, p2, p3, p4⟩ := x_fill46 (σ := σ)
    obtain ⟨o, o1, o2, o3, o4, o5⟩ := main ρ p2 p3 p4
    rw [if_neg (show ¬ 46 = 45 by omega), if_pos (show 46 = 46 from rfl), p1, Option.bind_some, o1, Option.bind_some, o2, if_pos (show 45 = 45 from rfl), o3, if_neg (show ¬ 46 = 45 by omega), if_pos (show 46 = 46 from rfl)]
    exact ⟨_, rfl, FDR_swap (Or.inl ⟨rfl, rfl⟩), o4, o5⟩
  · obtain ⟨ρ, p1, p2, p3, p4⟩ := x_fill45 (σ := σ)
    obtain ⟨o, o1, o2, o3, o4, o5⟩ := main ρ p2 p3 p4
    rw [if_pos (show 45 = 45 from rfl), p1, Option.bind_some, o1, Option.bind_some, o2, if_neg (show ¬ 46 = 45 by omega), if_pos (show 46 = 46 from rfl), o3, if_pos (show 45 = 45 from rfl)]
    exact ⟨_, rfl, FDR_swap (Or.inr ⟨rfl, rfl⟩), o4, o5⟩
