/-- M is the most of what G has, or 0 -/
def ISM (G : Nat → Nat → Prop) (M : Nat) : Prop := M ≤ 50 ∧ (∀ st v, st < 384 → G st v → v ≤ M) ∧ (M = 0 ∨ ∃ st, G st M)
theorem x_mx {σ : Sg} {b : Sg → Int32 → Int32 × Int32 → Option ((Int32 × Int32) ⊕ (Int32 × Int32))} {cN : Nat} {G : Nat → Nat → Prop} (hb : ∀ (acc : Int32) (k : Nat), k < 384 → b σ 384 (acc, nI k) = some (.inl (maxI acc (gI σ cN k), nI (k + 1)))) (he : ∀ acc, b σ 384 (acc, nI 384) = some (.inr (acc, nI 384))) (H : RPT (gI σ cN) G) : ∃ M w, lp (b σ 384) 100000 (0, 0) = some (nI M, w) ∧ ISM G M := by
  obtain ⟨z, hz, M, g1, g2, g3, g4⟩ := lp_ex (b := b σ 384) (I := fun x n => ∃ k M, x = (nI M, nI k) ∧ k ≤ 384 ∧ n = 384 - k ∧ M ≤ 50 ∧ (∀ st v, st < k → G st v → v ≤ M) ∧ (M = 0 ∨ ∃ st, G st M)) (G := fun x => ∃ M, x.1 = nI M ∧ M ≤ 50 ∧ (∀ st v, st < 384 → G st v → v ≤ M) ∧ (M = 0 ∨ ∃ st, G st M)) (fun x n hx => by
    obtain ⟨k, M, rfl, k1, k2, i1, i2, i3⟩ := hx
    by_cases d : k = 384
    · subst d
      exact Or.inr ⟨_, he _, M, rfl, i1, i2, i3⟩
    · rcases H.2 k (by omega) with ⟨a, c⟩ | ⟨v, a, c, e⟩
      · refine Or.inl ⟨_, 384 - (k + 1), hb _ k (by omega), by omega, k + 1, M, ?_, by omega, rfl, i1, fun st v h1 h2 => ?_, i3⟩
        · rw [a]; unfold maxI; rw [if_neg (by rw [l32 (nI_toInt (by omega)) (show (-1 : Int32).toInt = -1 from rfl)]; omega)]
        · by_cases f : st = k
          · subst f; exact absurd h2 (c v)
          · exact i2 st v (by omega) h2
      · have hv := H.1 k v c
        by_cases f : M < v
        · refine Or.inl ⟨_, 384 - (k + 1), hb _ k (by omega), by omega, k + 1, v, ?_, by omega, rfl, hv, fun st u h1 h2 => ?_, Or.inr ⟨k, c⟩⟩
          · rw [a]; unfold maxI; rw [if_pos (by rw [nI_ltI (by omega) (by omega)]; exact f)]
          · by_cases g : st = k
            · subst g; exact e u h2
            · have := i2 st u (by omega) h2; omega
        · refine Or.inl ⟨_, 384 - (k + 1), hb _ k (by omega), by omega, k + 1, M, ?_, by omega, rfl, i1, fun st u h1 h2 => ?_, i3⟩
          · rw [a]; unfold maxI; rw [if_neg (by rw [nI_ltI (by omega) (by omega)]; exact f)]
          · by_cases g : st = k
            · subst g; have := e u h2; omega
            · exact i2 st u (by omega) h2) 100000 384 (0, 0) (by omega) ⟨0, 0, rfl, by omega, by omega, by omega, fun st v h => by omega, Or.inl rfl⟩
  exact ⟨M, z.2, by rw [hz, ← g1], g2, g3, g4⟩
theorem x_hours {σ : Sg} {A w : Nat → Nat} {cN cX r : Nat} (h0 : 1 ≤ A 0) (h6 : A 0 ≤ 6) (hE : ∀ i, i < 3 → A (4 + 11 * w i) ≤ 4) (hR : FDR σ cN cX) (h5 : gI σ 19 5 = nI (A 0)) (hW : W44 σ (fun j => wo A w (j / 10) (j % 10))) (hTP : RPT (gI σ cN) (PG A w r 0)) (hr : r < 3) (hr1 : 1 ≤ r) : ∃ o, lp (b_FreeDay_mostDone_39 (nI r)) 100000 (σ, 0) = some o ∧ (∃ dN dX, FDR o.1 dN dX ∧ RPT (gI o.1 dN) (PG A w r 10)) ∧ FB σ o.1 := by
  refine lp_ex (b := b_FreeDay_mostDone_39 (nI r)) (I := fun x n => ∃ k, x.2 = nI k ∧ k ≤ 10 ∧ n = 10 - k ∧ (∃ dN dX, FDR x.1 dN dX ∧ RPT (gI x.1 dN) (PG A w r k)) ∧ FB σ x.1) (G := fun o => (∃ dN dX, FDR o.1 dN dX ∧ RPT (gI o.1 dN) (PG A w r 10)) ∧ FB σ o.1) (fun x n hx => ?_) 100000 10 (σ, 0) (by omega) ⟨0, rfl, by omega, by omega, ⟨cN, cX, hR, hTP⟩, fun _ _ _ => rfl, rfl, fun _ _ _ => rfl⟩
  obtain ⟨ρ, q⟩ := x
  obtain ⟨k, hq, k1, k2, ⟨dN, dX, i1, i2⟩, i3⟩ := hx
  have hq : q = nI k := hq
  subst hq
  have i3 : FB σ ρ := i3
  by_cases d : k = 10
  · subst d
    refine Or.inr ⟨(ρ, nI 10), ?_, ⟨dN, dX, i1, i2⟩, i3⟩
    unfold b_FreeDay_mostDone_39
    rw [if_pos (show (10 : Int32) ≤ nI 10 by decide)]
  · obtain ⟨τ, t1, t2, t3, t4⟩ := x_hourB (h := k) h0 h6 hE i1 ((i3.1 _ _ (by omega)).trans h5) (fun j hj => (i3.1 _ _ (by omega)).trans (hW j hj)) i2 (by omega) hr hr1
    refine Or.inl ⟨(τ, nI (k + 1)), 10 - (k + 1), ?_, by omega, k + 1, rfl, by omega, rfl, ⟨dX, dN, t2, t3⟩, FB_trans i3 t4⟩
    unfold b_FreeDay_mostDone_39
    rw [if_neg (by show ¬ nI 10 ≤ nI k; rw [nI_leI (by omega) (by omega)]; omega)]
    show ((s_FreeDay_passHour ρ (nI k) (nI r)).bind fun q9 => some (Sum.inl (q9, nI k + 1))) = _
    rw [t1, Option.bind_some, nI_1]
theorem PG0 {A w : Nat → Nat} {r : Nat} {f : Nat → Int32} (hf0 : f 0 = 0) (hf : ∀ j, j < 384 → ¬ j = 0 → f j = -1) : RPT f (PG A w r 0) := by
  refine ⟨fun st v ⟨n, h⟩ => ?_, fun st hst => ?_⟩
  · obtain ⟨-, -, -, h⟩ := h; omega
  · by_cases c : st = 0
    · subst c
      exact Or.inr ⟨0, hf0, ⟨0, rfl, rfl, rfl, rfl⟩, fun v' ⟨n, h⟩ => by obtain ⟨-, -, -, h⟩ := h; omega⟩
    · exact Or.inl ⟨hf st hst c, fun v ⟨n, h⟩ => by obtain ⟨h1, h2, -, -⟩ := h; omega⟩
theorem x_j21 {σ : Sg} {A w : Nat → Nat} {cN cX r : Nat} (h0 : 1 ≤ A 0) (h6 : A 0 ≤ 6) (hE : ∀ i, i < 3 → A (4 + 11 * w i) ≤ 4) (hR : FDR σ cN cX) (h5 : gI σ 19 5 = nI (A 0)) (hW : W44 σ (fun j => wo A w (j / 10) (j % 10))) (hr : r < 3) (hr1 : 1 ≤ r) : ∃ τ M, j_FreeDay_mostDone_21 σ (nI r) = some (nI M, τ) ∧ ISM (PG A w r 10) M ∧ (∃ dN dX, FDR τ dN dX) ∧ FB σ τ := by
  obtain ⟨r1, r2, r3⟩ := id hR
  have hend : ∀ ρ, FDR ρ cN cX → (∀ j, j < 384 → gI ρ cN j = -1) → FB σ ρ → ∃ o, lp (b_FreeDay_mostDone_39 (nI r)) 100000 (pI ρ cN 0 0, 0) = some o ∧ ∃ M, ISM (PG A w r 10) M ∧ (∃ dN dX, FDR o.1 dN dX) ∧ FB σ o.1 ∧ ((gR o.1 43 2 = 45 ∧ ∃ w, lp (b_FreeDay_mostDone_73 o.1 384) 100000 (0, 0) = some (nI M, w)) ∨ (gR o.1 43 2 = 46 ∧ ∃ w, lp (b_FreeDay_mostDone_73r1 o.1 384) 100000 (0, 0) = some (nI M, w))) := fun ρ p1 p2 p3 => by
    have hFB : FB σ (pI ρ cN 0 0) := ⟨fun a j q => (gI_ne (by omega)).trans (p3.1 a j q), p3.2.1, p3.2.2⟩
    obtain ⟨o, o1, ⟨dN, dX, o2, o3⟩, o4⟩ := x_hours (σ := pI ρ cN 0 0) h0 h6 hE (show FDR (pI ρ cN 0 0) cN cX from p1) ((hFB.1 _ _ (by omega)).trans h5) (fun j hj => (hFB.1 _ _ (by omega)).trans (hW j hj)) (PG0 gI_eq (fun j hj h => by rw [gI_ne (by omega)]; exact p2 j hj)) hr hr1
    obtain ⟨s1, s2, s3⟩ := id o2
    refine ⟨o, o1, ?_⟩
    rcases s3 with ⟨rfl, -⟩ | ⟨rfl, -⟩
    · obtain ⟨M, w', m1, m2⟩ := x_mx (σ := o.1) (b := b_FreeDay_mostDone_73) (cN := 45) (fun acc k hk => by
        unfold b_FreeDay_mostDone_73
        rw [if_neg (by show ¬ nI 384 ≤ nI k; rw [nI_leI (by omega) (by omega)]; omega)]
        show (if inB (nI k) 384 = true then ((s_Math_max acc (gI o.1 45 (Int32.toNatClampNeg (nI k)))).bind fun q16 => some (Sum.inl (q16, nI k + 1))) else none) = _
        rw [if_pos (inB_nI hk (by omega)), nI_clamp (by omega), x_max, Option.bind_some, nI_1]) (fun acc => by
        unfold b_FreeDay_mostDone_73
        rw [if_pos (show (384 : Int32) ≤ nI 384 by decide)]) o3
      exact ⟨M, m2, ⟨45, dX, o2⟩, FB_trans hFB o4, Or.inl ⟨s1, w', m1⟩⟩
    · obtain ⟨M, w', m1, m2⟩ := x_mx (σ := o.1) (b := b_FreeDay_mostDone_73r1) (cN := 46) (fun acc k hk => by
        unfold b_FreeDay_mostDone_73r1
        rw [if_neg (by show ¬ nI 384 ≤ nI k; rw [nI_leI (by omega) (by omega)]; omega)]
        show (if inB (nI k) 384 = true then ((s_Math_max acc (gI o.1 46 (Int32.toNatClampNeg (nI k)))).bind fun q16 => some (Sum.inl (q16, nI k + 1))) else none) = _
        rw [if_pos (inB_nI hk (by omega)), nI_clamp (by omega), x_max, Option.bind_some, nI_1]) (fun acc => by
        unfold b_FreeDay_mostDone_73r1
        rw [if_pos (show (384 : Int32) ≤ nI 384 by decide)]) o3
      exact ⟨M, m2, ⟨46, dX, o2⟩, FB_trans hFB o4, Or.inr ⟨s1, w', m1⟩⟩
  unfold j_FreeDay_mostDone_21
  rw [r1]
  rcases r3 with ⟨rfl, rfl⟩ | ⟨rfl, rfl⟩
  · obtain ⟨ρ, p1, p2, p3, p4⟩ := x_fill45 (σ := σ)
    have pR : gR ρ = gR σ := by show ρ.2.2 = σ.2.2; rw [p4]
    have pL' : gL ρ = gL σ := by show ρ.2.1 = σ.2.1; rw [p4]
    have hRρ : FDR ρ 45 46 := by unfold FDR; rw [pR]; exact hR
    obtain ⟨o, o1, M, o2, o3, o4, o5⟩ := hend ρ hRρ p2 ⟨fun a j q => p3 a j (by omega), pL', fun a j q => by rw [pR]⟩
    rw [if_pos (show 45 = 45 from rfl), p1, Option.bind_some, hRρ.1, if_pos (show 45 = 45 from rfl), lt_eq]
    show ∃ τ M, ((lp (b_FreeDay_mostDone_39 (nI r)) 100000 (pI ρ 45 0 0, 0)).bind _) = some (nI M, τ) ∧ _
    rw [o1, Option.bind_some]
    refine ⟨o.1, M, ?_, o2, o3, o4⟩
    rcases o5 with ⟨s1, w', m1⟩ | ⟨s1, w', m1⟩
    · rw [s1, if_pos (show 45 = 45 from rfl), m1, Option.bind_some]
    · rw [s1, if_neg (show ¬ 46 = 45 by omega), if_pos (show 46 = 46 from rfl), m1, Option.bind_some]
  · obtain ⟨ρ, p1, p2, p3, p4⟩ := x_fill46 (σ := σ)
    have pR : gR ρ = gR σ := by show ρ.2.2 = σ.2.2; rw [p4]
    have pL' : gL ρ = gL σ := by show ρ.2.1 = σ.2.1; rw [p4]
    have hRρ : FDR ρ 46 45 := by unfold FDR; rw [pR]; exact hR
    obtain ⟨o, o1, M, o2, o3, o4, o5⟩ := hend ρ hRρ p2 ⟨fun a j q => p3 a j (by omega), pL', fun a j q => by rw [pR]⟩
    rw [if_neg (show ¬ 46 = 45 by omega), if_pos (show 46 = 46 from rfl), p1, Option.bind_some, hRρ.1, if_neg (show ¬ 46 = 45 by omega), if_pos (show 46 = 46 from rfl), lt_eq]
    show ∃ τ M, ((lp (b_FreeDay_mostDone_39 (nI r)) 100000 (pI ρ 46 0 0, 0)).bind _) = some (nI M, τ) ∧ _
    rw [o1, Option.bind_some]
    refine ⟨o.1, M, ?_, o2, o3, o4⟩
    rcases o5 with ⟨s1, w', m1⟩ | ⟨s1, w', m1⟩
    · rw [s1, if_pos (show 45 = 45 from rfl), m1, Option.bind_some]
    · rw [s1, if_neg (show ¬ 46 = 45 by omega), if_pos (show 46 = 46 from rfl), m1, Option.bind_some]
def rch (A w : Nat → Nat) : Nat := if fs A w = true then 2 else 1
theorem x_mostDone {σ : Sg} {A : Nat → Nat} {m cN cX : Nat} (hX : XT σ 19 A) (W : WT A) (hm : m < 2 ^ A 1) (h5 : m < 512) (h3 : bN m = 3) (hR : FDR σ cN cX) : ∃ τ M, s_FreeDay_mostDone σ (nI m) = some (nI M, τ) ∧ ISM (PG A (wm m) (rch A (wm m)) 10) M ∧ (∃ dN dX, FDR τ dN dX) ∧ (∀ a j, ¬ (44 ≤ a ∧ a ≤ 46) → gI τ a j = gI σ a j) ∧ gL τ = gL σ ∧ ∀ a j, ¬ (a = 43 ∧ (j = 2 ∨ j = 3)) → gR τ a j = gR σ a j := by
  have n9 := W.2.2.1
  obtain ⟨ρ, p1, p2, p3⟩ := x_weigh hX W hm h5 h3
  have hXρ : XT ρ 19 A := XT_cong (fun c a b j => p3.1 c j (by omega)) (fun _ _ => rfl) W hX
  have hE : ∀ i, i < 3 → A (4 + 11 * wm m i) ≤ 4 := fun i hi => (W.2.2.2 _ (wm_lt n9 hm h5 h3 hi)).2.2.2.1
  have pR : gR ρ = gR σ := by show ρ.2.2 = σ.2.2; rw [p3.2]
  have pL' : gL ρ = gL σ := by show ρ.2.1 = σ.2.1; rw [p3.2]
  have hRρ : FDR ρ cN cX := by unfold FDR; rw [pR]; exact hR
  have hr : rch A (wm m) < 3 ∧ 1 ≤ rch A (wm m) := by
    unfold rch
    by_cases c : fs A (wm m) = true
    · rw [if_pos c]; omega
    · rw [if_neg c]; omega
  obtain ⟨τ, M, t1, t2, t3, t4⟩ := x_j21 W.1 W.2.1 hE hRρ hXρ.1 p2 hr.1 hr.2
  refine ⟨τ, M, ?_, t2, t3, fun a j q => (t4.1 a j (by omega)).trans (p3.1 a j (by omega)), t4.2.1.trans pL', fun a j q => by rw [t4.2.2 a j q, pR]⟩
  rw [s_FreeDay_mostDone, p1, Option.bind_some, x_quick hXρ W hm h5 h3, Option.bind_some, ← t1]
  unfold rch
  by_cases c : fs A (wm m) = true
  · rw [if_pos c, if_neg (show ¬ (1 : Int32) = 0 by decide), if_pos c]; rfl
  · rw [if_neg c, if_pos (show (0 : Int32) = 0 from rfl), if_neg c]; rfl
