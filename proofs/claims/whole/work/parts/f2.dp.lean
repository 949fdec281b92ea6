def maxI (x y : Int32) : Int32 := if x < y then y else x
theorem x_max {x y : Int32} : s_Math_max x y = some (maxI x y) := by
  rw [s_Math_max]; unfold maxI
  by_cases c : x < y
  · rw [if_pos c, if_pos c]
  · rw [if_neg c, if_neg c]
/-- f holds the most of what G has of each state -/
def RPT (f : Nat → Int32) (G : Nat → Nat → Prop) : Prop := (∀ st v, G st v → v ≤ 50) ∧ ∀ st, st < 384 → (f st = -1 ∧ ∀ v, ¬ G st v) ∨ ∃ v, f st = nI v ∧ G st v ∧ ∀ v', G st v' → v' ≤ v
theorem RPT_of {f : Nat → Int32} {G G' : Nat → Nat → Prop} (h1 : ∀ st v, G st v → G' st v) (h2 : ∀ st v', G' st v' → ∃ v, G st v ∧ v' ≤ v) (H : RPT f G) : RPT f G' := by
  refine ⟨fun st v g => ?_, fun st hst => ?_⟩
  · obtain ⟨u, u1, u2⟩ := h2 st v g
    have := H.1 st u u1; omega
  · rcases H.2 st hst with ⟨a, b⟩ | ⟨v, a, b, c⟩
    · refine Or.inl ⟨a, fun v g => ?_⟩
      obtain ⟨u, u1, -⟩ := h2 st v g
      exact b u u1
    · refine Or.inr ⟨v, a, h1 st v b, fun v' g => ?_⟩
      obtain ⟨u, u1, u2⟩ := h2 st v' g
      have := c u u1; omega
theorem RPT_add {f g : Nat → Int32} {G : Nat → Nat → Prop} {th u : Nat} (hu : u ≤ 50) (hg : ∀ st, st < 384 → g st = if st = th then maxI (f th) (nI u) else f st) (H : RPT f G) : RPT g (fun st v => G st v ∨ st = th ∧ v = u) := by
  refine ⟨fun st v q => ?_, fun st hst => ?_⟩
  · rcases q with q | ⟨-, rfl⟩
    · exact H.1 st v q
    · exact hu
  · rw [hg st hst]
    by_cases c : st = th
    · subst c
      rw [if_pos rfl]
      right
      rcases H.2 st hst with ⟨a, b⟩ | ⟨v, a, b, c⟩
      · refine ⟨u, ?_, Or.inr ⟨rfl, rfl⟩, fun v' q => ?_⟩
        · rw [a]; unfold maxI; rw [if_pos]; rw [l32 (show (-1 : Int32).toInt = -1 from rfl) (nI_toInt (by omega))]; omega
        · rcases q with q | ⟨-, rfl⟩
          · exact absurd q (b v')
          · omega
      · have hv := H.1 st v b
        rw [a]
        unfold maxI
        by_cases d : v < u
        · rw [if_pos (by rw [nI_ltI (by omega) (by omega)]; exact d)]
          refine ⟨u, rfl, Or.inr ⟨rfl, rfl⟩, fun v' q => ?_⟩
          rcases q with q | ⟨-, rfl⟩
          · have := c v' q; omega
          · omega
        · rw [if_neg (by rw [nI_ltI (by omega) (by omega)]; exact d)]
          refine ⟨v, rfl, Or.inl b, fun v' q => ?_⟩
          rcases q with q | ⟨-, rfl⟩
          · exact c v' q
          · omega
    · rw [if_neg c]
      rcases H.2 st hst with ⟨a, b⟩ | ⟨v, a, b, d⟩
      · exact Or.inl ⟨a, fun v q => by
          rcases q with q | ⟨q, -⟩
          · exact b v q
          · exact c q⟩
      · exact Or.inr ⟨v, a, Or.inl b, fun v' q => by
          rcases q with q | ⟨q, -⟩
          · exact d v' q
          · exact absurd q c⟩
theorem st_ok : ∀ st, st < 384 → nI st &&& 63 = nI (st % 64) ∧ nI st >>> ((6 : Int32) &&& 31) = nI (st / 64) := by decide +kernel
theorem th_ok : ∀ a, a < 6 → ∀ b, b < 64 → (nI a <<< ((6 : Int32) &&& 31)) + (nI b ||| ((1 : Int32) <<< (nI a &&& 31))) = nI (64 * a + (b ||| 2 ^ a)) ∧ b ||| 2 ^ a < 64 := by decide +kernel
theorem mv_ok : ∀ P, P < 7 → ∀ a, a < P → ∀ r, r < 3 → ∀ s, s < 5 → s_Math_floorMod (nI a + (nI s - nI r)) (nI P) = some (nI (mvr P r a s)) ∧ mvr P r a s < P ∧ (((nI a + (nI s - nI r)) + 2 * nI P) - ((nI a + (nI s - nI r)) + 2 * nI P) / nI P * nI P) = nI (mvr P r a s) := by decide +kernel
theorem by_ok : ∀ r, r < 3 → ∀ s, s < 6 → (nI s - nI r) + 1 = nI (s + 1) - nI r ∧ (nI r < nI s - nI r ↔ 2 * r < s) ∧ -(nI r) = nI 0 - nI r := by decide +kernel
def gn (A w : Nat → Nat) (h st to : Nat) : Nat := if (st % 64).testBit to = true then 0 else wo A w to h
def thn (st to : Nat) : Nat := 64 * to + (st % 64 ||| 2 ^ to)
def FDR (σ : Sg) (cN cX : Nat) : Prop := gR σ 43 2 = cN ∧ gR σ 43 3 = cX ∧ (cN = 45 ∧ cX = 46 ∨ cN = 46 ∧ cX = 45)
theorem x_step16 {ρ : Sg} {A w : Nat → Nat} {cN cX st h r s v : Nat} (h0 : 1 ≤ A 0) (h6 : A 0 ≤ 6) (hR : FDR ρ cN cX) (h5 : gI ρ 19 5 = nI (A 0)) (hW : W44 ρ (fun j => wo A w (j / 10) (j % 10))) (hst : st < 384) (ha : st / 64 < A 0) (hh : h < 10) (hr : r < 3) (hs : s ≤ 2 * r) (hv : gI ρ cN st = nI v) : b_FreeDay_goOn_16 (nI st) (nI h) (nI r) (nI (st % 64)) (nI (st / 64)) (ρ, nI s - nI r) = some (.inl (pI ρ cX (thn st (mvr (A 0) r (st / 64) s)) (maxI (gI ρ cX (thn st (mvr (A 0) r (st / 64) s))) (nI (v + gn A w h st (mvr (A 0) r (st / 64) s)))), nI (s + 1) - nI r)) ∧ thn st (mvr (A 0) r (st / 64) s) < 384 ∧ mvr (A 0) r (st / 64) s < 6 := by
  obtain ⟨m1, m2, -⟩ := mv_ok (A 0) (by omega) (st / 64) ha r hr s (by omega)
  obtain ⟨y1, y2, -⟩ := by_ok r hr s (by omega)
  generalize mvr (A 0) r (st / 64) s = to at *
  obtain ⟨t1, t2⟩ := th_ok to (by omega) (st % 64) (by omega)
  have hth : thn st to < 384 := by unfold thn; omega
  refine ⟨?_, hth, by omega⟩
  have tb := tb_ok (st % 64) (by omega) to (by omega)
  have h44 := hW (10 * to + h) (by omega)
  have h44 : gI ρ 44 (10 * to + h) = nI (wo A w to h) := by
    rw [h44]; dsimp only; rw [show (10 * to + h) / 10 = to by omega, show (10 * to + h) % 10 = h by omega]
  have e10 : nI to * 10 + nI h = nI (10 * to + h) := by rw [show nI to * 10 = nI (to * 10) from (Int32.ofNat_mul to 10).symm, Nat.mul_comm, nI_add]
  obtain ⟨r1, r2, r3⟩ := hR
  have h68 : ∀ g : Nat, j_FreeDay_goOn_68i16 (nI st) (nI h) (nI r) (nI (st % 64)) (nI (st / 64)) ρ (nI s - nI r) (nI to) (nI g) (nI v) = some (.inl (pI ρ cX (thn st to) (maxI (gI ρ cX (thn st to)) (nI (v + g))), nI (s + 1) - nI r)) := fun g => by
    unfold j_FreeDay_goOn_68i16
    rw [lt_eq, lt_eq, t1, nI_add, r2]
    show (if cX = 45 then (if inB (nI (thn st to)) 384 = true then ((s_Math_max (gI ρ 45 (Int32.toNatClampNeg (nI (thn st to)))) (nI (v + g))).bind fun q15 => (if inB (nI (thn st to)) 384 = true then some (Sum.inl (pI ρ 45 (Int32.toNatClampNeg (nI (thn st to))) q15, (nI s - nI r) + 1)) else none)) else none) else (if cX = 46 then (if inB (nI (thn st to)) 384 = true then ((s_Math_max (gI ρ 46 (Int32.toNatClampNeg (nI (thn st to)))) (nI (v + g))).bind fun q21 => (if inB (nI (thn st to)) 384 = true then some (Sum.inl (pI ρ 46 (Int32.toNatClampNeg (nI (thn st to))) q21, (nI s - nI r) + 1)) else none)) else none) else none)) = _
    rw [if_pos (inB_nI hth (by omega)), if_pos (inB_nI hth (by omega)), nI_clamp (by omega), x_max, x_max, Option.bind_some, Option.bind_some, y1, inB_nI hth (by omega)]
    rcases r3 with ⟨-, rfl⟩ | ⟨-, rfl⟩
    · rw [if_neg (show ¬ 46 = 45 by omega), if_pos (show 46 = 46 from rfl)]; rfl
    · rw [if_pos (show 45 = 45 from rfl)]; rfl
  unfold b_FreeDay_goOn_16
  show (if nI r < nI s - nI r then _ else (s_Town_onRing ρ (nI (st / 64) + (nI s - nI r))).bind fun q5 => if gR ρ 43 2 = 45 then (if inB (nI st) 384 = true then ((s_x_isIn (nI (st % 64)) q5).bind fun q8 => if q8 = 0 then (if inB ((q5 * 10) + nI h) 60 = true then j_FreeDay_goOn_68i16 (nI st) (nI h) (nI r) (nI (st % 64)) (nI (st / 64)) ρ (nI s - nI r) q5 (gI ρ 44 (Int32.toNatClampNeg ((q5 * 10) + nI h))) (gI ρ 45 (Int32.toNatClampNeg (nI st))) else none) else j_FreeDay_goOn_68i16 (nI st) (nI h) (nI r) (nI (st % 64)) (nI (st / 64)) ρ (nI s - nI r) q5 (nI 0) (gI ρ 45 (Int32.toNatClampNeg (nI st)))) else none) else (if gR ρ 43 2 = 46 then (if inB (nI st) 384 = true then ((s_x_isIn (nI (st % 64)) q5).bind fun q27 => if q27 = 0 then (if inB ((q5 * 10) + nI h) 60 = true then j_FreeDay_goOn_68i16 (nI st) (nI h) (nI r) (nI (st % 64)) (nI (st / 64)) ρ (nI s - nI r) q5 (gI ρ 44 (Int32.toNatClampNeg ((q5 * 10) + nI h))) (gI ρ 46 (Int32.toNatClampNeg (nI st))) else none) else j_FreeDay_goOn_68i16 (nI st) (nI h) (nI r) (nI (st % 64)) (nI (st / 64)) ρ (nI s - nI r) q5 (nI 0) (gI ρ 46 (Int32.toNatClampNeg (nI st)))) else none) else none)) = _
  rw [if_neg (fun q => by have := y2.mp q; omega), x_onRing h5 h0 h6, m1, Option.bind_some, s_x_isIn, e10, if_pos (inB_nI hst (by omega)), if_pos (inB_nI hst (by omega)), if_pos (inB_nI (show 10 * to + h < 60 by omega) (by omega)), nI_clamp (show 10 * to + h < 2 ^ 31 by omega), h44, nI_clamp (show st < 2 ^ 31 by omega), r1]
  unfold gn
  rcases r3 with ⟨rfl, -⟩ | ⟨rfl, -⟩
  · rw [if_pos rfl, hv]
    by_cases c : (st % 64).testBit to = true
    · rw [if_pos (tb.mpr c), Option.bind_some, if_neg (show ¬ (1 : Int32) = 0 by decide), h68, if_pos c]
    · rw [if_neg (fun q => c (tb.mp q)), Option.bind_some, if_pos (show (0 : Int32) = 0 from rfl), h68, if_neg c]
  · rw [if_neg (by omega), if_pos rfl, hv]
    by_cases c : (st % 64).testBit to = true
    · rw [if_pos (tb.mpr c), Option.bind_some, if_neg (show ¬ (1 : Int32) = 0 by decide), h68, if_pos c]
    · rw [if_neg (fun q => c (tb.mp q)), Option.bind_some, if_pos (show (0 : Int32) = 0 from rfl), if_pos (inB_nI (show 10 * to + h < 60 by omega) (by omega)), h68, if_neg c]
/-- what one hour's walk from the states below k, and k's steps below s, comes to -/
def GG (A w : Nat → Nat) (T : Nat → Int32) (h r k s : Nat) (st v : Nat) : Prop := ∃ st' s' u, (st' < k ∧ s' ≤ 2 * r ∨ st' = k ∧ s' < s) ∧ st' < 384 ∧ T st' = nI u ∧ u ≤ 12 ∧ st = thn st' (mvr (A 0) r (st' / 64) s') ∧ v = u + gn A w h st' (mvr (A 0) r (st' / 64) s')
/-- one state goes on -/
theorem x_goOn {σ : Sg} {A w : Nat → Nat} {cN cX st h r v : Nat} {T : Nat → Int32} (h0 : 1 ≤ A 0) (h6 : A 0 ≤ 6) (hR : FDR σ cN cX) (h5 : gI σ 19 5 = nI (A 0)) (hW : W44 σ (fun j => wo A w (j / 10) (j % 10))) (hT : ∀ j, j < 384 → gI σ cN j = T j) (hst : st < 384) (ha : st / 64 < A 0) (hh : h < 10) (hr : r < 3) (hr1 : 1 ≤ r) (hv : T st = nI v) (hv12 : v ≤ 12) (hgn : ∀ to, gn A w h st to ≤ 12) (H : RPT (gI σ cX) (GG A w T h r st 0)) : ∃ τ, s_FreeDay_goOn σ (nI st) (nI h) (nI r) = some τ ∧ RPT (gI τ cX) (GG A w T h r (st + 1) 0) ∧ (∀ a j, ¬ a = cX → gI τ a j = gI σ a j) ∧ τ.2 = σ.2 := by
  have hc : ¬ cN = cX ∧ ¬ 19 = cX ∧ ¬ 44 = cX := by obtain ⟨-, -, q⟩ := hR; omega
  obtain ⟨o1, o2⟩ := st_ok st hst
  obtain ⟨-, -, b3⟩ := by_ok r hr 0 (by omega)
  rw [s_FreeDay_goOn, lt_eq, lt_eq, lt_eq, o1, o2, b3]
  obtain ⟨z, hz, g1, g2, g3⟩ := lp_ex (b := b_FreeDay_goOn_16 (nI st) (nI h) (nI r) (nI (st % 64)) (nI (st / 64))) (I := fun x n => ∃ s, x.2 = nI s - nI r ∧ s ≤ 2 * r + 1 ∧ n = 2 * r + 1 - s ∧ RPT (gI x.1 cX) (GG A w T h r st s) ∧ (∀ a j, ¬ a = cX → gI x.1 a j = gI σ a j) ∧ x.1.2 = σ.2) (G := fun x => RPT (gI x.1 cX) (GG A w T h r (st + 1) 0) ∧ (∀ a j, ¬ a = cX → gI x.1 a j = gI σ a j) ∧ x.1.2 = σ.2) (fun x n hx => by
    obtain ⟨ρ, q⟩ := x
    obtain ⟨s, hq, k1, k2, i1, i2, i3⟩ := hx
    have hq : q = nI s - nI r := hq
    subst hq
    have i2 : ∀ a j, ¬ a = cX → gI ρ a j = gI σ a j := i2
    have i3 : ρ.2 = σ.2 := i3
    obtain ⟨y1, y2, -⟩ := by_ok r hr s (by omega)
    by_cases d : s = 2 * r + 1
    · refine Or.inr ⟨(ρ, nI s - nI r), ?_, ?_, i2, i3⟩
      · unfold b_FreeDay_goOn_16
        show (if nI r < nI s - nI r then some (Sum.inr (ρ, nI s - nI r)) else _) = _
        rw [if_pos (y2.mpr (by omega))]
      · refine RPT_of (fun st' v' g => ?_) (fun st' v' g => ⟨v', ?_, Nat.le_refl _⟩) i1
        · obtain ⟨a, b, c, e1, e2⟩ := g
          exact ⟨a, b, c, by omega, e2⟩
        · obtain ⟨a, b, c, e1, e2⟩ := g
          refine ⟨a, b, c, ?_, e2⟩
          by_cases f : a = st
          · right; omega
          · left; omega
    · have hRρ : FDR ρ cN cX := by
        have : gR ρ = gR σ := by show ρ.2.2 = σ.2.2; rw [i3]
        unfold FDR; rw [this]; exact hR
      obtain ⟨e1, e2, e3⟩ := x_step16 (s := s) (v := v) h0 h6 hRρ ((i2 _ _ hc.2.1).trans h5) (fun j hj => (i2 _ _ hc.2.2).trans (hW j hj)) hst ha hh hr (by omega) ((i2 _ _ hc.1).trans ((hT st hst).trans hv))
      have hg := hgn (mvr (A 0) r (st / 64) s)
      refine Or.inl ⟨_, 2 * r + 1 - (s + 1), e1, by omega, s + 1, rfl, by omega, rfl, ?_, fun a j q => (gI_ne (by omega)).trans (i2 a j q), i3⟩
      have hadd := RPT_add (th := thn st (mvr (A 0) r (st / 64) s)) (u := v + gn A w h st (mvr (A 0) r (st / 64) s)) (g := gI (pI ρ cX (thn st (mvr (A 0) r (st / 64) s)) (maxI (gI ρ cX (thn st (mvr (A 0) r (st / 64) s))) (nI (v + gn A w h st (mvr (A 0) r (st / 64) s))))) cX) (by omega) (fun j hj => by
        by_cases f : j = thn st (mvr (A 0) r (st / 64) s)
        · rw [if_pos f, f, gI_eq]
        · rw [if_neg f, gI_ne (by omega)]) i1
      refine RPT_of (fun st' v' g => ?_) (fun st' v' g => ⟨v', ?_, Nat.le_refl _⟩) hadd
      · rcases g with ⟨a, b, c, f1, f2⟩ | ⟨rfl, rfl⟩
        · exact ⟨a, b, c, by omega, f2⟩
        · exact ⟨st, s, v, by omega, hst, hv, hv12, rfl, rfl⟩
      · obtain ⟨a, b, c, f1, f2, f3, f4, f5, f6⟩ := g
        by_cases f : a = st ∧ b = s
        · obtain ⟨rfl, rfl⟩ := f
          have : c = v := by rw [hv] at f3; exact ((nI_eq (by omega) (by omega)).mp f3).symm
          subst this
          exact Or.inr ⟨f5, f6⟩
        · exact Or.inl ⟨a, b, c, by omega, f2, f3, f4, f5, f6⟩) 100000 (2 * r + 1) (σ, nI 0 - nI r) (by omega) ⟨0, rfl, by omega, by omega, H, fun _ _ _ => rfl, rfl⟩
  rw [hz, Option.bind_some]
  exact ⟨_, rfl, g1, g2, g3⟩
