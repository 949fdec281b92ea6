theorem nI_all (x : Int32) : ∃ k, x = nI k := ⟨x.toBitVec.toNat, by
  apply Int32.toBitVec_inj.mp
  show x.toBitVec = BitVec.ofNat 32 x.toBitVec.toNat
  rw [BitVec.ofNat_toNat]; exact (BitVec.setWidth_eq _).symm⟩
theorem B0_WT {B : Nat → Nat} (h0 : B 0 = 4) (h1 : B 1 = 0) : WT B ∧ ¬ bz B = true := ⟨⟨by omega, by omega, by omega, fun p hp => by omega⟩, fun h => bz_iff.mp h (by rw [h1]; rfl)⟩
/-- the class's reading behind its start -/
theorem x_readTown {σ : Sg} {c : Nat → Nat} {n : Nat} {B : Nat → Nat} (hB0 : B 0 = 4) (hB1 : B 1 = 0) (hn : n ≤ 250) (ht : ∀ j, j < n → gI σ 3 j = nI (c j) ∧ c j < 256) : ∃ τ r, s_TownReader_readTown σ (nI n) = some (r, τ) ∧ (match prs c n (n + 1) (nxt (nb c) n 0) B 0 with
    | .inl f => r = (-10) - nI f ∧ f ≤ n
    | .inr (k, B') => r = nI k ∧ k ≤ n ∧ XT τ 6 B' ∧ WT B') ∧ (∀ a j, ¬ (a = 4 ∨ 6 ≤ a ∧ a ≤ 11) → gI τ a j = gI σ a j) ∧ gL τ = gL σ ∧ (∀ a j, ¬ (a = 4 ∧ j = 1) → gR τ a j = gR σ a j) ∧ gR τ 4 1 = 3 := by
  obtain ⟨σ0, hσ⟩ : ∃ σ0, σ0 = pI (pI (pI (pI (pI (pR σ 4 1 3) 4 2 (nI n)) 4 3 0) 4 4 (-1)) 6 5 4) 6 6 0 := ⟨_, rfl⟩
  have r0 : gR σ0 4 1 = 3 := by rw [hσ]; show gR (pR σ 4 1 3) 4 1 = 3; rw [gR_pR, if_pos ⟨rfl, rfl⟩]
  have r1 : ∀ a j, ¬ (a = 4 ∧ j = 1) → gR σ0 a j = gR σ a j := fun a j h => by rw [hσ]; show gR (pR σ 4 1 3) a j = _; rw [gR_pR, if_neg h]
  have z0 : ∀ a j, ¬ (a = 4 ∨ a = 6) → gI σ0 a j = gI σ a j := fun a j h => by rw [hσ, gI_ne (by omega), gI_ne (by omega), gI_ne (by omega), gI_ne (by omega), gI_ne (by omega)]; rfl
  have L0 : gL σ0 = gL σ := by rw [hσ]; rfl
  have e2 : gI σ0 4 2 = nI n := by rw [hσ, gI_ne (by omega), gI_ne (by omega), gI_ne (by omega), gI_ne (by omega), gI_eq]
  have e3 : gI σ0 4 3 = nI 0 := by rw [hσ, gI_ne (by omega), gI_ne (by omega), gI_ne (by omega), gI_eq]; rfl
  have e4 : gI σ0 4 4 = -1 := by rw [hσ, gI_ne (by omega), gI_ne (by omega), gI_eq]
  have e5 : gI σ0 6 5 = nI 4 := by rw [hσ, gI_ne (by omega), gI_eq]; rfl
  have e6 : gI σ0 6 6 = nI 0 := by rw [hσ, gI_eq]; rfl
  have hC : CT σ0 c n 0 := ⟨r0, e2, e3, hn, fun j hj => by rw [z0 _ _ (by omega)]; exact ht j hj⟩
  obtain ⟨n1, n2, -⟩ := nxt_le (P := nb c) (n := n) (p := 0) (by omega)
  have HG : XG' (pI σ0 4 3 (nI (nxt (nb c) n 0))) (pI σ0 4 3 (nI (nxt (nb c) n 0))) c n (nxt (nb c) n 0) B := ⟨CT_at hC, by rw [gI_ne (by omega)]; exact e4, ⟨by rw [gI_ne (by omega), hB0]; exact e5, by rw [gI_ne (by omega), hB1]; exact e6, fun p hp => by omega⟩, fun _ _ _ => rfl, rfl⟩
  obtain ⟨o, o1, o2, o3, o4⟩ := x_prs (n + 1) (nxt (nb c) n 0) 0 100000 B _ (by omega) n2 (by omega) (B0_WT hB0 hB1).1 (by omega) HG
  have o4L : gL o.1 = gL σ0 := by show o.1.2.1 = σ0.2.1; rw [o4]; rfl
  have o4R : gR o.1 = gR σ0 := by show o.1.2.2 = σ0.2.2; rw [o4]; rfl
  have hmin : s_Math_min (nI n) 250 = some (nI n) := by
    rw [s_Math_min]
    by_cases g : (250 : Int32) < nI n
    · have := (nI_ltI (a := 250) (by omega) (by omega)).mp g; omega
    · rw [if_neg g]
  have hrun : s_TownReader_readTown σ (nI n) = j_TownReader_readTown_79 o.1 o.2 := by
    rw [s_TownReader_readTown, lt_eq, hmin, Option.bind_some, lt_eq, lt_eq, lt_eq]
    show ((s_TownReader_skipBlanks (pI (pI (pI (pI (pI (pR σ 4 1 3) 4 2 (nI n)) 4 3 0) 4 4 (-1)) 6 5 4) 6 6 0)).bind fun q7 => (lp b_TownReader_readTown_39 100000 (q7, nI 0)).bind fun o14 => j_TownReader_readTown_79 o14.1 o14.2) = _
    rw [← hσ, x_skipB (by omega) hC, Option.bind_some, o1, Option.bind_some]
  rw [hrun]
  unfold j_TownReader_readTown_79
  have hz : ∀ a j, ¬ (a = 4 ∨ 6 ≤ a ∧ a ≤ 11) → gI o.1 a j = gI σ a j := fun a j h => by rw [o3 a j h, gI_ne (by omega), z0 a j (by omega)]
  cases hp : prs c n (n + 1) (nxt (nb c) n 0) B 0 with
  | inl f =>
    rw [hp] at o2
    obtain ⟨p1, p2⟩ := o2
    rw [p1, if_neg (nI_nm (by omega))]
    exact ⟨o.1, _, rfl, ⟨rfl, p2⟩, hz, o4L.trans L0, fun a j h => by rw [o4R]; exact r1 a j h, by rw [o4R]; exact r0⟩
  | inr kB =>
    obtain ⟨k, B'⟩ := kB
    rw [hp] at o2
    obtain ⟨p1, p2, p3, p4, p5⟩ := o2
    rw [p3, if_pos rfl]
    exact ⟨o.1, _, rfl, ⟨p1, p2, p4, p5⟩, hz, o4L.trans L0, fun a j h => by rw [o4R]; exact r1 a j h, by rw [o4R]; exact r0⟩
/-- the reference's reading -/
theorem m_readTown {σ : Sg} {c : Nat → Nat} {n : Nat} {B : Nat → Nat} (hB0 : B 0 = 4) (hB1 : B 1 = 0) (hBs : ∀ j, j < 101 → 2 ≤ j → gI σ 89 j = nI (B j)) (hn : n ≤ 250) (h21 : gI σ 71 21 = nI n) (ht : ∀ j, j < n → gI σ 88 j = nI (c j) ∧ c j < 256) : ∃ o, s_m_read σ = oElim o (fun y13 => (lp (b_m_read_73 y13.2) 100000 (y13.1, 0)).bind fun o20 => some (y13.2, pI (pI o20.1 72 108 0) 72 127 0)) (fun q14 => some q14) ∧ MR σ o (prs c n (n + 1) (nxt (nb c) n 0) B 0) := by
  obtain ⟨σ0, hσ⟩ : ∃ σ0, σ0 = pI (pI (pI (pI σ 89 0 4) 89 1 0) 71 27 0) 71 28 0 := ⟨_, rfl⟩
  have z0 : ∀ a j, ¬ (a = 89 ∧ j < 2 ∨ a = 71 ∧ 22 ≤ j ∧ j ≤ 28) → gI σ0 a j = gI σ a j := fun a j h => by rw [hσ, gI_ne (by omega), gI_ne (by omega), gI_ne (by omega), gI_ne (by omega)]
  have H0 : MT σ0 c n := ⟨(z0 _ _ (by omega)).trans h21, hn, fun j hj => by rw [z0 _ _ (by omega)]; exact ht j hj⟩
  obtain ⟨ρ, p1, p2, p3⟩ := m_look (p := 0) (by omega) H0
  have hF : FR σ ρ := ⟨fun a j h => (p3.1 a j (by omega)).trans (z0 a j (by omega)), p3.2.trans (by rw [hσ]; rfl)⟩
  have hN : MN ρ B := fun j hj => by
    rw [p3.1 _ _ (by omega)]
    by_cases a : j = 0
    · subst a; rw [hσ, gI_ne (by omega), gI_ne (by omega), gI_ne (by omega), gI_eq, hB0]; rfl
    · by_cases b : j = 1
      · subst b; rw [hσ, gI_ne (by omega), gI_ne (by omega), gI_eq, hB1]; rfl
      · rw [z0 _ _ (by omega)]; exact hBs j hj (by omega)
  have h27 : gI ρ 71 27 = 0 := by rw [p3.1 _ _ (by omega), hσ, gI_ne (by omega), gI_eq]
  obtain ⟨o, o1, o2⟩ := m_prs (σ0 := σ) (n + 1) (nxt (nb c) n 0) 0 100000 B ρ (by omega) (B0_WT hB0 hB1).1 (by omega) (MT_FU (FT_FU p3) H0) p2 hN ⟨fun _ => (B0_WT hB0 hB1).2, fun _ => h27⟩ hF
  refine ⟨o, ?_, o2⟩
  rw [s_m_read, lt_eq, lt_eq, lt_eq, lt_eq]
  show ((s_m_look (pI (pI (pI (pI σ 89 0 4) 89 1 0) 71 27 0) 71 28 0) (nI 0)).bind fun q5 => (lp b_m_read_31 100000 (q5, nI 0)).bind _) = _
  rw [← hσ, p1, Option.bind_some, o1, Option.bind_some]
  rfl
theorem m_copy101 {σ : Sg} {v1 : Int32} : lp (b_m_read_73 v1) 100000 (σ, 0) = some (cpI σ 89 0 72 0 101, nI 101) := by
  have := lp_run (b := b_m_read_73 v1) (fun k => (cpI σ 89 0 72 0 k, nI k)) (z := (cpI σ 89 0 72 0 101, nI 101)) 101 100000 (by omega) (fun k hk => by
    unfold b_m_read_73
    rw [if_neg (by show ¬ nI 101 ≤ nI k; rw [nI_leI (by omega) (by omega)]; omega)]
    show (if inB (nI k) 101 = true then (if inB (nI k) 143 = true then some (Sum.inl (pI (cpI σ 89 0 72 0 k) 72 (Int32.toNatClampNeg (nI k)) (gI (cpI σ 89 0 72 0 k) 89 (Int32.toNatClampNeg (nI k))), nI k + 1)) else none) else none) = _
    rw [if_pos (inB_nI (by omega) (by omega)), if_pos (inB_nI (by omega) (by omega)), nI_clamp (by omega)]
    have := cpI_s (σ := σ) (k0 := 89) (sp := 0) (k := 72) (dp := 0) (n := k) (by omega)
    rw [Nat.zero_add] at this
    rw [this, nI_1]) (by
    unfold b_m_read_73
    rw [if_pos (show (101 : Int32) ≤ nI 101 by decide)])
  rw [cpI_0] at this; exact this
/-- the town read becomes the class's town -/
def bec6 (σ : Sg) : Sg := pI (pI (cpI (cpI (cpI (cpI (cpI (pI (pI σ 19 5 (gI σ 6 5)) 19 6 (gI σ 6 6)) 7 0 20 0 9) 8 0 21 0 9) 9 0 22 0 9) 10 0 23 0 36) 11 0 24 0 36) 25 6 0) 25 7 0
theorem bec6_ne {σ : Sg} {a j : Nat} (h : ¬ (19 ≤ a ∧ a ≤ 24 ∨ a = 25 ∧ (j = 6 ∨ j = 7))) : gI (bec6 σ) a j = gI σ a j := by
  unfold bec6
  rw [gI_ne (by omega), gI_ne (by omega), gI_cne (by omega), gI_cne (by omega), gI_cne (by omega), gI_cne (by omega), gI_cne (by omega), gI_ne (by omega), gI_ne (by omega)]
theorem bec6_XT {σ : Sg} {B : Nat → Nat} (W : WT B) (H : XT σ 6 B) : XT (bec6 σ) 19 B := by
  have n9 := W.2.2.1
  obtain ⟨x1, x2, x3⟩ := H
  refine ⟨?_, ?_, fun p hp => ?_⟩
  · unfold bec6
    rw [gI_ne (by omega), gI_ne (by omega), gI_cne (by omega), gI_cne (by omega), gI_cne (by omega), gI_cne (by omega), gI_cne (by omega), gI_ne (by omega), gI_eq]; exact x1
  · unfold bec6
    rw [gI_ne (by omega), gI_ne (by omega), gI_cne (by omega), gI_cne (by omega), gI_cne (by omega), gI_cne (by omega), gI_cne (by omega), gI_eq]; exact x2
  · obtain ⟨k1, k2, k3, k4⟩ := x3 p hp
    have hE := (W.2.2.2 p hp).2.2.2.1
    refine ⟨?_, ?_, ?_, fun e he => ⟨?_, ?_⟩⟩
    · show gI (bec6 σ) 20 p = _
      unfold bec6
      rw [gI_ne (by omega), gI_ne (by omega), gI_cne (by omega), gI_cne (by omega), gI_cne (by omega), gI_cne (by omega), gI_ceq (by omega), gI_ne (by omega), gI_ne (by omega)]; exact k1
    · show gI (bec6 σ) 21 p = _
      unfold bec6
      rw [gI_ne (by omega), gI_ne (by omega), gI_cne (by omega), gI_cne (by omega), gI_cne (by omega), gI_ceq (by omega), gI_cne (by omega), gI_ne (by omega), gI_ne (by omega)]; exact k2
    · show gI (bec6 σ) 22 p = _
      unfold bec6
      rw [gI_ne (by omega), gI_ne (by omega), gI_cne (by omega), gI_cne (by omega), gI_ceq (by omega), gI_cne (by omega), gI_cne (by omega), gI_ne (by omega), gI_ne (by omega)]; exact k3
    · show gI (bec6 σ) 23 (4 * p + e) = _
      unfold bec6
      rw [gI_ne (by omega), gI_ne (by omega), gI_cne (by omega), gI_ceq (by omega), gI_cne (by omega), gI_cne (by omega), gI_cne (by omega), gI_ne (by omega), gI_ne (by omega)]; exact (k4 e he).1
    · show gI (bec6 σ) 24 (4 * p + e) = _
      unfold bec6
      rw [gI_ne (by omega), gI_ne (by omega), gI_ceq (by omega), gI_cne (by omega), gI_cne (by omega), gI_cne (by omega), gI_cne (by omega), gI_ne (by omega), gI_ne (by omega)]; exact (k4 e he).2
theorem bec6_run {σ : Sg} : ((s_Town_become_19_6 σ).bind fun q3 => s_Scene_forgetWeeksAndSights q3) = some (bec6 σ) := rfl
theorem oEl {α β γ : Type} {a : α} {f : α → γ} {g : β → γ} : oElim (.inl a) f g = f a := rfl
theorem oEr {α β γ : Type} {b : β} {f : α → γ} {g : β → γ} : oElim (.inr b) f g = g b := rfl
/-- a reading that ends in a fault binds nothing -/
theorem R_rd {σ τ : Sg} (hR : R σ) (hz : ∀ a j, ¬ (a = 4 ∨ 6 ≤ a ∧ a ≤ 11 ∨ a = 89 ∨ a = 71 ∧ 22 ≤ j ∧ j ≤ 28) → gI τ a j = gI σ a j) (hL : gL τ = gL σ) (h43 : gR τ 43 = gR σ 43) (h41 : gR τ 4 1 = 3) : R τ := by
  obtain ⟨⟨A, hA⟩, hI, hT, hF, hC, k1, k2, k3, k4, k5⟩ := hR
  exact ⟨⟨A, RA_cong (fun c hc j => hz c j (by omega)) hA⟩, RI_cong (fun c hc j => hz c j (by omega)) hI, RT_cong (hz _ _ (by omega)) (hz _ _ (by omega)) (fun j => hz _ _ (by omega)) (fun j => hz _ _ (by omega)) hT, RF_cong (hz _ _ (by omega)) (hz _ _ (by omega)) (by rw [hL]) (by rw [hL]) hF, RC_cong (fun j _ => hz _ _ (by omega)) (fun j => hz _ _ (by omega)) hC, ⟨(funext fun j => hz 13 j (by omega)).trans k1, by rw [hL]; exact k2, by rw [h43]; exact k3, Or.inr h41, (hz _ _ (by omega)).trans k5⟩⟩
theorem al_read {σ : Sg} (hR : R σ) : Alike R σ (fun τ => s_x_read τ) (fun τ => s_m_read τ) := by
  obtain ⟨n, n250, h9, h21, htx⟩ := hR.2.2.1
  obtain ⟨c, hc⟩ : ∃ c : Nat → Nat, ∀ j, j < n → gI σ 3 j = nI (c j) ∧ gI σ 88 j = nI (c j) ∧ c j < 256 := ⟨fun j => (gI σ 3 j).toNatClampNeg, fun j hj => by
    obtain ⟨k, k1, k2, k3⟩ := htx j hj
    have : (gI σ 3 j).toNatClampNeg = k := by rw [k2]; exact nI_clamp (by omega)
    show gI σ 3 j = nI (gI σ 3 j).toNatClampNeg ∧ gI σ 88 j = nI (gI σ 3 j).toNatClampNeg ∧ (gI σ 3 j).toNatClampNeg < 256
    rw [this]; exact ⟨k2, k3, k1⟩⟩
  obtain ⟨B, hB⟩ : ∃ B : Nat → Nat, B 0 = 4 ∧ B 1 = 0 ∧ ∀ j, 2 ≤ j → gI σ 89 j = nI (B j) := ⟨fun j => if j = 0 then 4 else if j = 1 then 0 else (nI_all (gI σ 89 j)).choose, rfl, rfl, fun j hj => by
    show _ = nI (if j = 0 then 4 else if j = 1 then 0 else (nI_all (gI σ 89 j)).choose)
    rw [if_neg (by omega), if_neg (by omega)]; exact (nI_all (gI σ 89 j)).choose_spec⟩
  obtain ⟨hB0, hB1, hBs⟩ := hB
  obtain ⟨τ, r, x1, x2, x3, x4, x5, x6⟩ := x_readTown (σ := σ) hB0 hB1 n250 (fun j hj => ⟨(hc j hj).1, (hc j hj).2.2⟩)
  have x43 : gR τ 43 = gR σ 43 := funext fun j => x5 43 j (by omega)
  have hx : s_x_read σ = if r < 0 then some (r, τ) else some (r, bec6 τ) := by
    rw [s_x_read, h9, x1, Option.bind_some]
    by_cases g : r < 0
    · rw [if_pos g, if_pos g]
    · rw [if_neg g, if_neg g]
      have := bec6_run (σ := τ)
      show ((s_Town_become_19_6 τ).bind fun q3 => (s_Scene_forgetWeeksAndSights q3).bind fun q4 => some (r, q4)) = _
      have e : ((s_Town_become_19_6 τ).bind fun q3 => (s_Scene_forgetWeeksAndSights q3).bind fun q4 => some (r, q4)) = (((s_Town_become_19_6 τ).bind fun q3 => s_Scene_forgetWeeksAndSights q3).bind fun q4 => some (r, q4)) := by
        generalize s_Town_become_19_6 τ = w
        cases w with
        | none => rw [Option.bind_none, Option.bind_none, Option.bind_none]
        | some w => rw [Option.bind_some, Option.bind_some]
      rw [e, this]; rfl
  -- the reference behind the class's state
  have hm : ∀ κ, (∀ a j, ¬ (a = 4 ∨ 6 ≤ a ∧ a ≤ 11 ∨ 19 ≤ a ∧ a ≤ 25) → gI κ a j = gI σ a j) → ∃ o, s_m_read κ = oElim o (fun y13 => (lp (b_m_read_73 y13.2) 100000 (y13.1, 0)).bind fun o20 => some (y13.2, pI (pI o20.1 72 108 0) 72 127 0)) (fun q14 => some q14) ∧ MR κ o (prs c n (n + 1) (nxt (nb c) n 0) B 0) := fun κ hκ =>
    m_readTown hB0 hB1 (fun j _ h => (hκ _ _ (by omega)).trans (hBs j h)) n250 ((hκ _ _ (by omega)).trans h21) (fun j hj => by rw [hκ _ _ (by omega)]; exact ⟨(hc j hj).2.1, (hc j hj).2.2⟩)
  cases hp : prs c n (n + 1) (nxt (nb c) n 0) B 0 with
  | inl f =>
    rw [hp] at x2
    obtain ⟨y1, y2⟩ := x2
    have hneg : r < 0 := by
      rw [y1, Int32.lt_iff_toInt_lt, show (0 : Int32).toInt = 0 from rfl, Int32.toInt_sub, nI_toInt (by omega), show (-10 : Int32).toInt = -10 from rfl, Int.bmod_def]; omega
    rw [if_pos hneg] at hx
    obtain ⟨o, o1, o2⟩ := hm τ (fun a j h => x3 a j (by omega))
    rw [hp] at o2
    rcases o with y | ⟨s, κ⟩
    · exact o2.elim
    · obtain ⟨u1, u2⟩ := o2
      rw [oEr, u1, ← y1] at o1
      have uL : gL κ = gL τ := by show κ.2.1 = τ.2.1; rw [u2.2]
      have uR : gR κ = gR τ := by show κ.2.2 = τ.2.2; rw [u2.2]
      exact ⟨r, τ, κ, hx, o1, R_rd hR (fun a j h => (u2.1 a j (by omega)).trans (x3 a j (by omega))) (uL.trans x4) (by rw [uR]; exact x43) (by rw [uR]; exact x6)⟩
  | inr kB =>
    obtain ⟨k, B'⟩ := kB
    rw [hp] at x2
    obtain ⟨y1, y2, y3, y4⟩ := x2
    have hnn : ¬ r < 0 := by rw [y1]; show ¬ nI k < nI 0; rw [nI_ltI (by omega) (by omega)]; omega
    rw [if_neg hnn] at hx
    obtain ⟨o, o1, o2⟩ := hm (bec6 τ) (fun a j h => (bec6_ne (by omega)).trans (x3 a j (by omega)))
    rw [hp] at o2
    rcases o with ⟨κ, s⟩ | y
    rotate_left
    · exact o2.elim
    · obtain ⟨u1, u2, u3⟩ := o2
      rw [oEl] at o1
      dsimp only at o1
      rw [m_copy101, Option.bind_some, u1, ← y1] at o1
      refine ⟨r, bec6 τ, _, hx, o1, ?_⟩
      generalize hω : pI (pI (cpI κ 89 0 72 0 101) 72 108 0) 72 127 0 = ω
      have hω : pI (pI (cpI κ 89 0 72 0 101, nI 101).1 72 108 0) 72 127 0 = ω := hω
      obtain ⟨⟨A, hM, ⟨a1, a2, a3, a4⟩, w1, w2, w3, w4⟩, -⟩ := id hR
      obtain ⟨A', hA'⟩ : ∃ A' : Nat → Nat, A' = fun j => if j ≤ 100 then B' j else if j = 108 ∨ j = 127 then 0 else A j := ⟨_, rfl⟩
      have lo : ∀ j, j ≤ 100 → A' j = B' j := fun j h => by rw [hA']; exact if_pos h
      have hi : ∀ j, 100 < j → ¬ (j = 108 ∨ j = 127) → A' j = A j := fun j h g => by
        rw [hA']; show (if j ≤ 100 then _ else if j = 108 ∨ j = 127 then 0 else A j) = _
        rw [if_neg (by omega), if_neg g]
      have z108 : A' 108 = 0 := by rw [hA']; rfl
      have z127 : A' 127 = 0 := by rw [hA']; rfl
      have hk : ∀ a j, ¬ (a = 89 ∨ a = 71 ∧ 22 ≤ j ∧ j ≤ 28) → gI κ a j = gI (bec6 τ) a j := u3.1
      have hz : ∀ a j, ¬ (a = 4 ∨ 6 ≤ a ∧ a ≤ 11 ∨ 19 ≤ a ∧ a ≤ 25 ∨ a = 89 ∨ a = 71 ∧ 22 ≤ j ∧ j ≤ 28 ∨ a = 72) → gI ω a j = gI σ a j := fun a j h => by
        rw [← hω, gI_ne (by omega), gI_ne (by omega), gI_cne (by omega), hk a j (by omega), bec6_ne (by omega), x3 a j (by omega)]
      have h25 : ∀ a j, (19 ≤ a ∧ a ≤ 30) → gI ω a j = gI (bec6 τ) a j := fun a j h => by
        rw [← hω, gI_ne (by omega), gI_ne (by omega), gI_cne (by omega), hk a j (by omega)]
      have h26 : ∀ a j, (26 ≤ a ∧ a ≤ 30) → gI ω a j = gI σ a j := fun a j h => hz a j (by omega)
      have eL : gL ω = gL σ := by
        rw [← hω]
        show κ.2.1 = σ.2.1
        rw [u3.2]; exact x4
      have eR : gR ω = gR τ := by
        rw [← hω]
        show κ.2.2 = τ.2.2
        rw [u3.2]; rfl
      have hRA : RA ω A' := by
        refine ⟨fun j hj => ?_, ⟨?_, ?_, ?_, ?_⟩, ?_, ?_, ?_, ?_⟩
        · rw [Nat.zero_add, ← hω]
          by_cases e1 : j = 127
          · subst e1; rw [gI_eq, z127]; rfl
          · rw [gI_ne (by omega)]
            by_cases e2 : j = 108
            · subst e2; rw [gI_eq, z108]; rfl
            · rw [gI_ne (by omega)]
              show gI (cpI κ 89 0 72 0 101) 72 j = _
              by_cases e3 : j < 101
              · rw [gI_ceq e3, u2 j e3, lo j (by omega)]
              · rw [gI_cpI, if_neg (by omega), hk 72 j (by omega), bec6_ne (by omega), x3 72 j (by omega), hi j (by omega) (by omega)]; exact M0 hM hj
        · exact XT_cong (fun a p q j => h25 a j (by omega)) (fun j h => lo j h) y4 (bec6_XT y4 y3)
        · intro j p q
          rw [hi _ (by omega) (by omega)]
          show gI ω 26 j = _
          rw [h26 _ _ (by omega)]; exact a2 j p q
        · refine ⟨?_, fun j hj => absurd hj (by rw [z108]; omega)⟩
          rw [z108]
          show gI ω 25 6 = nI 0
          rw [h25 _ _ (by omega)]; unfold bec6; rw [gI_ne (by omega), gI_eq]; rfl
        · refine ⟨?_, fun j hj => absurd hj (by rw [z127]; omega)⟩
          rw [z127]
          show gI ω 25 7 = nI 0
          rw [h25 _ _ (by omega)]; unfold bec6; rw [gI_eq]; rfl
        · exact WT_cong (fun j h => lo j h) y4
        · intro j p q; rw [hi _ (by omega) (by omega)]; exact w2 j p q
        · exact ⟨by rw [z108]; omega, fun j hj => absurd hj (by rw [z108]; omega)⟩
        · exact ⟨by rw [z127]; omega, fun j hj => absurd hj (by rw [z127]; omega)⟩
      obtain ⟨-, hI, hT, hF, hC, k1, k2, k3, k4, k5⟩ := hR
      exact ⟨⟨A', hRA⟩, RI_cong (fun c hc j => hz c j (by omega)) hI, RT_cong (hz _ _ (by omega)) (hz _ _ (by omega)) (fun j => hz _ _ (by omega)) (fun j => hz _ _ (by omega)) hT, RF_cong (hz _ _ (by omega)) (hz _ _ (by omega)) (by rw [eL]) (by rw [eL]) hF, RC_cong (fun j _ => hz _ _ (by omega)) (fun j => hz _ _ (by omega)) hC, ⟨(funext fun j => hz 13 j (by omega)).trans k1, by rw [eL]; exact k2, by rw [eR, x43]; exact k3, Or.inr (by rw [eR]; exact x6), (hz _ _ (by omega)).trans k5⟩⟩
