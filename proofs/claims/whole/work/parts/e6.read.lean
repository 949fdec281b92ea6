theorem itm_b {c : Nat → Nat} {n q : Nat} {B : Nat → Nat} (W : WT B) (hq : q ≤ n) : (∀ f, itm c n q B = .inl f → f ≤ n) ∧ ∀ p B', itm c n q B = .inr (p, B') → (q < p ∧ p ≤ n) ∧ WT B' := by
  have n9 := W.2.2.1
  unfold itm
  by_cases a : isw c n q 0 = true ∧ ¬ bz B = true
  · rw [if_pos a]
    obtain ⟨-, q6⟩ := isw_tl (by omega) hq a.1
    obtain ⟨u1, u2⟩ := num_b (c := c) (lo := 1) (hi := 7) q6
    cases h1 : num c n (q + 6) 1 7 with
    | inl f => exact ⟨fun g hg => (by cases hg; exact u1 f h1), fun p B' hg => (by cases hg)⟩
    | inr vq =>
      obtain ⟨v, q1⟩ := vq
      obtain ⟨⟨c1, c2⟩, c3, c4, -⟩ := u2 v q1 h1
      obtain ⟨e1, e2⟩ := en_b (c := c) c2
      show (∀ f, (match en c n q1 with
        | .inl f => .inl f
        | .inr q2 => .inr (q2, updA B 0 v) : Nat ⊕ (Nat × (Nat → Nat))) = .inl f → f ≤ n) ∧ ∀ p B', (match en c n q1 with
        | .inl f => .inl f
        | .inr q2 => .inr (q2, updA B 0 v) : Nat ⊕ (Nat × (Nat → Nat))) = .inr (p, B') → (q < p ∧ p ≤ n) ∧ WT B'
      cases h2 : en c n q1 with
      | inl f => exact ⟨fun g hg => (by cases hg; exact e1 f h2), fun p B' hg => (by cases hg)⟩
      | inr q2 =>
        refine ⟨fun g hg => (by cases hg), fun p B' hg => ?_⟩
        cases hg
        have := e2 q2 h2
        exact ⟨⟨by omega, by omega⟩, (WT_pl W a.2 c3 (by omega)).1⟩
  rw [if_neg a]
  by_cases a1 : isw c n q 1 = true ∧ B 1 < 9
  · rw [if_pos a1]
    obtain ⟨-, q6⟩ := isw_tl (by omega) hq a1.1
    obtain ⟨u1, u2⟩ := num_b (c := c) (lo := 0) (hi := 5) q6
    cases h1 : num c n (q + 6) 0 5 with
    | inl f => exact ⟨fun g hg => (by cases hg; exact u1 f h1), fun p B' hg => (by cases hg)⟩
    | inr vq =>
      obtain ⟨k, q1⟩ := vq
      obtain ⟨⟨c1, c2⟩, c3, c4, -⟩ := u2 k q1 h1
      obtain ⟨v1, v2⟩ := num_b (c := c) (lo := 1) (hi := 10) c2
      show (∀ f, (match num c n q1 1 10 with
        | .inl f => .inl f
        | .inr (v, q2) => match en c n q2 with
          | .inl f => .inl f
          | .inr q3 => .inr (q3, addP B k v) : Nat ⊕ (Nat × (Nat → Nat))) = .inl f → f ≤ n) ∧ ∀ p B', (match num c n q1 1 10 with
        | .inl f => .inl f
        | .inr (v, q2) => match en c n q2 with
          | .inl f => .inl f
          | .inr q3 => .inr (q3, addP B k v) : Nat ⊕ (Nat × (Nat → Nat))) = .inr (p, B') → (q < p ∧ p ≤ n) ∧ WT B'
      cases h2 : num c n q1 1 10 with
      | inl f => exact ⟨fun g hg => (by cases hg; exact v1 f h2), fun p B' hg => (by cases hg)⟩
      | inr vq =>
        obtain ⟨v, q2⟩ := vq
        obtain ⟨⟨d1, d2⟩, d3, d4, d5⟩ := v2 v q2 h2
        obtain ⟨e1, e2⟩ := en_b (c := c) d2
        show (∀ f, (match en c n q2 with
          | .inl f => .inl f
          | .inr q3 => .inr (q3, addP B k v) : Nat ⊕ (Nat × (Nat → Nat))) = .inl f → f ≤ n) ∧ ∀ p B', (match en c n q2 with
          | .inl f => .inl f
          | .inr q3 => .inr (q3, addP B k v) : Nat ⊕ (Nat × (Nat → Nat))) = .inr (p, B') → (q < p ∧ p ≤ n) ∧ WT B'
        cases h3 : en c n q2 with
        | inl f => exact ⟨fun g hg => (by cases hg; exact e1 f h3), fun p B' hg => (by cases hg)⟩
        | inr q3 =>
          refine ⟨fun g hg => (by cases hg), fun p B' hg => ?_⟩
          cases hg
          have := e2 q3 h3
          exact ⟨⟨by omega, by omega⟩, WT_addP W a1.2 c4 d3 (by omega)⟩
  rw [if_neg a1]
  by_cases a2 : isw c n q 2 = true
  rotate_left
  · rw [if_neg a2]
    exact ⟨fun g hg => (by cases hg; exact hq), fun p B' hg => (by cases hg)⟩
  rw [if_pos a2]
  obtain ⟨-, q6⟩ := isw_tl (by omega) hq a2
  obtain ⟨u1, u2⟩ := num_b (c := c) (lo := 0) (hi := B 1) q6
  cases h1 : num c n (q + 6) 0 (B 1) with
  | inl f => exact ⟨fun g hg => (by cases hg; exact u1 f h1), fun p B' hg => (by cases hg)⟩
  | inr vq =>
    obtain ⟨w, q1⟩ := vq
    obtain ⟨⟨c1, c2⟩, c3, c4, -⟩ := u2 w q1 h1
    obtain ⟨v1, v2⟩ := num_b (c := c) (lo := 0) (hi := B 0) c2
    show (∀ f, (if B (4 + 11 * w) = 4 then .inl (q1 - 1) else match num c n q1 0 (B 0) with
      | .inl f => .inl f
      | .inr (a, q2) => match num c n q2 0 10 with
        | .inl f => .inl f
        | .inr (h, q3) => match en c n q3 with
          | .inl f => .inl f
          | .inr q4 => .inr (q4, addE B w a h) : Nat ⊕ (Nat × (Nat → Nat))) = .inl f → f ≤ n) ∧ ∀ p B', (if B (4 + 11 * w) = 4 then .inl (q1 - 1) else match num c n q1 0 (B 0) with
      | .inl f => .inl f
      | .inr (a, q2) => match num c n q2 0 10 with
        | .inl f => .inl f
        | .inr (h, q3) => match en c n q3 with
          | .inl f => .inl f
          | .inr q4 => .inr (q4, addE B w a h) : Nat ⊕ (Nat × (Nat → Nat))) = .inr (p, B') → (q < p ∧ p ≤ n) ∧ WT B'
    by_cases h4 : B (4 + 11 * w) = 4
    · rw [if_pos h4]
      exact ⟨fun g hg => (by cases hg; omega), fun p B' hg => (by cases hg)⟩
    rw [if_neg h4]
    have hE := (W.2.2.2 w c4).2.2.2.1
    cases h2 : num c n q1 0 (B 0) with
    | inl f => exact ⟨fun g hg => (by cases hg; exact v1 f h2), fun p B' hg => (by cases hg)⟩
    | inr vq =>
      obtain ⟨aa, q2⟩ := vq
      obtain ⟨⟨d1, d2⟩, d3, d4, -⟩ := v2 aa q2 h2
      obtain ⟨w1, w2⟩ := num_b (c := c) (lo := 0) (hi := 10) d2
      show (∀ f, (match num c n q2 0 10 with
        | .inl f => .inl f
        | .inr (h, q3) => match en c n q3 with
          | .inl f => .inl f
          | .inr q4 => .inr (q4, addE B w aa h) : Nat ⊕ (Nat × (Nat → Nat))) = .inl f → f ≤ n) ∧ ∀ p B', (match num c n q2 0 10 with
        | .inl f => .inl f
        | .inr (h, q3) => match en c n q3 with
          | .inl f => .inl f
          | .inr q4 => .inr (q4, addE B w aa h) : Nat ⊕ (Nat × (Nat → Nat))) = .inr (p, B') → (q < p ∧ p ≤ n) ∧ WT B'
      cases h3 : num c n q2 0 10 with
      | inl f => exact ⟨fun g hg => (by cases hg; exact w1 f h3), fun p B' hg => (by cases hg)⟩
      | inr vq =>
        obtain ⟨h, q3⟩ := vq
        obtain ⟨⟨f1, f2⟩, f3, f4, -⟩ := w2 h q3 h3
        obtain ⟨e1, e2⟩ := en_b (c := c) f2
        show (∀ f, (match en c n q3 with
          | .inl f => .inl f
          | .inr q4 => .inr (q4, addE B w aa h) : Nat ⊕ (Nat × (Nat → Nat))) = .inl f → f ≤ n) ∧ ∀ p B', (match en c n q3 with
          | .inl f => .inl f
          | .inr q4 => .inr (q4, addE B w aa h) : Nat ⊕ (Nat × (Nat → Nat))) = .inr (p, B') → (q < p ∧ p ≤ n) ∧ WT B'
        cases h5 : en c n q3 with
        | inl f => exact ⟨fun g hg => (by cases hg; exact e1 f h5), fun p B' hg => (by cases hg)⟩
        | inr q4 =>
          refine ⟨fun g hg => (by cases hg), fun p B' hg => ?_⟩
          cases hg
          have := e2 q4 h5
          exact ⟨⟨by omega, by omega⟩, WT_addE W c4 (by omega) d4 f4⟩
/-- the whole text, from p on with the town B behind k items -/
def prs (c : Nat → Nat) (n : Nat) : Nat → Nat → (Nat → Nat) → Nat → Nat ⊕ (Nat × (Nat → Nat))
  | 0, _, B, k => .inr (k, B)
  | m + 1, p, B, k => if n ≤ p then .inr (k, B) else match itm c n p B with
    | .inl f => .inl f
    | .inr (p', B') => prs c n m (nxt (nb c) n p') B' (k + 1)
def XR (σ0 τ : Sg) (r : Int32) (n : Nat) : Nat ⊕ (Nat × (Nat → Nat)) → Prop
  | .inl f => gI τ 4 4 = nI f ∧ f ≤ n
  | .inr (k, B) => r = nI k ∧ k ≤ n ∧ gI τ 4 4 = -1 ∧ XT τ 6 B ∧ WT B
def F46 (σ τ : Sg) : Prop := (∀ a j, ¬ (a = 4 ∨ 6 ≤ a ∧ a ≤ 11) → gI τ a j = gI σ a j) ∧ τ.2 = σ.2
theorem x_prs {σ0 : Sg} {c : Nat → Nat} {n : Nat} : ∀ (m p k F : Nat) (B : Nat → Nat) (σ : Sg), n - p < m → p ≤ n → k ≤ p → WT B → m + 1 < F → XG' σ0 σ c n p B → ∃ o, lp b_TownReader_readTown_39 F (σ, nI k) = some o ∧ XR σ0 o.1 o.2 n (prs c n m p B k) ∧ F46 σ0 o.1 := by
  intro m
  induction m with
  | zero => intro p k F B σ h; omega
  | succ m ih =>
    intro p k F B σ hm hp hk W hF H
    obtain ⟨f, rfl⟩ : ∃ f, F = f + 1 := ⟨F - 1, by omega⟩
    obtain ⟨h1, h2, h3, h4, h5⟩ := id H
    have n250 := h1.2.2.2.1
    rw [prs]
    by_cases a : n ≤ p
    · rw [if_pos a]
      refine ⟨(σ, nI k), lp_end ?_, ⟨rfl, by omega, h2, h3, W⟩, h4, h5⟩
      unfold b_TownReader_readTown_39
      show (if gI σ 4 2 ≤ gI σ 4 3 then some (Sum.inr (σ, nI k)) else _) = _
      rw [h1.2.1, h1.2.2.1, if_pos (by rw [nI_leI (by omega) (by omega)]; exact a)]
    rw [if_neg a]
    obtain ⟨τ, t1, t2⟩ := x_item W hp H
    have hb : b_TownReader_readTown_39 (σ, nI k) = (s_TownReader_skipBlanks τ).bind fun q12 => some (.inl (q12, nI (k + 1))) := by
      unfold b_TownReader_readTown_39
      show (if gI σ 4 2 ≤ gI σ 4 3 then _ else (if gI σ 4 4 = -1 then (if nI 250 ≤ nI k then _ else (s_TownReader_readItem σ).bind fun q11 => (s_TownReader_skipBlanks q11).bind fun q12 => some (Sum.inl (q12, nI k + 1))) else _)) = _
      rw [h1.2.1, h1.2.2.1, if_neg (by rw [nI_leI (by omega) (by omega)]; exact a), if_pos h2, if_neg (by rw [nI_leI (by omega) (by omega)]; omega), t1, Option.bind_some, nI_1]
    obtain ⟨i1, i2⟩ := itm_b (c := c) W hp
    cases hi : itm c n p B with
    | inl f' =>
      rw [hi] at t2
      obtain ⟨⟨p', hp', hC⟩, u1, u2, u3, u4⟩ := t2
      rw [x_skipB hp' hC, Option.bind_some] at hb
      rw [lp_step hb]
      obtain ⟨f, rfl⟩ : ∃ g, f = g + 1 := ⟨f - 1, by omega⟩
      refine ⟨(pI τ 4 3 (nI (nxt (nb c) n p')), nI (k + 1)), lp_end ?_, ⟨by rw [gI_ne (by omega)]; exact u1, u2⟩, fun a j h => by rw [gI_ne (by omega)]; exact u3 a j h, u4⟩
      have hnt : ¬ gI (pI τ 4 3 (nI (nxt (nb c) n p'))) 4 4 = -1 := by rw [gI_ne (by omega), u1]; exact nI_nm (by omega)
      unfold b_TownReader_readTown_39
      generalize pI τ 4 3 (nI (nxt (nb c) n p')) = κ at *
      show (if gI κ 4 2 ≤ gI κ 4 3 then some (Sum.inr (κ, nI (k + 1))) else (if gI κ 4 4 = -1 then _ else some (Sum.inr (κ, nI (k + 1))))) = _
      by_cases g : gI κ 4 2 ≤ gI κ 4 3
      · rw [if_pos g]
      · rw [if_neg g, if_neg hnt]
    | inr pB =>
      obtain ⟨p', B'⟩ := pB
      rw [hi] at t2
      obtain ⟨⟨j1, j2⟩, j3⟩ := i2 p' B' hi
      obtain ⟨g1, g2, g3, g4, g5⟩ := t2
      rw [x_skipB j2 g1, Option.bind_some] at hb
      rw [lp_step hb]
      obtain ⟨n1, n2, -⟩ := nxt_le (P := nb c) j2
      exact ih (nxt (nb c) n p') (k + 1) f B' _ (by omega) n2 (by omega) j3 (by omega) ⟨CT_at g1, by rw [gI_ne (by omega)]; exact g2, XT_cong (fun a x y j => gI_ne (by omega)) (fun _ _ => rfl) j3 g3, fun a j h => by rw [gI_ne (by omega)]; exact g4 a j h, g5⟩
def MR (τ : Sg) : (Sg × Int32) ⊕ (Int32 × Sg) → Nat ⊕ (Nat × (Nat → Nat)) → Prop
  | .inr (r, κ), .inl f => r = (-10) - nI f ∧ FR τ κ
  | .inl (κ, r), .inr (k, B) => r = nI k ∧ MN κ B ∧ FR τ κ
  | _, _ => False
theorem m_prs {σ0 : Sg} {c : Nat → Nat} {n : Nat} : ∀ (m p k F : Nat) (B : Nat → Nat) (σ : Sg), n - p < m → WT B → m + 1 < F → MT σ c n → TK σ c n p → MN σ B → (gI σ 71 27 = 0 ↔ ¬ bz B = true) → FR σ0 σ → ∃ o, lp b_m_read_31 F (σ, nI k) = some o ∧ MR σ0 o (prs c n m p B k) := by
  intro m
  induction m with
  | zero => intro p k F B σ h; omega
  | succ m ih =>
    intro p k F B σ hm W hF H T hN hfl hFR
    obtain ⟨f, rfl⟩ : ∃ f, F = f + 1 := ⟨F - 1, by omega⟩
    have hle := tk_le (c := c) (n := n) (q := p)
    have hp := T.1
    rw [prs]
    by_cases a : n ≤ p
    · rw [if_pos a]
      refine ⟨.inl (σ, nI k), lp_end ?_, rfl, hN, hFR⟩
      unfold b_m_read_31
      rw [T.2.2.1, tk0_iff.mpr a, if_pos (show nI 0 = 0 from rfl)]
    rw [if_neg a]
    obtain ⟨u, τ, t1, t2⟩ := m_item W H T hN hfl hFR
    have hb : b_m_read_31 (σ, nI k) = if u = 0 then some (.inr (.inr ((-10) - gI τ 71 22, τ))) else if gI τ 71 24 = 3 then (s_m_goNext τ).bind fun q10 => some (.inl (q10, nI (k + 1))) else some (.inr (.inr ((-10) - gI τ 71 22, τ))) := by
      unfold b_m_read_31
      show (if gI σ 71 24 = 0 then _ else (s_m_readsItem σ).bind fun q7 => if q7.1 = 0 then some (Sum.inr (Sum.inr ((-10) - gI q7.2 71 22, q7.2))) else if gI q7.2 71 24 = 3 then (s_m_goNext q7.2).bind fun q10 => some (Sum.inl (q10, nI k + 1)) else some (Sum.inr (Sum.inr ((-10) - gI q7.2 71 22, q7.2)))) = _
      rw [T.2.2.1, if_neg (show ¬ nI (tk c n p) = (0 : Int32) from fun g => a (tk0_iff.mp ((nI_eq (b := 0) (by omega) (by omega)).mp g))), t1, Option.bind_some, nI_1]
    obtain ⟨i1, i2⟩ := itm_b (c := c) W hp
    cases hi : itm c n p B with
    | inl f' =>
      rw [hi] at t2
      obtain ⟨v1, v2, v3⟩ := t2
      have hb2 : b_m_read_31 (σ, nI k) = some (.inr (.inr ((-10) - nI f', τ))) := by
        rw [hb, v2]
        rcases v1 with v1 | ⟨v1, w1⟩
        · rw [if_pos v1]
        · rw [if_neg (by rw [v1]; decide), if_neg w1]
      exact ⟨_, lp_end hb2, rfl, v3⟩
    | inr pB =>
      obtain ⟨p', B'⟩ := pB
      rw [hi] at t2
      obtain ⟨⟨j1, j2⟩, j3⟩ := i2 p' B' hi
      obtain ⟨v1, v2, v3, v4, v5, v6⟩ := t2
      have Hτ : MT τ c n := ⟨(v6.1 _ _ (by omega)).trans ((hFR.1 _ _ (by omega)).symm.trans H.1), H.2.1, fun j hj => by rw [v6.1 _ _ (by omega), ← hFR.1 _ _ (by omega)]; exact H.2.2 j hj⟩
      obtain ⟨κ, k1, k2, k3⟩ := m_look j2 Hτ
      have hg : s_m_goNext τ = some κ := by rw [s_m_goNext, v3, k1]; rfl
      rw [if_neg (by rw [v1]; decide), if_pos v2, hg, Option.bind_some] at hb
      rw [lp_step hb]
      obtain ⟨n1, n2, -⟩ := nxt_le (P := nb c) j2
      exact ih (nxt (nb c) n p') (k + 1) f B' κ (by omega) j3 (by omega) (MT_FU (FT_FU k3) Hτ) k2 (MN_FU (FT_FU k3) v4) (by rw [k3.1 _ _ (by omega)]; exact v5) (FU_FR v6 (FT_FU k3))
