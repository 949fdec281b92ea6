/-- the reference's text -/
def MT (σ : Sg) (c : Nat → Nat) (n : Nat) : Prop := gI σ 71 21 = nI n ∧ n ≤ 250 ∧ ∀ j, j < n → gI σ 88 j = nI (c j) ∧ c j < 256
theorem MT_cong {σ τ : Sg} {c : Nat → Nat} {n : Nat} (h : ∀ a j, (a = 88 ∨ a = 71 ∧ j = 21) → gI τ a j = gI σ a j) (H : MT σ c n) : MT τ c n := ⟨(h _ _ (by omega)).trans H.1, H.2.1, fun j hj => by rw [h _ _ (by omega)]; exact H.2.2 j hj⟩
def tk (c : Nat → Nat) (n q : Nat) : Nat := if n ≤ q then 0 else if 97 ≤ c q ∧ c q ≤ 122 then 1 else if 48 ≤ c q ∧ c q ≤ 57 then (if fg c n (q + 1) = true then 4 else 2) else if c q = 59 then 3 else 4
def tl (c : Nat → Nat) (n q : Nat) : Nat := if n ≤ q then 0 else if 97 ≤ c q ∧ c q ≤ 122 then nxt (nl c) n q - q else if 48 ≤ c q ∧ c q ≤ 57 then nxt (nf c) n q - q else 1
def TK (σ : Sg) (c : Nat → Nat) (n q : Nat) : Prop := q ≤ n ∧ gI σ 71 22 = nI q ∧ gI σ 71 24 = nI (tk c n q) ∧ gI σ 71 23 = nI (tl c n q) ∧ (q < n → 48 ≤ c q ∧ c q ≤ 57 → gI σ 71 25 = nI (c q - 48))
/-- only the token's registers change -/
def FT (σ τ : Sg) : Prop := (∀ a j, ¬ (a = 71 ∧ 22 ≤ j ∧ j ≤ 25) → gI τ a j = gI σ a j) ∧ τ.2 = σ.2
theorem m_small {x : Nat} (h : x < 256) : s_m_isSmall (nI x) = some (if 97 ≤ x ∧ x ≤ 122 then 1 else 0) := by
  rw [s_m_isSmall, m_in32 (nI x) (x := 97) (y := 122) rfl rfl, nI_toInt (by omega), Option.bind_some]
  by_cases c : 97 ≤ x ∧ x ≤ 122
  · rw [if_pos (show (97 : Int) ≤ x ∧ (x : Int) ≤ 122 by omega), if_pos c]; rfl
  · rw [if_neg (show ¬ ((97 : Int) ≤ x ∧ (x : Int) ≤ 122) by omega), if_neg c]; rfl
theorem m_fig {x : Nat} (h : x < 256) : s_m_isFigure (nI x) = some (if 48 ≤ x ∧ x ≤ 57 then 1 else 0) := by
  rw [s_m_isFigure, m_in32 (nI x) (x := 48) (y := 57) rfl rfl, nI_toInt (by omega), Option.bind_some]
  by_cases c : 48 ≤ x ∧ x ≤ 57
  · rw [if_pos (show (48 : Int) ≤ x ∧ (x : Int) ≤ 57 by omega), if_pos c]; rfl
  · rw [if_neg (show ¬ ((48 : Int) ≤ x ∧ (x : Int) ≤ 57) by omega), if_neg c]; rfl
theorem m_skip {c : Nat → Nat} {n : Nat} : ∀ (m p : Nat) (σ : Sg) (F : Nat), n - p = m → p ≤ n → m < F → MT σ c n → gI σ 71 22 = nI p → lp b_m_look_5 F σ = some (pI σ 71 22 (nI (nxt (nb c) n p))) := by
  intro m
  induction m with
  | zero =>
    intro p σ F hm hp hF H h22
    obtain ⟨f, rfl⟩ : ∃ f, F = f + 1 := ⟨F - 1, by omega⟩
    obtain ⟨h1, h2, h3⟩ := H
    rw [nxt_end (by omega), ps (by rw [h22, show p = n by omega])]
    refine lp_end ?_
    unfold b_m_look_5
    rw [h1, h22, if_pos (by rw [nI_leI (by omega) (by omega)]; omega)]
  | succ m ih =>
    intro p σ F hm hp hF H h22
    obtain ⟨f, rfl⟩ : ∃ f, F = f + 1 := ⟨F - 1, by omega⟩
    obtain ⟨h1, h2, h3⟩ := id H
    obtain ⟨c1, c2⟩ := h3 p (by omega)
    have hb : b_m_look_5 σ = if c p = 32 then some (.inl (pI σ 71 22 (nI (p + 1)))) else some (.inr σ) := by
      unfold b_m_look_5
      rw [h1, h22, if_neg (by rw [nI_leI (by omega) (by omega)]; omega), if_pos (inB_nI (by omega) (by omega)), nI_clamp (by omega), c1, lt_eq, nI_1]
      by_cases d : c p = 32
      · rw [if_pos d, if_pos (by rw [d]; rfl)]
      · rw [if_neg d, if_neg (show ¬ nI (c p) = (32 : Int32) from fun q => d ((nI_eq (b := 32) (by omega) (by omega)).mp q))]
    by_cases d : c p = 32
    · rw [if_pos d] at hb
      rw [lp_step hb, ih (p + 1) _ f (by omega) (by omega) (by omega) (MT_cong (fun a j q => gI_ne (by omega)) H) gI_eq, pp, nxt_go (by omega) (fun q => nb_iff.mp q d)]
    · rw [if_neg d] at hb
      rw [lp_end hb, nxt_hit (by omega) (nb_iff.mpr d), ps h22]
/-- the rest of a word or of figures -/
theorem m_rest {c : Nat → Nat} {n q t : Nat} {v2 : Int32} {P : Nat → Bool} (ht : t = 1 ∧ P = nl c ∨ t = 2 ∧ P = nf c) : ∀ (m l : Nat) (σ : Sg) (F : Nat), n - (q + l) = m → q + l ≤ n → m + 1 < F → MT σ c n → gI σ 71 22 = nI q → gI σ 71 23 = nI l → gI σ 71 24 = nI t → ∃ w, lp (b_m_look_136 v2) F (σ, 1) = some (pI σ 71 23 (nI (nxt P n (q + l) - q)), w) := by
  intro m
  induction m with
  | zero =>
    intro l σ F hm hp hF H h22 h23 h24
    obtain ⟨f, rfl⟩ : ∃ f, F = f + 1 := ⟨F - 1, by omega⟩
    obtain ⟨h1, h2, h3⟩ := H
    rw [nxt_end (by omega), show n - q = l by omega, ps h23]
    refine ⟨1, lp_end ?_⟩
    unfold b_m_look_136
    rw [if_neg (show ¬ (1 : Int32) = 0 by decide), h1, h22, h23, nI_add, if_pos (by rw [nI_leI (by omega) (by omega)]; omega)]
  | succ m ih =>
    intro l σ F hm hp hF H h22 h23 h24
    obtain ⟨f, rfl⟩ : ∃ f, F = f + 1 := ⟨F - 1, by omega⟩
    obtain ⟨h1, h2, h3⟩ := id H
    obtain ⟨c1, c2⟩ := h3 (q + l) (by omega)
    have hb : b_m_look_136 v2 (σ, 1) = if P (q + l) = true then some (.inl (σ, 0)) else some (.inl (pI σ 71 23 (nI (l + 1)), 1)) := by
      have h193 : ∀ u : Int32, (u = 0 ∨ u = 1) → j_m_look_193i136 v2 σ u = if u = 0 then some (.inl (σ, 0)) else some (.inl (pI σ 71 23 (nI (l + 1)), 1)) := fun u hu => by
        unfold j_m_look_193i136
        rw [h23, nI_1, lt_eq, lt_eq, show nI l + 0 = nI l from nI_add l 0, ps h23]
        rcases hu with rfl | rfl
        · rfl
        · rfl
      unfold b_m_look_136
      rw [if_neg (show ¬ (1 : Int32) = 0 by decide), h1, h22, h23, nI_add, if_neg (by rw [nI_leI (by omega) (by omega)]; omega), if_pos (inB_nI (by omega) (by omega)), nI_clamp (by omega), c1, lt_eq, h24, m_small c2, m_fig c2, Option.bind_some, Option.bind_some]
      rcases ht with ⟨rfl, rfl⟩ | ⟨rfl, rfl⟩
      · rw [if_pos (show nI 1 = 1 from rfl), h193 _ (by by_cases d : 97 ≤ c (q + l) ∧ c (q + l) ≤ 122; rw [if_pos d]; exact Or.inr rfl; rw [if_neg d]; exact Or.inl rfl)]
        by_cases d : 97 ≤ c (q + l) ∧ c (q + l) ≤ 122
        · rw [if_pos d, if_neg (show ¬ (1 : Int32) = 0 by decide), if_neg (fun g => nl_iff.mp g d)]
        · rw [if_neg d, if_pos rfl, if_pos (nl_iff.mpr d)]
      · rw [if_neg (show ¬ nI 2 = 1 by decide), h193 _ (by by_cases d : 48 ≤ c (q + l) ∧ c (q + l) ≤ 57; rw [if_pos d]; exact Or.inr rfl; rw [if_neg d]; exact Or.inl rfl)]
        by_cases d : 48 ≤ c (q + l) ∧ c (q + l) ≤ 57
        · rw [if_pos d, if_neg (show ¬ (1 : Int32) = 0 by decide), if_neg (fun g => nf_iff.mp g d)]
        · rw [if_neg d, if_pos rfl, if_pos (nf_iff.mpr d)]
    by_cases d : P (q + l) = true
    · rw [if_pos d] at hb
      rw [nxt_hit (by omega) d, Nat.add_sub_cancel_left, ps h23, lp_step hb]
      obtain ⟨f, rfl⟩ : ∃ g, f = g + 1 := ⟨f - 1, by omega⟩
      refine ⟨0, lp_end ?_⟩
      unfold b_m_look_136
      rw [if_pos (show (0 : Int32) = 0 from rfl)]
    · rw [if_neg d] at hb
      rw [nxt_go (by omega) d, lp_step hb]
      obtain ⟨w, hw⟩ := ih (l + 1) (pI σ 71 23 (nI (l + 1))) f (by omega) (by omega) (by omega) (MT_cong (fun a j q => gI_ne (by omega)) H) (by rw [gI_ne (by omega)]; exact h22) gI_eq (by rw [gI_ne (by omega)]; exact h24)
      exact ⟨w, by rw [hw, pp]; rfl⟩
theorem m_look {σ : Sg} {c : Nat → Nat} {n p : Nat} (hp : p ≤ n) (H : MT σ c n) : ∃ τ, s_m_look σ (nI p) = some τ ∧ TK τ c n (nxt (nb c) n p) ∧ FT σ τ := by
  have h250 := H.2.1
  rw [s_m_look, lt_eq, m_skip (n - p) p (pI σ 71 22 (nI p)) 100000 rfl hp (by omega) (MT_cong (fun a j q => gI_ne (by omega)) H) gI_eq, Option.bind_some, pp]
  obtain ⟨n1, n2, n3⟩ := nxt_le (P := nb c) hp
  generalize nxt (nb c) n p = q at *
  unfold j_m_look_43
  rw [lt_eq, lt_eq, lt_eq]
  generalize hρ : pI (pI (pI (pI σ 71 22 (nI q)) 71 23 0) 71 24 0) 71 25 0 = ρ
  have hz : ∀ a j, ¬ (a = 71 ∧ 22 ≤ j ∧ j ≤ 25) → gI ρ a j = gI σ a j := fun a j h => by rw [← hρ, gI_ne (by omega), gI_ne (by omega), gI_ne (by omega), gI_ne (by omega)]
  have r22 : gI ρ 71 22 = nI q := by rw [← hρ, gI_ne (by omega), gI_ne (by omega), gI_ne (by omega), gI_eq]
  have r23 : gI ρ 71 23 = 0 := by rw [← hρ, gI_ne (by omega), gI_ne (by omega), gI_eq]
  have r24 : gI ρ 71 24 = 0 := by rw [← hρ, gI_ne (by omega), gI_eq]
  have r2 : ρ.2 = σ.2 := by rw [← hρ]; rfl
  have r21 : gI ρ 71 21 = nI n := (hz _ _ (by omega)).trans H.1
  have HM : MT ρ c n := MT_cong (fun a j h => hz _ _ (by omega)) H
  rw [r22, r21]
  by_cases e : q = n
  · subst e
    rw [if_pos rfl]
    refine ⟨ρ, rfl, ⟨Nat.le_refl _, r22, ?_, ?_, fun h => by omega⟩, hz, r2⟩
    · rw [r24]; unfold tk; rw [if_pos (Nat.le_refl _)]; rfl
    · rw [r23]; unfold tl; rw [if_pos (Nat.le_refl _)]; rfl
  rw [if_neg (by rw [nI_eq (by omega) (by omega)]; exact e), if_pos (inB_nI (by omega) (by omega)), lt_eq, nI_clamp (by omega)]
  obtain ⟨c1, c2⟩ := HM.2.2 q (by omega)
  rw [c1, m_small c2, Option.bind_some, m_fig c2]
  -- the end of look: kind t0, length l, kind t1
  have h215 : ∀ (κ : Sg) (t0 t1 l : Nat), gI κ 71 24 = nI t0 → gI κ 71 23 = nI l → gI κ 71 22 = nI q → (∀ a j, ¬ (a = 71 ∧ 22 ≤ j ∧ j ≤ 25) → gI κ a j = gI σ a j) → κ.2 = σ.2 → t0 ≤ 4 → l ≤ 250 → t1 = (if t0 = 2 ∧ 1 < l then 4 else t0) → tk c n q = t1 → tl c n q = l → ∃ τ, j_m_look_215 κ (nI (c q)) = some τ ∧ TK τ c n q ∧ FT σ τ := fun κ t0 t1 l k24 k23 k22 kz k2 ht0 hl ht1 htk htl => by
    refine ⟨pI (pI κ 71 25 (nI (c q) - 48)) 71 24 (nI t1), ?_, ⟨by omega, by rw [gI_ne (by omega), gI_ne (by omega)]; exact k22, by rw [gI_eq, htk], by rw [gI_ne (by omega), gI_ne (by omega), k23, htl], fun _ hf => ?_⟩, fun a j h => by rw [gI_ne (by omega), gI_ne (by omega)]; exact kz a j h, k2⟩
    · unfold j_m_look_215
      rw [lt_eq, gI_ne (by omega), gI_ne (by omega), k24, k23]
      by_cases a : t0 = 2
      · subst a
        rw [if_pos (show nI 2 = 2 from rfl)]
        by_cases b : 1 < l
        · rw [if_neg (by show ¬ nI l ≤ nI 1; rw [nI_leI (by omega) (by omega)]; omega), ht1, if_pos ⟨rfl, b⟩]; rfl
        · rw [if_pos (by show nI l ≤ nI 1; rw [nI_leI (by omega) (by omega)]; omega), ht1, if_neg (fun g => b g.2)]; rfl
      · rw [if_neg (show ¬ nI t0 = (2 : Int32) from fun g => a ((nI_eq (b := 2) (by omega) (by omega)).mp g)), ht1, if_neg (fun g => a g.1)]; rfl
    · rw [gI_ne (by omega), gI_eq]
      obtain ⟨m, hm⟩ : ∃ m, c q = m + 48 := ⟨c q - 48, by omega⟩
      rw [hm, Nat.add_sub_cancel, show nI (m + 48) = nI m + nI 48 from (nI_add m 48).symm]; exact Int32.add_sub_cancel _ _
  have h114 : ∀ t : Nat, t ≤ 4 → j_m_look_114 ρ (nI (c q)) (nI t) = if 3 ≤ t then j_m_look_135 (pI (pI ρ 71 24 (nI t)) 71 23 1) (nI (c q)) 0 else j_m_look_135 (pI (pI ρ 71 24 (nI t)) 71 23 1) (nI (c q)) 1 := fun t ht => by
    unfold j_m_look_114
    rw [lt_eq, lt_eq, gI_ne (by omega), gI_eq]
    by_cases a : 3 ≤ t
    · rw [if_pos (by show nI 3 ≤ nI t; rw [nI_leI (by omega) (by omega)]; exact a), if_pos a]
    · rw [if_neg (by show ¬ nI 3 ≤ nI t; rw [nI_leI (by omega) (by omega)]; exact a), if_neg a]
  have hone : ∀ t, t ≤ 4 → 3 ≤ t → tk c n q = t → tl c n q = 1 → ∃ τ, j_m_look_114 ρ (nI (c q)) (nI t) = some τ ∧ TK τ c n q ∧ FT σ τ := fun t h4 h3 htk htl => by
    rw [h114 t h4, if_pos h3]
    unfold j_m_look_135
    rw [show lp (b_m_look_136 (nI (c q))) 100000 (pI (pI ρ 71 24 (nI t)) 71 23 1, 0) = some (pI (pI ρ 71 24 (nI t)) 71 23 1, 0) from lp_end (n := 99999) (by unfold b_m_look_136; rw [if_pos (show (0 : Int32) = 0 from rfl)]), Option.bind_some]
    exact h215 _ t t 1 (by rw [gI_ne (by omega), gI_eq]) gI_eq (by rw [gI_ne (by omega), gI_ne (by omega)]; exact r22) (fun a j h => by rw [gI_ne (by omega), gI_ne (by omega)]; exact hz a j h) r2 h4 (by omega) (by rw [if_neg (fun g => by omega)]) htk htl
  have hmany : ∀ (t : Nat) (P : Nat → Bool), (t = 1 ∧ P = nl c ∨ t = 2 ∧ P = nf c) → ¬ P q = true → tk c n q = (if t = 2 ∧ 1 < nxt P n q - q then 4 else t) → tl c n q = nxt P n q - q → ∃ τ, j_m_look_114 ρ (nI (c q)) (nI t) = some τ ∧ TK τ c n q ∧ FT σ τ := fun t P ht hPq htk htl => by
    rw [h114 t (by omega), if_neg (by omega)]
    unfold j_m_look_135
    obtain ⟨w, hw⟩ := m_rest (v2 := nI (c q)) (q := q) ht (n - (q + 1)) 1 (pI (pI ρ 71 24 (nI t)) 71 23 1) 100000 rfl (by omega) (by omega) (MT_cong (fun a j h => by rw [gI_ne (by omega), gI_ne (by omega)]) HM) (by rw [gI_ne (by omega), gI_ne (by omega)]; exact r22) gI_eq (by rw [gI_ne (by omega), gI_eq])
    obtain ⟨e1, e2, -⟩ := nxt_le (P := P) (n := n) (p := q) (by omega)
    rw [hw, Option.bind_some, pp, ← nxt_go (by omega) hPq]
    exact h215 _ t _ (nxt P n q - q) (by rw [gI_ne (by omega), gI_eq]) gI_eq (by rw [gI_ne (by omega), gI_ne (by omega)]; exact r22) (fun a j h => by rw [gI_ne (by omega), gI_ne (by omega)]; exact hz a j h) r2 (by omega) (by omega) rfl htk htl
  have hqn : ¬ n ≤ q := by omega
  by_cases d1 : 97 ≤ c q ∧ c q ≤ 122
  · rw [if_pos d1, if_neg (show ¬ (1 : Int32) = 0 by decide)]
    exact hmany 1 (nl c) (Or.inl ⟨rfl, rfl⟩) (fun g => nl_iff.mp g d1) (by unfold tk; rw [if_neg hqn, if_pos d1, if_neg (fun g => by omega)]) (by unfold tl; rw [if_neg hqn, if_pos d1])
  rw [if_neg d1, if_pos (show (0 : Int32) = 0 from rfl), Option.bind_some]
  by_cases d2 : 48 ≤ c q ∧ c q ≤ 57
  · rw [if_pos d2, if_neg (show ¬ (1 : Int32) = 0 by decide)]
    have hnf : ¬ nf c q = true := fun g => nf_iff.mp g d2
    refine hmany 2 (nf c) (Or.inr ⟨rfl, rfl⟩) hnf ?_ (by unfold tl; rw [if_neg hqn, if_neg d1, if_pos d2])
    unfold tk
    rw [if_neg hqn, if_neg d1, if_pos d2]
    by_cases g : fg c n (q + 1) = true
    · obtain ⟨g1, g2, g3⟩ := fg_iff.mp g
      rw [if_pos g, if_pos]
      refine ⟨rfl, ?_⟩
      rw [nxt_go (by omega) hnf, nxt_go g1 (fun x => nf_iff.mp x ⟨g2, g3⟩)]
      have := (nxt_le (P := nf c) (n := n) (p := q + 1 + 1) (by omega)).1
      omega
    · rw [if_neg g, if_neg]
      intro x
      have : nxt (nf c) n q = q + 1 := by
        rw [nxt_go (by omega) hnf]
        by_cases h : q + 1 < n
        · exact nxt_hit h (nf_iff.mpr (fun y => g (fg_iff.mpr ⟨h, y.1, y.2⟩)))
        · rw [nxt_end (by omega)]; omega
      omega
  rw [if_neg d2, if_pos (show (0 : Int32) = 0 from rfl)]
  by_cases d3 : c q = 59
  · rw [if_pos (by rw [d3]; rfl)]
    exact hone 3 (by omega) (by omega) (by unfold tk; rw [if_neg hqn, if_neg d1, if_neg d2, if_pos d3]) (by unfold tl; rw [if_neg hqn, if_neg d1, if_neg d2])
  · rw [if_neg (show ¬ nI (c q) = (59 : Int32) from fun g => d3 ((nI_eq (b := 59) (by omega) (by omega)).mp g))]
    exact hone 4 (by omega) (by omega) (by unfold tk; rw [if_neg hqn, if_neg d1, if_neg d2, if_neg d3]) (by unfold tl; rw [if_neg hqn, if_neg d1, if_neg d2])
