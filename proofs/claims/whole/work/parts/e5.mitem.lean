theorem x_item {σ0 σ : Sg} {c : Nat → Nat} {n q : Nat} {B : Nat → Nat} (W : WT B) (hq : q ≤ n) (H : XG' σ0 σ c n q B) : ∃ τ, s_TownReader_readItem σ = some τ ∧ XI σ0 τ c n (itm c n q B) := by
  obtain ⟨h1, h2, h3, h4, h5⟩ := id H
  obtain ⟨n1, n2, -⟩ := nxt_le (P := nl c) hq
  have n9 := W.2.2.1
  have n250 := h1.2.2.2.1
  rw [s_TownReader_readItem, lt_eq, h1.2.2.1, x_wordB hq h1, Option.bind_some]
  generalize hρ : pI σ 4 3 (nI (nxt (nl c) n q)) = ρ
  have Hρ : XG' σ0 ρ c n (nxt (nl c) n q) B := by
    rw [← hρ]
    exact ⟨CT_at h1, by rw [gI_ne (by omega)]; exact h2, XT_cong (fun a x y j => gI_ne (by omega)) (fun _ _ => rfl) W h3, fun a j h => by rw [gI_ne (by omega)]; exact h4 a j h, h5⟩
  have e6 : gI ρ 6 6 = nI (B 1) := Hρ.2.2.1.2.1
  have hpos : ∀ k, isw c n q k = true → nxt (nl c) n q = q + 6 := fun k h => (isw_iff.mp h).1
  have h65 : (¬ isw c n q 2 = true ∨ isw c n q 2 = true) → ∃ τ, j_TownReader_readItem_65 ρ (nI q) = some τ ∧ XI σ0 τ c n (if isw c n q 2 = true then
      match num c n (q + 6) 0 (B 1) with
      | .inl f => .inl f
      | .inr (w, q1) => if B (4 + 11 * w) = 4 then .inl (q1 - 1) else match num c n q1 0 (B 0) with
        | .inl f => .inl f
        | .inr (a, q2) => match num c n q2 0 10 with
          | .inl f => .inl f
          | .inr (h, q3) => match en c n q3 with
            | .inl f => .inl f
            | .inr q4 => .inr (q4, addE B w a h)
      else .inl q) := fun _ => by
    unfold j_TownReader_readItem_65
    rw [x_isw2 hq Hρ.1, Option.bind_some]
    by_cases a : isw c n q 2 = true
    · rw [if_pos a, if_neg (show ¬ (1 : Int32) = 0 by decide), if_pos a]
      have := hpos 2 a
      rw [this] at Hρ n2
      obtain ⟨τ, t1, t2⟩ := x_errand6 W n2 Hρ
      exact ⟨τ, by rw [t1]; rfl, t2⟩
    · rw [if_neg a, if_pos (show (0 : Int32) = 0 from rfl), if_neg a]
      exact ⟨_, rfl, ⟨nxt (nl c) n q, n2, CT_cong (σ := ρ) rfl (fun a j h => gI_ne (by omega)) Hρ.1⟩, gI_eq, hq, fun a j h => by rw [gI_ne (by omega)]; exact Hρ.2.2.2.1 a j h, Hρ.2.2.2.2⟩
  have h36 : (¬ (isw c n q 0 = true ∧ ¬ bz B = true)) → ∃ τ, j_TownReader_readItem_36 ρ (nI q) = some τ ∧ XI σ0 τ c n (itm c n q B) := fun hn => by
    unfold j_TownReader_readItem_36 itm
    rw [x_isw1 hq Hρ.1, Option.bind_some, if_neg hn]
    by_cases a : isw c n q 1 = true
    · rw [if_pos a, if_neg (show ¬ (1 : Int32) = 0 by decide), e6]
      by_cases b : B 1 < 9
      · rw [if_neg (by show ¬ nI 9 ≤ nI (B 1); rw [nI_leI (by omega) (by omega)]; omega), if_pos ⟨a, b⟩]
        have := hpos 1 a
        rw [this] at Hρ n2
        obtain ⟨τ, t1, t2⟩ := x_person6 W n2 b Hρ
        exact ⟨τ, by rw [t1]; rfl, t2⟩
      · rw [if_pos (by show nI 9 ≤ nI (B 1); rw [nI_leI (by omega) (by omega)]; omega), if_neg (fun g => b g.2)]
        exact h65 (Classical.em _).symm
    · rw [if_neg a, if_pos (show (0 : Int32) = 0 from rfl), if_neg (fun g => a g.1)]
      exact h65 (Classical.em _).symm
  rw [x_isw0 hq Hρ.1, Option.bind_some]
  by_cases a : isw c n q 0 = true
  · rw [if_pos a, if_neg (show ¬ (1 : Int32) = 0 by decide)]
    obtain ⟨v, v1, v2⟩ := x_errs6 W Hρ.2.2.1
    rw [v1, Option.bind_some]
    by_cases b : bz B = true
    · rw [if_neg (fun g => v2.mp g b)]
      exact h36 (fun g => g.2 b)
    · rw [if_pos (v2.mpr b)]
      unfold itm
      rw [if_pos ⟨a, b⟩]
      have := hpos 0 a
      rw [this] at Hρ n2
      obtain ⟨τ, t1, t2⟩ := x_places W n2 Hρ
      exact ⟨τ, by rw [t1]; rfl, t2⟩
  · rw [if_neg a, if_pos (show (0 : Int32) = 0 from rfl)]
    exact h36 (fun g => a g.1)
/-! the reference's item -/
def MN (σ : Sg) (B : Nat → Nat) : Prop := ∀ j, j < 101 → gI σ 89 j = nI (B j)
def FR (σ τ : Sg) : Prop := (∀ a j, ¬ (a = 89 ∨ a = 71 ∧ 22 ≤ j ∧ j ≤ 28) → gI τ a j = gI σ a j) ∧ τ.2 = σ.2
theorem FU_FR {σ τ κ : Sg} (h : FR σ τ) (k : FU τ κ) : FR σ κ := ⟨fun a j q => (k.1 a j (by omega)).trans (h.1 a j q), k.2.trans h.2⟩
theorem MN_FU {σ τ : Sg} {B : Nat → Nat} (h : FU σ τ) (H : MN σ B) : MN τ B := fun j hj => (h.1 _ _ (by omega)).trans (H j hj)
theorem m_layP {σ : Sg} {B : Nat → Nat} {k v : Nat} (W : WT B) (hN : B 1 < 9) (H : MN σ B) : ∃ τ, s_m_layPerson_89 σ (nI k) (nI v) = some τ ∧ MN τ (addP B k v) ∧ (∀ a j, ¬ a = 89 → gI τ a j = gI σ a j) ∧ τ.2 = σ.2 := by
  obtain ⟨f1, f2, f3, f4, f5⟩ := addP_f (B := B) (k := k) (v := v)
  have e1 : gI σ 89 1 = nI (B 1) := H 1 (by omega)
  refine ⟨pI (pI (pI (pI σ 89 (2 + 11 * B 1) (nI k)) 89 (3 + 11 * B 1) (nI v)) 89 (4 + 11 * B 1) (nI 0)) 89 1 (nI (B 1 + 1)), ?_, fun j hj => ?_, fun a j h => by rw [gI_ne (by omega), gI_ne (by omega), gI_ne (by omega), gI_ne (by omega)], rfl⟩
  · rw [s_m_layPerson_89, lt_eq, va_cl1, e1, mul11, show nI (2 + 11 * B 1) + 0 = nI (2 + 11 * B 1) from nI_add _ 0, show nI (2 + 11 * B 1) + 1 = nI (3 + 11 * B 1) from by rw [nI_1]; congr 1; omega, show nI (2 + 11 * B 1) + 2 = nI (4 + 11 * B 1) from by rw [show nI (2 + 11 * B 1) + 2 = nI (2 + 11 * B 1 + 2) from nI_add _ 2]; congr 1; omega, if_pos (inB_nI (by omega) (by omega)), lt_eq, if_pos (inB_nI (by omega) (by omega)), lt_eq, if_pos (inB_nI (by omega) (by omega)), lt_eq, lt_eq, nI_clamp (by omega), nI_clamp (by omega), nI_clamp (by omega), gI_ne (by omega), gI_ne (by omega), gI_ne (by omega), e1, nI_1]; rfl
  · by_cases c1 : j = 1
    · subst c1; rw [gI_eq, f1]
    · rw [gI_ne (by omega)]
      by_cases c2 : j = 4 + 11 * B 1
      · subst c2; rw [gI_eq, f4]
      · rw [gI_ne (by omega)]
        by_cases c3 : j = 3 + 11 * B 1
        · subst c3; rw [gI_eq, f3]
        · rw [gI_ne (by omega)]
          by_cases c4 : j = 2 + 11 * B 1
          · subst c4; rw [gI_eq, f2]
          · rw [gI_ne (by omega), f5 j (by omega)]; exact H j hj
theorem m_layE {σ : Sg} {B : Nat → Nat} {w a h : Nat} (W : WT B) (hw : w < B 1) (he : B (4 + 11 * w) < 4) (H : MN σ B) : ∃ τ, s_m_layErrand_89 σ (nI w) (nI a) (nI h) = some τ ∧ MN τ (addE B w a h) ∧ (∀ a j, ¬ a = 89 → gI τ a j = gI σ a j) ∧ τ.2 = σ.2 := by
  obtain ⟨f1, f2, f3, f5⟩ := addE_f (B := B) (w := w) (a := a) (h := h)
  have n9 := W.2.2.1
  have e4 : gI σ 89 (4 + 11 * w) = nI (B (4 + 11 * w)) := H _ (by omega)
  refine ⟨pI (pI (pI σ 89 (5 + 11 * w + 2 * B (4 + 11 * w)) (nI a)) 89 (6 + 11 * w + 2 * B (4 + 11 * w)) (nI h)) 89 (4 + 11 * w) (nI (B (4 + 11 * w) + 1)), ?_, fun j hj => ?_, fun a j h => by rw [gI_ne (by omega), gI_ne (by omega), gI_ne (by omega)], rfl⟩
  · have i2 : nI (2 + 11 * w) + 2 = nI (4 + 11 * w) := by rw [show nI (2 + 11 * w) + 2 = nI (2 + 11 * w + 2) from nI_add _ 2]; congr 1; omega
    have i3 : nI (2 + 11 * w) + 3 + 2 * nI (B (4 + 11 * w)) = nI (5 + 11 * w + 2 * B (4 + 11 * w)) := by rw [show (2 : Int32) * nI (B (4 + 11 * w)) = nI (2 * B (4 + 11 * w)) from (Int32.ofNat_mul 2 _).symm, show nI (2 + 11 * w) + 3 = nI (2 + 11 * w + 3) from nI_add _ 3, nI_add]; congr 1; omega
    have i4 : nI (5 + 11 * w + 2 * B (4 + 11 * w)) + 1 = nI (6 + 11 * w + 2 * B (4 + 11 * w)) := by rw [nI_1]; congr 1; omega
    rw [s_m_layErrand_89, lt_eq, mul11, i2, if_pos (inB_nI (by omega) (by omega)), lt_eq, nI_clamp (by omega), e4, i3, i4, if_pos (inB_nI (by omega) (by omega)), lt_eq, if_pos (inB_nI (by omega) (by omega)), lt_eq, if_pos (inB_nI (by omega) (by omega)), if_pos (inB_nI (by omega) (by omega)), lt_eq, nI_clamp (by omega), nI_clamp (by omega), gI_ne (by omega), gI_ne (by omega), e4, nI_1]
  · by_cases c1 : j = 4 + 11 * w
    · subst c1; rw [gI_eq, f1]
    · rw [gI_ne (by omega)]
      by_cases c2 : j = 6 + 11 * w + 2 * B (4 + 11 * w)
      · subst c2; rw [gI_eq, f3]
      · rw [gI_ne (by omega)]
        by_cases c3 : j = 5 + 11 * w + 2 * B (4 + 11 * w)
        · subst c3; rw [gI_eq, f2]
        · rw [gI_ne (by omega), f5 j (by omega)]; exact H j hj
theorem m_num {σ : Sg} {c : Nat → Nat} {n p lo hi : Nat} (H : MT σ c n) (T : TK σ c n (nxt (nb c) n p)) (hlo : lo ≤ 9) (hhi : hi < 100) : match num c n p lo hi with
    | .inl f => s_m_takes σ (nI lo) (nI hi - 1) = some (0, σ) ∧ f = nxt (nb c) n p
    | .inr (v, q) => ∃ τ, s_m_takes σ (nI lo) (nI hi - 1) = some (1, τ) ∧ gI τ 71 28 = nI v ∧ TK τ c n (nxt (nb c) n q) ∧ FU σ τ := by
  have ht := m_takes H T hlo hhi
  rw [num_eq]
  by_cases a : tk c n (nxt (nb c) n p) = 2 ∧ lo ≤ c (nxt (nb c) n p) - 48 ∧ c (nxt (nb c) n p) - 48 < hi
  · rw [if_pos a] at ht ⊢; exact ht
  · rw [if_neg a] at ht ⊢; exact ⟨ht, rfl⟩
/-- what the reference's item does -/
def MO (σ0 τ : Sg) (u : Int32) (c : Nat → Nat) (n : Nat) : Nat ⊕ (Nat × (Nat → Nat)) → Prop
  | .inl f => (u = 0 ∨ u = 1 ∧ ¬ gI τ 71 24 = 3) ∧ gI τ 71 22 = nI f ∧ FR σ0 τ
  | .inr (p, B) => u = 1 ∧ gI τ 71 24 = 3 ∧ gI τ 71 22 + gI τ 71 23 = nI p ∧ MN τ B ∧ (gI τ 71 27 = 0 ↔ ¬ bz B = true) ∧ FR σ0 τ
theorem m_end {σ0 τ : Sg} {c : Nat → Nat} {n p : Nat} {B : Nat → Nat} (T : TK τ c n (nxt (nb c) n p)) (hN : MN τ B) (hf : gI τ 71 27 = 0 ↔ ¬ bz B = true) (hF : FR σ0 τ) : MO σ0 τ 1 c n (match en c n p with
    | .inl f => .inl f
    | .inr q => .inr (q, B)) := by
  obtain ⟨t1, t2, t3, t4, -⟩ := T
  have hle := tk_le (c := c) (n := n) (q := nxt (nb c) n p)
  unfold en
  by_cases a : nxt (nb c) n p < n ∧ c (nxt (nb c) n p) = 59
  · have h3 := tk3_iff.mpr a
    rw [if_pos a]
    refine ⟨rfl, by rw [t3, h3]; rfl, ?_, hN, hf, hF⟩
    have : tl c n (nxt (nb c) n p) = 1 := by
      unfold tl; rw [if_neg (by omega), if_neg (by omega), if_neg (by omega)]
    rw [t2, t4, this, nI_add]
  · rw [if_neg a]
    refine ⟨Or.inr ⟨rfl, fun g => a (tk3_iff.mp ?_)⟩, t2, hF⟩
    rw [t3] at g
    exact (nI_eq (b := 3) (by omega) (by omega)).mp g
theorem isw_ex {c : Nat → Nat} {n q : Nat} : (isw c n q 0 = true → ¬ isw c n q 1 = true ∧ ¬ isw c n q 2 = true) ∧ (isw c n q 1 = true → ¬ isw c n q 0 = true ∧ ¬ isw c n q 2 = true) := by
  have h01 : isw c n q 0 = true → ¬ isw c n q 1 = true := fun a b => by
    have x := (isw_iff.mp a).2 1 (by omega)
    have y := (isw_iff.mp b).2 1 (by omega)
    rw [x] at y; exact absurd y (by decide)
  have h02 : isw c n q 0 = true → ¬ isw c n q 2 = true := fun a b => by
    have x := (isw_iff.mp a).2 0 (by omega)
    have y := (isw_iff.mp b).2 0 (by omega)
    rw [x] at y; exact absurd y (by decide)
  have h12 : isw c n q 1 = true → ¬ isw c n q 2 = true := fun a b => by
    have x := (isw_iff.mp a).2 0 (by omega)
    have y := (isw_iff.mp b).2 0 (by omega)
    rw [x] at y; exact absurd y (by decide)
  exact ⟨fun a => ⟨h01 a, h02 a⟩, fun a => ⟨fun b => h01 b a, h12 a⟩⟩
theorem isw_tl {c : Nat → Nat} {n q k : Nat} (hk : k < 3) (hq : q ≤ n) (h : isw c n q k = true) : tl c n q = 6 ∧ q + 6 ≤ n := by
  obtain ⟨g1, g2⟩ := isw_iff.mp h
  have n2 := (nxt_le (P := nl c) hq).2.1
  have := g2 0 (by omega)
  have hc : 97 ≤ c q ∧ c q ≤ 122 := by
    rw [Nat.add_zero] at this
    rw [this]
    have k3 : k = 0 ∨ k = 1 ∨ k = 2 := by omega
    rcases k3 with rfl | rfl | rfl <;> decide
  unfold tl
  rw [if_neg (by omega), if_pos hc]; omega
theorem m_item {σ0 σ : Sg} {c : Nat → Nat} {n q : Nat} {B : Nat → Nat} (W : WT B) (H : MT σ c n) (T : TK σ c n q) (hN : MN σ B) (hfl : gI σ 71 27 = 0 ↔ ¬ bz B = true) (hF : FR σ0 σ) : ∃ u τ, s_m_readsItem σ = some (u, τ) ∧ MO σ0 τ u c n (itm c n q B) := by
  have n9 := W.2.2.1
  have n6 := W.2.1
  have hq : q ≤ n := T.1
  have w0 : s_m_isWord σ 112 108 97 99 101 115 = _ := m_isw (k := 0) (by omega) H T
  have w1 : s_m_isWord σ 112 101 114 115 111 110 = _ := m_isw (k := 1) (by omega) H T
  have w2 : s_m_isWord σ 101 114 114 97 110 100 = _ := m_isw (k := 2) (by omega) H T
  obtain ⟨x0, x1⟩ := isw_ex (c := c) (n := n) (q := q)
  rw [s_m_readsItem, w0, Option.bind_some, w1, w2]
  unfold itm
  by_cases a : isw c n q 0 = true
  · rw [if_pos a, if_neg (show ¬ (1 : Int32) = 0 by decide)]
    by_cases b : bz B = true
    · rw [if_neg (fun g => hfl.mp g b), if_neg (fun g => g.2 b), if_neg (fun g => (x0 a).1 g.1), if_neg (x0 a).2]
      exact ⟨0, σ, rfl, Or.inl rfl, T.2.1, hF⟩
    · rw [if_pos (hfl.mpr b), if_pos ⟨a, b⟩]
      obtain ⟨l6, q6⟩ := isw_tl (by omega) hq a
      obtain ⟨τ, t1, t2, t3⟩ := m_goNext H T (by rw [l6]; exact q6)
      rw [l6] at t2
      have Ht := MT_FU (FT_FU t3) H
      have hn := m_num (lo := 1) (hi := 7) Ht t2 (by omega) (by omega)
      rw [t1, Option.bind_some]
      show ∃ u κ, ((s_m_takes τ (nI 1) (nI 7 - 1)).bind fun q12 => if q12.1 &&& 1 = q12.1 then some (q12.1, pI q12.2 89 0 (gI q12.2 71 28)) else none) = some (u, κ) ∧ _
      cases hh : num c n (q + 6) 1 7 with
      | inl f =>
        rw [hh] at hn
        obtain ⟨m1, m2⟩ := hn
        rw [m1, Option.bind_some, if_pos (show (0 : Int32) &&& 1 = 0 by decide)]
        refine ⟨0, _, rfl, Or.inl rfl, ?_, ⟨fun a j h => by rw [gI_ne (by omega), t3.1 a j (by omega)]; exact hF.1 a j h, t3.2.trans hF.2⟩⟩
        rw [gI_ne (by omega), t2.2.1, m2]
      | inr vq =>
        obtain ⟨v, q1⟩ := vq
        obtain ⟨-, b3, b4, -⟩ := (num_b (c := c) (lo := 1) (hi := 7) q6).2 v q1 hh
        rw [hh] at hn
        obtain ⟨κ, m1, m2, m3, m4⟩ := hn
        rw [m1, Option.bind_some, if_pos (show (1 : Int32) &&& 1 = 1 by decide)]
        refine ⟨1, pI κ 89 0 (gI κ 71 28), rfl, ?_⟩
        have hB := WT_pl W b b3 (show v ≤ 6 by omega)
        exact m_end ⟨m3.1, by rw [gI_ne (by omega)]; exact m3.2.1, by rw [gI_ne (by omega)]; exact m3.2.2.1, by rw [gI_ne (by omega)]; exact m3.2.2.2.1, fun x y => by rw [gI_ne (by omega)]; exact m3.2.2.2.2 x y⟩ (fun j hj => by
          by_cases e : j = 0
          · subst e; rw [gI_eq, updA_eq rfl, m2]
          · rw [gI_ne (by omega), updA_ne e, m4.1 _ _ (by omega), t3.1 _ _ (by omega)]; exact hN j hj) (by
          rw [gI_ne (by omega), m4.1 _ _ (by omega), t3.1 _ _ (by omega)]
          exact ⟨fun _ => hB.2, fun _ => hfl.mpr b⟩) ⟨fun a j h => by rw [gI_ne (by omega), m4.1 _ _ (by omega), t3.1 a j (by omega)]; exact hF.1 a j h, m4.2.trans (t3.2.trans hF.2)⟩
  rw [if_neg a, if_pos (show (0 : Int32) = 0 from rfl), Option.bind_some, if_neg (show ¬ (isw c n q 0 = true ∧ ¬ bz B = true) from fun g => a g.1)]
  by_cases a1 : isw c n q 1 = true
  · rw [if_pos a1, if_neg (show ¬ (1 : Int32) = 0 by decide), s_m_readsPerson, va_cl1, hN 1 (by omega)]
    by_cases b : B 1 = 9
    · rw [if_pos (show nI (B 1) = 9 by rw [b]; rfl), if_neg (show ¬ (isw c n q 1 = true ∧ B 1 < 9) from fun g => by omega), if_neg (x1 a1).2, Option.bind_some, if_pos (show (0 : Int32) &&& 1 = 0 by decide)]
      exact ⟨0, σ, rfl, Or.inl rfl, T.2.1, hF⟩
    · rw [if_neg (show ¬ nI (B 1) = (9 : Int32) from fun g => b ((nI_eq (b := 9) (by omega) (by omega)).mp g)), if_pos ⟨a1, by omega⟩]
      obtain ⟨l6, q6⟩ := isw_tl (by omega) hq a1
      obtain ⟨τ, t1, t2, t3⟩ := m_goNext H T (by rw [l6]; exact q6)
      rw [l6] at t2
      have Ht := MT_FU (FT_FU t3) H
      have hFt := FU_FR hF (FT_FU t3)
      have hn := m_num (lo := 0) (hi := 5) Ht t2 (by omega) (by omega)
      rw [t1, Option.bind_some]
      show ∃ u κ, (((s_m_takes τ (nI 0) (nI 5 - 1)).bind fun q3 => if q3.1 = 0 then some (0, q3.2) else (s_m_takes q3.2 (nI 1) (nI 10 - 1)).bind fun q6 => if q6.1 = 0 then some (0, q6.2) else (s_m_layPerson_89 q6.2 (gI q3.2 71 28) (gI q6.2 71 28)).bind fun q8 => some (1, q8)).bind fun q9 => if q9.1 &&& 1 = q9.1 then some (q9.1, q9.2) else none) = some (u, κ) ∧ _
      cases hh : num c n (q + 6) 0 5 with
      | inl f =>
        rw [hh] at hn
        obtain ⟨m1, m2⟩ := hn
        rw [m1, Option.bind_some, if_pos rfl, Option.bind_some, if_pos (show (0 : Int32) &&& 1 = 0 by decide)]
        exact ⟨0, τ, rfl, Or.inl rfl, by rw [t2.2.1, m2], hFt⟩
      | inr vq =>
        obtain ⟨k, q1⟩ := vq
        obtain ⟨⟨c1, c2⟩, b3, b4, -⟩ := (num_b (c := c) (lo := 0) (hi := 5) q6).2 k q1 hh
        rw [hh] at hn
        obtain ⟨κ, m1, m2, m3, m4⟩ := hn
        have Hk := MT_FU m4 Ht
        have hFk := FU_FR hFt m4
        have hn2 := m_num (lo := 1) (hi := 10) Hk m3 (by omega) (by omega)
        rw [m1, Option.bind_some, if_neg (show ¬ (1 : Int32) = 0 by decide), m2]
        show ∃ u ω, (((s_m_takes κ (nI 1) (nI 10 - 1)).bind fun q6 => if q6.1 = 0 then some (0, q6.2) else (s_m_layPerson_89 q6.2 (nI k) (gI q6.2 71 28)).bind fun q8 => some (1, q8)).bind fun q9 => if q9.1 &&& 1 = q9.1 then some (q9.1, q9.2) else none) = some (u, ω) ∧ MO σ0 ω u c n (match num c n q1 1 10 with
          | .inl f => .inl f
          | .inr (v, q2) => match en c n q2 with
            | .inl f => .inl f
            | .inr q3 => .inr (q3, addP B k v))
        cases hh2 : num c n q1 1 10 with
        | inl f =>
          rw [hh2] at hn2
          obtain ⟨p1, p2⟩ := hn2
          rw [p1, Option.bind_some, if_pos rfl, Option.bind_some, if_pos (show (0 : Int32) &&& 1 = 0 by decide)]
          exact ⟨0, κ, rfl, Or.inl rfl, by rw [m3.2.1, p2], hFk⟩
        | inr vq =>
          obtain ⟨v, q2⟩ := vq
          obtain ⟨⟨c3, c4⟩, b5, b6, -⟩ := (num_b (c := c) (lo := 1) (hi := 10) c2).2 v q2 hh2
          rw [hh2] at hn2
          obtain ⟨ω, p1, p2, p3, p4⟩ := hn2
          have hFo := FU_FR hFk p4
          have hNo : MN ω B := MN_FU p4 (MN_FU m4 (MN_FU (FT_FU t3) hN))
          obtain ⟨ψ, r1, r2, r3, r4⟩ := m_layP (k := k) (v := v) W (by omega) hNo
          rw [p1, Option.bind_some, if_neg (show ¬ (1 : Int32) = 0 by decide), p2, r1, Option.bind_some, Option.bind_some, if_pos (show (1 : Int32) &&& 1 = 1 by decide)]
          refine ⟨1, ψ, rfl, ?_⟩
          exact m_end ⟨p3.1, by rw [r3 _ _ (by omega)]; exact p3.2.1, by rw [r3 _ _ (by omega)]; exact p3.2.2.1, by rw [r3 _ _ (by omega)]; exact p3.2.2.2.1, fun x y => by rw [r3 _ _ (by omega)]; exact p3.2.2.2.2 x y⟩ r2 (by
            rw [r3 _ _ (by omega), p4.1 _ _ (by omega), m4.1 _ _ (by omega), t3.1 _ _ (by omega), bz_addP]; exact hfl) ⟨fun a j h => by rw [r3 _ _ (by omega)]; exact hFo.1 a j h, r4.trans hFo.2⟩
  rw [if_neg a1, if_pos (show (0 : Int32) = 0 from rfl), Option.bind_some, if_neg (show ¬ (isw c n q 1 = true ∧ B 1 < 9) from fun g => a1 g.1)]
  by_cases a2 : isw c n q 2 = true
  rotate_left
  · rw [if_neg a2, if_pos (show (0 : Int32) = 0 from rfl), if_neg a2]
    exact ⟨0, σ, rfl, Or.inl rfl, T.2.1, hF⟩
  rw [if_pos a2, if_neg (show ¬ (1 : Int32) = 0 by decide), if_pos a2, s_m_readsErrand, lt_eq]
  obtain ⟨l6, q6⟩ := isw_tl (by omega) hq a2
  have H1 : MT (pI σ 71 27 1) c n := MT_cong (fun a j h => gI_ne (by omega)) H
  have T1 : TK (pI σ 71 27 1) c n q := ⟨T.1, by rw [gI_ne (by omega)]; exact T.2.1, by rw [gI_ne (by omega)]; exact T.2.2.1, by rw [gI_ne (by omega)]; exact T.2.2.2.1, fun x y => by rw [gI_ne (by omega)]; exact T.2.2.2.2 x y⟩
  obtain ⟨τ, t1, t2, t3⟩ := m_goNext H1 T1 (by rw [l6]; exact q6)
  rw [l6] at t2
  have Ht := MT_FU (FT_FU t3) H1
  have hFt : FR σ0 τ := ⟨fun a j h => by rw [t3.1 a j (by omega), gI_ne (by omega)]; exact hF.1 a j h, t3.2.trans hF.2⟩
  have hNt : MN τ B := fun j hj => by rw [t3.1 _ _ (by omega), gI_ne (by omega)]; exact hN j hj
  have h27 : gI τ 71 27 = 1 := by rw [t3.1 _ _ (by omega), gI_eq]
  rw [t1, Option.bind_some, num_eq]
  have n2 := (nxt_le (P := nb c) q6).2.1
  generalize nxt (nb c) n (q + 6) = z at *
  obtain ⟨z1, z2, z3, z4, z5⟩ := id t2
  have hle := tk_le (c := c) (n := n) (q := z)
  -- a refusal at z
  have hno : ∀ X : Option (Int32 × Sg), X = some (0, τ) → ∃ u κ, (X.bind fun q7 => if q7.1 = 0 then some (0, q7.2) else some (1, q7.2)) = some (u, κ) ∧ MO σ0 κ u c n (.inl z) := fun X hX => by
    rw [hX, Option.bind_some, if_pos rfl]; exact ⟨0, τ, rfl, Or.inl rfl, z2, hFt⟩
  by_cases b : tk c n z = 2
  rotate_left
  · rw [if_neg (show ¬ (tk c n z = 2 ∧ 0 ≤ c z - 48 ∧ c z - 48 < B 1) from fun g => b g.1)]
    refine hno _ ?_
    rw [z3, if_neg (show ¬ nI (tk c n z) = (2 : Int32) from fun g => b ((nI_eq (b := 2) (by omega) (by omega)).mp g))]
  obtain ⟨f1, f2, f3⟩ := fg_iff.mp (tk2_iff.mp b).1
  have hv := z5 f1 ⟨f2, f3⟩
  by_cases d : c z - 48 < B 1
  rotate_left
  · rw [if_neg (show ¬ (tk c n z = 2 ∧ 0 ≤ c z - 48 ∧ c z - 48 < B 1) from fun g => d g.2.2)]
    refine hno _ ?_
    rw [z3, if_pos (by rw [b]; rfl), va_cl1, hNt 1 (by omega), hv, if_pos (by rw [nI_leI (by omega) (by omega)]; omega)]
  rw [if_pos (show tk c n z = 2 ∧ 0 ≤ c z - 48 ∧ c z - 48 < B 1 from ⟨b, Nat.zero_le _, d⟩)]
  have hE := (W.2.2.2 (c z - 48) d).2.2.2.1
  have hi : (2 : Int32) + 11 * nI (c z - 48) + 2 = nI (4 + 11 * (c z - 48)) := by
    rw [mul11, show nI (2 + 11 * (c z - 48)) + 2 = nI (2 + 11 * (c z - 48) + 2) from nI_add _ 2]; congr 1; omega
  have hchk : ∀ X Y : Option (Int32 × Sg), (if gI τ 71 24 = 2 then (if gI τ 89 (Int32.toNatClampNeg 1) ≤ gI τ 71 25 then some (0, τ) else (if inB ((2 + (11 * (gI τ 71 25))) + 2) 101 = true then (if gI τ 89 (Int32.toNatClampNeg ((2 + (11 * (gI τ 71 25))) + 2)) = 4 then some (0, τ) else X) else none)) else Y) = if B (4 + 11 * (c z - 48)) = 4 then some (0, τ) else X := fun X Y => by
    rw [z3, if_pos (show nI (tk c n z) = 2 by rw [b]; rfl), va_cl1, hNt 1 (by omega), hv, if_neg (by rw [nI_leI (by omega) (by omega)]; omega), hi, if_pos (inB_nI (by omega) (by omega)), nI_clamp (by omega), hNt _ (by omega)]
    by_cases e : B (4 + 11 * (c z - 48)) = 4
    · rw [if_pos e, if_pos (by rw [e]; rfl)]
    · rw [if_neg e, if_neg (show ¬ nI (B (4 + 11 * (c z - 48))) = (4 : Int32) from fun g => e ((nI_eq (b := 4) (by omega) (by omega)).mp g))]
  rw [hchk]
  by_cases e : B (4 + 11 * (c z - 48)) = 4
  · show ∃ u κ, _ ∧ MO σ0 κ u c n (if B (4 + 11 * (c z - 48)) = 4 then .inl (z + 1 - 1) else _)
    rw [if_pos e, if_pos e, Nat.add_sub_cancel]
    exact hno _ rfl
  obtain ⟨κ, k1, k2, k3⟩ := m_goNext Ht t2 (by rw [tl2 b]; omega)
  rw [tl2 b] at k2
  have Hk := MT_FU (FT_FU k3) Ht
  have hFk := FU_FR hFt (FT_FU k3)
  have hNk : MN κ B := MN_FU (FT_FU k3) hNt
  have hn2 := m_num (lo := 0) (hi := B 0) Hk k2 (by omega) (by omega)
  rw [if_neg e, lt_eq, hv, k1, Option.bind_some, va_cl0, hNk 0 (by omega)]
  show ∃ u ω, (((s_m_takes κ (nI 0) (nI (B 0) - 1)).bind fun q9 => if q9.1 = 0 then some ((0 : Int32), q9.2) else (s_m_takes q9.2 (nI 0) (nI 10 - 1)).bind fun q12 => if q12.1 = 0 then some ((0 : Int32), q12.2) else (s_m_layErrand_89 q12.2 (nI (c z - 48)) (gI q9.2 71 28) (gI q12.2 71 28)).bind fun q14 => some ((1 : Int32), q14)).bind fun q7 => if q7.1 = 0 then some ((0 : Int32), q7.2) else some ((1 : Int32), q7.2)) = some (u, ω) ∧ MO σ0 ω u c n (if B (4 + 11 * (c z - 48)) = 4 then .inl (z + 1 - 1) else match num c n (z + 1) 0 (B 0) with
      | .inl f => .inl f
      | .inr (a, q2) => match num c n q2 0 10 with
        | .inl f => .inl f
        | .inr (h, q3) => match en c n q3 with
          | .inl f => .inl f
          | .inr q4 => .inr (q4, addE B (c z - 48) a h))
  rw [if_neg e]
  cases hh : num c n (z + 1) 0 (B 0) with
  | inl f =>
    rw [hh] at hn2
    obtain ⟨m1, m2⟩ := hn2
    rw [m1, Option.bind_some, if_pos rfl, Option.bind_some, if_pos rfl]
    exact ⟨0, κ, rfl, Or.inl rfl, by rw [k2.2.1, m2], hFk⟩
  | inr vq =>
    obtain ⟨aa, q1⟩ := vq
    obtain ⟨⟨c1, c2⟩, b3, b4, -⟩ := (num_b (c := c) (lo := 0) (hi := B 0) (show z + 1 ≤ n by omega)).2 aa q1 hh
    rw [hh] at hn2
    obtain ⟨ω, m1, m2, m3, m4⟩ := hn2
    have Ho := MT_FU m4 Hk
    have hFo := FU_FR hFk m4
    have hn3 := m_num (lo := 0) (hi := 10) Ho m3 (by omega) (by omega)
    rw [m1, Option.bind_some, if_neg (show ¬ (1 : Int32) = 0 by decide), m2]
    show ∃ u φ, (((s_m_takes ω (nI 0) (nI 10 - 1)).bind fun q12 => if q12.1 = 0 then some ((0 : Int32), q12.2) else (s_m_layErrand_89 q12.2 (nI (c z - 48)) (nI aa) (gI q12.2 71 28)).bind fun q14 => some ((1 : Int32), q14)).bind fun q7 => if q7.1 = 0 then some ((0 : Int32), q7.2) else some ((1 : Int32), q7.2)) = some (u, φ) ∧ MO σ0 φ u c n (match num c n q1 0 10 with
        | .inl f => .inl f
        | .inr (h, q3) => match en c n q3 with
          | .inl f => .inl f
          | .inr q4 => .inr (q4, addE B (c z - 48) aa h))
    cases hh2 : num c n q1 0 10 with
    | inl f =>
      rw [hh2] at hn3
      obtain ⟨p1, p2⟩ := hn3
      rw [p1, Option.bind_some, if_pos rfl, Option.bind_some, if_pos rfl]
      exact ⟨0, ω, rfl, Or.inl rfl, by rw [m3.2.1, p2], hFo⟩
    | inr vq =>
      obtain ⟨h, q2⟩ := vq
      rw [hh2] at hn3
      obtain ⟨φ, p1, p2, p3, p4⟩ := hn3
      have hFp := FU_FR hFo p4
      have hNp : MN φ B := MN_FU p4 (MN_FU m4 hNk)
      obtain ⟨ψ, r1, r2, r3, r4⟩ := m_layE (a := aa) (h := h) W d (by omega) hNp
      rw [p1, Option.bind_some, if_neg (show ¬ (1 : Int32) = 0 by decide), p2, r1, Option.bind_some, Option.bind_some, if_neg (show ¬ (1 : Int32) = 0 by decide)]
      refine ⟨1, ψ, rfl, ?_⟩
      exact m_end ⟨p3.1, by rw [r3 _ _ (by omega)]; exact p3.2.1, by rw [r3 _ _ (by omega)]; exact p3.2.2.1, by rw [r3 _ _ (by omega)]; exact p3.2.2.2.1, fun x y => by rw [r3 _ _ (by omega)]; exact p3.2.2.2.2 x y⟩ r2 (by
        rw [r3 _ _ (by omega), p4.1 _ _ (by omega), m4.1 _ _ (by omega), k3.1 _ _ (by omega), h27, bz_addE d]
        exact ⟨fun g => absurd g (by decide), fun g => absurd rfl g⟩) ⟨fun a j h => by rw [r3 _ _ (by omega)]; exact hFp.1 a j h, r4.trans hFp.2⟩
