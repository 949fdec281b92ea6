def bNf (t : Nat) : Nat := t % 2 + t / 2 % 2 + t / 4 % 2 + t / 8 % 2 + t / 16 % 2 + t / 32 % 2 + t / 64 % 2 + t / 128 % 2 + t / 256 % 2
theorem bNf_ok : ∀ t, t < 512 → bNf t = bN t := by decide +kernel
def okT (l t : Nat) : Bool := tieB t l && Nat.beq (bNf t) 3
def oN (l : Nat) : Option Nat → Nat
  | none => l + 1
  | some t => t
theorem next_b {l k : Nat} (hl : l < 512) (h0 : l ≠ 0) (hk : k ≤ l) : b_m_nextThree_9 (nI l) (nI (lowN l)) (nI k) = if okT l k = true then some (.inr (nI k)) else some (.inl (nI (k + 1))) := by
  obtain ⟨-, -, -, l4, -⟩ := low_ok l hl h0
  have d5 := dif_lt (l := k) (t := l) (by omega)
  have a5 : k &&& lowN l < 512 := Nat.lt_of_le_of_lt Nat.and_le_left (by omega)
  have hc := bN_ok k (by omega)
  unfold b_m_nextThree_9
  rw [if_neg (by rw [nI_ltI (by omega) (by omega)]; omega), nI_dif, nI_and, hc.1, Option.bind_some, lt_eq, nI_1]
  unfold okT tieB
  rw [bNf_ok k (by omega)]
  by_cases c : dif k l = 0
  · rw [if_pos (by rw [c]; rfl), c]
    by_cases d : k &&& lowN l = 0
    · rw [if_pos (by rw [d]; rfl), d]; rfl
    · rw [if_neg (nI_ne0 (by omega) (by omega))]
      have e1 : Nat.beq (k &&& lowN l) 0 = false := by cases h : Nat.beq (k &&& lowN l) 0; rfl; exact absurd (Nat.eq_of_beq_eq_true h) d
      rw [e1]
      by_cases e : bN k = 3
      · rw [if_pos (by rw [e]; rfl), e]; rfl
      · rw [if_neg (show ¬ nI (bN k) = (3 : Int32) from fun q => e ((nI_eq (b := 3) (by omega) (by omega)).mp q))]
        have e2 : Nat.beq (bN k) 3 = false := by cases h : Nat.beq (bN k) 3; rfl; exact absurd (Nat.eq_of_beq_eq_true h) e
        rw [e2]; rfl
  · rw [if_neg (nI_ne0 (by omega) (by omega))]
    have e1 : Nat.beq (dif k l) 0 = false := by cases h : Nat.beq (dif k l) 0; rfl; exact absurd (Nat.eq_of_beq_eq_true h) c
    rw [e1]; rfl
theorem next_lp {l : Nat} (hl : l < 512) (h0 : l ≠ 0) : ∀ m k F, m < F → l + 1 - k = m → k < 2000 → ∃ o, lp (b_m_nextThree_9 (nI l) (nI (lowN l))) F (nI k) = some (nI o) ∧ (match fst1 (okT l) k m with | none => l < o ∧ o < 2000 | some t => o = t) := by
  intro m
  induction m with
  | zero =>
    intro k F hF hk hk5
    obtain ⟨f, rfl⟩ : ∃ f, F = f + 1 := ⟨F - 1, by omega⟩
    refine ⟨k, lp_end ?_, by show l < k ∧ k < 2000; omega⟩
    unfold b_m_nextThree_9
    rw [if_pos (by rw [nI_ltI (by omega) (by omega)]; omega)]
  | succ m ih =>
    intro k F hF hk hk5
    obtain ⟨f, rfl⟩ : ∃ f, F = f + 1 := ⟨F - 1, by omega⟩
    have hb := next_b hl h0 (k := k) (by omega)
    rw [fst1]
    by_cases c : okT l k = true
    · rw [if_pos c] at hb
      rw [if_pos c]
      exact ⟨k, lp_end hb, rfl⟩
    · rw [if_neg c] at hb
      rw [if_neg c, lp_step hb]
      exact ih (k + 1) f (by omega) (by omega) (by omega)
theorem m_next {l f : Nat} (hl : l < 512) (h0 : l ≠ 0) (hf : f < 1000) : s_m_nextThree (nI l) (nI f) = some (oI (fst1 (okT l) f (l + 1 - f))) := by
  obtain ⟨-, l2, -⟩ := low_ok l hl h0
  rw [s_m_nextThree]
  cases hq : s_m_least (nI l) with
  | none => rw [hq] at l2; cases l2
  | some q =>
    rw [hq, Option.bind_some] at l2
    rw [Option.bind_some, lt_eq, Option.some.inj l2]
    obtain ⟨o, o1, o2⟩ := next_lp hl h0 (l + 1 - f) f 100000 (by omega) rfl (by omega)
    rw [o1, Option.bind_some]
    unfold j_m_nextThree_42
    cases hw : fst1 (okT l) f (l + 1 - f) with
    | none =>
      rw [hw] at o2
      have o2 : l < o ∧ o < 2000 := o2
      rw [if_pos (by rw [nI_ltI (by omega) (by omega)]; omega)]; rfl
    | some t =>
      have ht := fst1_lt _ _ _ hw
      rw [hw] at o2
      have o2 : o = t := o2
      subst o2
      rw [if_neg (by rw [nI_ltI (by omega) (by omega)]; omega)]; rfl
/-! the reference's three threes as a row of three that may be none -/
def gt3 (r : Option Nat × Option Nat × Option Nat) (k : Nat) : Option Nat := if k = 0 then r.1 else if k = 1 then r.2.1 else r.2.2
def st3 (r : Option Nat × Option Nat × Option Nat) (k : Nat) (v : Option Nat) : Option Nat × Option Nat × Option Nat := if k = 0 then (v, r.2.1, r.2.2) else if k = 1 then (r.1, v, r.2.2) else (r.1, r.2.1, v)
def lft (al : Nat) (r : Option Nat × Option Nat × Option Nat) (k : Nat) : Nat := if k = 0 then al else if k = 1 then dif al (r.1.getD 0) else dif (dif al (r.1.getD 0)) (r.2.1.getD 0)
def frm : Option Nat → Nat
  | none => 0
  | some t => t + 1
def gok (al : Nat) (r : Option Nat × Option Nat × Option Nat) (k : Nat) : Bool := (Nat.ble k 2 && !(Nat.beq (lft al r k) 0)) && ((Nat.beq k 0 || r.1.isSome) && (Nat.ble k 1 || r.2.1.isSome))
/-- a step: 0 = there is none, 1 = there is one, k + 2 = go on at k -/
def ad1 (al M k : Nat) (r : Option Nat × Option Nat × Option Nat) : Nat × Option Nat × Option Nat × Option Nat :=
  match fst1 (okT (lft al r k)) (frm (gt3 r k)) (lft al r k + 1 - frm (gt3 r k)) with
  | none => if k = 0 then (0, st3 r k none) else (k + 1, st3 r k none)
  | some t => if k + 1 = M then (1, st3 r k (some t)) else (k + 3, st3 (st3 r k (some t)) (k + 1) none)
def adv (al M : Nat) : Nat → Nat → Option Nat × Option Nat × Option Nat → Nat × Option Nat × Option Nat × Option Nat
  | 0, _, r => (2, r)
  | n + 1, k, r => if gok al r k = true then (match ad1 al M k r with | (0, r') => (0, r') | (1, r') => (1, r') | (j + 2, r') => adv al M n j r') else (2, r)
def rg (P s : Nat) : Option Nat × Option Nat × Option Nat := match (SL P).getD s (0, 0, 0) with
  | (a, b, c) => if P = 3 then (some a, none, none) else if P = 6 then (some a, some b, none) else (some a, some b, some c)
def fr3 : Option Nat × Option Nat × Option Nat := (none, none, none)
theorem adv_3 : adv 7 1 6 0 fr3 = (1, rg 3 0) ∧ (adv 7 1 6 0 (rg 3 0)).1 = 0 := by decide +kernel
theorem adv_6 : adv 63 2 6 0 fr3 = (1, rg 6 0) ∧ (∀ s, s < 9 → adv 63 2 6 1 (rg 6 s) = (1, rg 6 (s + 1))) ∧ (adv 63 2 6 1 (rg 6 9)).1 = 0 := by decide +kernel
theorem adv_9 : adv 511 3 6 0 fr3 = (1, rg 9 0) ∧ (∀ s, s < 279 → adv 511 3 6 2 (rg 9 s) = (1, rg 9 (s + 1))) ∧ (adv 511 3 6 2 (rg 9 279)).1 = 0 := by decide +kernel
