theorem tk2_iff {c : Nat → Nat} {n q : Nat} : tk c n q = 2 ↔ fg c n q = true ∧ ¬ fg c n (q + 1) = true := by
  unfold tk
  by_cases a : n ≤ q
  · rw [if_pos a]; exact ⟨fun h => by omega, fun h => by have := (fg_iff.mp h.1).1; omega⟩
  rw [if_neg a]
  by_cases b : 97 ≤ c q ∧ c q ≤ 122
  · rw [if_pos b]; exact ⟨fun h => by omega, fun h => by have := (fg_iff.mp h.1).2; omega⟩
  rw [if_neg b]
  by_cases d : 48 ≤ c q ∧ c q ≤ 57
  · rw [if_pos d]
    by_cases e : fg c n (q + 1) = true
    · rw [if_pos e]; exact ⟨fun h => by omega, fun h => absurd e h.2⟩
    · rw [if_neg e]; exact ⟨fun _ => ⟨fg_iff.mpr ⟨by omega, d.1, d.2⟩, e⟩, fun _ => rfl⟩
  rw [if_neg d]
  by_cases e : c q = 59
  · rw [if_pos e]; exact ⟨fun h => by omega, fun h => absurd (fg_iff.mp h.1).2 d⟩
  · rw [if_neg e]; exact ⟨fun h => by omega, fun h => absurd (fg_iff.mp h.1).2 d⟩
theorem tk3_iff {c : Nat → Nat} {n q : Nat} : tk c n q = 3 ↔ q < n ∧ c q = 59 := by
  unfold tk
  by_cases a : n ≤ q
  · rw [if_pos a]; exact ⟨fun h => by omega, fun h => by omega⟩
  rw [if_neg a]
  by_cases b : 97 ≤ c q ∧ c q ≤ 122
  · rw [if_pos b]; exact ⟨fun h => by omega, fun h => by omega⟩
  rw [if_neg b]
  by_cases d : 48 ≤ c q ∧ c q ≤ 57
  · rw [if_pos d]
    by_cases e : fg c n (q + 1) = true
    · rw [if_pos e]; exact ⟨fun h => by omega, fun h => by omega⟩
    · rw [if_neg e]; exact ⟨fun h => by omega, fun h => by omega⟩
  rw [if_neg d]
  by_cases e : c q = 59
  · rw [if_pos e]; exact ⟨fun _ => ⟨by omega, e⟩, fun _ => rfl⟩
  · rw [if_neg e]; exact ⟨fun h => by omega, fun h => absurd h.2 e⟩
theorem tk0_iff {c : Nat → Nat} {n q : Nat} : tk c n q = 0 ↔ n ≤ q := by
  unfold tk
  by_cases a : n ≤ q
  · rw [if_pos a]; exact ⟨fun _ => a, fun _ => rfl⟩
  rw [if_neg a]
  by_cases b : 97 ≤ c q ∧ c q ≤ 122
  · rw [if_pos b]; omega
  rw [if_neg b]
  by_cases d : 48 ≤ c q ∧ c q ≤ 57
  · rw [if_pos d]
    by_cases e : fg c n (q + 1) = true
    · rw [if_pos e]; omega
    · rw [if_neg e]; omega
  rw [if_neg d]
  by_cases e : c q = 59
  · rw [if_pos e]; omega
  · rw [if_neg e]; omega
theorem tk_le {c : Nat → Nat} {n q : Nat} : tk c n q ≤ 4 := by
  unfold tk
  by_cases a : n ≤ q
  · rw [if_pos a]; omega
  rw [if_neg a]
  by_cases b : 97 ≤ c q ∧ c q ≤ 122
  · rw [if_pos b]; omega
  rw [if_neg b]
  by_cases d : 48 ≤ c q ∧ c q ≤ 57
  · rw [if_pos d]
    by_cases e : fg c n (q + 1) = true
    · rw [if_pos e]; omega
    · rw [if_neg e]; omega
  rw [if_neg d]
  by_cases e : c q = 59
  · rw [if_pos e]; omega
  · rw [if_neg e]; omega
theorem tl2 {c : Nat → Nat} {n q : Nat} (h : tk c n q = 2) : tl c n q = 1 := by
  obtain ⟨a, b⟩ := tk2_iff.mp h
  obtain ⟨a1, a2, a3⟩ := fg_iff.mp a
  unfold tl
  rw [if_neg (by omega), if_neg (by omega), if_pos ⟨a2, a3⟩]
  have : nxt (nf c) n q = q + 1 := by
    rw [nxt_go a1 (fun x => nf_iff.mp x ⟨a2, a3⟩)]
    by_cases h : q + 1 < n
    · exact nxt_hit h (nf_iff.mpr (fun y => b (fg_iff.mpr ⟨h, y.1, y.2⟩)))
    · rw [nxt_end (by omega)]; omega
  omega
/-- the token's registers and the number taken -/
def FU (σ τ : Sg) : Prop := (∀ a j, ¬ (a = 71 ∧ (22 ≤ j ∧ j ≤ 25 ∨ j = 28)) → gI τ a j = gI σ a j) ∧ τ.2 = σ.2
theorem FU_trans {σ τ κ : Sg} (h : FU σ τ) (k : FU τ κ) : FU σ κ := ⟨fun a j q => (k.1 a j q).trans (h.1 a j q), k.2.trans h.2⟩
theorem FT_FU {σ τ : Sg} (h : FT σ τ) : FU σ τ := ⟨fun a j q => h.1 a j (by omega), h.2⟩
theorem MT_FU {σ τ : Sg} {c : Nat → Nat} {n : Nat} (h : FU σ τ) (H : MT σ c n) : MT τ c n := MT_cong (fun a j q => h.1 a j (by omega)) H
theorem m_goNext {σ : Sg} {c : Nat → Nat} {n q : Nat} (H : MT σ c n) (T : TK σ c n q) (hl : q + tl c n q ≤ n) : ∃ τ, s_m_goNext σ = some τ ∧ TK τ c n (nxt (nb c) n (q + tl c n q)) ∧ FT σ τ := by
  obtain ⟨t1, t2, t3, t4, t5⟩ := T
  rw [s_m_goNext, t2, t4, nI_add]
  obtain ⟨τ, a, b, d⟩ := m_look hl H
  exact ⟨τ, by rw [a]; rfl, b, d⟩
theorem num_eq {c : Nat → Nat} {n p lo hi : Nat} : num c n p lo hi = if tk c n (nxt (nb c) n p) = 2 ∧ lo ≤ c (nxt (nb c) n p) - 48 ∧ c (nxt (nb c) n p) - 48 < hi then .inr (c (nxt (nb c) n p) - 48, nxt (nb c) n p + 1) else .inl (nxt (nb c) n p) := by
  unfold num
  by_cases h : tk c n (nxt (nb c) n p) = 2 ∧ lo ≤ c (nxt (nb c) n p) - 48 ∧ c (nxt (nb c) n p) - 48 < hi
  · rw [if_pos h, if_pos ⟨tk2_iff.mp h.1, h.2⟩]
  · rw [if_neg h, if_neg (fun g => h ⟨tk2_iff.mpr g.1, g.2⟩)]
theorem m_takes {σ : Sg} {c : Nat → Nat} {n q lo hi : Nat} (H : MT σ c n) (T : TK σ c n q) (hlo : lo ≤ 9) (hhi : hi < 100) : if tk c n q = 2 ∧ lo ≤ c q - 48 ∧ c q - 48 < hi then (∃ τ, s_m_takes σ (nI lo) (nI hi - 1) = some (1, τ) ∧ gI τ 71 28 = nI (c q - 48) ∧ TK τ c n (nxt (nb c) n (q + 1)) ∧ FU σ τ) else s_m_takes σ (nI lo) (nI hi - 1) = some (0, σ) := by
  obtain ⟨t1, t2, t3, t4, t5⟩ := id T
  have ht := tk_le (c := c) (n := n) (q := q)
  rw [s_m_takes, t3]
  by_cases a : tk c n q = 2
  · obtain ⟨f1, f2, f3⟩ := fg_iff.mp (tk2_iff.mp a).1
    rw [if_pos (show nI (tk c n q) = 2 by rw [a]; rfl), t5 f1 ⟨f2, f3⟩, m_in32 (nI (c q - 48)) (x := lo) (y := (hi : Int) - 1) (by rw [Int32.toInt_toInt64, nI_toInt (by omega)]) (pred64 (by omega)), nI_toInt (by omega), Option.bind_some]
    by_cases b : lo ≤ c q - 48 ∧ c q - 48 < hi
    · rw [if_pos (show ((lo : Nat) : Int) ≤ ((c q - 48 : Nat) : Int) ∧ ((c q - 48 : Nat) : Int) ≤ (hi : Int) - 1 by omega), if_neg (show ¬ (1 : Int32) = 0 by decide), if_pos ⟨a, b⟩, lt_eq]
      have T2 : TK (pI σ 71 28 (nI (c q - 48))) c n q := ⟨t1, by rw [gI_ne (by omega)]; exact t2, by rw [gI_ne (by omega)]; exact t3, by rw [gI_ne (by omega)]; exact t4, fun x y => by rw [gI_ne (by omega)]; exact t5 x y⟩
      obtain ⟨τ, e1, e2, e3⟩ := m_goNext (MT_cong (fun a j h => gI_ne (by omega)) H) T2 (by rw [tl2 a]; omega)
      rw [tl2 a] at e2
      exact ⟨τ, by rw [e1]; rfl, by rw [e3.1 _ _ (by omega), gI_eq], e2, ⟨fun a j h => (e3.1 a j (by omega)).trans (gI_ne (by omega)), e3.2⟩⟩
    · rw [if_neg (show ¬ (((lo : Nat) : Int) ≤ ((c q - 48 : Nat) : Int) ∧ ((c q - 48 : Nat) : Int) ≤ (hi : Int) - 1) by omega), if_pos rfl, if_neg (fun g => b g.2)]
  · rw [if_neg (show ¬ nI (tk c n q) = (2 : Int32) from fun g => a ((nI_eq (b := 2) (by omega) (by omega)).mp g)), if_neg (fun g => a g.1)]
/-! the three words -/
def WD (k i : Nat) : Nat := (if k = 0 then [112, 108, 97, 99, 101, 115] else if k = 1 then [112, 101, 114, 115, 111, 110] else [101, 114, 114, 97, 110, 100]).getD i 0
def wm6 (c : Nat → Nat) (q k : Nat) : Bool := (List.range 6).all (fun i => Nat.beq (c (q + i)) (WD k i))
theorem wm6_iff {c : Nat → Nat} {q k : Nat} : wm6 c q k = true ↔ ∀ i, i < 6 → c (q + i) = WD k i := by
  unfold wm6
  rw [List.all_eq_true]
  exact ⟨fun h i hi => Nat.eq_of_beq_eq_true (h i (List.mem_range.mpr hi)), fun h i hi => by rw [h i (List.mem_range.mp hi)]; exact Nat.beq_refl _⟩
def isw (c : Nat → Nat) (n q k : Nat) : Bool := Nat.beq (nxt (nl c) n q) (q + 6) && wm6 c q k
theorem isw_iff {c : Nat → Nat} {n q k : Nat} : isw c n q k = true ↔ (nxt (nl c) n q = q + 6 ∧ ∀ i, i < 6 → c (q + i) = WD k i) := by
  unfold isw
  rw [Bool.and_eq_true, wm6_iff]
  exact ⟨fun h => ⟨Nat.eq_of_beq_eq_true h.1, h.2⟩, fun h => ⟨by rw [h.1]; exact Nat.beq_refl _, h.2⟩⟩
def cha (k : Nat) (a1 : Int32) : Option Int32 :=
  if 0 ≤ a1 ∧ a1 < 6 then
    if inB a1 6 = true then
      if (((Int32.toUInt32 (((((bytW.getD k []).getD (Int32.toNatClampNeg a1) 0) &&& 255).toUInt32 % 65536).toInt32)).toUInt16).toUInt32).toInt32 = (((((bytW.getD k []).getD (Int32.toNatClampNeg a1) 0) &&& 255).toUInt32 % 65536).toInt32) then some (((((bytW.getD k []).getD (Int32.toNatClampNeg a1) 0) &&& 255).toUInt32 % 65536).toInt32) else none
    else none
  else none
def chb (k : Nat) (a1 : Int32) : Option Int32 := (cha k a1).bind fun q3 => if (((Int32.toUInt32 q3).toUInt16).toUInt32).toInt32 = q3 then some q3 else none
theorem chb_ok : ∀ k, k < 3 → ∀ i, i < 6 → chb k (nI i) = some (nI (WD k i)) := by decide +kernel
theorem ch_0 {σ : Sg} {a : Int32} : s_String_charAt σ a = chb 0 a := by
  rw [s_String_charAt, s_String_isLatin1, if_neg (show ¬ (1 : Int32) = 0 by decide), if_pos (show (0 : Int32) = 0 from rfl), Option.bind_some, if_neg (show ¬ (1 : Int32) = 0 by decide)]
  rfl
theorem ch_1 {σ : Sg} {a : Int32} : s_String_charAt_91 σ a = chb 1 a := by
  rw [s_String_charAt_91, s_String_isLatin1_91, if_neg (show ¬ (1 : Int32) = 0 by decide), if_pos (show (0 : Int32) = 0 from rfl), Option.bind_some, if_neg (show ¬ (1 : Int32) = 0 by decide)]
  rfl
theorem ch_2 {σ : Sg} {a : Int32} : s_String_charAt_92 σ a = chb 2 a := by
  rw [s_String_charAt_92, s_String_isLatin1_92, if_neg (show ¬ (1 : Int32) = 0 by decide), if_pos (show (0 : Int32) = 0 from rfl), Option.bind_some, if_neg (show ¬ (1 : Int32) = 0 by decide)]
  rfl
theorem sl_0 {σ : Sg} : s_String_length σ = some 6 := by rw [s_String_length, s_String_coder, if_neg (show ¬ (1 : Int32) = 0 by decide), Option.bind_some]; rfl
theorem sl_1 {σ : Sg} : s_String_length_91 σ = some 6 := by rw [s_String_length_91, s_String_coder_91, if_neg (show ¬ (1 : Int32) = 0 by decide), Option.bind_some]; rfl
theorem sl_2 {σ : Sg} : s_String_length_92 σ = some 6 := by rw [s_String_length_92, s_String_coder_92, if_neg (show ¬ (1 : Int32) = 0 by decide), Option.bind_some]; rfl
/-- a loop over a word's bytes -/
theorem word_lp {b : Int32 → Option (Int32 ⊕ (Int32 ⊕ Int32))} {c : Nat → Nat} {q k : Nat} (hs : ∀ i, i < 6 → b (nI i) = if c (q + i) = WD k i then some (.inl (nI (i + 1))) else some (.inr (.inr 0))) (he : b (nI 6) = some (.inr (.inl (nI 6)))) : ∃ o, lp b 100000 0 = some o ∧ oElim o (fun _ => some 1) (fun x => some x) = some (if wm6 c q k = true then (1 : Int32) else 0) := by
  obtain ⟨z, hz, g⟩ := lp_ex (b := b) (I := fun x m => ∃ i, x = nI i ∧ i ≤ 6 ∧ m = 6 - i ∧ ∀ j, j < i → c (q + j) = WD k j) (G := fun o => oElim o (fun _ => some 1) (fun x => some x) = some (if wm6 c q k = true then (1 : Int32) else 0)) (fun x m hx => by
    obtain ⟨i, rfl, i1, i2, i3⟩ := hx
    by_cases d : i = 6
    · subst d
      exact Or.inr ⟨_, he, by rw [if_pos (wm6_iff.mpr i3)]; rfl⟩
    · have := hs i (by omega)
      by_cases e : c (q + i) = WD k i
      · rw [if_pos e] at this
        refine Or.inl ⟨_, 6 - (i + 1), this, by omega, i + 1, rfl, by omega, rfl, fun j hj => ?_⟩
        by_cases f : j = i
        · subst f; exact e
        · exact i3 j (by omega)
      · rw [if_neg e] at this
        exact Or.inr ⟨_, this, by rw [if_neg (fun g => e (wm6_iff.mp g i (by omega)))]; rfl⟩) 100000 6 0 (by omega) ⟨0, rfl, by omega, by omega, fun j hj => by omega⟩
  exact ⟨z, hz, g⟩
theorem CT_sub {σ : Sg} {c : Nat → Nat} {n q : Nat} (hq : q ≤ n) (H : CT σ c n (nxt (nl c) n q)) : gI σ 4 3 - nI q = nI (nxt (nl c) n q - q) ∧ (gI σ 4 3 - nI q = 6 ↔ nxt (nl c) n q = q + 6) := by
  have h4 := H.2.2.2.1
  obtain ⟨a, b, -⟩ := nxt_le (P := nl c) hq
  have e : gI σ 4 3 - nI q = nI (nxt (nl c) n q - q) := by
    rw [H.2.2.1]
    obtain ⟨m, hm⟩ : ∃ m, nxt (nl c) n q = m + q := ⟨nxt (nl c) n q - q, by omega⟩
    rw [hm, Nat.add_sub_cancel, show nI (m + q) = nI m + nI q from (nI_add m q).symm]; exact Int32.add_sub_cancel _ _
  refine ⟨e, ?_⟩
  rw [e, show (6 : Int32) = nI 6 from rfl, nI_eq (by omega) (by omega)]; omega
theorem x_isw0 {σ : Sg} {c : Nat → Nat} {n q : Nat} (hq : q ≤ n) (H : CT σ c n (nxt (nl c) n q)) : s_TownReader_isWord σ (nI q) = some (if isw c n q 0 = true then 1 else 0) := by
  obtain ⟨-, e⟩ := CT_sub hq H
  obtain ⟨h1, h2, h3, h4, h5⟩ := H
  obtain ⟨a, b, -⟩ := nxt_le (P := nl c) hq
  rw [s_TownReader_isWord, sl_0, Option.bind_some]
  by_cases d : nxt (nl c) n q = q + 6
  · rw [if_pos (e.mpr d)]
    obtain ⟨o, o1, o2⟩ := word_lp (b := b_TownReader_isWord_17 σ (nI q)) (c := c) (q := q) (k := 0) (fun i hi => by
      unfold b_TownReader_isWord_17
      rw [sl_0, Option.bind_some, if_neg (by show ¬ nI 6 ≤ nI i; rw [nI_leI (by omega) (by omega)]; omega), if_pos h1, nI_add, if_pos (inB_nI (by omega) (by omega)), ch_0, chb_ok 0 (by omega) i hi, Option.bind_some, nI_clamp (by omega), (h5 (q + i) (by omega)).1, lt_eq, nI_1]
      have := (h5 (q + i) (by omega)).2
      have hw : WD 0 i < 256 := by have : i = 0 ∨ i = 1 ∨ i = 2 ∨ i = 3 ∨ i = 4 ∨ i = 5 := by omega
                                   rcases this with rfl | rfl | rfl | rfl | rfl | rfl <;> decide
      by_cases g : c (q + i) = WD 0 i
      · rw [if_pos g, if_pos (by rw [g])]
      · rw [if_neg g, if_neg (by rw [nI_eq (by omega) (by omega)]; exact g)]) (by
      unfold b_TownReader_isWord_17
      rw [sl_0, Option.bind_some, if_pos (show (6 : Int32) ≤ nI 6 by decide)])
    rw [o1, Option.bind_some, o2]
    by_cases g : wm6 c q 0 = true
    · rw [if_pos g, if_pos (isw_iff.mpr ⟨d, wm6_iff.mp g⟩)]
    · rw [if_neg g, if_neg (fun y => g (wm6_iff.mpr (isw_iff.mp y).2))]
  · rw [if_neg (fun g => d (e.mp g)), if_neg (fun g => d (isw_iff.mp g).1)]
theorem x_isw1 {σ : Sg} {c : Nat → Nat} {n q : Nat} (hq : q ≤ n) (H : CT σ c n (nxt (nl c) n q)) : s_TownReader_isWord_4_91 σ (nI q) = some (if isw c n q 1 = true then 1 else 0) := by
  obtain ⟨-, e⟩ := CT_sub hq H
  obtain ⟨h1, h2, h3, h4, h5⟩ := H
  obtain ⟨a, b, -⟩ := nxt_le (P := nl c) hq
  rw [s_TownReader_isWord_4_91, sl_1, Option.bind_some]
  by_cases d : nxt (nl c) n q = q + 6
  · rw [if_pos (e.mpr d)]
    obtain ⟨o, o1, o2⟩ := word_lp (b := b_TownReader_isWord_4_91_17 σ (nI q)) (c := c) (q := q) (k := 1) (fun i hi => by
      unfold b_TownReader_isWord_4_91_17
      rw [sl_1, Option.bind_some, if_neg (by show ¬ nI 6 ≤ nI i; rw [nI_leI (by omega) (by omega)]; omega), if_pos h1, nI_add, if_pos (inB_nI (by omega) (by omega)), ch_1, chb_ok 1 (by omega) i hi, Option.bind_some, nI_clamp (by omega), (h5 (q + i) (by omega)).1, lt_eq, nI_1]
      have := (h5 (q + i) (by omega)).2
      have hw : WD 1 i < 256 := by have : i = 0 ∨ i = 1 ∨ i = 2 ∨ i = 3 ∨ i = 4 ∨ i = 5 := by omega
                                   rcases this with rfl | rfl | rfl | rfl | rfl | rfl <;> decide
      by_cases g : c (q + i) = WD 1 i
      · rw [if_pos g, if_pos (by rw [g])]
      · rw [if_neg g, if_neg (by rw [nI_eq (by omega) (by omega)]; exact g)]) (by
      unfold b_TownReader_isWord_4_91_17
      rw [sl_1, Option.bind_some, if_pos (show (6 : Int32) ≤ nI 6 by decide)])
    rw [o1, Option.bind_some, o2]
    by_cases g : wm6 c q 1 = true
    · rw [if_pos g, if_pos (isw_iff.mpr ⟨d, wm6_iff.mp g⟩)]
    · rw [if_neg g, if_neg (fun y => g (wm6_iff.mpr (isw_iff.mp y).2))]
  · rw [if_neg (fun g => d (e.mp g)), if_neg (fun g => d (isw_iff.mp g).1)]
theorem x_isw2 {σ : Sg} {c : Nat → Nat} {n q : Nat} (hq : q ≤ n) (H : CT σ c n (nxt (nl c) n q)) : s_TownReader_isWord_4_92 σ (nI q) = some (if isw c n q 2 = true then 1 else 0) := by
  obtain ⟨-, e⟩ := CT_sub hq H
  obtain ⟨h1, h2, h3, h4, h5⟩ := H
  obtain ⟨a, b, -⟩ := nxt_le (P := nl c) hq
  rw [s_TownReader_isWord_4_92, sl_2, Option.bind_some]
  by_cases d : nxt (nl c) n q = q + 6
  · rw [if_pos (e.mpr d)]
    obtain ⟨o, o1, o2⟩ := word_lp (b := b_TownReader_isWord_4_92_17 σ (nI q)) (c := c) (q := q) (k := 2) (fun i hi => by
      unfold b_TownReader_isWord_4_92_17
      rw [sl_2, Option.bind_some, if_neg (by show ¬ nI 6 ≤ nI i; rw [nI_leI (by omega) (by omega)]; omega), if_pos h1, nI_add, if_pos (inB_nI (by omega) (by omega)), ch_2, chb_ok 2 (by omega) i hi, Option.bind_some, nI_clamp (by omega), (h5 (q + i) (by omega)).1, lt_eq, nI_1]
      have := (h5 (q + i) (by omega)).2
      have hw : WD 2 i < 256 := by have : i = 0 ∨ i = 1 ∨ i = 2 ∨ i = 3 ∨ i = 4 ∨ i = 5 := by omega
                                   rcases this with rfl | rfl | rfl | rfl | rfl | rfl <;> decide
      by_cases g : c (q + i) = WD 2 i
      · rw [if_pos g, if_pos (by rw [g])]
      · rw [if_neg g, if_neg (by rw [nI_eq (by omega) (by omega)]; exact g)]) (by
      unfold b_TownReader_isWord_4_92_17
      rw [sl_2, Option.bind_some, if_pos (show (6 : Int32) ≤ nI 6 by decide)])
    rw [o1, Option.bind_some, o2]
    by_cases g : wm6 c q 2 = true
    · rw [if_pos g, if_pos (isw_iff.mpr ⟨d, wm6_iff.mp g⟩)]
    · rw [if_neg g, if_neg (fun y => g (wm6_iff.mpr (isw_iff.mp y).2))]
  · rw [if_neg (fun g => d (e.mp g)), if_neg (fun g => d (isw_iff.mp g).1)]
theorem m_isw {σ : Sg} {c : Nat → Nat} {n q k : Nat} (hk : k < 3) (H : MT σ c n) (T : TK σ c n q) : s_m_isWord σ (nI (WD k 0)) (nI (WD k 1)) (nI (WD k 2)) (nI (WD k 3)) (nI (WD k 4)) (nI (WD k 5)) = some (if isw c n q k = true then 1 else 0) := by
  obtain ⟨t1, t2, t3, t4, t5⟩ := T
  obtain ⟨h1, h2, h3⟩ := H
  have ht := tk_le (c := c) (n := n) (q := q)
  have hWD : ∀ i, i < 6 → WD k i < 256 := fun i hi => by
    have k3 : k = 0 ∨ k = 1 ∨ k = 2 := by omega
    have i6 : i = 0 ∨ i = 1 ∨ i = 2 ∨ i = 3 ∨ i = 4 ∨ i = 5 := by omega
    rcases k3 with rfl | rfl | rfl <;> rcases i6 with rfl | rfl | rfl | rfl | rfl | rfl <;> decide
  have e21 : ∀ a b d e f g, j_m_isWord_21 σ a b d e f g = some 0 := fun a b d e f g => by
    unfold j_m_isWord_21 j_m_isWord_22
    rw [show lp (b_m_isWord_27 σ a b d e f g) 100000 (0, 0) = some (0, 0) from lp_end (n := 99999) (by unfold b_m_isWord_27; rw [if_neg (show ¬ (6 : Int32) ≤ 0 by decide), if_pos (show (0 : Int32) = 0 from rfl)]), Option.bind_some]; rfl
  rw [s_m_isWord, t3, t4, e21]
  obtain ⟨n1, n2, -⟩ := nxt_le (P := nl c) t1
  by_cases a : tk c n q = 1 ∧ tl c n q = 6
  rotate_left
  · have hno : ¬ isw c n q k = true := fun g => by
      obtain ⟨g1, -⟩ := isw_iff.mp g
      have hqn : q < n := by omega
      have hlet : 97 ≤ c q ∧ c q ≤ 122 := by
        by_cases x : 97 ≤ c q ∧ c q ≤ 122
        · exact x
        · rw [nxt_hit hqn (nl_iff.mpr x)] at g1; omega
      refine a ⟨?_, ?_⟩
      · unfold tk; rw [if_neg (by omega), if_pos hlet]
      · unfold tl; rw [if_neg (by omega), if_pos hlet]; omega
    rw [if_neg hno]
    by_cases b : tk c n q = 1
    · have htl : tl c n q ≤ n := by
        unfold tl
        by_cases x : n ≤ q
        · rw [if_pos x]; omega
        rw [if_neg x]
        by_cases y : 97 ≤ c q ∧ c q ≤ 122
        · rw [if_pos y]; omega
        rw [if_neg y]
        have := (nxt_le (P := nf c) t1).2.1
        by_cases z : 48 ≤ c q ∧ c q ≤ 57
        · rw [if_pos z]; omega
        · rw [if_neg z]; omega
      rw [if_pos (by rw [b]; rfl), if_neg (show ¬ nI (tl c n q) = (6 : Int32) from fun g => a ⟨b, (nI_eq (b := 6) (by omega) (by omega)).mp g⟩)]
    · rw [if_neg (show ¬ nI (tk c n q) = (1 : Int32) from fun g => b ((nI_eq (b := 1) (by omega) (by omega)).mp g))]
  have hqn : q < n := by
    by_cases x : n ≤ q
    · have := tk0_iff (c := c).mpr x; omega
    · omega
  have hlet : 97 ≤ c q ∧ c q ≤ 122 := by
    by_cases x : 97 ≤ c q ∧ c q ≤ 122
    · exact x
    · exfalso
      have := a.1
      unfold tk at this
      rw [if_neg (by omega), if_neg x] at this
      by_cases z : 48 ≤ c q ∧ c q ≤ 57
      · rw [if_pos z] at this
        by_cases w : fg c n (q + 1) = true
        · rw [if_pos w] at this; omega
        · rw [if_neg w] at this; omega
      · rw [if_neg z] at this
        by_cases w : c q = 59
        · rw [if_pos w] at this; omega
        · rw [if_neg w] at this; omega
  have hlen : nxt (nl c) n q = q + 6 := by
    have := a.2
    unfold tl at this
    rw [if_neg (by omega), if_pos hlet] at this; omega
  rw [if_pos (by rw [a.1]; rfl), if_pos (by rw [a.2]; rfl)]
  unfold j_m_isWord_22
  have hs : ∀ i, i < 6 → b_m_isWord_27 σ (nI (WD k 0)) (nI (WD k 1)) (nI (WD k 2)) (nI (WD k 3)) (nI (WD k 4)) (nI (WD k 5)) (1, nI i) = some (.inl (if c (q + i) = WD k i then 1 else 0, nI (i + 1))) := fun i hi => by
    have hc := h3 (q + i) (by omega)
    have hw := hWD i hi
    have h104 : ∀ u : Int32, u = nI (WD k i) → j_m_isWord_104i27 σ (nI (WD k 0)) (nI (WD k 1)) (nI (WD k 2)) (nI (WD k 3)) (nI (WD k 4)) (nI (WD k 5)) (nI i) u (nI (c (q + i))) = some (.inl (if c (q + i) = WD k i then 1 else 0, nI (i + 1))) := fun u hu => by
      subst hu
      unfold j_m_isWord_104i27
      rw [lt_eq, lt_eq, nI_1]
      by_cases g : c (q + i) = WD k i
      · rw [if_pos g, if_pos (by rw [g])]
      · rw [if_neg g, if_neg (by rw [nI_eq (by omega) (by omega)]; exact g)]
    unfold b_m_isWord_27
    rw [if_neg (by show ¬ nI 6 ≤ nI i; rw [nI_leI (by omega) (by omega)]; omega), if_neg (show ¬ (1 : Int32) = 0 by decide), t2, nI_add, if_pos (inB_nI (by omega) (by omega)), nI_clamp (by omega), hc.1]
    have ei : ∀ j, j < 6 → (nI i = nI j ↔ i = j) := fun j hj => nI_eq (by omega) (by omega)
    have i6 : i = 0 ∨ i = 1 ∨ i = 2 ∨ i = 3 ∨ i = 4 ∨ i = 5 := by omega
    rcases i6 with rfl | rfl | rfl | rfl | rfl | rfl
    · rw [if_pos (show nI 0 = 0 from rfl)]; exact h104 _ rfl
    · rw [if_neg (show ¬ nI 1 = 0 by decide), if_pos (show nI 1 = 1 from rfl)]; exact h104 _ rfl
    · rw [if_neg (show ¬ nI 2 = 0 by decide), if_neg (show ¬ nI 2 = 1 by decide), if_pos (show nI 2 = 2 from rfl)]; exact h104 _ rfl
    · rw [if_neg (show ¬ nI 3 = 0 by decide), if_neg (show ¬ nI 3 = 1 by decide), if_neg (show ¬ nI 3 = 2 by decide), if_pos (show nI 3 = 3 from rfl)]; exact h104 _ rfl
    · rw [if_neg (show ¬ nI 4 = 0 by decide), if_neg (show ¬ nI 4 = 1 by decide), if_neg (show ¬ nI 4 = 2 by decide), if_neg (show ¬ nI 4 = 3 by decide), if_pos (show nI 4 = 4 from rfl)]; exact h104 _ rfl
    · rw [if_neg (show ¬ nI 5 = 0 by decide), if_neg (show ¬ nI 5 = 1 by decide), if_neg (show ¬ nI 5 = 2 by decide), if_neg (show ¬ nI 5 = 3 by decide), if_neg (show ¬ nI 5 = 4 by decide)]; exact h104 _ rfl
  obtain ⟨z, hz, g⟩ := lp_ex (b := b_m_isWord_27 σ (nI (WD k 0)) (nI (WD k 1)) (nI (WD k 2)) (nI (WD k 3)) (nI (WD k 4)) (nI (WD k 5))) (I := fun x m => (∃ i, x = (1, nI i) ∧ i ≤ 6 ∧ m = 6 - i ∧ ∀ j, j < i → c (q + j) = WD k j) ∨ (x.1 = 0 ∧ ¬ (∀ i, i < 6 → c (q + i) = WD k i))) (G := fun o => o.1 = if wm6 c q k = true then (1 : Int32) else 0) (fun x m hx => by
    rcases hx with ⟨i, rfl, i1, i2, i3⟩ | ⟨x0, i3⟩
    · by_cases d : i = 6
      · subst d
        refine Or.inr ⟨(1, nI 6), ?_, by rw [if_pos (wm6_iff.mpr i3)]⟩
        unfold b_m_isWord_27
        rw [if_pos (show (6 : Int32) ≤ nI 6 by decide)]
      · have := hs i (by omega)
        by_cases e : c (q + i) = WD k i
        · rw [if_pos e] at this
          refine Or.inl ⟨_, 6 - (i + 1), this, by omega, Or.inl ⟨i + 1, rfl, by omega, rfl, fun j hj => ?_⟩⟩
          by_cases f : j = i
          · subst f; exact e
          · exact i3 j (by omega)
        · rw [if_neg e] at this
          exact Or.inl ⟨_, 6 - (i + 1), this, by omega, Or.inr ⟨rfl, fun g => e (g i (by omega))⟩⟩
    · obtain ⟨u, v⟩ := x
      have x0 : u = 0 := x0
      subst x0
      refine Or.inr ⟨(0, v), ?_, by rw [if_neg (fun g => i3 (wm6_iff.mp g))]⟩
      unfold b_m_isWord_27
      by_cases y : (6 : Int32) ≤ v
      · rw [if_pos y]
      · rw [if_neg y, if_pos (show (0 : Int32) = 0 from rfl)]) 100000 6 (1, 0) (by omega) (Or.inl ⟨0, rfl, by omega, by omega, fun j hj => by omega⟩)
  rw [hz, Option.bind_some, g]
  by_cases y : wm6 c q k = true
  · rw [if_pos y, if_pos (isw_iff.mpr ⟨hlen, wm6_iff.mp y⟩)]; rfl
  · rw [if_neg y, if_neg (fun x => y (wm6_iff.mpr (isw_iff.mp x).2))]; rfl
