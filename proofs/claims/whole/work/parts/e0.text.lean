/-! A TEXT, byte by byte: c j for j < n. -/
theorem pp {σ : Sg} {k i : Nat} {v w : Int32} : pI (pI σ k i v) k i w = pI σ k i w := by
  show ((fun a j => if a = k ∧ j = i then w else if a = k ∧ j = i then v else σ.1 a j), σ.2) = ((fun a j => if a = k ∧ j = i then w else σ.1 a j), σ.2)
  congr 1
  funext a j
  by_cases c : a = k ∧ j = i
  · rw [if_pos c, if_pos c]
  · rw [if_neg c, if_neg c, if_neg c]
theorem ps {σ : Sg} {k i : Nat} {v : Int32} (h : gI σ k i = v) : pI σ k i v = σ := by
  show ((fun a j => if a = k ∧ j = i then v else σ.1 a j), σ.2) = σ
  have : (fun a j => if a = k ∧ j = i then v else σ.1 a j) = σ.1 := by
    funext a j
    by_cases c : a = k ∧ j = i
    · rw [if_pos c, c.1, c.2]; exact h.symm
    · rw [if_neg c]
  rw [this]
/-- the first place from p on that P holds of, or the end -/
def nxt (P : Nat → Bool) (n p : Nat) : Nat := (fst1 P p (n - p)).getD n
theorem nxt_end {P : Nat → Bool} {n p : Nat} (h : n ≤ p) : nxt P n p = n := by
  unfold nxt; rw [show n - p = 0 by omega]; rfl
theorem nxt_hit {P : Nat → Bool} {n p : Nat} (h : p < n) (hp : P p = true) : nxt P n p = p := by
  unfold nxt; obtain ⟨m, hm⟩ : ∃ m, n - p = m + 1 := ⟨n - p - 1, by omega⟩
  rw [hm, fst1, if_pos hp]; rfl
theorem nxt_go {P : Nat → Bool} {n p : Nat} (h : p < n) (hp : ¬ P p = true) : nxt P n p = nxt P n (p + 1) := by
  unfold nxt; obtain ⟨m, hm⟩ : ∃ m, n - p = m + 1 := ⟨n - p - 1, by omega⟩
  rw [hm, fst1, if_neg hp, show n - (p + 1) = m by omega]
theorem nxt_le {P : Nat → Bool} {n p : Nat} (h : p ≤ n) : p ≤ nxt P n p ∧ nxt P n p ≤ n ∧ (nxt P n p < n → P (nxt P n p) = true) := by
  unfold nxt
  cases hf : fst1 P p (n - p) with
  | none => exact ⟨h, Nat.le_refl _, fun q => absurd q (by show ¬ n < n; omega)⟩
  | some e =>
    obtain ⟨a, b, c⟩ := fst1_lt _ _ _ hf
    exact ⟨a, by show e ≤ n; omega, fun _ => c⟩
def nb (c : Nat → Nat) (q : Nat) : Bool := !(Nat.beq (c q) 32)
def lt1 (x : Nat) : Bool := Nat.ble 97 x && Nat.ble x 122
def fg1 (x : Nat) : Bool := Nat.ble 48 x && Nat.ble x 57
def nl (c : Nat → Nat) (q : Nat) : Bool := !(lt1 (c q))
def nf (c : Nat → Nat) (q : Nat) : Bool := !(fg1 (c q))
def fg (c : Nat → Nat) (n q : Nat) : Bool := Nat.blt q n && fg1 (c q)
theorem nb_iff {c : Nat → Nat} {q : Nat} : nb c q = true ↔ ¬ c q = 32 := by
  unfold nb
  by_cases h : c q = 32
  · rw [h]; exact ⟨fun q => absurd q (by decide), fun q => absurd rfl q⟩
  · have : Nat.beq (c q) 32 = false := by cases g : Nat.beq (c q) 32; rfl; exact absurd (Nat.eq_of_beq_eq_true g) h
    rw [this]; exact ⟨fun _ => h, fun _ => rfl⟩
theorem ble_iff {a b : Nat} : Nat.ble a b = true ↔ a ≤ b := ⟨Nat.le_of_ble_eq_true, Nat.ble_eq_true_of_le⟩
theorem lt1_iff {x : Nat} : lt1 x = true ↔ 97 ≤ x ∧ x ≤ 122 := by unfold lt1; rw [Bool.and_eq_true, ble_iff, ble_iff]
theorem fg1_iff {x : Nat} : fg1 x = true ↔ 48 ≤ x ∧ x ≤ 57 := by unfold fg1; rw [Bool.and_eq_true, ble_iff, ble_iff]
theorem fg_iff {c : Nat → Nat} {n q : Nat} : fg c n q = true ↔ q < n ∧ 48 ≤ c q ∧ c q ≤ 57 := by
  unfold fg; rw [Bool.and_eq_true, fg1_iff]
  show Nat.ble (q + 1) n = true ∧ _ ↔ _
  rw [ble_iff]; omega
theorem nl_iff {c : Nat → Nat} {q : Nat} : nl c q = true ↔ ¬ (97 ≤ c q ∧ c q ≤ 122) := by
  unfold nl; rw [← lt1_iff]; cases lt1 (c q) <;> decide
theorem nf_iff {c : Nat → Nat} {q : Nat} : nf c q = true ↔ ¬ (48 ≤ c q ∧ c q ≤ 57) := by
  unfold nf; rw [← fg1_iff]; cases fg1 (c q) <;> decide
/-- the class's reader at p -/
def CT (σ : Sg) (c : Nat → Nat) (n p : Nat) : Prop := gR σ 4 1 = 3 ∧ gI σ 4 2 = nI n ∧ gI σ 4 3 = nI p ∧ n ≤ 250 ∧ ∀ j, j < n → gI σ 3 j = nI (c j) ∧ c j < 256
theorem CT_at {σ : Sg} {c : Nat → Nat} {n p q : Nat} (H : CT σ c n p) : CT (pI σ 4 3 (nI q)) c n q := ⟨H.1, by rw [gI_ne (by omega)]; exact H.2.1, gI_eq, H.2.2.2.1, fun j hj => by rw [gI_ne (by omega)]; exact H.2.2.2.2 j hj⟩
theorem CT_cong {σ τ : Sg} {c : Nat → Nat} {n p : Nat} (hr : gR τ = gR σ) (h : ∀ a j, (a = 3 ∨ a = 4 ∧ (j = 2 ∨ j = 3)) → gI τ a j = gI σ a j) (H : CT σ c n p) : CT τ c n p := ⟨by rw [hr]; exact H.1, (h _ _ (by omega)).trans H.2.1, (h _ _ (by omega)).trans H.2.2.1, H.2.2.2.1, fun j hj => by rw [h _ _ (by omega)]; exact H.2.2.2.2 j hj⟩
theorem x_skip {c : Nat → Nat} {n : Nat} : ∀ (m p : Nat) (σ : Sg) (F : Nat), n - p = m → p ≤ n → m < F → CT σ c n p → lp b_TownReader_skipBlanks_0 F σ = some (pI σ 4 3 (nI (nxt (nb c) n p))) := by
  intro m
  induction m with
  | zero =>
    intro p σ F hm hp hF H
    obtain ⟨f, rfl⟩ : ∃ f, F = f + 1 := ⟨F - 1, by omega⟩
    obtain ⟨h1, h2, h3, h4, h5⟩ := H
    rw [nxt_end (by omega), ps (by rw [h3, show p = n by omega])]
    refine lp_end ?_
    unfold b_TownReader_skipBlanks_0
    rw [h2, h3, if_pos (by rw [nI_leI (by omega) (by omega)]; omega)]
  | succ m ih =>
    intro p σ F hm hp hF H
    obtain ⟨f, rfl⟩ : ∃ f, F = f + 1 := ⟨F - 1, by omega⟩
    obtain ⟨h1, h2, h3, h4, h5⟩ := id H
    obtain ⟨c1, c2⟩ := h5 p (by omega)
    have hb : b_TownReader_skipBlanks_0 σ = if c p = 32 then some (.inl (pI σ 4 3 (nI (p + 1)))) else some (.inr σ) := by
      unfold b_TownReader_skipBlanks_0
      rw [h2, h3, if_neg (by rw [nI_leI (by omega) (by omega)]; omega), if_pos h1, if_pos (inB_nI (by omega) (by omega)), nI_clamp (by omega), c1, lt_eq, nI_1]
      by_cases d : c p = 32
      · rw [if_pos d, if_pos (by rw [d]; rfl)]
      · rw [if_neg d, if_neg (show ¬ nI (c p) = (32 : Int32) from fun q => d ((nI_eq (b := 32) (by omega) (by omega)).mp q))]
    by_cases d : c p = 32
    · rw [if_pos d] at hb
      rw [lp_step hb, ih (p + 1) _ f (by omega) (by omega) (by omega) (CT_at H), pp, nxt_go (by omega) (fun q => nb_iff.mp q d)]
    · rw [if_neg d] at hb
      rw [lp_end hb, nxt_hit (by omega) (nb_iff.mpr d), ps h3]
theorem x_skipB {σ : Sg} {c : Nat → Nat} {n p : Nat} (hp : p ≤ n) (H : CT σ c n p) : s_TownReader_skipBlanks σ = some (pI σ 4 3 (nI (nxt (nb c) n p))) := by
  have h4 := H.2.2.2.1
  rw [s_TownReader_skipBlanks, x_skip (n - p) p σ 100000 rfl hp (by omega) H]; rfl
theorem x_word1 {c : Nat → Nat} {n : Nat} : ∀ (m p : Nat) (σ : Sg) (F : Nat), n - p = m → p ≤ n → m < F → CT σ c n p → lp b_TownReader_skipWord_0 F σ = some (pI σ 4 3 (nI (nxt (nl c) n p))) := by
  intro m
  induction m with
  | zero =>
    intro p σ F hm hp hF H
    obtain ⟨f, rfl⟩ : ∃ f, F = f + 1 := ⟨F - 1, by omega⟩
    obtain ⟨h1, h2, h3, h4, h5⟩ := H
    rw [nxt_end (by omega), ps (by rw [h3, show p = n by omega])]
    refine lp_end ?_
    unfold b_TownReader_skipWord_0
    rw [h2, h3, if_pos (by rw [nI_leI (by omega) (by omega)]; omega)]
  | succ m ih =>
    intro p σ F hm hp hF H
    obtain ⟨f, rfl⟩ : ∃ f, F = f + 1 := ⟨F - 1, by omega⟩
    obtain ⟨h1, h2, h3, h4, h5⟩ := id H
    obtain ⟨c1, c2⟩ := h5 p (by omega)
    have hb : b_TownReader_skipWord_0 σ = if 97 ≤ c p ∧ c p ≤ 122 then some (.inl (pI σ 4 3 (nI (p + 1)))) else some (.inr σ) := by
      unfold b_TownReader_skipWord_0
      rw [h2, h3, if_neg (by rw [nI_leI (by omega) (by omega)]; omega), if_pos h1, if_pos (inB_nI (by omega) (by omega)), nI_clamp (by omega), c1, lt_eq, nI_1, if_pos (inB_nI (by omega) (by omega))]
      by_cases d : 97 ≤ c p
      · rw [if_neg (by show ¬ nI (c p) < nI 97; rw [nI_ltI (by omega) (by omega)]; omega)]
        by_cases e : c p ≤ 122
        · rw [if_neg (by show ¬ nI 122 < nI (c p); rw [nI_ltI (by omega) (by omega)]; omega), if_pos ⟨d, e⟩]
        · rw [if_pos (by show nI 122 < nI (c p); rw [nI_ltI (by omega) (by omega)]; omega), if_neg (fun q => e q.2)]
      · rw [if_pos (by show nI (c p) < nI 97; rw [nI_ltI (by omega) (by omega)]; omega), if_neg (fun q => d q.1)]
    by_cases d : 97 ≤ c p ∧ c p ≤ 122
    · rw [if_pos d] at hb
      rw [lp_step hb, ih (p + 1) _ f (by omega) (by omega) (by omega) (CT_at H), pp, nxt_go (by omega) (fun q => nl_iff.mp q d)]
    · rw [if_neg d] at hb
      rw [lp_end hb, nxt_hit (by omega) (nl_iff.mpr d), ps h3]
theorem x_wordB {σ : Sg} {c : Nat → Nat} {n p : Nat} (hp : p ≤ n) (H : CT σ c n p) : s_TownReader_skipWord σ = some (pI σ 4 3 (nI (nxt (nl c) n p))) := by
  have h4 := H.2.2.2.1
  rw [s_TownReader_skipWord, x_word1 (n - p) p σ 100000 rfl hp (by omega) H]; rfl
theorem x_fig {σ : Sg} {c : Nat → Nat} {n p q : Nat} (hq : q < 1000) (H : CT σ c n p) : s_TownReader_isFigure σ (nI q) = some (if fg c n q = true then 1 else 0) := by
  obtain ⟨h1, h2, h3, h4, h5⟩ := H
  rw [s_TownReader_isFigure, h2]
  by_cases d : n ≤ q
  · rw [if_pos (by rw [nI_leI (by omega) (by omega)]; exact d), if_neg (fun g => by have := (fg_iff.mp g).1; omega)]
  obtain ⟨c1, c2⟩ := h5 q (by omega)
  rw [if_neg (by rw [nI_leI (by omega) (by omega)]; exact d), if_pos h1, if_pos (inB_nI (by omega) (by omega)), nI_clamp (by omega), c1, if_pos (inB_nI (by omega) (by omega))]
  by_cases e : 48 ≤ c q
  · rw [if_neg (by show ¬ nI (c q) < nI 48; rw [nI_ltI (by omega) (by omega)]; omega)]
    by_cases f : c q ≤ 57
    · rw [if_neg (by show ¬ nI 57 < nI (c q); rw [nI_ltI (by omega) (by omega)]; omega), if_pos (fg_iff.mpr ⟨by omega, e, f⟩)]
    · rw [if_pos (by show nI 57 < nI (c q); rw [nI_ltI (by omega) (by omega)]; omega), if_neg (fun g => f (fg_iff.mp g).2.2)]
  · rw [if_pos (by show nI (c q) < nI 48; rw [nI_ltI (by omega) (by omega)]; omega), if_neg (fun g => e (fg_iff.mp g).2.1)]
/-- a number from lo up to below hi, from p on: where the fault is, or it and the place behind it -/
def num (c : Nat → Nat) (n p lo hi : Nat) : Nat ⊕ (Nat × Nat) :=
  if (fg c n (nxt (nb c) n p) = true ∧ ¬ fg c n (nxt (nb c) n p + 1) = true) ∧ lo ≤ c (nxt (nb c) n p) - 48 ∧ c (nxt (nb c) n p) - 48 < hi then .inr (c (nxt (nb c) n p) - 48, nxt (nb c) n p + 1) else .inl (nxt (nb c) n p)
def xnum (σ : Sg) : Nat ⊕ (Nat × Nat) → Int32 × Sg
  | .inl q => (-1, pI (pI σ 4 3 (nI q)) 4 4 (nI q))
  | .inr (v, q) => (nI v, pI σ 4 3 (nI q))
theorem x_num {σ : Sg} {c : Nat → Nat} {n p lo hi : Nat} (hp : p ≤ n) (hlo : lo ≤ 9) (hhi : hi < 100) (H : CT σ c n p) (h44 : gI σ 4 4 = -1) : s_TownReader_number σ (nI lo) (nI hi - 1) = some (xnum σ (num c n p lo hi)) := by
  have h4 := H.2.2.2.1
  obtain ⟨n1, n2, n3⟩ := nxt_le (P := nb c) hp
  unfold num
  generalize hq : nxt (nb c) n p = q at *
  have H2 : CT (pI σ 4 3 (nI q)) c n q := CT_at H
  have e65 : j_TownReader_number_65 (pI σ 4 3 (nI q)) = some (xnum σ (.inl q)) := by
    unfold j_TownReader_number_65
    rw [lt_eq, gI_eq]; rfl
  have e53 : j_TownReader_number_53 (pI σ 4 3 (nI q)) (nI lo) (nI hi - 1) = some (xnum σ (.inl q)) := by
    unfold j_TownReader_number_53 j_TownReader_number_54
    rw [if_pos (by rw [l32 (show (-1 : Int32).toInt = -1 from rfl) (nI_toInt (by omega))]; omega), e65]
  rw [s_TownReader_number, if_pos h44, x_skipB hp H, hq, Option.bind_some, gI_eq, x_fig (by omega) H2, Option.bind_some, nI_1, x_fig (by omega) H2, Option.bind_some]
  by_cases a : fg c n q = true
  · rw [if_pos a, if_neg (show ¬ (1 : Int32) = 0 by decide)]
    by_cases b : fg c n (q + 1) = true
    · rw [if_pos b, if_neg (show ¬ (1 : Int32) = 0 by decide), e53, if_neg (fun g => g.1.2 b)]
    · obtain ⟨f1, f2, f3⟩ := fg_iff.mp a
      have c1 := (H2.2.2.2.2 q f1).1
      rw [if_neg b, if_pos rfl, if_pos (show gR (pI σ 4 3 (nI q)) 4 1 = 3 from H.1), if_pos (inB_nI (by omega) (by omega)), nI_clamp (by omega), c1]
      have e48 : nI (c q) - 48 = nI (c q - 48) := by
        obtain ⟨m, hm⟩ : ∃ m, c q = m + 48 := ⟨c q - 48, by omega⟩
        rw [hm, Nat.add_sub_cancel, show nI (m + 48) = nI m + nI 48 from (nI_add m 48).symm]; exact Int32.add_sub_cancel _ _
      rw [e48]
      unfold j_TownReader_number_54
      by_cases d : lo ≤ c q - 48
      · rw [if_neg (by rw [nI_ltI (by omega) (by omega)]; omega)]
        by_cases e : c q - 48 < hi
        · rw [if_pos (by rw [e32 (nI_toInt (by omega)) (pred32 (by omega))]; omega), lt_eq, gI_eq, nI_1, pp, if_pos ⟨⟨a, b⟩, d, e⟩]; rfl
        · rw [if_neg (by rw [e32 (nI_toInt (by omega)) (pred32 (by omega))]; omega), e65, if_neg (fun g => e g.2.2)]
      · rw [if_pos (by rw [nI_ltI (by omega) (by omega)]; omega), e65, if_neg (fun g => d g.2.1)]
  · rw [if_neg a, if_pos rfl, e53, if_neg (fun g => a g.1.1)]
theorem x_numF {σ : Sg} {a b : Int32} (h44 : ¬ gI σ 4 4 = -1) : s_TownReader_number σ a b = some (-1, σ) := by
  rw [s_TownReader_number, if_neg h44]
def en (c : Nat → Nat) (n p : Nat) : Nat ⊕ Nat := if nxt (nb c) n p < n ∧ c (nxt (nb c) n p) = 59 then .inr (nxt (nb c) n p + 1) else .inl (nxt (nb c) n p)
def xend (σ : Sg) : Nat ⊕ Nat → Sg
  | .inl q => pI (pI σ 4 3 (nI q)) 4 4 (nI q)
  | .inr q => pI σ 4 3 (nI q)
theorem x_end {σ : Sg} {c : Nat → Nat} {n p : Nat} (hp : p ≤ n) (H : CT σ c n p) (h44 : gI σ 4 4 = -1) : s_TownReader_end σ = some (xend σ (en c n p)) := by
  have h4 := H.2.2.2.1
  obtain ⟨n1, n2, n3⟩ := nxt_le (P := nb c) hp
  unfold en
  generalize hq : nxt (nb c) n p = q at *
  have H2 : CT (pI σ 4 3 (nI q)) c n q := CT_at H
  rw [s_TownReader_end, if_pos h44, x_skipB hp H, hq, Option.bind_some, gI_eq, H2.2.1, lt_eq, lt_eq]
  by_cases a : n ≤ q
  · rw [if_pos (by rw [nI_leI (by omega) (by omega)]; exact a), if_neg (by omega)]; rfl
  · have c1 := (H2.2.2.2.2 q (by omega)).1
    have c2 := (H2.2.2.2.2 q (by omega)).2
    rw [if_neg (by rw [nI_leI (by omega) (by omega)]; exact a), if_pos (show gR (pI σ 4 3 (nI q)) 4 1 = 3 from H.1), if_pos (inB_nI (by omega) (by omega)), nI_clamp (by omega), c1]
    by_cases b : c q = 59
    · rw [if_pos (by rw [b]; rfl), if_pos ⟨by omega, b⟩, nI_1, pp]; rfl
    · rw [if_neg (show ¬ nI (c q) = (59 : Int32) from fun g => b ((nI_eq (b := 59) (by omega) (by omega)).mp g)), if_neg (fun g => b g.2)]; rfl
theorem x_endF {σ : Sg} (h44 : ¬ gI σ 4 4 = -1) : s_TownReader_end σ = some σ := by
  rw [s_TownReader_end, if_neg h44]
