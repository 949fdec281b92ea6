/-- what an item of the text comes to: where its fault is, or the place behind it and the town with it -/
def itm (c : Nat → Nat) (n q : Nat) (B : Nat → Nat) : Nat ⊕ (Nat × (Nat → Nat)) :=
  if isw c n q 0 = true ∧ ¬ bz B = true then
    match num c n (q + 6) 1 7 with
    | .inl f => .inl f
    | .inr (v, q1) => match en c n q1 with
      | .inl f => .inl f
      | .inr q2 => .inr (q2, updA B 0 v)
  else if isw c n q 1 = true ∧ B 1 < 9 then
    match num c n (q + 6) 0 5 with
    | .inl f => .inl f
    | .inr (k, q1) => match num c n q1 1 10 with
      | .inl f => .inl f
      | .inr (v, q2) => match en c n q2 with
        | .inl f => .inl f
        | .inr q3 => .inr (q3, addP B k v)
  else if isw c n q 2 = true then
    match num c n (q + 6) 0 (B 1) with
    | .inl f => .inl f
    | .inr (w, q1) => if B (4 + 11 * w) = 4 then .inl (q1 - 1) else match num c n q1 0 (B 0) with
      | .inl f => .inl f
      | .inr (a, q2) => match num c n q2 0 10 with
        | .inl f => .inl f
        | .inr (h, q3) => match en c n q3 with
          | .inl f => .inl f
          | .inr q4 => .inr (q4, addE B w a h)
  else .inl q
theorem num_b {c : Nat → Nat} {n p lo hi : Nat} (hp : p ≤ n) : (∀ f, num c n p lo hi = .inl f → f ≤ n) ∧ ∀ v q, num c n p lo hi = .inr (v, q) → (p < q ∧ q ≤ n) ∧ lo ≤ v ∧ v < hi ∧ v ≤ 9 := by
  obtain ⟨n1, n2, -⟩ := nxt_le (P := nb c) hp
  unfold num
  by_cases h : (fg c n (nxt (nb c) n p) = true ∧ ¬ fg c n (nxt (nb c) n p + 1) = true) ∧ lo ≤ c (nxt (nb c) n p) - 48 ∧ c (nxt (nb c) n p) - 48 < hi
  · rw [if_pos h]
    refine ⟨fun f g => (by cases g), fun v q g => ?_⟩
    cases g
    obtain ⟨f1, f2, f3⟩ := fg_iff.mp h.1.1
    exact ⟨⟨by omega, by omega⟩, h.2.1, h.2.2, by omega⟩
  · rw [if_neg h]
    exact ⟨fun f g => (by cases g; exact n2), fun v q g => (by cases g)⟩
theorem en_b {c : Nat → Nat} {n p : Nat} (hp : p ≤ n) : (∀ f, en c n p = .inl f → f ≤ n) ∧ ∀ q, en c n p = .inr q → p < q ∧ q ≤ n := by
  obtain ⟨n1, n2, -⟩ := nxt_le (P := nb c) hp
  unfold en
  by_cases h : nxt (nb c) n p < n ∧ c (nxt (nb c) n p) = 59
  · rw [if_pos h]
    exact ⟨fun f g => (by cases g), fun q g => (by cases g; exact ⟨by omega, by omega⟩)⟩
  · rw [if_neg h]
    exact ⟨fun f g => (by cases g; exact n2), fun q g => (by cases g)⟩
/-- the reader is at fault f -/
def XF (σ τ : Sg) (c : Nat → Nat) (n f : Nat) : Prop := (∃ p, p ≤ n ∧ CT τ c n p) ∧ gI τ 4 4 = nI f ∧ f ≤ n ∧ (∀ a j, ¬ (a = 4 ∨ 6 ≤ a ∧ a ≤ 11) → gI τ a j = gI σ a j) ∧ τ.2 = σ.2
/-- the reader goes on at p with the town B -/
def XG' (σ τ : Sg) (c : Nat → Nat) (n p : Nat) (B : Nat → Nat) : Prop := CT τ c n p ∧ gI τ 4 4 = -1 ∧ XT τ 6 B ∧ (∀ a j, ¬ (a = 4 ∨ 6 ≤ a ∧ a ≤ 11) → gI τ a j = gI σ a j) ∧ τ.2 = σ.2
theorem XF_not {σ τ : Sg} {c : Nat → Nat} {n f : Nat} (H : XF σ τ c n f) : ¬ gI τ 4 4 = -1 := by
  obtain ⟨⟨p, -, hc⟩, h, hf, -⟩ := H
  have := hc.2.2.2.1
  rw [h]; exact nI_nm (by omega)
theorem xnum_st {σ0 σ : Sg} {c : Nat → Nat} {n p lo hi : Nat} {B : Nat → Nat} (W : WT B) (hp : p ≤ n) (hlo : lo ≤ 9) (hhi : hi < 100) (H : XG' σ0 σ c n p B) : match num c n p lo hi with
    | .inl f => ∃ τ, s_TownReader_number σ (nI lo) (nI hi - 1) = some (-1, τ) ∧ XF σ0 τ c n f
    | .inr (v, q) => ∃ τ, s_TownReader_number σ (nI lo) (nI hi - 1) = some (nI v, τ) ∧ XG' σ0 τ c n q B := by
  obtain ⟨h1, h2, h3, h4, h5⟩ := H
  have hx := x_num hp hlo hhi h1 h2
  obtain ⟨b1, b2⟩ := num_b (c := c) (lo := lo) (hi := hi) hp
  cases hn : num c n p lo hi with
  | inl f =>
    rw [hn] at hx
    exact ⟨pI (pI σ 4 3 (nI f)) 4 4 (nI f), hx, ⟨f, b1 f hn, CT_cong (σ := pI σ 4 3 (nI f)) rfl (fun a j h => gI_ne (by omega)) (CT_at h1)⟩, gI_eq, b1 f hn, fun a j h => by rw [gI_ne (by omega), gI_ne (by omega)]; exact h4 a j h, h5⟩
  | inr vq =>
    obtain ⟨v, q⟩ := vq
    rw [hn] at hx
    exact ⟨pI σ 4 3 (nI q), hx, CT_at h1, by rw [gI_ne (by omega)]; exact h2, XT_cong (fun a x y j => gI_ne (by omega)) (fun _ _ => rfl) W h3, fun a j h => by rw [gI_ne (by omega)]; exact h4 a j h, h5⟩
theorem xend_st {σ0 σ : Sg} {c : Nat → Nat} {n p : Nat} {B : Nat → Nat} (W : WT B) (hp : p ≤ n) (H : XG' σ0 σ c n p B) : match en c n p with
    | .inl f => ∃ τ, s_TownReader_end σ = some τ ∧ XF σ0 τ c n f
    | .inr q => ∃ τ, s_TownReader_end σ = some τ ∧ XG' σ0 τ c n q B := by
  obtain ⟨h1, h2, h3, h4, h5⟩ := H
  have hx := x_end hp h1 h2
  obtain ⟨b1, b2⟩ := en_b (c := c) hp
  cases hn : en c n p with
  | inl f =>
    rw [hn] at hx
    exact ⟨pI (pI σ 4 3 (nI f)) 4 4 (nI f), hx, ⟨f, b1 f hn, CT_cong (σ := pI σ 4 3 (nI f)) rfl (fun a j h => gI_ne (by omega)) (CT_at h1)⟩, gI_eq, b1 f hn, fun a j h => by rw [gI_ne (by omega), gI_ne (by omega)]; exact h4 a j h, h5⟩
  | inr q =>
    rw [hn] at hx
    exact ⟨pI σ 4 3 (nI q), hx, CT_at h1, by rw [gI_ne (by omega)]; exact h2, XT_cong (fun a x y j => gI_ne (by omega)) (fun _ _ => rfl) W h3, fun a j h => by rw [gI_ne (by omega)]; exact h4 a j h, h5⟩
theorem xaddP {σ0 σ : Sg} {c : Nat → Nat} {n p k v : Nat} {B : Nat → Nat} (W : WT B) (hN : B 1 < 9) (H : XG' σ0 σ c n p B) : ∃ τ r, s_Town_addPerson_6 σ (nI k) (nI v) = some (r, τ) ∧ XG' σ0 τ c n p (addP B k v) := by
  obtain ⟨h1, h2, h3, h4, h5⟩ := H
  have e : gI σ 6 6 = nI (B 1) := h3.2.1
  refine ⟨pI (pI (pI (pI σ 7 (B 1) (nI k)) 8 (B 1) (nI v)) 9 (B 1) 0) 6 6 (nI (B 1 + 1)), nI (B 1 + 1) - 1, ?_, CT_cong rfl (fun a j h => by rw [gI_ne (by omega), gI_ne (by omega), gI_ne (by omega), gI_ne (by omega)]) h1, by rw [gI_ne (by omega), gI_ne (by omega), gI_ne (by omega), gI_ne (by omega)]; exact h2, XT_addP W h3 (fun a j x y h => by rw [gI_ne (by omega), gI_ne (by omega), gI_ne (by omega), gI_ne (by omega)]) gI_eq (by rw [gI_ne (by omega), gI_ne (by omega), gI_ne (by omega), gI_eq]) (by rw [gI_ne (by omega), gI_ne (by omega), gI_eq]) (by rw [gI_ne (by omega), gI_eq]; rfl), fun a j h => by rw [gI_ne (by omega), gI_ne (by omega), gI_ne (by omega), gI_ne (by omega)]; exact h4 a j h, h5⟩
  rw [s_Town_addPerson_6, e, if_pos (show nI (B 1) < 9 from (ltN (a := B 1) (b := 9) (by omega) (by omega)).mpr hN), if_pos (inB_nI (by omega) (by omega)), lt_eq, nI_clamp (by omega), gI_ne (by omega), e, if_pos (inB_nI (by omega) (by omega)), lt_eq, nI_clamp (by omega), gI_ne (by omega), gI_ne (by omega), e, if_pos (inB_nI (by omega) (by omega)), lt_eq, nI_clamp (by omega), lt_eq, gI_eq, gI_ne (by omega), gI_ne (by omega), gI_ne (by omega), e, nI_1]
theorem xaddE {σ0 σ : Sg} {c : Nat → Nat} {n p w a h : Nat} {B : Nat → Nat} (W : WT B) (hw : w < B 1) (he : B (4 + 11 * w) < 4) (H : XG' σ0 σ c n p B) : ∃ τ r, s_Town_addErrand_6 σ (nI w) (nI a) (nI h) = some (r, τ) ∧ XG' σ0 τ c n p (addE B w a h) := by
  obtain ⟨h1, h2, h3, h4, h5⟩ := H
  have n9 := W.2.2.1
  have e6 : gI σ 6 6 = nI (B 1) := h3.2.1
  have e9 : gI σ 9 w = nI (B (4 + 11 * w)) := (h3.2.2 w hw).2.2.1
  refine ⟨pI (pI (pI σ 10 (4 * w + B (4 + 11 * w)) (nI a)) 11 (4 * w + B (4 + 11 * w)) (nI h)) 9 w (nI (B (4 + 11 * w) + 1)), nI (B (4 + 11 * w)), ?_, CT_cong rfl (fun a j h => by rw [gI_ne (by omega), gI_ne (by omega), gI_ne (by omega)]) h1, by rw [gI_ne (by omega), gI_ne (by omega), gI_ne (by omega)]; exact h2, XT_addE W h3 hw he (fun a j x y h => by rw [gI_ne (by omega), gI_ne (by omega), gI_ne (by omega)]) gI_eq (by rw [gI_ne (by omega), gI_ne (by omega), gI_eq]) (by rw [gI_ne (by omega), gI_eq]), fun a j h => by rw [gI_ne (by omega), gI_ne (by omega), gI_ne (by omega)]; exact h4 a j h, h5⟩
  have hhp : s_Town_hasPerson_6 σ (nI w) = some 1 := by
    rw [s_Town_hasPerson_6, e6, if_neg (by show ¬ nI w < nI 0; rw [nI_ltI (by omega) (by omega)]; omega), if_neg (by rw [nI_leI (by omega) (by omega)]; omega)]
  rw [s_Town_addErrand_6, hhp, Option.bind_some, if_neg (show ¬ (1 : Int32) = 0 by decide), if_pos (inB_nI (by omega) (by omega)), nI_clamp (by omega), e9, if_pos (show nI (B (4 + 11 * w)) < 4 from (ltN (a := B (4 + 11 * w)) (b := 4) (by omega) (by omega)).mpr he), if_pos (inB_nI (by omega) (by omega)), lt_eq, mul4, nI_add, if_pos (inB_nI (by omega) (by omega)), lt_eq, if_pos (inB_nI (by omega) (by omega)), lt_eq, if_pos (inB_nI (by omega) (by omega)), if_pos (inB_nI (by omega) (by omega)), lt_eq, nI_clamp (by omega), gI_ne (by omega), gI_ne (by omega), e9, nI_1]
/-- what the class's item does -/
def XI (σ0 τ : Sg) (c : Nat → Nat) (n : Nat) : Nat ⊕ (Nat × (Nat → Nat)) → Prop
  | .inl f => XF σ0 τ c n f
  | .inr (p, B) => XG' σ0 τ c n p B
theorem x_places {σ0 σ : Sg} {c : Nat → Nat} {n p : Nat} {B : Nat → Nat} (W : WT B) (hp : p ≤ n) (H : XG' σ0 σ c n p B) : ∃ τ, s_TownReader_readPlaces σ = some τ ∧ XI σ0 τ c n (match num c n p 1 7 with
    | .inl f => .inl f
    | .inr (v, q1) => match en c n q1 with
      | .inl f => .inl f
      | .inr q2 => .inr (q2, updA B 0 v)) := by
  have h1 := xnum_st (lo := 1) (hi := 7) W hp (by omega) (by omega) H
  rw [s_TownReader_readPlaces]
  show ∃ τ, ((s_TownReader_number σ (nI 1) (nI 7 - 1)).bind _) = some τ ∧ _
  cases hn : num c n p 1 7 with
  | inl f =>
    rw [hn] at h1
    obtain ⟨τ, t1, t2⟩ := h1
    have nt := XF_not t2
    rw [t1, Option.bind_some]
    show ∃ τ', ((s_TownReader_end τ).bind _) = some τ' ∧ _
    rw [x_endF nt, Option.bind_some, if_neg nt]
    exact ⟨τ, rfl, t2⟩
  | inr vq =>
    obtain ⟨v, q1⟩ := vq
    obtain ⟨⟨b1, b2⟩, b3, b4, -⟩ := (num_b (c := c) (lo := 1) (hi := 7) hp).2 v q1 hn
    rw [hn] at h1
    obtain ⟨τ, t1, t2⟩ := h1
    have h2 := xend_st W b2 t2
    rw [t1, Option.bind_some]
    show ∃ τ', ((s_TownReader_end τ).bind fun q2 => if gI q2 4 4 = -1 then some (pI q2 6 5 (nI v)) else some q2) = some τ' ∧ XI σ0 τ' c n (match en c n q1 with
      | .inl f => .inl f
      | .inr q2 => .inr (q2, updA B 0 v))
    cases he : en c n q1 with
    | inl f =>
      rw [he] at h2
      obtain ⟨κ, k1, k2⟩ := h2
      rw [k1, Option.bind_some, if_neg (XF_not k2)]
      exact ⟨κ, rfl, k2⟩
    | inr q2 =>
      rw [he] at h2
      obtain ⟨κ, k1, g1, g2, g3, g4, g5⟩ := h2
      rw [k1, Option.bind_some, if_pos g2]
      refine ⟨pI κ 6 5 (nI v), rfl, CT_cong (σ := κ) rfl (fun a j h => gI_ne (by omega)) g1, by rw [gI_ne (by omega)]; exact g2, ⟨by rw [gI_eq, updA_eq rfl], by rw [gI_ne (by omega), updA_ne (by omega)]; exact g3.2.1, fun r hr => ?_⟩, fun a j h => by rw [gI_ne (by omega)]; exact g4 a j h, g5⟩
      rw [updA_ne (by omega)] at hr
      obtain ⟨r1, r2, r3, r4⟩ := g3.2.2 r hr
      refine ⟨by rw [gI_ne (by omega), updA_ne (by omega)]; exact r1, by rw [gI_ne (by omega), updA_ne (by omega)]; exact r2, by rw [gI_ne (by omega), updA_ne (by omega)]; exact r3, fun e he => ?_⟩
      rw [updA_ne (by omega)] at he
      rw [gI_ne (by omega), gI_ne (by omega), updA_ne (by omega), updA_ne (by omega)]; exact r4 e he
theorem x_person6 {σ0 σ : Sg} {c : Nat → Nat} {n p : Nat} {B : Nat → Nat} (W : WT B) (hp : p ≤ n) (hN : B 1 < 9) (H : XG' σ0 σ c n p B) : ∃ τ, s_TownReader_readPerson σ = some τ ∧ XI σ0 τ c n (match num c n p 0 5 with
    | .inl f => .inl f
    | .inr (k, q1) => match num c n q1 1 10 with
      | .inl f => .inl f
      | .inr (v, q2) => match en c n q2 with
        | .inl f => .inl f
        | .inr q3 => .inr (q3, addP B k v)) := by
  have h1 := xnum_st (lo := 0) (hi := 5) W hp (by omega) (by omega) H
  rw [s_TownReader_readPerson]
  show ∃ τ, ((s_TownReader_number σ (nI 0) (nI 5 - 1)).bind _) = some τ ∧ _
  cases hn : num c n p 0 5 with
  | inl f =>
    rw [hn] at h1
    obtain ⟨τ, t1, t2⟩ := h1
    have nt := XF_not t2
    rw [t1, Option.bind_some]
    show ∃ τ', ((s_TownReader_number τ 1 9).bind _) = some τ' ∧ _
    rw [x_numF nt, Option.bind_some]
    show ∃ τ', ((s_TownReader_end τ).bind _) = some τ' ∧ _
    rw [x_endF nt, Option.bind_some, if_neg nt]
    exact ⟨τ, rfl, t2⟩
  | inr vq =>
    obtain ⟨k, q1⟩ := vq
    obtain ⟨⟨b1, b2⟩, b3, b4, -⟩ := (num_b (c := c) (lo := 0) (hi := 5) hp).2 k q1 hn
    rw [hn] at h1
    obtain ⟨τ, t1, t2⟩ := h1
    have h2 := xnum_st (lo := 1) (hi := 10) W b2 (by omega) (by omega) t2
    rw [t1, Option.bind_some]
    show ∃ τ', ((s_TownReader_number τ (nI 1) (nI 10 - 1)).bind fun q2 => (s_TownReader_end q2.2).bind fun q3 => if gI q3 4 4 = -1 then (s_Town_addPerson_6 q3 (nI k) q2.1).bind fun q5 => some q5.2 else some q3) = some τ' ∧ XI σ0 τ' c n (match num c n q1 1 10 with
      | .inl f => .inl f
      | .inr (v, q2) => match en c n q2 with
        | .inl f => .inl f
        | .inr q3 => .inr (q3, addP B k v))
    cases hn2 : num c n q1 1 10 with
    | inl f =>
      rw [hn2] at h2
      obtain ⟨κ, k1, k2⟩ := h2
      have nt := XF_not k2
      rw [k1, Option.bind_some, x_endF nt, Option.bind_some, if_neg nt]
      exact ⟨κ, rfl, k2⟩
    | inr vq =>
      obtain ⟨v, q2⟩ := vq
      obtain ⟨⟨d1, d2⟩, d3, d4, -⟩ := (num_b (c := c) (lo := 1) (hi := 10) b2).2 v q2 hn2
      rw [hn2] at h2
      obtain ⟨κ, k1, k2⟩ := h2
      have h3 := xend_st W d2 k2
      rw [k1, Option.bind_some]
      show ∃ τ', ((s_TownReader_end κ).bind fun q3 => if gI q3 4 4 = -1 then (s_Town_addPerson_6 q3 (nI k) (nI v)).bind fun q5 => some q5.2 else some q3) = some τ' ∧ XI σ0 τ' c n (match en c n q2 with
        | .inl f => .inl f
        | .inr q3 => .inr (q3, addP B k v))
      cases he : en c n q2 with
      | inl f =>
        rw [he] at h3
        obtain ⟨ω, o1, o2⟩ := h3
        rw [o1, Option.bind_some, if_neg (XF_not o2)]
        exact ⟨ω, rfl, o2⟩
      | inr q3 =>
        rw [he] at h3
        obtain ⟨ω, o1, o2⟩ := h3
        obtain ⟨ψ, r, p1, p2⟩ := xaddP (k := k) (v := v) W hN o2
        rw [o1, Option.bind_some, if_pos o2.2.1, p1, Option.bind_some]
        exact ⟨ψ, rfl, p2⟩
theorem x_errandF {σ0 σ : Sg} {c : Nat → Nat} {n f : Nat} {v1 : Int32} (H : XF σ0 σ c n f) : j_TownReader_readErrand_49 σ v1 = some σ := by
  have nt := XF_not H
  unfold j_TownReader_readErrand_49
  rw [x_numF nt, Option.bind_some]
  show ((s_TownReader_number σ 0 9).bind _) = _
  rw [x_numF nt, Option.bind_some]
  show ((s_TownReader_end σ).bind _) = _
  rw [x_endF nt, Option.bind_some, if_neg nt]
theorem x_errand6 {σ0 σ : Sg} {c : Nat → Nat} {n p : Nat} {B : Nat → Nat} (W : WT B) (hp : p ≤ n) (H : XG' σ0 σ c n p B) : ∃ τ, s_TownReader_readErrand σ = some τ ∧ XI σ0 τ c n (match num c n p 0 (B 1) with
    | .inl f => .inl f
    | .inr (w, q1) => if B (4 + 11 * w) = 4 then .inl (q1 - 1) else match num c n q1 0 (B 0) with
      | .inl f => .inl f
      | .inr (a, q2) => match num c n q2 0 10 with
        | .inl f => .inl f
        | .inr (h, q3) => match en c n q3 with
          | .inl f => .inl f
          | .inr q4 => .inr (q4, addE B w a h)) := by
  have n9 := W.2.2.1
  have n6 := W.2.1
  have h1 := xnum_st (lo := 0) (hi := B 1) W hp (by omega) (by omega) H
  have e66 : gI σ 6 6 = nI (B 1) := H.2.2.1.2.1
  rw [s_TownReader_readErrand, e66]
  show ∃ τ, ((s_TownReader_number σ (nI 0) (nI (B 1) - 1)).bind _) = some τ ∧ _
  cases hn : num c n p 0 (B 1) with
  | inl f =>
    rw [hn] at h1
    obtain ⟨τ, t1, t2⟩ := h1
    rw [t1, Option.bind_some]
    have : s_Town_hasPerson_6 τ (-1) = some 0 := by rw [s_Town_hasPerson_6, if_pos (by decide)]
    show ∃ τ', ((s_Town_hasPerson_6 τ (-1)).bind _) = some τ' ∧ _
    rw [this, Option.bind_some, if_pos rfl]
    exact ⟨τ, x_errandF t2, t2⟩
  | inr vq =>
    obtain ⟨w, q1⟩ := vq
    obtain ⟨⟨b1, b2⟩, b3, b4, -⟩ := (num_b (c := c) (lo := 0) (hi := B 1) hp).2 w q1 hn
    rw [hn] at h1
    obtain ⟨τ, t1, t2⟩ := h1
    have hE := (W.2.2.2 w b4).2.2.2.1
    have e9 : gI τ 9 w = nI (B (4 + 11 * w)) := (t2.2.2.1.2.2 w b4).2.2.1
    have e65 : gI τ 6 5 = nI (B 0) := t2.2.2.1.1
    have e66' : gI τ 6 6 = nI (B 1) := t2.2.2.1.2.1
    have hhp : s_Town_hasPerson_6 τ (nI w) = some 1 := by
      rw [s_Town_hasPerson_6, e66', if_neg (by show ¬ nI w < nI 0; rw [nI_ltI (by omega) (by omega)]; omega), if_neg (by rw [nI_leI (by omega) (by omega)]; omega)]
    rw [t1, Option.bind_some]
    show ∃ τ', ((s_Town_hasPerson_6 τ (nI w)).bind fun q2 => if q2 = 0 then j_TownReader_readErrand_49 τ (nI w) else (if inB (nI w) 9 = true then (if gI τ 9 (Int32.toNatClampNeg (nI w)) < 4 then j_TownReader_readErrand_49 τ (nI w) else j_TownReader_readErrand_49 (pI τ 4 4 (gI τ 4 3 - 1)) (nI w)) else none)) = some τ' ∧ XI σ0 τ' c n (if B (4 + 11 * w) = 4 then .inl (q1 - 1) else match num c n q1 0 (B 0) with
      | .inl f => .inl f
      | .inr (a, q2) => match num c n q2 0 10 with
        | .inl f => .inl f
        | .inr (h, q3) => match en c n q3 with
          | .inl f => .inl f
          | .inr q4 => .inr (q4, addE B w a h))
    rw [hhp, Option.bind_some, if_neg (show ¬ (1 : Int32) = 0 by decide), if_pos (inB_nI (by omega) (by omega)), nI_clamp (by omega), e9]
    by_cases h4 : B (4 + 11 * w) = 4
    · rw [if_neg (show ¬ nI (B (4 + 11 * w)) < 4 from fun g => by have := (ltN (a := B (4 + 11 * w)) (b := 4) (by omega) (by omega)).mp g; omega), if_pos h4, t2.1.2.2.1]
      obtain ⟨m, hm⟩ : ∃ m, q1 = m + 1 := ⟨q1 - 1, by omega⟩
      subst hm
      rw [nI_pred, Nat.add_sub_cancel]
      have hF : XF σ0 (pI τ 4 4 (nI m)) c n m := ⟨⟨m + 1, b2, CT_cong (σ := τ) rfl (fun a j h => gI_ne (by omega)) t2.1⟩, gI_eq, by omega, fun a j h => by rw [gI_ne (by omega)]; exact t2.2.2.2.1 a j h, t2.2.2.2.2⟩
      exact ⟨_, x_errandF hF, hF⟩
    · rw [if_pos (show nI (B (4 + 11 * w)) < 4 from (ltN (a := B (4 + 11 * w)) (b := 4) (by omega) (by omega)).mpr (by omega)), if_neg h4]
      have h2 := xnum_st (lo := 0) (hi := B 0) W b2 (by omega) (by omega) t2
      unfold j_TownReader_readErrand_49
      rw [e65]
      show ∃ τ', ((s_TownReader_number τ (nI 0) (nI (B 0) - 1)).bind _) = some τ' ∧ _
      cases hn2 : num c n q1 0 (B 0) with
      | inl f =>
        rw [hn2] at h2
        obtain ⟨κ, k1, k2⟩ := h2
        have nt := XF_not k2
        rw [k1, Option.bind_some]
        show ∃ τ', ((s_TownReader_number κ 0 9).bind _) = some τ' ∧ _
        rw [x_numF nt, Option.bind_some]
        show ∃ τ', ((s_TownReader_end κ).bind _) = some τ' ∧ _
        rw [x_endF nt, Option.bind_some, if_neg nt]
        exact ⟨κ, rfl, k2⟩
      | inr vq =>
        obtain ⟨a, q2⟩ := vq
        obtain ⟨⟨d1, d2⟩, d3, d4, -⟩ := (num_b (c := c) (lo := 0) (hi := B 0) b2).2 a q2 hn2
        rw [hn2] at h2
        obtain ⟨κ, k1, k2⟩ := h2
        have h3 := xnum_st (lo := 0) (hi := 10) W d2 (by omega) (by omega) k2
        rw [k1, Option.bind_some]
        show ∃ τ', ((s_TownReader_number κ (nI 0) (nI 10 - 1)).bind fun q5 => (s_TownReader_end q5.2).bind fun q6 => if gI q6 4 4 = -1 then (s_Town_addErrand_6 q6 (nI w) (nI a) q5.1).bind fun q8 => some q8.2 else some q6) = some τ' ∧ XI σ0 τ' c n (match num c n q2 0 10 with
          | .inl f => .inl f
          | .inr (h, q3) => match en c n q3 with
            | .inl f => .inl f
            | .inr q4 => .inr (q4, addE B w a h))
        cases hn3 : num c n q2 0 10 with
        | inl f =>
          rw [hn3] at h3
          obtain ⟨ω, o1, o2⟩ := h3
          have nt := XF_not o2
          rw [o1, Option.bind_some, x_endF nt, Option.bind_some, if_neg nt]
          exact ⟨ω, rfl, o2⟩
        | inr vq =>
          obtain ⟨h, q3⟩ := vq
          obtain ⟨⟨g1, g2⟩, g3, g4, -⟩ := (num_b (c := c) (lo := 0) (hi := 10) d2).2 h q3 hn3
          rw [hn3] at h3
          obtain ⟨ω, o1, o2⟩ := h3
          have h5 := xend_st W g2 o2
          rw [o1, Option.bind_some]
          show ∃ τ', ((s_TownReader_end ω).bind fun q6 => if gI q6 4 4 = -1 then (s_Town_addErrand_6 q6 (nI w) (nI a) (nI h)).bind fun q8 => some q8.2 else some q6) = some τ' ∧ XI σ0 τ' c n (match en c n q3 with
            | .inl f => .inl f
            | .inr q4 => .inr (q4, addE B w a h))
          cases he : en c n q3 with
          | inl f =>
            rw [he] at h5
            obtain ⟨φ, p1, p2⟩ := h5
            rw [p1, Option.bind_some, if_neg (XF_not p2)]
            exact ⟨φ, rfl, p2⟩
          | inr q4 =>
            rw [he] at h5
            obtain ⟨φ, p1, p2⟩ := h5
            obtain ⟨ψ, r, r1, r2⟩ := xaddE (a := a) (h := h) W b4 (by omega) p2
            rw [p1, Option.bind_some, if_pos p2.2.1, r1, Option.bind_some]
            exact ⟨ψ, rfl, r2⟩
