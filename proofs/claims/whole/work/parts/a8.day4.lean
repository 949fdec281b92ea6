theorem dE_s {A w : Nat → Nat} {h at_ i k m : Nat} {s : Nat × Nat} : dE A w h at_ i k (m + 1) s = dE A w h at_ i (k + 1) m (if (!s.1.testBit k && decide (h ≤ A (6 + 11 * w i + 2 * k))) = true ∧ A (5 + 11 * w i + 2 * k) = at_ then (s.1 ||| 2 ^ k, s.2 + 1) else s) := rfl
theorem or_bit {d k e : Nat} : (d ||| 2 ^ k).testBit e = (d.testBit e || decide (k = e)) := by rw [Nat.testBit_or, Nat.testBit_two_pow]
theorem updA_self {A : Nat → Nat} {i : Nat} : updA A i (A i) = A := by
  funext j
  by_cases c : j = i
  · rw [updA_eq c, c]
  · rw [updA_ne c]
theorem x_do1 {A w D : Nat → Nat} {h at_ i : Nat} {v2 : Int32} (W : WT A) (hw : ∀ j, j < 3 → w j < A 1) (hd : w 0 < w 1 ∧ w 1 < w 2) (hh : h < 10) (hi : i < 3) (ha : at_ < A 0) : ∀ (m k F : Nat) (ρ : Sg) (d c : Nat), m < F → k + m = A (4 + 11 * w i) → DX ρ A w (updA D i d) h at_ → gI ρ 31 9 = nI c →
    ∃ o, lp (b_Day_doErrands_30 v2 (nI i) (nI (w i)) (nI (4 * w i))) F (ρ, nI (4 * w i + k)) = some o ∧ DX o.1 A w (updA D i (dE A w h at_ i k m (d, c)).1) h at_ ∧ gI o.1 31 9 = nI (dE A w h at_ i k m (d, c)).2 ∧ (∀ c j, ¬ (c = 36 ∨ c = 31 ∧ j = 9) → gI o.1 c j = gI ρ c j) ∧ o.1.2 = ρ.2 := by
  have h6 := W.2.1
  intro m
  induction m with
  | zero =>
    intro k F ρ d c hF hk H hc
    obtain ⟨f, rfl⟩ : ∃ f, F = f + 1 := ⟨F - 1, by omega⟩
    obtain ⟨⟨e1, e2⟩, ⟨e3, -, e4⟩, -⟩ := DX_E W hw H hi
    refine ⟨(ρ, nI (4 * w i + k)), lp_end ?_, H, hc, fun _ _ _ => rfl, rfl⟩
    unfold b_Day_doErrands_30
    show (if inB (nI (w i)) 9 = true then (if nI (4 * w i) + gI ρ 22 (Int32.toNatClampNeg (nI (w i))) ≤ nI (4 * w i + k) then _ else _) else _) = _
    rw [if_pos (inB_nI (by omega) (by omega)), nI_clamp (by omega), e4, nI_add, if_pos (by rw [nI_leI (by omega) (by omega)]; omega)]
  | succ m ih =>
    intro k F ρ d c hF hk H hc
    obtain ⟨f, rfl⟩ : ∃ f, F = f + 1 := ⟨F - 1, by omega⟩
    obtain ⟨⟨e1, e2⟩, ⟨e3, -, e4⟩, e5⟩ := DX_E W hw H hi
    obtain ⟨q1, q2, q3⟩ := e5 k (by omega)
    have hP := ((W.2.2.2 (w i) (hw i hi)).2.2.2.2 k (by omega)).1
    have hop := x_opn W hw hh H hi (e := k) (by omega)
    have hopn : opn A w (updA D i d) h i k = (!d.testBit k && decide (h ≤ A (6 + 11 * w i + 2 * k))) := by unfold opn; rw [updA_eq rfl]
    rw [hopn] at hop
    have hbody : b_Day_doErrands_30 v2 (nI i) (nI (w i)) (nI (4 * w i)) (ρ, nI (4 * w i + k)) = if A (5 + 11 * w i + 2 * k) = at_ then (if (!d.testBit k && decide (h ≤ A (6 + 11 * w i + 2 * k))) = true then some (.inl (pI (pI ρ 36 (4 * w i + k) 1) 31 9 (nI (c + 1)), nI (4 * w i + (k + 1)))) else some (.inl (ρ, nI (4 * w i + (k + 1))))) else some (.inl (ρ, nI (4 * w i + (k + 1)))) := by
      unfold b_Day_doErrands_30
      show (if inB (nI (w i)) 9 = true then (if nI (4 * w i) + gI ρ 22 (Int32.toNatClampNeg (nI (w i))) ≤ nI (4 * w i + k) then _ else (if inB (nI (4 * w i + k)) 36 = true then (if gI ρ 23 (Int32.toNatClampNeg (nI (4 * w i + k))) = gI ρ 31 8 then ((s_Day_isOpen ρ (nI (4 * w i + k))).bind fun q => if q = 0 then some (Sum.inl (ρ, nI (4 * w i + k) + 1)) else (if inB (nI (4 * w i + k)) 36 = true then some (Sum.inl (pI (pI ρ 36 (Int32.toNatClampNeg (nI (4 * w i + k))) 1) 31 9 (gI (pI ρ 36 (Int32.toNatClampNeg (nI (4 * w i + k))) 1) 31 9 + 1), nI (4 * w i + k) + 1)) else none)) else some (Sum.inl (ρ, nI (4 * w i + k) + 1))) else none)) else none) = _
      rw [if_pos (inB_nI (by omega) (by omega)), nI_clamp (by omega), e4, nI_add, if_neg (by rw [nI_leI (by omega) (by omega)]; omega), if_pos (inB_nI (by omega) (by omega)), nI_clamp (by omega), q1, H.2.2.2.2, hop, Option.bind_some, gI_ne (by omega), hc, nI_1, nI_1, Nat.add_assoc (4 * w i) k 1]
      by_cases x : A (5 + 11 * w i + 2 * k) = at_
      · rw [if_pos (by rw [x]), if_pos x]
        by_cases y : (!d.testBit k && decide (h ≤ A (6 + 11 * w i + 2 * k))) = true
        · rw [if_pos y, if_neg (by decide), if_pos (inB_nI (by omega) (by omega)), if_pos y]
        · rw [if_neg y, if_pos rfl, if_neg y]
      · rw [if_neg (by rw [nI_eq (by omega) (by omega)]; exact x), if_neg x]
    rw [dE_s]
    by_cases x : (!d.testBit k && decide (h ≤ A (6 + 11 * w i + 2 * k))) = true ∧ A (5 + 11 * w i + 2 * k) = at_
    · rw [if_pos x.2, if_pos x.1] at hbody
      rw [lp_step hbody, if_pos (show (!(d, c).1.testBit k && decide (h ≤ A (6 + 11 * w i + 2 * k))) = true ∧ A (5 + 11 * w i + 2 * k) = at_ from x)]
      generalize hκ : pI (pI ρ 36 (4 * w i + k) 1) 31 9 (nI (c + 1)) = κ
      have hz : ∀ a j, ¬ (a = 36 ∧ j = 4 * w i + k ∨ a = 31 ∧ j = 9) → gI κ a j = gI ρ a j := fun a j q => by rw [← hκ, gI_ne (by omega), gI_ne (by omega)]
      have H2 : DX κ A w (updA D i (d ||| 2 ^ k)) h at_ := by
        refine ⟨XT_cong (fun a p q j => hz a j (by omega)) (fun _ _ => rfl) W H.1, fun j hj => (hz _ _ (by omega)).trans (H.2.1 j hj), fun j e hj he => ?_, (hz _ _ (by omega)).trans H.2.2.2.1, (hz _ _ (by omega)).trans H.2.2.2.2⟩
        have := H.2.2.1 j e hj he
        by_cases y : j = i
        · subst y
          rw [updA_eq rfl] at this ⊢
          rw [or_bit]
          by_cases z : k = e
          · subst z
            rw [← hκ, gI_ne (by omega), gI_eq, decide_eq_true rfl, Bool.or_true, if_pos rfl]
          · rw [hz _ _ (by omega), this, decide_eq_false z, Bool.or_false]
        · rw [updA_ne y] at this ⊢
          have : ¬ w j = w i := by
            have j3 : j = 0 ∨ j = 1 ∨ j = 2 := by omega
            have i3 : i = 0 ∨ i = 1 ∨ i = 2 := by omega
            rcases j3 with rfl | rfl | rfl <;> rcases i3 with rfl | rfl | rfl <;> omega
          rw [hz _ _ (by omega)]; assumption
      obtain ⟨o, o1, o2, o3, o4, o5⟩ := ih (k + 1) f κ (d ||| 2 ^ k) (c + 1) (by omega) (by omega) H2 (by rw [← hκ, gI_eq])
      exact ⟨o, o1, o2, o3, fun a j q => (o4 a j q).trans (hz a j (by omega)), o5.trans (by rw [← hκ]; rfl)⟩
    · have hb2 : b_Day_doErrands_30 v2 (nI i) (nI (w i)) (nI (4 * w i)) (ρ, nI (4 * w i + k)) = some (.inl (ρ, nI (4 * w i + (k + 1)))) := by
        rw [hbody]
        by_cases y : A (5 + 11 * w i + 2 * k) = at_
        · rw [if_pos y, if_neg (fun q => x ⟨q, y⟩)]
        · rw [if_neg y]
      rw [lp_step hb2, if_neg (show ¬ ((!(d, c).1.testBit k && decide (h ≤ A (6 + 11 * w i + 2 * k))) = true ∧ A (5 + 11 * w i + 2 * k) = at_) from x)]
      exact ih (k + 1) f ρ d c (by omega) (by omega) H hc
theorem x_do {σ : Sg} {A w D : Nat → Nat} {h at_ c : Nat} (W : WT A) (hw : ∀ j, j < 3 → w j < A 1) (hd : w 0 < w 1 ∧ w 1 < w 2) (hh : h < 10) (ha : at_ < A 0) (H : DX σ A w D h at_) (hc : gI σ 31 9 = nI c) : ∃ τ, s_Day_doErrands σ = some τ ∧ DX τ A w (do3 A w D h at_ c).1 h at_ ∧ gI τ 31 9 = nI (do3 A w D h at_ c).2 ∧ (∀ c j, ¬ (c = 36 ∨ c = 31 ∧ j = 9) → gI τ c j = gI σ c j) ∧ τ.2 = σ.2 := by
  have hstep : ∀ (i : Nat) (ρ : Sg) (D' : Nat → Nat) (c' : Nat), i < 3 → DX ρ A w D' h at_ → gI ρ 31 9 = nI c' → ∃ κ, b_Day_doErrands_10 3 (ρ, nI i) = some (.inl (κ, nI (i + 1))) ∧ DX κ A w (updA D' i (dos A w D' h at_ i c').1) h at_ ∧ gI κ 31 9 = nI (dos A w D' h at_ i c').2 ∧ (∀ c j, ¬ (c = 36 ∨ c = 31 ∧ j = 9) → gI κ c j = gI ρ c j) ∧ κ.2 = ρ.2 := fun i ρ D' c' hi H' hc' => by
    obtain ⟨⟨e1, e2⟩, ⟨e3, -, e4⟩, e5⟩ := DX_E W hw H' hi
    obtain ⟨o, o1, o2, o3, o4, o5⟩ := x_do1 (D := D') (v2 := 3) W hw hd hh hi ha (A (4 + 11 * w i)) 0 100000 ρ (D' i) c' (by omega) (by omega) (by rw [updA_self]; exact H') hc'
    refine ⟨o.1, ?_, o2, o3, o4, o5⟩
    unfold b_Day_doErrands_10
    rw [if_neg (by show ¬ nI 3 ≤ nI i; rw [nI_leI (by omega) (by omega)]; omega)]
    show (if inB (nI i) 3 = true then ((lp (b_Day_doErrands_30 3 (nI i) (gI ρ 33 (Int32.toNatClampNeg (nI i))) (gI ρ 33 (Int32.toNatClampNeg (nI i)) * 4)) 100000 (ρ, gI ρ 33 (Int32.toNatClampNeg (nI i)) * 4)).bind fun o17 => some (Sum.inl (o17.1, nI i + 1))) else none) = _
    rw [if_pos (inB_nI (by omega) (by omega)), nI_clamp (by omega), e3, mul4, show lp (b_Day_doErrands_30 3 (nI i) (nI (w i)) (nI (4 * w i))) 100000 (ρ, nI (4 * w i)) = _ from o1, Option.bind_some, nI_1]
  obtain ⟨ρ1, a1, a2, a3, a4, a5⟩ := hstep 0 σ D c (by omega) H hc
  obtain ⟨ρ2, b1, b2, b3, b4, b5⟩ := hstep 1 ρ1 _ _ (by omega) a2 a3
  obtain ⟨ρ3, c1, c2, c3, c4, c5⟩ := hstep 2 ρ2 _ _ (by omega) b2 b3
  refine ⟨ρ3, ?_, c2, c3, fun a j q => (c4 a j q).trans ((b4 a j q).trans (a4 a j q)), c5.trans (b5.trans a5)⟩
  rw [s_Day_doErrands, show lp (b_Day_doErrands_10 3) 100000 (σ, 0) = some (ρ3, nI 3) from (lp_step a1).trans ((lp_step b1).trans ((lp_step c1).trans (lp_end (n := 99996) (by unfold b_Day_doErrands_10; rw [if_pos (show (3 : Int32) ≤ nI (2 + 1) by decide)]))))]; rfl
/-- all three are quick -/
def fs (A w : Nat → Nat) : Bool := decide (5 ≤ A (3 + 11 * w 0)) && (decide (5 ≤ A (3 + 11 * w 1)) && decide (5 ≤ A (3 + 11 * w 2)))
theorem x_quick {σ : Sg} {A : Nat → Nat} {m : Nat} (hX : XT σ 19 A) (W : WT A) (hm : m < 2 ^ A 1) (h5 : m < 512) (h3 : bN m = 3) : s_Town_isQuick σ (nI m) = some (if fs A (wm m) = true then 1 else 0) := by
  have n9 := W.2.2.1
  obtain ⟨-, -, -, mb, ma⟩ := mem_ok m h5 h3
  rw [s_Town_isQuick]
  obtain ⟨z, hz, g⟩ := lp_ex (b := b_Town_isQuick_2 σ (nI m)) (I := fun x n => ∃ k, x = nI k ∧ k ≤ A 1 ∧ n = A 1 - k ∧ ∀ p, p < k → m.testBit p = true → 5 ≤ A (3 + 11 * p)) (G := fun z => (z = .inl (nI (A 1)) ∧ ∀ p, p < A 1 → m.testBit p = true → 5 ≤ A (3 + 11 * p)) ∨ (z = .inr 0 ∧ ∃ p, p < A 1 ∧ m.testBit p = true ∧ ¬ 5 ≤ A (3 + 11 * p))) (fun x n hx => by
    obtain ⟨k, rfl, k1, k2, i1⟩ := hx
    have e6 : gI σ 19 6 = nI (A 1) := hX.2.1
    by_cases d : k = A 1
    · rw [d]
      refine Or.inr ⟨_, ?_, Or.inl ⟨rfl, fun p hp => i1 p (by omega)⟩⟩
      unfold b_Town_isQuick_2
      rw [e6, if_pos (by rw [nI_leI (by omega) (by omega)]; omega)]
    have tb := tb_ok m h5 k (by omega)
    have hp := (hX.2.2 k (by omega)).2.1
    have hp : gI σ 21 k = nI (A (3 + 11 * k)) := hp
    have hw := (W.2.2.2 k (by omega)).2.2.1
    have hbody : b_Town_isQuick_2 σ (nI m) (nI k) = if ((nI m >>> (nI k &&& 31)) &&& 1) = 1 then (if 5 ≤ A (3 + 11 * k) then some (.inl (nI (k + 1))) else some (.inr (.inr 0))) else some (.inl (nI (k + 1))) := by
      unfold b_Town_isQuick_2
      rw [e6, if_neg (by rw [nI_leI (by omega) (by omega)]; omega), s_x_isIn]
      by_cases c : ((nI m >>> (nI k &&& 31)) &&& 1) = 1
      · rw [if_pos c, if_pos c, Option.bind_some, if_neg (by decide), if_pos (inB_nI (by omega) (by omega)), nI_clamp (by omega), hp, lt_eq, nI_1]
        by_cases e : 5 ≤ A (3 + 11 * k)
        · rw [if_pos e, if_pos (by show nI 5 ≤ _; rw [nI_leI (by omega) (by omega)]; exact e)]
        · rw [if_neg e, if_neg (by show ¬ nI 5 ≤ _; rw [nI_leI (by omega) (by omega)]; exact e)]
      · rw [if_neg c, if_neg c, Option.bind_some, if_pos rfl, lt_eq, nI_1]
    by_cases c : ((nI m >>> (nI k &&& 31)) &&& 1) = 1
    · rw [if_pos c] at hbody
      by_cases e : 5 ≤ A (3 + 11 * k)
      · rw [if_pos e] at hbody
        refine Or.inl ⟨_, A 1 - (k + 1), hbody, by omega, k + 1, rfl, by omega, rfl, fun p hp hq => ?_⟩
        by_cases f : p = k
        · subst f; exact e
        · exact i1 p (by omega) hq
      · rw [if_neg e] at hbody
        exact Or.inr ⟨_, hbody, Or.inr ⟨rfl, k, by omega, tb.mp c, e⟩⟩
    · rw [if_neg c] at hbody
      refine Or.inl ⟨_, A 1 - (k + 1), hbody, by omega, k + 1, rfl, by omega, rfl, fun p hp hq => ?_⟩
      by_cases f : p = k
      · subst f; exact absurd (tb.mpr hq) c
      · exact i1 p (by omega) hq) 100000 (A 1) 0 (by omega) ⟨0, rfl, by omega, by omega, fun p hp => by omega⟩
  rw [hz, Option.bind_some]
  have hwl := fun {j} (hj : j < 3) => wm_lt n9 hm h5 h3 hj
  rcases g with ⟨rfl, g⟩ | ⟨rfl, p, p1, p2, p3⟩
  · have : fs A (wm m) = true := by
      unfold fs
      rw [decide_eq_true (g _ (hwl (by omega)) (mb 0 (by omega))), decide_eq_true (g _ (hwl (by omega)) (mb 1 (by omega))), decide_eq_true (g _ (hwl (by omega)) (mb 2 (by omega)))]; rfl
    rw [this]; rfl
  · have : fs A (wm m) = false := by
      unfold fs
      rcases ma p (by omega) p2 with e | e | e
      · rw [← e, decide_eq_false p3]; rfl
      · rw [← e, decide_eq_false p3, Bool.false_and, Bool.and_false]
      · rw [← e, decide_eq_false p3, Bool.and_false, Bool.and_false]
    rw [this]; rfl
