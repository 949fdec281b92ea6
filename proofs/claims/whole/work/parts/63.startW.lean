theorem va_cl0 : Int32.toNatClampNeg 0 = 0 := by decide
theorem va_cl1 : Int32.toNatClampNeg 1 = 1 := by decide
theorem va_cl2 : Int32.toNatClampNeg 2 = 2 := by decide
theorem va_cl3 : Int32.toNatClampNeg 3 = 3 := by decide
theorem va_cl4 : Int32.toNatClampNeg 4 = 4 := by decide
theorem ups2 {ad : Nat → Nat} {v0 v1 : Nat} (e0 : v0 = ad 53) (e1 : v1 = ad 65) : (va_up (va_up (fun _ => none) (Int32.toNatClampNeg 0) (some v0)) (Int32.toNatClampNeg 1) (some v1)) = fun j => ([53, 65][j]?).map ad := by
  subst e0; subst e1
  funext j
  match j with
  | 0 => rfl
  | 1 => rfl
  | j + 2 =>
    simp only [va_up, va_cl0, va_cl1]
    rw [if_neg (by omega), if_neg (by omega)]; rfl
theorem ups5 {ad : Nat → Nat} {v0 v1 v2 v3 v4 : Nat} (e0 : v0 = ad 38) (e1 : v1 = ad 39) (e2 : v2 = ad 40) (e3 : v3 = ad 41) (e4 : v4 = ad 42) : (va_up (va_up (va_up (va_up (va_up (fun _ => none) (Int32.toNatClampNeg 0) (some v0)) (Int32.toNatClampNeg 1) (some v1)) (Int32.toNatClampNeg 2) (some v2)) (Int32.toNatClampNeg 3) (some v3)) (Int32.toNatClampNeg 4) (some v4)) = fun j => ([38, 39, 40, 41, 42][j]?).map ad := by
  subst e0; subst e1; subst e2; subst e3; subst e4
  funext j
  match j with
  | 0 => rfl
  | 1 => rfl
  | 2 => rfl
  | 3 => rfl
  | 4 => rfl
  | j + 5 =>
    simp only [va_up, va_cl0, va_cl1, va_cl2, va_cl3, va_cl4]
    rw [if_neg (by omega), if_neg (by omega), if_neg (by omega), if_neg (by omega), if_neg (by omega)]; rfl
def mF (f : Nat → Nat → Value) : Nat → List Nat → List Value
  | _, [] => []
  | i, c :: l => f i c :: mF f (i + 1) l
theorem mF_go (f : Nat → Nat → Value) : ∀ (l : List Nat) (k : Nat), l.mapIdx (fun i c => f (k + i) c) = mF f k l
  | [], _ => by rfl
  | c :: l, k => by
    rw [List.mapIdx_cons, mF, ← mF_go f l (k + 1)]
    simp only [Nat.add_zero, Nat.add_assoc, Nat.add_comm 1]
theorem mF_eq (f : Nat → Nat → Value) (l : List Nat) : l.mapIdx (fun i c => f i c) = mF f 0 l := by
  rw [← mF_go]; simp only [Nat.zero_add]
theorem ent71 {tc : Nat → ClassId} {ad : Nat → Nat} {σ : Sg} {m1 m2 m3 m4 m5 m6 m7 m8 m9 m10 m11 m12 m13 m14 m15 m16 m17 m18 : Nat} (hI : ∀ j, gI σ 71 j = 0) (h4 : gL σ 71 4 = 0) (h5 : gL σ 71 5 = 1) (e1 : m1 = ad 72) (e2 : m2 = ad 73) (e3 : m3 = ad 74) (e4 : m4 = ad 75) (e5 : m5 = ad 76) (e6 : m6 = ad 77) (e7 : m7 = ad 78) (e8 : m8 = ad 79) (e9 : m9 = ad 80) (e10 : m10 = ad 81) (e11 : m11 = ad 82) (e12 : m12 = ad 83) (e13 : m13 = ad 84) (e14 : m14 = ad 85) (e15 : m15 = ad 86) (e16 : m16 = ad 87) (e17 : m17 = ad 88) (e18 : m18 = ad 89) : (Sum.inr (12, [.ref m1, .ref m2, .ref m3, .ref m4, .long 0, .long 1, .ref m5, .ref m6, .ref m7, .int 0, .ref m8, .ref m9, .ref m10, .ref m11, .ref m12, .ref m13, .int 0, .ref m14, .ref m15, .ref m16, .ref m17, .int 0, .int 0, .int 0, .int 0, .int 0, .ref m18, .int 0, .int 0]) : va_E) = ent tc ad σ 71 (12, [75, 76, 77, 78, 1, 1, 79, 80, 81, 0, 82, 83, 84, 85, 86, 87, 0, 88, 89, 90, 91, 0, 0, 0, 0, 0, 92, 0, 0]) := by
  subst e1; subst e2; subst e3; subst e4; subst e5; subst e6; subst e7; subst e8; subst e9; subst e10; subst e11; subst e12; subst e13; subst e14; subst e15; subst e16; subst e17; subst e18
  show _ = (Sum.inr (12, List.mapIdx (fun i c => cv ad (aval σ 71 i c)) [75, 76, 77, 78, 1, 1, 79, 80, 81, 0, 82, 83, 84, 85, 86, 87, 0, 88, 89, 90, 91, 0, 0, 0, 0, 0, 92, 0, 0]) : va_E)
  rw [mF_eq]
  show _ = (Sum.inr (12, [.ref (ad 72), .ref (ad 73), .ref (ad 74), .ref (ad 75), .long (gL σ 71 4), .long (gL σ 71 5), .ref (ad 76), .ref (ad 77), .ref (ad 78), .int (gI σ 71 9), .ref (ad 79), .ref (ad 80), .ref (ad 81), .ref (ad 82), .ref (ad 83), .ref (ad 84), .int (gI σ 71 16), .ref (ad 85), .ref (ad 86), .ref (ad 87), .ref (ad 88), .int (gI σ 71 21), .int (gI σ 71 22), .int (gI σ 71 23), .int (gI σ 71 24), .int (gI σ 71 25), .ref (ad 89), .int (gI σ 71 27), .int (gI σ 71 28)]) : va_E)
  simp only [hI, h4, h5]
theorem sgI_l4 (g18 : Nat → Int32) (g19 : Nat → Int64) : gL (sgI g18 g19) 71 4 = 0 := by
  show (if (71 : Nat) = 14 then g19 else fun j => if (71 : Nat) = 71 then (if j = 5 then (1 : Int64) else 0) else 0) 4 = 0
  rw [if_neg (by decide)]
  show (if (71 : Nat) = 71 then (if (4 : Nat) = 5 then (1 : Int64) else 0) else 0) = 0
  rw [if_pos rfl, if_neg (by decide)]
theorem sgI_l5 (g18 : Nat → Int32) (g19 : Nat → Int64) : gL (sgI g18 g19) 71 5 = 1 := by
  show (if (71 : Nat) = 14 then g19 else fun j => if (71 : Nat) = 71 then (if j = 5 then (1 : Int64) else 0) else 0) 5 = 1
  rw [if_neg (by decide)]
  show (if (71 : Nat) = 71 then (if (5 : Nat) = 5 then (1 : Int64) else 0) else 0) = 1
  rw [if_pos rfl, if_pos rfl]
def wsF (tc : Nat → ClassId) (ad : Nat → Nat) (σ : Sg) : Nat → List (Nat × List Nat) → va_W
  | _, [] => []
  | k, s :: S => (ad k, ent tc ad σ k s) :: wsF tc ad σ (k + 1) S
theorem wsF_go (tc : Nat → ClassId) (ad : Nat → Nat) (σ : Sg) : ∀ (S : List (Nat × List Nat)) (k : Nat), S.mapIdx (fun i s => (ad (k + i), ent tc ad σ (k + i) s)) = wsF tc ad σ k S
  | [], _ => by rfl
  | s :: S, k => by
    rw [List.mapIdx_cons, wsF, ← wsF_go tc ad σ S (k + 1)]
    simp only [Nat.add_zero, Nat.add_assoc, Nat.add_comm 1]
theorem wsF_eq (tc : Nat → ClassId) (ad : Nat → Nat) (σ : Sg) (S : List (Nat × List Nat)) : S.mapIdx (fun k s => (ad k, ent tc ad σ k s)) = wsF tc ad σ 0 S := by
  rw [← wsF_go]; simp only [Nat.zero_add]
theorem wc_cons {tc : Nat → ClassId} {ad : Nat → Nat} {σ : Sg} {k k' : Nat} {x : Nat × va_E} {s : Nat × List Nat} {w : va_W} {S : List (Nat × List Nat)} (hk : k' = k + 1) (h : x = (ad k, ent tc ad σ k s)) (t : w = wsF tc ad σ k' S) : x :: w = wsF tc ad σ k (s :: S) := by
  rw [wsF, ← h, ← hk, ← t]
set_option maxRecDepth 100000 in
set_option maxHeartbeats 16000000 in
theorem start_ws {tc : Nat → ClassId} {adK adV : Nat → Nat} {fm b : Nat} (g18 : Nat → Int32) (g19 : Nat → Int64) {x0 x1 x2 x3 x4 x5 x6 x7 x8 x9 x10 x11 x12 x13 x14 x15 x16 x17 x21 x22 x23 x24 x25 x26 x27 x28 x29 x30 x31 x32 x33 x34 x35 x36 x37 x38 x39 x40 x41 x42 x43 x44 x45 x46 x47 x48 x49 x51 x52 x53 x54 x55 x56 x50 x57 x58 x59 x60 x61 x63 x64 x65 x66 x67 x68 x62 x69 x70 x71 x72 x73 m0 m1 m2 m3 m4 m5 m6 m7 m8 m9 m10 m11 m12 m13 m14 m15 m16 m17 m18 : Nat} : ([(x0, .inr (11, [.ref x28, .ref x1, .ref x2, .ref x3, .ref x4, .ref x34, .ref x46, .ref x12, .ref x21, .int 0, .int 0, .int 1, .int 0, .int 0, .int 0])), (x1, .inl (tc 3, 2, .inr (.inr (.inr (.inr (va_up (va_up (fun _ => none) (Int32.toNatClampNeg 0) (some x50)) (Int32.toNatClampNeg 1) (some x62))))))), (x2, .inl (tc 1, 2, .inl (fun _ => 0))), (x3, .inl (tc 0, 250, .inl (fun _ => 0))), (x4, .inr (10, [.ref x6, .ref x5, .int 0, .int 0, .int 0])), (x5, .inl (tc 0, 0, .inl (fun _ => 0))), (x6, .inr (9, [.ref x7, .ref x8, .ref x9, .ref x10, .ref x11, .int 4, .int 0])), (x7, .inl (tc 0, 9, .inl (fun _ => 0))), (x8, .inl (tc 0, 9, .inl (fun _ => 0))), (x9, .inl (tc 0, 9, .inl (fun _ => 0))), (x10, .inl (tc 0, 36, .inl (fun _ => 0))), (x11, .inl (tc 0, 36, .inl (fun _ => 0))), (x12, .inr (7, [.ref x13, .ref x14, .ref x15, .ref x16, .ref x17, .int 0])), (x13, .inl (tc 0, 84, .inl g18)), (x14, .inl (tc 2, 512, .inr (.inl g19))), (x15, .inl (tc 0, 512, .inl (fun _ => 0))), (x16, .inl (tc 0, 840, .inl (fun _ => 0))), (x17, .inl (tc 2, 280, .inr (.inl (fun _ => 0)))), (x21, .inl (tc 0, 3, .inl (fun _ => 0))), (x22, .inr (9, [.ref x23, .ref x24, .ref x25, .ref x26, .ref x27, .int 4, .int 0])), (x23, .inl (tc 0, 9, .inl (fun _ => 0))), (x24, .inl (tc 0, 9, .inl (fun _ => 0))), (x25, .inl (tc 0, 9, .inl (fun _ => 0))), (x26, .inl (tc 0, 36, .inl (fun _ => 0))), (x27, .inl (tc 0, 36, .inl (fun _ => 0))), (x28, .inr (6, [.ref x22, .ref x29, .ref x30, .ref x31, .ref x32, .ref x33, .int 0, .int 0])), (x29, .inl (tc 0, 8, .inl (fun _ => 0))), (x30, .inl (tc 0, 18, .inl (fun _ => 0))), (x31, .inl (tc 0, 5, .inl (fun _ => 0))), (x32, .inl (tc 0, 5, .inl (fun _ => 0))), (x33, .inl (tc 0, 5, .inl (fun _ => 0))), (x34, .inr (0, [.ref x22, .ref x35, .ref x36, .ref x37, .ref x38, .ref x39, .ref x40, .int 0, .int 0, .int 0])), (x35, .inl (tc 4, 5, .inr (.inr (.inr (.inr (va_up (va_up (va_up (va_up (va_up (fun _ => none) (Int32.toNatClampNeg 0) (some x41)) (Int32.toNatClampNeg 1) (some x42)) (Int32.toNatClampNeg 2) (some x43)) (Int32.toNatClampNeg 3) (some x44)) (Int32.toNatClampNeg 4) (some x45))))))), (x36, .inl (tc 0, 3, .inl (fun _ => 0))), (x37, .inl (tc 0, 3, .inl (fun _ => 0))), (x38, .inl (tc 1, 3, .inl (fun _ => 0))), (x39, .inl (tc 1, 36, .inl (fun _ => 0))), (x40, .inl (tc 0, 10, .inl (fun _ => 0))), (x41, .inr (5, [])), (x42, .inr (2, [])), (x43, .inr (8, [])), (x44, .inr (4, [])), (x45, .inr (3, [])), (x46, .inr (1, [.ref x22, .ref x47, .ref x48, .ref x49])), (x47, .inl (tc 0, 60, .inl (fun _ => 0))), (x48, .inl (tc 0, 384, .inl (fun _ => 0))), (x49, .inl (tc 0, 384, .inl (fun _ => 0))), (x51, .inr (9, [.ref x52, .ref x53, .ref x54, .ref x55, .ref x56, .int 4, .int 0])), (x52, .inl (tc 0, 9, .inl (fun _ => 0))), (x53, .inl (tc 0, 9, .inl (fun _ => 0))), (x54, .inl (tc 0, 9, .inl (fun _ => 0))), (x55, .inl (tc 0, 36, .inl (fun _ => 0))), (x56, .inl (tc 0, 36, .inl (fun _ => 0))), (x50, .inr (6, [.ref x51, .ref x57, .ref x58, .ref x59, .ref x60, .ref x61, .int 0, .int 0])), (x57, .inl (tc 0, 8, .inl (fun _ => 0))), (x58, .inl (tc 0, 18, .inl (fun _ => 0))), (x59, .inl (tc 0, 5, .inl (fun _ => 0))), (x60, .inl (tc 0, 5, .inl (fun _ => 0))), (x61, .inl (tc 0, 5, .inl (fun _ => 0))), (x63, .inr (9, [.ref x64, .ref x65, .ref x66, .ref x67, .ref x68, .int 4, .int 0])), (x64, .inl (tc 0, 9, .inl (fun _ => 0))), (x65, .inl (tc 0, 9, .inl (fun _ => 0))), (x66, .inl (tc 0, 9, .inl (fun _ => 0))), (x67, .inl (tc 0, 36, .inl (fun _ => 0))), (x68, .inl (tc 0, 36, .inl (fun _ => 0))), (x62, .inr (6, [.ref x63, .ref x69, .ref x70, .ref x71, .ref x72, .ref x73, .int 0, .int 0])), (x69, .inl (tc 0, 8, .inl (fun _ => 0))), (x70, .inl (tc 0, 18, .inl (fun _ => 0))), (x71, .inl (tc 0, 5, .inl (fun _ => 0))), (x72, .inl (tc 0, 5, .inl (fun _ => 0))), (x73, .inl (tc 0, 5, .inl (fun _ => 0))), (m0, .inr (12, [.ref m1, .ref m2, .ref m3, .ref m4, .long 0, .long 1, .ref m5, .ref m6, .ref m7, .int 0, .ref m8, .ref m9, .ref m10, .ref m11, .ref m12, .ref m13, .int 0, .ref m14, .ref m15, .ref m16, .ref m17, .int 0, .int 0, .int 0, .int 0, .int 0, .ref m18, .int 0, .int 0])), (m1, .inl (tc 0, 143, .inl (upd (fun _ => 0) (Int32.toNatClampNeg 0) 4))), (m2, .inl (tc 0, 286, .inl (fun _ => 0))), (m3, .inl (tc 1, 2, .inl (fun _ => 0))), (m4, .inl (tc 0, 3, .inl (fun _ => 0))), (m5, .inl (tc 0, 3, .inl (fun _ => 0))), (m6, .inl (tc 0, 3, .inl (fun _ => 0))), (m7, .inl (tc 0, 10, .inl (fun _ => 0))), (m8, .inl (tc 1, 24576, .inl (fun _ => 0))), (m9, .inl (tc 1, 24576, .inl (fun _ => 0))), (m10, .inl (tc 0, 3, .inl (fun _ => 0))), (m11, .inl (tc 0, 512, .inl (fun _ => 0))), (m12, .inl (tc 0, 3, .inl (fun _ => 0))), (m13, .inl (tc 2, 280, .inr (.inl (fun _ => 0)))), (m14, .inl (tc 0, 7442, .inl (fun _ => 0))), (m15, .inl (tc 0, 7442, .inl (fun _ => 0))), (m16, .inl (tc 0, 7442, .inl (fun _ => 0))), (m17, .inl (tc 0, 250, .inl (fun _ => 0))), (m18, .inl (tc 0, 101, .inl (fun _ => 0)))] : va_W) = wsG SK tc (fun k => if k < 90 then [x0, x1, x2, x3, x4, x5, x6, x7, x8, x9, x10, x11, x12, x13, x14, x15, x16, x17, x21, x22, x23, x24, x25, x26, x27, x28, x29, x30, x31, x32, x33, x34, x35, x36, x37, x38, x39, x40, x41, x42, x43, x44, x45, x46, x47, x48, x49, x51, x52, x53, x54, x55, x56, x50, x57, x58, x59, x60, x61, x63, x64, x65, x66, x67, x68, x62, x69, x70, x71, x72, x73, m0, m1, m2, m3, m4, m5, m6, m7, m8, m9, m10, m11, m12, m13, m14, m15, m16, m17, m18].getD k 0 else if k < 93 then adK (k - 90) else if k < 96 then adV (k - 93) else if k = 96 then fm else b) (sgI g18 g19) := by
  rw [wsG, wsF_eq]
  refine wc_cons (k := 0) (k' := 1) rfl rfl ?_
  refine wc_cons (k := 1) (k' := 2) rfl (Prod.ext rfl (congrArg (fun f : Nat → Option Nat => (Sum.inl (tc 3, 2, Sum.inr (Sum.inr (Sum.inr (Sum.inr f)))) : va_E)) (ups2 (ad := (fun k => if k < 90 then [x0, x1, x2, x3, x4, x5, x6, x7, x8, x9, x10, x11, x12, x13, x14, x15, x16, x17, x21, x22, x23, x24, x25, x26, x27, x28, x29, x30, x31, x32, x33, x34, x35, x36, x37, x38, x39, x40, x41, x42, x43, x44, x45, x46, x47, x48, x49, x51, x52, x53, x54, x55, x56, x50, x57, x58, x59, x60, x61, x63, x64, x65, x66, x67, x68, x62, x69, x70, x71, x72, x73, m0, m1, m2, m3, m4, m5, m6, m7, m8, m9, m10, m11, m12, m13, m14, m15, m16, m17, m18].getD k 0 else if k < 93 then adK (k - 90) else if k < 96 then adV (k - 93) else if k = 96 then fm else b)) rfl rfl))) ?_
  refine wc_cons (k := 2) (k' := 3) rfl rfl ?_
  refine wc_cons (k := 3) (k' := 4) rfl rfl ?_
  refine wc_cons (k := 4) (k' := 5) rfl rfl ?_
  refine wc_cons (k := 5) (k' := 6) rfl rfl ?_
  refine wc_cons (k := 6) (k' := 7) rfl rfl ?_
  refine wc_cons (k := 7) (k' := 8) rfl rfl ?_
  refine wc_cons (k := 8) (k' := 9) rfl rfl ?_
  refine wc_cons (k := 9) (k' := 10) rfl rfl ?_
  refine wc_cons (k := 10) (k' := 11) rfl rfl ?_
  refine wc_cons (k := 11) (k' := 12) rfl rfl ?_
  refine wc_cons (k := 12) (k' := 13) rfl rfl ?_
  refine wc_cons (k := 13) (k' := 14) rfl rfl ?_
  refine wc_cons (k := 14) (k' := 15) rfl rfl ?_
  refine wc_cons (k := 15) (k' := 16) rfl rfl ?_
  refine wc_cons (k := 16) (k' := 17) rfl rfl ?_
  refine wc_cons (k := 17) (k' := 18) rfl rfl ?_
  refine wc_cons (k := 18) (k' := 19) rfl rfl ?_
  refine wc_cons (k := 19) (k' := 20) rfl rfl ?_
  refine wc_cons (k := 20) (k' := 21) rfl rfl ?_
  refine wc_cons (k := 21) (k' := 22) rfl rfl ?_
  refine wc_cons (k := 22) (k' := 23) rfl rfl ?_
  refine wc_cons (k := 23) (k' := 24) rfl rfl ?_
  refine wc_cons (k := 24) (k' := 25) rfl rfl ?_
  refine wc_cons (k := 25) (k' := 26) rfl rfl ?_
  refine wc_cons (k := 26) (k' := 27) rfl rfl ?_
  refine wc_cons (k := 27) (k' := 28) rfl rfl ?_
  refine wc_cons (k := 28) (k' := 29) rfl rfl ?_
  refine wc_cons (k := 29) (k' := 30) rfl rfl ?_
  refine wc_cons (k := 30) (k' := 31) rfl rfl ?_
  refine wc_cons (k := 31) (k' := 32) rfl rfl ?_
  refine wc_cons (k := 32) (k' := 33) rfl (Prod.ext rfl (congrArg (fun f : Nat → Option Nat => (Sum.inl (tc 4, 5, Sum.inr (Sum.inr (Sum.inr (Sum.inr f)))) : va_E)) (ups5 (ad := (fun k => if k < 90 then [x0, x1, x2, x3, x4, x5, x6, x7, x8, x9, x10, x11, x12, x13, x14, x15, x16, x17, x21, x22, x23, x24, x25, x26, x27, x28, x29, x30, x31, x32, x33, x34, x35, x36, x37, x38, x39, x40, x41, x42, x43, x44, x45, x46, x47, x48, x49, x51, x52, x53, x54, x55, x56, x50, x57, x58, x59, x60, x61, x63, x64, x65, x66, x67, x68, x62, x69, x70, x71, x72, x73, m0, m1, m2, m3, m4, m5, m6, m7, m8, m9, m10, m11, m12, m13, m14, m15, m16, m17, m18].getD k 0 else if k < 93 then adK (k - 90) else if k < 96 then adV (k - 93) else if k = 96 then fm else b)) rfl rfl rfl rfl rfl))) ?_
  refine wc_cons (k := 33) (k' := 34) rfl rfl ?_
  refine wc_cons (k := 34) (k' := 35) rfl rfl ?_
  refine wc_cons (k := 35) (k' := 36) rfl rfl ?_
  refine wc_cons (k := 36) (k' := 37) rfl rfl ?_
  refine wc_cons (k := 37) (k' := 38) rfl rfl ?_
  refine wc_cons (k := 38) (k' := 39) rfl rfl ?_
  refine wc_cons (k := 39) (k' := 40) rfl rfl ?_
  refine wc_cons (k := 40) (k' := 41) rfl rfl ?_
  refine wc_cons (k := 41) (k' := 42) rfl rfl ?_
  refine wc_cons (k := 42) (k' := 43) rfl rfl ?_
  refine wc_cons (k := 43) (k' := 44) rfl rfl ?_
  refine wc_cons (k := 44) (k' := 45) rfl rfl ?_
  refine wc_cons (k := 45) (k' := 46) rfl rfl ?_
  refine wc_cons (k := 46) (k' := 47) rfl rfl ?_
  refine wc_cons (k := 47) (k' := 48) rfl rfl ?_
  refine wc_cons (k := 48) (k' := 49) rfl rfl ?_
  refine wc_cons (k := 49) (k' := 50) rfl rfl ?_
  refine wc_cons (k := 50) (k' := 51) rfl rfl ?_
  refine wc_cons (k := 51) (k' := 52) rfl rfl ?_
  refine wc_cons (k := 52) (k' := 53) rfl rfl ?_
  refine wc_cons (k := 53) (k' := 54) rfl rfl ?_
  refine wc_cons (k := 54) (k' := 55) rfl rfl ?_
  refine wc_cons (k := 55) (k' := 56) rfl rfl ?_
  refine wc_cons (k := 56) (k' := 57) rfl rfl ?_
  refine wc_cons (k := 57) (k' := 58) rfl rfl ?_
  refine wc_cons (k := 58) (k' := 59) rfl rfl ?_
  refine wc_cons (k := 59) (k' := 60) rfl rfl ?_
  refine wc_cons (k := 60) (k' := 61) rfl rfl ?_
  refine wc_cons (k := 61) (k' := 62) rfl rfl ?_
  refine wc_cons (k := 62) (k' := 63) rfl rfl ?_
  refine wc_cons (k := 63) (k' := 64) rfl rfl ?_
  refine wc_cons (k := 64) (k' := 65) rfl rfl ?_
  refine wc_cons (k := 65) (k' := 66) rfl rfl ?_
  refine wc_cons (k := 66) (k' := 67) rfl rfl ?_
  refine wc_cons (k := 67) (k' := 68) rfl rfl ?_
  refine wc_cons (k := 68) (k' := 69) rfl rfl ?_
  refine wc_cons (k := 69) (k' := 70) rfl rfl ?_
  refine wc_cons (k := 70) (k' := 71) rfl rfl ?_
  refine wc_cons (k := 71) (k' := 72) rfl (Prod.ext rfl (ent71 (tc := tc) (fun _ => rfl) (sgI_l4 g18 g19) (sgI_l5 g18 g19) rfl rfl rfl rfl rfl rfl rfl rfl rfl rfl rfl rfl rfl rfl rfl rfl rfl rfl)) ?_
  refine wc_cons (k := 72) (k' := 73) rfl rfl ?_
  refine wc_cons (k := 73) (k' := 74) rfl rfl ?_
  refine wc_cons (k := 74) (k' := 75) rfl rfl ?_
  refine wc_cons (k := 75) (k' := 76) rfl rfl ?_
  refine wc_cons (k := 76) (k' := 77) rfl rfl ?_
  refine wc_cons (k := 77) (k' := 78) rfl rfl ?_
  refine wc_cons (k := 78) (k' := 79) rfl rfl ?_
  refine wc_cons (k := 79) (k' := 80) rfl rfl ?_
  refine wc_cons (k := 80) (k' := 81) rfl rfl ?_
  refine wc_cons (k := 81) (k' := 82) rfl rfl ?_
  refine wc_cons (k := 82) (k' := 83) rfl rfl ?_
  refine wc_cons (k := 83) (k' := 84) rfl rfl ?_
  refine wc_cons (k := 84) (k' := 85) rfl rfl ?_
  refine wc_cons (k := 85) (k' := 86) rfl rfl ?_
  refine wc_cons (k := 86) (k' := 87) rfl rfl ?_
  refine wc_cons (k := 87) (k' := 88) rfl rfl ?_
  refine wc_cons (k := 88) (k' := 89) rfl rfl ?_
  refine wc_cons (k := 89) (k' := 90) rfl rfl ?_
  rfl
