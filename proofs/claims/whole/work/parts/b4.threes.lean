/-- the threes of nine people, rising -/
def T3L : List Nat := [7, 11, 13, 14, 19, 21, 22, 25, 26, 28, 35, 37, 38, 41, 42, 44, 49, 50, 52, 56, 67, 69, 70, 73, 74, 76, 81, 82, 84, 88, 97, 98, 100, 104, 112, 131, 133, 134, 137, 138, 140, 145, 146, 148, 152, 161, 162, 164, 168, 176, 193, 194, 196, 200, 208, 224, 259, 261, 262, 265, 266, 268, 273, 274, 276, 280, 289, 290, 292, 296, 304, 321, 322, 324, 328, 336, 352, 385, 386, 388, 392, 400, 416, 448]
def T3 (x : Nat) : Nat := T3L.getD x 0
/-- how many threes lie below a number -/
def o3 (m : Nat) : Nat := (T3L.filter (fun t => decide (t < m))).length
theorem T3_ok : ∀ x, x < 84 → T3 x < 512 ∧ bN (T3 x) = 3 ∧ o3 (T3 x) = x := by decide +kernel
theorem o3_ok : ∀ m, m < 512 → bN m = 3 → T3 (o3 m) = m ∧ o3 (m + 1) = o3 m + 1 ∧ o3 m < 84 := by decide +kernel
theorem o3_no : ∀ m, m < 512 → ¬ bN m = 3 → o3 (m + 1) = o3 m := by decide +kernel
theorem o3_N1 : ∀ N, N < 10 → o3 (2 ^ N) ≤ 84 := by decide +kernel
theorem o3_N2 : ∀ N, N < 10 → ∀ x, x < 84 → (T3 x < 2 ^ N ↔ x < o3 (2 ^ N)) := by decide +kernel
theorem spT_ok : ∀ x, x < 84 → gI spT 1 x = nI (T3 x) := by decide +kernel
