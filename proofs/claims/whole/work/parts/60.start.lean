theorem nc_L_7 : NC RL 7 11 15 [.null, .null, .null, .null, .null, .null, .null, .null, .null, .int 0, .int 0, .int 0, .int 0, .int 0, .int 0] := ⟨RX11, TX11, tyX11, rfl, tbl_in 130 (by decide +kernel) (by decide +kernel), tbl_in 131 (by decide +kernel) (by decide +kernel), tbl_in 109 (by decide +kernel) (by decide +kernel), lay_11, tyX11_ok, fun j hj => by
  match j, hj with
  | 0, _ => rfl
  | 1, _ => rfl
  | 2, _ => rfl
  | 3, _ => rfl
  | 4, _ => rfl
  | 5, _ => rfl
  | 6, _ => rfl
  | 7, _ => rfl
  | 8, _ => rfl
  | 9, _ => rfl
  | 10, _ => rfl
  | 11, _ => rfl
  | 12, _ => rfl
  | 13, _ => rfl
  | 14, _ => rfl
  | j + 15, hj => omega⟩
theorem nc_L_10 : NC RL 10 12 29 [.null, .null, .null, .null, .long 0, .long 0, .null, .null, .null, .int 0, .null, .null, .null, .null, .null, .null, .int 0, .null, .null, .null, .null, .int 0, .int 0, .int 0, .int 0, .int 0, .null, .int 0, .int 0] := ⟨RX12, TX12, tyX12, rfl, tbl_in 943 (by decide +kernel) (by decide +kernel), tbl_in 944 (by decide +kernel) (by decide +kernel), tbl_in 121 (by decide +kernel) (by decide +kernel), lay_12, tyX12_ok, fun j hj => by
  match j, hj with
  | 0, _ => rfl
  | 1, _ => rfl
  | 2, _ => rfl
  | 3, _ => rfl
  | 4, _ => rfl
  | 5, _ => rfl
  | 6, _ => rfl
  | 7, _ => rfl
  | 8, _ => rfl
  | 9, _ => rfl
  | 10, _ => rfl
  | 11, _ => rfl
  | 12, _ => rfl
  | 13, _ => rfl
  | 14, _ => rfl
  | 15, _ => rfl
  | 16, _ => rfl
  | 17, _ => rfl
  | 18, _ => rfl
  | 19, _ => rfl
  | 20, _ => rfl
  | 21, _ => rfl
  | 22, _ => rfl
  | 23, _ => rfl
  | 24, _ => rfl
  | 25, _ => rfl
  | 26, _ => rfl
  | 27, _ => rfl
  | 28, _ => rfl
  | j + 29, hj => omega⟩
theorem cn_X11_init : CFn M_X11_init 0 := ⟨tbl_in 134 (by decide +kernel) (by decide +kernel), tbl_in 109 (by decide +kernel) (by decide +kernel), by decide, by decide +kernel, by decide +kernel, by decide +kernel⟩
theorem ci_L_9 : CFI RL 9 M_X11_init 0 := ⟨cn_X11_init, Or.inl (tbl_in 132 (by decide +kernel) (by decide +kernel)), tbl_in 133 (by decide +kernel) (by decide +kernel), rfl, rfl⟩
theorem cn_X12_init : CFn M_X12_init 0 := ⟨tbl_in 947 (by decide +kernel) (by decide +kernel), tbl_in 121 (by decide +kernel) (by decide +kernel), by decide, by decide +kernel, by decide +kernel, by decide +kernel⟩
theorem ci_L_12 : CFI RL 12 M_X12_init 0 := ⟨cn_X12_init, Or.inl (tbl_in 945 (by decide +kernel) (by decide +kernel)), tbl_in 946 (by decide +kernel) (by decide +kernel), rfl, rfl⟩
/-- what Splits' constructor leaves -/
def spT : Sg := (s_spl sgZ).getD sgZ
/-- the state behind both constructors -/
def rw0 (g18 : Nat → Int32) : List (Nat → Int32) := [fun j => if j = 11 then 1 else 0, fun _ => 0, fun _ => 0, fun _ => 0, fun _ => 0, fun _ => 0, fun j => if j = 5 then 4 else 0, fun _ => 0, fun _ => 0, fun _ => 0, fun _ => 0, fun _ => 0, fun _ => 0, g18, fun _ => 0, fun _ => 0, fun _ => 0, fun _ => 0, fun _ => 0, fun j => if j = 5 then 4 else 0, fun _ => 0, fun _ => 0, fun _ => 0, fun _ => 0, fun _ => 0, fun _ => 0, fun _ => 0, fun _ => 0, fun _ => 0, fun _ => 0, fun _ => 0, fun _ => 0, fun _ => 0, fun _ => 0, fun _ => 0, fun _ => 0, fun _ => 0, fun _ => 0, fun _ => 0, fun _ => 0, fun _ => 0, fun _ => 0, fun _ => 0, fun _ => 0, fun _ => 0, fun _ => 0, fun _ => 0, fun j => if j = 5 then 4 else 0, fun _ => 0, fun _ => 0, fun _ => 0, fun _ => 0, fun _ => 0, fun _ => 0, fun _ => 0, fun _ => 0, fun _ => 0, fun _ => 0, fun _ => 0, fun j => if j = 5 then 4 else 0, fun _ => 0, fun _ => 0, fun _ => 0, fun _ => 0, fun _ => 0, fun _ => 0, fun _ => 0, fun _ => 0, fun _ => 0, fun _ => 0, fun _ => 0, fun _ => 0, upd (fun _ => 0) (Int32.toNatClampNeg 0) 4, fun _ => 0, fun _ => 0, fun _ => 0, fun _ => 0, fun _ => 0, fun _ => 0, fun _ => 0, fun _ => 0, fun _ => 0, fun _ => 0, fun _ => 0, fun _ => 0, fun _ => 0, fun _ => 0, fun _ => 0, fun _ => 0, fun _ => 0]
def sgI (g18 : Nat → Int32) (g19 : Nat → Int64) : Sg := (fun a => (rw0 g18).getD a (fun _ => 0), fun a => if a = 14 then g19 else fun j => if a = 71 then (if j = 5 then 1 else 0) else 0, fun a j => if a = 4 then 5 else if j = 2 then 45 else 46)
def sg0 : Sg := sgI (gI spT 1) (gL spT 2)
theorem arr_of {ty : FieldType} {args : Array Value} {s : State} (h : (Cond.arrayClass ty).before args s = true) : ∃ cA, ArrOfT s cA ty ∧ s.vm.findClass ("[" ++ ty.toString) = some cA := by
  obtain ⟨cA, kA, comp, h1, h2, h3⟩ := Cond.arrayClass_spec h
  exact ⟨cA, fun n z => ⟨fun k h => (by cases h), kA, h2, comp, h3⟩, h1⟩
theorem arr_ofO {C : String} {args : Array Value} {s : State} (h : (Cond.arrayOver (.object C)).before args s = true) : ∃ cA, ArrOfT s cA (.object C) ∧ va_RA s cA (.object C) := by
  obtain ⟨comp, cA, kA, h1, h2, h3, h4, h5⟩ := Cond.arrayOver_spec h
  exact ⟨cA, fun N z => ⟨(fun k h => by cases h), kA, h3, comp, h4⟩, kA, comp, h3, h4, h1, h5⟩
theorem start_K {args : Array Value} {s : State} (hts : ∀ w ∈ lw_tbl, w.before args s = true) : ∃ (D : va_G) (tc : Nat → ClassId), va_K D vwCl (tysO tc) s := by
  have htT : ∀ w ∈ tbl, w.before args s = true := fun w hw => hts w (List.mem_filter.mp hw).1
  have h0 : ∀ k : Nat, ∃ z : ClassId × (Nat → Nat), ∀ q, vwCl[k]? = some q → u_Kn s q.1 q.2.1 q.2.2 z.1 z.2 := by
    intro k
    match k with
    | 0 =>
      obtain ⟨c0, i0, h⟩ := u_known (C := RX0) (T := TX0) (N := 10) (n := 10) htT lay_0 (hts _ (List.mem_of_getElem? (i := 280) (by decide +kernel)))
      exact ⟨(c0, i0), fun q hq => by cases hq; exact h⟩
    | 1 =>
      obtain ⟨c0, i0, h⟩ := u_known (C := RX1) (T := TX1) (N := 4) (n := 4) htT lay_1 (hts _ (List.mem_of_getElem? (i := 361) (by decide +kernel)))
      exact ⟨(c0, i0), fun q hq => by cases hq; exact h⟩
    | 2 =>
      obtain ⟨c0, i0, h⟩ := u_known (C := RX2) (T := TX2) (N := 0) (n := 0) htT (fun w hw => by simp [u_ws] at hw) (hts _ (List.mem_of_getElem? (i := 294) (by decide +kernel)))
      exact ⟨(c0, i0), fun q hq => by cases hq; exact h⟩
    | 3 =>
      obtain ⟨c0, i0, h⟩ := u_known (C := RX3) (T := TX3) (N := 0) (n := 0) htT (fun w hw => by simp [u_ws] at hw) (hts _ (List.mem_of_getElem? (i := 315) (by decide +kernel)))
      exact ⟨(c0, i0), fun q hq => by cases hq; exact h⟩
    | 4 =>
      obtain ⟨c0, i0, h⟩ := u_known (C := RX4) (T := TX4) (N := 0) (n := 0) htT (fun w hw => by simp [u_ws] at hw) (hts _ (List.mem_of_getElem? (i := 308) (by decide +kernel)))
      exact ⟨(c0, i0), fun q hq => by cases hq; exact h⟩
    | 5 =>
      obtain ⟨c0, i0, h⟩ := u_known (C := RX5) (T := TX5) (N := 0) (n := 0) htT (fun w hw => by simp [u_ws] at hw) (hts _ (List.mem_of_getElem? (i := 287) (by decide +kernel)))
      exact ⟨(c0, i0), fun q hq => by cases hq; exact h⟩
    | 6 =>
      obtain ⟨c0, i0, h⟩ := u_known (C := RX6) (T := TX6) (N := 8) (n := 8) htT lay_6 (hts _ (List.mem_of_getElem? (i := 242) (by decide +kernel)))
      exact ⟨(c0, i0), fun q hq => by cases hq; exact h⟩
    | 7 =>
      obtain ⟨c0, i0, h⟩ := u_known (C := RX7) (T := TX7) (N := 6) (n := 6) htT lay_7 (hts _ (List.mem_of_getElem? (i := 210) (by decide +kernel)))
      exact ⟨(c0, i0), fun q hq => by cases hq; exact h⟩
    | 8 =>
      obtain ⟨c0, i0, h⟩ := u_known (C := RX8) (T := TX8) (N := 0) (n := 0) htT (fun w hw => by simp [u_ws] at hw) (hts _ (List.mem_of_getElem? (i := 301) (by decide +kernel)))
      exact ⟨(c0, i0), fun q hq => by cases hq; exact h⟩
    | 9 =>
      obtain ⟨c0, i0, h⟩ := u_known (C := RX9) (T := TX9) (N := 7) (n := 7) htT lay_9 (hts _ (List.mem_of_getElem? (i := 147) (by decide +kernel)))
      exact ⟨(c0, i0), fun q hq => by cases hq; exact h⟩
    | 10 =>
      obtain ⟨c0, i0, h⟩ := u_known (C := RX10) (T := TX10) (N := 5) (n := 5) htT lay_10 (hts _ (List.mem_of_getElem? (i := 141) (by decide +kernel)))
      exact ⟨(c0, i0), fun q hq => by cases hq; exact h⟩
    | 11 =>
      obtain ⟨c0, i0, h⟩ := u_known (C := RX11) (T := TX11) (N := 15) (n := 15) htT lay_11 (hts _ (List.mem_of_getElem? (i := 131) (by decide +kernel)))
      exact ⟨(c0, i0), fun q hq => by cases hq; exact h⟩
    | 12 =>
      obtain ⟨c0, i0, h⟩ := u_known (C := RX12) (T := TX12) (N := 29) (n := 29) htT lay_12 (hts _ (List.mem_of_getElem? (i := 944) (by decide +kernel)))
      exact ⟨(c0, i0), fun q hq => by cases hq; exact h⟩
    | k + 13 => exact ⟨(0, fun _ => 0), fun q hq => by simp [vwCl] at hq⟩
  obtain ⟨z, hz⟩ := Classical.axiomOfChoice h0
  obtain ⟨c0, a0, b0⟩ := arr_of (ty := .int) (hts _ (List.mem_of_getElem? (i := 191) (by decide +kernel)))
  obtain ⟨c1, a1, b1⟩ := arr_of (ty := .boolean) (hts _ (List.mem_of_getElem? (i := 190) (by decide +kernel)))
  obtain ⟨c2, a2, b2⟩ := arr_of (ty := .long) (hts _ (List.mem_of_getElem? (i := 239) (by decide +kernel)))
  obtain ⟨c3, a3, b3⟩ := arr_ofO (C := RX6) (hts _ (List.mem_of_getElem? (i := 139) (by decide +kernel)))
  obtain ⟨c4, a4, b4⟩ := arr_ofO (C := RX5) (hts _ (List.mem_of_getElem? (i := 286) (by decide +kernel)))
  refine ⟨(fun k => (z k).1, fun k => (z k).2), fun i => [c0, c1, c2, c3, c4].getD i c0, fun k q hq => hz k q hq, fun k q hq => ?_⟩
  match k, hq with
  | 0, hq => cases hq; exact ⟨a0, b0⟩
  | 1, hq => cases hq; exact ⟨a1, b1⟩
  | 2, hq => cases hq; exact ⟨a2, b2⟩
  | 3, hq => cases hq; exact ⟨a3, b3⟩
  | 4, hq => cases hq; exact ⟨a4, b4⟩
  | k + 5, hq => simp [tysO] at hq
theorem start_AO {args : Array Value} {s : State} (hts : ∀ w ∈ lw_tbl, w.before args s = true) : AOs s := ⟨va_AO.of (hts _ (List.mem_of_getElem? (i := 139) (by decide +kernel))), va_AO.of (hts _ (List.mem_of_getElem? (i := 286) (by decide +kernel))), va_Nw.of rfl (hts _ (List.mem_of_getElem? (i := 1397) (by decide +kernel))), va_Nw.of rfl (hts _ (List.mem_of_getElem? (i := 1398) (by decide +kernel))), va_Nw.of rfl (hts _ (List.mem_of_getElem? (i := 1399) (by decide +kernel))), va_Nw.of rfl (hts _ (List.mem_of_getElem? (i := 1400) (by decide +kernel)))⟩
theorem start_N {args : Array Value} {s : State} (hts : ∀ w ∈ lw_tbl, w.before args s = true) : ∀ w ∈ nst, va_Nw w s := fun w hw => by
  have h1 := (List.mem_filter.mp hw).2
  have h2 := hts w (List.mem_filter.mp hw).1
  cases w <;> first | exact va_Nw.of rfl h2 | exact absurd h1 Bool.false_ne_true
