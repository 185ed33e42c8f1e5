/-! the start -/
theorem k_all {args : Array Value} {s : State} (hts : ∀ w ∈ lw_tbl, w.before args s = true) : ∃ D : va_G, va_K D vwCl (TY D) s ∧ AO s := by
  have h2 : ∀ w ∈ lw_all, w.before args s = true := fun w h => hts w (all_tbl h)
  obtain ⟨c0, i0, k0⟩ := u_known (n := 5) h2 ui_X0 (h2 _ (in_all 57 (by decide +kernel) rfl))
  obtain ⟨c1, i1, k1⟩ := u_known (n := 4) h2 ui_X1 (h2 _ (in_all 151 (by decide +kernel) rfl))
  obtain ⟨c2, i2, k2⟩ := u_known (n := 3) h2 ui_X2 (h2 _ (in_all 86 (by decide +kernel) rfl))
  obtain ⟨c3, i3, k3⟩ := u_known (n := 11) h2 ui_X3 (h2 _ (in_all 20 (by decide +kernel) rfl))
  obtain ⟨c4, i4, k4⟩ := u_known (n := 4) h2 ui_X4 (h2 _ (in_all 172 (by decide +kernel) rfl))
  obtain ⟨c5, i5, k5⟩ := u_known (n := 4) h2 ui_X5 (h2 _ (in_all 26 (by decide +kernel) rfl))
  obtain ⟨c6, i6, k6⟩ := u_known (n := 8) h2 ui_X6 (h2 _ (in_all 12 (by decide +kernel) rfl))
  obtain ⟨a0, m0, p0, e0, f0, g0⟩ := Cond.arrayClass_spec (hts (.arrayClass .int) (by decide +kernel))
  obtain ⟨a1, m1, p1, e1, f1, g1⟩ := Cond.arrayClass_spec (hts (.arrayClass .char) (by decide +kernel))
  have o2 := hts (.arrayOver (.array .int)) (by decide +kernel)
  have o3 := hts (.arrayOver (.object CHIP)) (by decide +kernel)
  obtain ⟨p2, a2, m2, -, -, f2, g2, e2⟩ := aoa_spec o2
  obtain ⟨p3, a3, m3, q3, -, f3, g3, e3⟩ := Cond.arrayOver_spec o3
  have r0 : ArrOfT s a0 .int := fun N z => ⟨(fun k h => by cases h), m0, f0, p0, g0⟩
  have r1 : ArrOfT s a1 .char := fun N z => ⟨(fun k h => by cases h), m1, f1, p1, g1⟩
  have r2 : ArrOfT s a2 (.array .int) := fun N z => ⟨(fun k h => by cases h), m2, f2, p2, g2⟩
  have r3 : ArrOfT s a3 (.object CHIP) := fun N z => ⟨(fun k h => by cases h), m3, f3, p3, g3⟩
  refine ⟨(fun k => if k = 0 then c0 else if k = 1 then c1 else if k = 2 then c2 else if k = 3 then c3 else if k = 4 then c4 else if k = 5 then c5 else if k = 6 then c6 else if k = 100 then a0 else if k = 101 then a1 else if k = 102 then a2 else a3, fun k => if k = 0 then i0 else if k = 1 then i1 else if k = 2 then i2 else if k = 3 then i3 else if k = 4 then i4 else if k = 5 then i5 else i6), ⟨?_, ?_⟩, ?_, va_AO.of o3⟩
  · intro k q hq
    match k, hq with
    | 0, hq => cases hq; exact k0
    | 1, hq => cases hq; exact k1
    | 2, hq => cases hq; exact k2
    | 3, hq => cases hq; exact k3
    | 4, hq => cases hq; exact k4
    | 5, hq => cases hq; exact k5
    | 6, hq => cases hq; exact k6
    | k + 7, hq => exact absurd (List.getElem?_eq_some_iff.mp hq).1 (by show ¬ k + 7 < 7; omega)
  · intro k q hq
    match k, hq with
    | 0, hq => cases hq; exact ⟨r0, e0⟩
    | 1, hq => cases hq; exact ⟨r1, e1⟩
    | 2, hq => cases hq; exact ⟨r2, e2⟩
    | 3, hq => cases hq; exact ⟨r3, m3, p3, f3, g3, q3, e3⟩
    | k + 4, hq => exact absurd (List.getElem?_eq_some_iff.mp hq).1 (by show ¬ k + 4 < 4; omega)
  · show (Cond.arrayOver (.array .int)).before #[] s = true
    exact o2
theorem st_k_first {args : Array Value} {s : State} {A : Nat → Prop} (h : (Jvm.Cond.and given_1 narrow_1).before args s = true) (hts : ∀ w ∈ lw_tbl, w.before args s = true) (hA : ∀ a : Nat, a < s.heap.size → ¬ A a) : STn "FIRST_VALUE" k_first A s s.heap := by
  have hs := flat_of_before _ h
  have hel : ∀ j : Nat, j < 7 → (Term.elem (.static RX6 "FIRST_VALUE" "[I") (.int (Int32.ofNat j))).eval args s none [] s = some (.int (kf k_first j)) := fun j hj => by
    match j, hj with
    | 0, _ => exact va_eqt (hs _ (by decide +kernel))
    | 1, _ => exact va_eqt (hs _ (by decide +kernel))
    | 2, _ => exact va_eqt (hs _ (by decide +kernel))
    | 3, _ => exact va_eqt (hs _ (by decide +kernel))
    | 4, _ => exact va_eqt (hs _ (by decide +kernel))
    | 5, _ => exact va_eqt (hs _ (by decide +kernel))
    | 6, _ => exact va_eqt (hs _ (by decide +kernel))
  obtain ⟨t, ht, hT⟩ := va_Tof (args := args) (s := s) (tm := .static RX6 "FIRST_VALUE" "[I") (ty := .int) (N := 7) (f := fun j => .int (kf k_first j)) (A := A) (by decide) (hs _ (by decide +kernel)) (va_eqt (hs _ (by decide +kernel))) hel hA
  exact ⟨t, va_Zof (hts (.laysStatic RX6 "FIRST_VALUE" "[I") (by decide +kernel)) (hts (.initialized RX6) (by decide +kernel)) ht hA, hT⟩
theorem st_k_last {args : Array Value} {s : State} {A : Nat → Prop} (h : (Jvm.Cond.and given_1 narrow_1).before args s = true) (hts : ∀ w ∈ lw_tbl, w.before args s = true) (hA : ∀ a : Nat, a < s.heap.size → ¬ A a) : STn "LAST_VALUE" k_last A s s.heap := by
  have hs := flat_of_before _ h
  have hel : ∀ j : Nat, j < 7 → (Term.elem (.static RX6 "LAST_VALUE" "[I") (.int (Int32.ofNat j))).eval args s none [] s = some (.int (kf k_last j)) := fun j hj => by
    match j, hj with
    | 0, _ => exact va_eqt (hs _ (by decide +kernel))
    | 1, _ => exact va_eqt (hs _ (by decide +kernel))
    | 2, _ => exact va_eqt (hs _ (by decide +kernel))
    | 3, _ => exact va_eqt (hs _ (by decide +kernel))
    | 4, _ => exact va_eqt (hs _ (by decide +kernel))
    | 5, _ => exact va_eqt (hs _ (by decide +kernel))
    | 6, _ => exact va_eqt (hs _ (by decide +kernel))
  obtain ⟨t, ht, hT⟩ := va_Tof (args := args) (s := s) (tm := .static RX6 "LAST_VALUE" "[I") (ty := .int) (N := 7) (f := fun j => .int (kf k_last j)) (A := A) (by decide) (hs _ (by decide +kernel)) (va_eqt (hs _ (by decide +kernel))) hel hA
  exact ⟨t, va_Zof (hts (.laysStatic RX6 "LAST_VALUE" "[I") (by decide +kernel)) (hts (.initialized RX6) (by decide +kernel)) ht hA, hT⟩
theorem st_k_least {args : Array Value} {s : State} {A : Nat → Prop} (h : (Jvm.Cond.and given_1 narrow_1).before args s = true) (hts : ∀ w ∈ lw_tbl, w.before args s = true) (hA : ∀ a : Nat, a < s.heap.size → ¬ A a) : STn "LEAST_SETTING" k_least A s s.heap := by
  have hs := flat_of_before _ h
  have hel : ∀ j : Nat, j < 3 → (Term.elem (.static RX6 "LEAST_SETTING" "[I") (.int (Int32.ofNat j))).eval args s none [] s = some (.int (kf k_least j)) := fun j hj => by
    match j, hj with
    | 0, _ => exact va_eqt (hs _ (by decide +kernel))
    | 1, _ => exact va_eqt (hs _ (by decide +kernel))
    | 2, _ => exact va_eqt (hs _ (by decide +kernel))
  obtain ⟨t, ht, hT⟩ := va_Tof (args := args) (s := s) (tm := .static RX6 "LEAST_SETTING" "[I") (ty := .int) (N := 3) (f := fun j => .int (kf k_least j)) (A := A) (by decide) (hs _ (by decide +kernel)) (va_eqt (hs _ (by decide +kernel))) hel hA
  exact ⟨t, va_Zof (hts (.laysStatic RX6 "LEAST_SETTING" "[I") (by decide +kernel)) (hts (.initialized RX6) (by decide +kernel)) ht hA, hT⟩
theorem st_k_most {args : Array Value} {s : State} {A : Nat → Prop} (h : (Jvm.Cond.and given_1 narrow_1).before args s = true) (hts : ∀ w ∈ lw_tbl, w.before args s = true) (hA : ∀ a : Nat, a < s.heap.size → ¬ A a) : STn "MOST_SETTING" k_most A s s.heap := by
  have hs := flat_of_before _ h
  have hel : ∀ j : Nat, j < 3 → (Term.elem (.static RX6 "MOST_SETTING" "[I") (.int (Int32.ofNat j))).eval args s none [] s = some (.int (kf k_most j)) := fun j hj => by
    match j, hj with
    | 0, _ => exact va_eqt (hs _ (by decide +kernel))
    | 1, _ => exact va_eqt (hs _ (by decide +kernel))
    | 2, _ => exact va_eqt (hs _ (by decide +kernel))
  obtain ⟨t, ht, hT⟩ := va_Tof (args := args) (s := s) (tm := .static RX6 "MOST_SETTING" "[I") (ty := .int) (N := 3) (f := fun j => .int (kf k_most j)) (A := A) (by decide) (hs _ (by decide +kernel)) (va_eqt (hs _ (by decide +kernel))) hel hA
  exact ⟨t, va_Zof (hts (.laysStatic RX6 "MOST_SETTING" "[I") (by decide +kernel)) (hts (.initialized RX6) (by decide +kernel)) ht hA, hT⟩
theorem st_k_days {args : Array Value} {s : State} {A : Nat → Prop} (h : (Jvm.Cond.and given_1 narrow_1).before args s = true) (hts : ∀ w ∈ lw_tbl, w.before args s = true) (hA : ∀ a : Nat, a < s.heap.size → ¬ A a) : STn "DAYS_AHEAD_OF_MONTH" k_days A s s.heap := by
  have hs := flat_of_before _ h
  have hel : ∀ j : Nat, j < 12 → (Term.elem (.static RX6 "DAYS_AHEAD_OF_MONTH" "[I") (.int (Int32.ofNat j))).eval args s none [] s = some (.int (kf k_days j)) := fun j hj => by
    match j, hj with
    | 0, _ => exact va_eqt (hs _ (by decide +kernel))
    | 1, _ => exact va_eqt (hs _ (by decide +kernel))
    | 2, _ => exact va_eqt (hs _ (by decide +kernel))
    | 3, _ => exact va_eqt (hs _ (by decide +kernel))
    | 4, _ => exact va_eqt (hs _ (by decide +kernel))
    | 5, _ => exact va_eqt (hs _ (by decide +kernel))
    | 6, _ => exact va_eqt (hs _ (by decide +kernel))
    | 7, _ => exact va_eqt (hs _ (by decide +kernel))
    | 8, _ => exact va_eqt (hs _ (by decide +kernel))
    | 9, _ => exact va_eqt (hs _ (by decide +kernel))
    | 10, _ => exact va_eqt (hs _ (by decide +kernel))
    | 11, _ => exact va_eqt (hs _ (by decide +kernel))
  obtain ⟨t, ht, hT⟩ := va_Tof (args := args) (s := s) (tm := .static RX6 "DAYS_AHEAD_OF_MONTH" "[I") (ty := .int) (N := 12) (f := fun j => .int (kf k_days j)) (A := A) (by decide) (hs _ (by decide +kernel)) (va_eqt (hs _ (by decide +kernel))) hel hA
  exact ⟨t, va_Zof (hts (.laysStatic RX6 "DAYS_AHEAD_OF_MONTH" "[I") (by decide +kernel)) (hts (.initialized RX6) (by decide +kernel)) ht hA, hT⟩
theorem st_all {args : Array Value} {s : State} {A : Nat → Prop} (h : (Jvm.Cond.and given_1 narrow_1).before args s = true) (hts : ∀ w ∈ lw_tbl, w.before args s = true) (hA : ∀ a : Nat, a < s.heap.size → ¬ A a) : ST A s s.heap :=
  ⟨st_k_first h hts hA, st_k_last h hts hA, st_k_least h hts hA, st_k_most h hts hA, st_k_days h hts hA, va_Nw.of rfl (hts (.fieldLinkNest RX5 24 RX6 "FIRST_VALUE" "[I" RX6) (by decide +kernel)), va_Nw.of rfl (hts (.fieldLinkNest RX5 33 RX6 "LAST_VALUE" "[I" RX6) (by decide +kernel)), va_Nw.of rfl (hts (.fieldLinkNest RX5 69 RX6 "DAYS_AHEAD_OF_MONTH" "[I" RX6) (by decide +kernel)), va_Nw.of rfl (hts (.methodLinkNest RX0 36 yX6_bitOf RX6) (by decide +kernel)), va_Nw.of rfl (hts (.methodLinkNest RX5 47 yX6_bitOf RX6) (by decide +kernel)), va_Nw.of rfl (hts (.methodLinkNest RX5 66 yX6_numberOf RX6) (by decide +kernel))⟩
theorem sx_of {b L : Nat} {xs : Nat → Int32} {A : Nat → Prop} {s : State} (hX : va_X b L xs s s.heap) (hL : L ≤ 260) (hbA : ¬ A b) : SX b L xs A s s.heap := by
  obtain ⟨scr, h1, h2, h3, h4, h5⟩ := hX
  exact ⟨scr, h1, h2, h3, by rw [h4]; exact Nat.le_refl _, by rw [h4], h5, hbA⟩
