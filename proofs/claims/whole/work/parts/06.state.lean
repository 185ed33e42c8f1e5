/-! what a state is: the reference's world (one row of numbers and what stands beside it), the class's by blocks -/
abbrev Row : Type := Nat → Int32
/-- past, pasts, runs, told, ahead, shown, shows, text, typed, numbers, spot, from, reason, cause, orders, order, spare, held -/
abbrev MT : Type := Row × Int32 × Int32 × Row × Row × Row × Int32 × Row × Int32 × Row × Int32 × Int32 × Int32 × Int32 × Int32 × Int32 × Row × Row
abbrev MSt : Type := Row × MT
def mW (D : va_G) (L : Nat → Nat) (S : MSt) : va_W :=
  [(L 0, .inr (7, [.ref (L 1), .ref (L 2), .ref (L 3), .ref (L 4), .int S.2.2.1, .int S.2.2.2.1, .ref (L 5), .int S.2.2.2.2.2.2.2.2.2.1, .ref (L 6), .ref (L 7), .ref (L 8), .int S.2.2.2.2.2.2.2.1, .int S.2.2.2.2.2.2.2.2.2.2.2.1, .int S.2.2.2.2.2.2.2.2.2.2.2.2.1, .int S.2.2.2.2.2.2.2.2.2.2.2.2.2.1, .int S.2.2.2.2.2.2.2.2.2.2.2.2.2.2.1, .int S.2.2.2.2.2.2.2.2.2.2.2.2.2.2.2.1, .int S.2.2.2.2.2.2.2.2.2.2.2.2.2.2.2.2.1, .ref (L 9)])),
   (L 1, .inl (D.1 100, 127, .inl S.1)), (L 2, .inl (D.1 100, 508, .inl S.2.1)), (L 3, .inl (D.1 100, 127, .inl S.2.2.2.2.2.2.2.2.2.2.2.2.2.2.2.2.2.1)), (L 4, .inl (D.1 100, 127, .inl S.2.2.2.2.2.2.2.2.2.2.2.2.2.2.2.2.2.2)),
   (L 5, .inl (D.1 100, 60, .inl S.2.2.2.2.2.2.2.2.1)), (L 6, .inl (D.1 100, 7, .inl S.2.2.2.2.1)), (L 7, .inl (D.1 100, 7, .inl S.2.2.2.2.2.1)), (L 8, .inl (D.1 100, 105, .inl S.2.2.2.2.2.2.1)), (L 9, .inl (D.1 100, 3, .inl S.2.2.2.2.2.2.2.2.2.2.1))]
theorem nar_b {v : Int32} (h : v = 0 ∨ v = 1) : narrow .boolean (.int v) = .int v := by
  rcases h with rfl | rfl <;> rfl
