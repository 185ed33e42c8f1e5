/-! the class's state by blocks: registers, alarms, the log of bursts, a chip -/
def regsB (D : va_G) (x0 x1 x2 x3 x4 : Nat) (v f g r : Row) : va_W :=
  [(x0, .inr (5, [.ref x1, .ref x2, .ref x3, .ref x4])), (x1, .inl (D.1 100, 7, .inl v)), (x2, .inl (D.1 100, 7, .inl f)), (x3, .inl (D.1 100, 7, .inl g)), (x4, .inl (D.1 100, 7, .inl r))]
def rows3 (w : Nat → Nat) : Nat → Option Nat := fun j => if j < 3 then some (w j) else none
def rows6 (w : Nat → Nat) : Nat → Option Nat := fun j => if j < 6 then some (w j) else none
def rows13 (w : Nat → Nat) : Nat → Option Nat := fun j => if j < 13 then some (w j) else none
def alB (D : va_G) (x0 x1 x2 x3 : Nat) (w : Nat → Nat) (av : Nat → Row) (mk cm : Row) (ar fl : Int32) : va_W :=
  [(x0, .inr (0, [.ref x1, .ref x2, .ref x3, .int ar, .int fl])), (x1, .inl (D.1 102, 3, .inr (.inr (.inr (.inr (rows3 w)))))), (x2, .inl (D.1 100, 3, .inl mk)), (x3, .inl (D.1 100, 3, .inl cm)), (w 0, .inl (D.1 100, 5, .inl (av 0))), (w 1, .inl (D.1 100, 5, .inl (av 1))), (w 2, .inl (D.1 100, 5, .inl (av 2)))]
def lgB (D : va_G) (x0 x1 : Nat) (w : Nat → Nat) (en : Nat → Row) (la sz : Int32) : va_W :=
  [(x0, .inr (2, [.ref x1, .int la, .int sz])), (x1, .inl (D.1 102, 6, .inr (.inr (.inr (.inr (rows6 w)))))), (w 0, .inl (D.1 100, 10, .inl (en 0))), (w 1, .inl (D.1 100, 10, .inl (en 1))), (w 2, .inl (D.1 100, 10, .inl (en 2))), (w 3, .inl (D.1 100, 10, .inl (en 3))), (w 4, .inl (D.1 100, 10, .inl (en 4))), (w 5, .inl (D.1 100, 10, .inl (en 5)))]
def chipB (D : va_G) (L w1 w2 : Nat → Nat) (v f g r : Row) (av : Nat → Row) (mk cm : Row) (ar fl : Int32) (en : Nat → Row) (la sz : Int32) (se : Row) (ph tk pc rc wc bc tc : Int32) : va_W :=
  ([[(L 0, .inr (3, [.ref (L 1), .ref (L 6), .ref (L 10), .ref (L 12), .int ph, .int tk, .int pc, .int rc, .int wc, .int bc, .int tc]))], regsB D (L 1) (L 2) (L 3) (L 4) (L 5) v f g r, alB D (L 6) (L 7) (L 8) (L 9) w1 av mk cm ar fl, lgB D (L 10) (L 11) w2 en la sz, [(L 12, .inl (D.1 100, 3, .inl se))]] : List va_W).flatten
def buB (D : va_G) (x0 x1 x2 x3 : Nat) (w : Nat → Nat) (en tb : Row) (sh : Nat → Row) (n : Int32) : va_W :=
  [(x0, .inr (1, [.ref x1, .ref x2, .ref x3, .int n])), (x1, .inl (D.1 100, 10, .inl en)), (x2, .inl (D.1 100, 7, .inl tb)), (x3, .inl (D.1 102, 13, .inr (.inr (.inr (.inr (rows13 w)))))),
   (w 0, .inl (D.1 100, 7, .inl (sh 0))), (w 1, .inl (D.1 100, 7, .inl (sh 1))), (w 2, .inl (D.1 100, 7, .inl (sh 2))), (w 3, .inl (D.1 100, 7, .inl (sh 3))), (w 4, .inl (D.1 100, 7, .inl (sh 4))), (w 5, .inl (D.1 100, 7, .inl (sh 5))), (w 6, .inl (D.1 100, 7, .inl (sh 6))), (w 7, .inl (D.1 100, 7, .inl (sh 7))), (w 8, .inl (D.1 100, 7, .inl (sh 8))), (w 9, .inl (D.1 100, 7, .inl (sh 9))), (w 10, .inl (D.1 100, 7, .inl (sh 10))), (w 11, .inl (D.1 100, 7, .inl (sh 11))), (w 12, .inl (D.1 100, 7, .inl (sh 12)))]
def orB (D : va_G) (x0 x1 : Nat) (nu : Row) (lt br le : Int32) : va_W := [(x0, .inr (4, [.ref x1, .int lt, .int br, .int le])), (x1, .inl (D.1 100, 3, .inl nu))]
/-- one row of many is another -/
abbrev upR (f : Nat → Row) (j : Nat) (x : Row) : Nat → Row := va_up f j x
