/-! the calls side by side: the state, what holds of it, what a pair of calls does -/
/-- what moves in the program's object: the history's places, the chip, the trial, the history, the burst, the order, how many states, the text, its length -/
abbrev DS : Type := (Nat → Nat → Nat) × (Nat → Nat → Nat) × (Nat → Nat → Nat) × ChS × ChS × (Nat → ChS) × UB × OS × Nat × Row × Nat
/-- what moves in the reference's, beside that: the row, the past, a burst's rows, the place, the fault, the spare rows -/
abbrev MS : Type := Row × Row × (Row × Row × Row × Int32) × Nat × (Int32 × Int32 × Int32 × Int32 × Int32) × Row × Row
def WC (D : va_G) (o ha ta : Nat) (L w1 w2 M y1 y2 : Nat → Nat) (b0 b1 b2 b3 : Nat) (bw : Nat → Nat) (u0 u1 : Nat) (HL HW1 HW2 : Nat → Nat → Nat) (s t : ChS) (hs : Nat → ChS) (en tb : Row) (sh : Nat → Row) (n0 : Int32) (nu : Row) (lt br le : Int32) (k : Nat) (tx : Row) (T : Nat) : va_W := ([([xB D o ha ta (L 0) (M 0) b0 u0 (nI k) (rows4 HL) tx (nI T), chipB D L w1 w2 s.v s.f s.g s.r s.av s.mk s.cm s.ar s.fl s.en s.la s.zs s.se s.ph s.tk s.pc s.rc s.wc s.bc s.tc, hsB D HL HW1 HW2 hs] : List va_W).flatten, ([chipB D M y1 y2 t.v t.f t.g t.r t.av t.mk t.cm t.ar t.fl t.en t.la t.zs t.se t.ph t.tk t.pc t.rc t.wc t.bc t.tc, buB D b0 b1 b2 b3 bw en tb sh n0, orB D u0 u1 nu lt br le] : List va_W).flatten] : List va_W).flatten
def WR (D : va_G) (Lm : Nat → Nat) (nu : Row) (k : Nat) (tx : Row) (T : Nat) (m pa td ah d : Row) (nn : Int32) (p9 : Nat) (fo re ca os od : Int32) (spa he : Row) : va_W := mW D Lm m pa (nI k) 0 td ah d nn tx (nI T) nu (nI p9) fo re ca os od spa he
def INVx (K : Nat) (s : ChS) (hs : Nat → ChS) (k : Nat) (tx : Row) (T : Nat) (m pa : Row) (p9 : Nat) : Prop := k ≤ 4 ∧ T ≤ 60 ∧ (∀ j, ∃ v, v < 127 ∧ tx j = nI v) ∧ Rel s m ∧ HR k hs pa ∧ RB K m ∧ HB K k pa ∧ p9 ≤ 60
section SIM
variable (o ha ta : Nat) (L w1 w2 M y1 y2 : Nat → Nat) (b0 b1 b2 b3 : Nat) (bw : Nat → Nat) (u0 u1 : Nat) (Lm : Nat → Nat)
def WCs (D : va_G) (c : DS) : va_W := WC D o ha ta L w1 w2 M y1 y2 b0 b1 b2 b3 bw u0 u1 c.1 c.2.1 c.2.2.1 c.2.2.2.1 c.2.2.2.2.1 c.2.2.2.2.2.1 c.2.2.2.2.2.2.1.1 c.2.2.2.2.2.2.1.2.1 c.2.2.2.2.2.2.1.2.2.1 c.2.2.2.2.2.2.1.2.2.2 c.2.2.2.2.2.2.2.1.1 c.2.2.2.2.2.2.2.1.2.1 c.2.2.2.2.2.2.2.1.2.2.1 c.2.2.2.2.2.2.2.1.2.2.2 c.2.2.2.2.2.2.2.2.1 c.2.2.2.2.2.2.2.2.2.1 c.2.2.2.2.2.2.2.2.2.2
def WRs (D : va_G) (c : DS) (x : MS) : va_W := WR D Lm c.2.2.2.2.2.2.2.1.1 c.2.2.2.2.2.2.2.2.1 c.2.2.2.2.2.2.2.2.2.1 c.2.2.2.2.2.2.2.2.2.2 x.1 x.2.1 x.2.2.1.1 x.2.2.1.2.1 x.2.2.1.2.2.1 x.2.2.1.2.2.2 x.2.2.2.1 x.2.2.2.2.1.1 x.2.2.2.2.1.2.1 x.2.2.2.2.1.2.2.1 x.2.2.2.2.1.2.2.2.1 x.2.2.2.2.1.2.2.2.2 x.2.2.2.2.2.1 x.2.2.2.2.2.2
def INV (K : Nat) (c : DS) (x : MS) : Prop := INVx K c.2.2.2.1 c.2.2.2.2.2.1 c.2.2.2.2.2.2.2.2.1 c.2.2.2.2.2.2.2.2.2.1 c.2.2.2.2.2.2.2.2.2.2 x.1 x.2.1 x.2.2.2.1
/-- a pair of calls: the same answer, and what holds holds on -/
def SIMx (y6 : MethodName) (c6 : ByteArray) (n6 : Nat) (y7 : MethodName) (c7 : ByteArray) (n7 : Nat) (As : List Value) (c : DS) (x : MS) (r : Int32) (c' : DS) (x' : MS) : Prop :=
  (∀ (l : Launch) (D : va_G) (sz : Nat), ∃ fr lo, fr ≤ 18 ∧ lo ≤ 700 ∧ MI l y6 c6 n6 (some .int) fr lo D sz (.ref o :: As) (WCs o ha ta L w1 w2 M y1 y2 b0 b1 b2 b3 bw u0 u1 D c) r (WCs o ha ta L w1 w2 M y1 y2 b0 b1 b2 b3 bw u0 u1 D c')) ∧
  (∀ (l : Launch) (D : va_G) (sz : Nat), ∃ fr lo, fr ≤ 18 ∧ lo ≤ 700 ∧ MI l y7 c7 n7 (some .int) fr lo D sz (.ref (Lm 0) :: As) (WRs Lm D c x) r (WRs Lm D c' x'))
def SIM (K : Nat) (y6 : MethodName) (c6 : ByteArray) (n6 : Nat) (y7 : MethodName) (c7 : ByteArray) (n7 : Nat) (As : List Value) (c : DS) (x : MS) : Prop := ∃ (r : Int32) (c' : DS) (x' : MS), INV (K + 61) c' x' ∧ SIMx o ha ta L w1 w2 M y1 y2 b0 b1 b2 b3 bw u0 u1 Lm y6 c6 n6 y7 c7 n7 As c x r c' x'
end SIM
theorem INVx.mono {K K' : Nat} {s : ChS} {hs : Nat → ChS} {k : Nat} {tx : Row} {T : Nat} {m pa : Row} {p9 : Nat} (h : INVx K s hs k tx T m pa p9) (hk : K ≤ K') : INVx K' s hs k tx T m pa p9 := by
  obtain ⟨h1, h2, h3, h4, h5, h6, h7, h8⟩ := h
  exact ⟨h1, h2, h3, h4, h5, h6.mono hk, h7.mono hk, h8⟩
/-- behind a change -/
theorem INVx.change {K : Nat} {s : ChS} {hs : Nat → ChS} {k : Nat} {tx : Row} {T : Nat} {m pa : Row} {p9 : Nat} (h : INVx K s hs k tx T m pa p9) {s' : ChS} {m' : Row} (hr : Rel s' m') (hb : RB (K + 61) m') : (pushR m pa k).2 = khN k ∧ INVx (K + 61) s' (khS k hs s) (khN k) tx T m' (pushR m pa k).1 p9 := by
  obtain ⟨h1, h2, h3, h4, h5, h6, h7, h8⟩ := h
  obtain ⟨p1, p2, p3⟩ := h5.push h1 h4
  exact ⟨p1, p3, h2, h3, hr, p2, hb, (h7.push h1 h6).mono (by omega), h8⟩
theorem tx_ok {tx : Row} (h : ∀ j, ∃ v, v < 127 ∧ tx j = nI v) : chOK tx := fun j => by
  obtain ⟨v, hv, e⟩ := h j
  rw [e]; exact cc_ok hv
theorem in_of {x : Int32} {l N : Nat} (hN : N < 2147483648) (hl : l < 2147483648) (h : ¬ sp_X7_in x (nI l) (nI N) = 0) : ∃ k, k < N + 1 ∧ l ≤ k ∧ x = nI k := (in_iffL x l N hN hl).mp h
theorem mw0 {x y : Int32} (h : ¬ ((¬ sp_X7_isRegister x = 0) ∧ ¬ sp_X7_in y 0 255 = 0)) : sp_X6_mayWrite x y = 0 := by
  unfold sp_X6_mayWrite
  split
  · rfl
  · next h1 =>
    split
    · rfl
    · next h2 => exact absurd ⟨h1, h2⟩ h
theorem ma0 {x y z : Int32} (h : ¬ ((¬ sp_X7_isAlarm x = 0) ∧ (¬ sp_X7_in y 0 4 = 0) ∧ ¬ sp_X7_in z 0 255 = 0)) : sp_X6_mayChangeAlarm x y z = 0 := by
  unfold sp_X6_mayChangeAlarm
  split
  · rfl
  · next h1 =>
    split
    · rfl
    · next h2 =>
      split
      · rfl
      · next h3 => exact absurd ⟨h1, h2, h3⟩ h
theorem ic0 {x y : Int32} (h : ¬ ((¬ sp_X7_isRegister x = 0) ∧ ¬ sp_X7_in y 0 7 = 0)) : sp_X6_isCell x y = 0 := by
  unfold sp_X6_isCell
  split
  · rfl
  · next h1 =>
    split
    · rfl
    · next h2 => exact absurd ⟨h1, h2⟩ h
theorem ic1 {x y : Int32} (h1 : ¬ sp_X7_isRegister x = 0) (h2 : ¬ sp_X7_in y 0 7 = 0) : ¬ sp_X6_isCell x y = 0 := by
  unfold sp_X6_isCell
  rw [if_neg (show ¬ sp_X6_isRegister x = 0 from h1), if_neg (show ¬ sp_X6_isWithin y 0 7 = 0 from h2)]
  decide
theorem mw1 {x y : Int32} (h1 : ¬ sp_X7_isRegister x = 0) (h2 : ¬ sp_X7_in y 0 255 = 0) : ¬ sp_X6_mayWrite x y = 0 := by
  unfold sp_X6_mayWrite
  rw [if_neg (show ¬ sp_X6_isRegister x = 0 from h1), if_neg (show ¬ sp_X6_isWithin y 0 255 = 0 from h2)]
  decide
theorem ma1 {x y z : Int32} (h1 : ¬ sp_X7_isAlarm x = 0) (h2 : ¬ sp_X7_in y 0 4 = 0) (h3 : ¬ sp_X7_in z 0 255 = 0) : ¬ sp_X6_mayChangeAlarm x y z = 0 := by
  unfold sp_X6_mayChangeAlarm
  rw [if_neg (show ¬ sp_X6_isAlarm x = 0 from h1), if_neg (show ¬ sp_X6_isWithin y 0 4 = 0 from h2), if_neg (show ¬ sp_X6_isWithin z 0 255 = 0 from h3)]
  decide
