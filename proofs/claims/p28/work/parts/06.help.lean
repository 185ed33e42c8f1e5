/-! rows about numbers, bytes of a row, loops that ask -/
abbrev Row : Type := Nat → Int32
theorem ce {α : Type} {a b : α} {l m : List α} (h : a = b) (t : l = m) : a :: l = b :: m := by rw [h, t]
theorem nar_b {v : Int32} (h : v = 0 ∨ v = 1) : narrow .boolean (.int v) = .int v := by
  rcases h with rfl | rfl <;> rfl
theorem cpy_step0 (f g : Row) (dp i : Nat) : upd (va_cpy f g 0 dp i) (dp + i) (f i) = va_cpy f g 0 dp (i + 1) := by
  funext k
  simp only [upd, va_cpy]
  by_cases h : k = dp + i
  · subst h
    rw [if_pos rfl, if_pos (by omega)]
    exact congrArg f (by omega)
  · rw [if_neg h]
    by_cases h2 : dp ≤ k ∧ k < dp + i
    · rw [if_pos h2, if_pos (by omega)]
    · rw [if_neg h2, if_neg (by omega)]
theorem cpy_step00 (f g : Row) (i : Nat) : upd (va_cpy f g 0 0 i) i (f i) = va_cpy f g 0 0 (i + 1) := by
  have h := cpy_step0 f g 0 i
  rw [Nat.zero_add] at h
  exact h
theorem cpy_0 (f g : Row) (sp dp : Nat) : va_cpy f g sp dp 0 = g := by
  funext k
  simp only [va_cpy]
  rw [if_neg (by omega)]
theorem upd_eq (f : Row) (k : Nat) (x : Int32) : upd f k x k = x := if_pos rfl
theorem upd_ne (f : Row) {k j : Nat} (x : Int32) (h : j ≠ k) : upd f k x j = f j := if_neg h
/-- a flag that a loop carries, by what it stands for -/
def BI (x : Int32) (P : Prop) : Prop := (x = 1 ∧ P) ∨ (x = 0 ∧ ¬ P)
theorem bi_0 {P : Nat → Prop} : BI 1 (∀ r, r < 0 → P r) := Or.inl ⟨rfl, fun r h => absurd h (Nat.not_lt_zero r)⟩
theorem bi_f0 {x : Int32} {P : Nat → Prop} {i : Nat} (h : BI x (∀ r, r < i → P r)) (hx : x = 0) : BI 0 (∀ r, r < i + 1 → P r) := by
  rcases h with ⟨h, -⟩ | ⟨-, h⟩
  · rw [hx] at h; exact absurd h (by decide)
  · exact Or.inr ⟨rfl, fun q => h (fun r hr => q r (Nat.lt_succ_of_lt hr))⟩
theorem bi_t {x : Int32} {P : Nat → Prop} {i : Nat} (h : BI x (∀ r, r < i → P r)) (hx : ¬ x = 0) (hp : P i) : BI 1 (∀ r, r < i + 1 → P r) := by
  rcases h with ⟨-, h⟩ | ⟨h, -⟩
  · refine Or.inl ⟨rfl, fun r hr => ?_⟩
    rcases Nat.lt_succ_iff_lt_or_eq.mp hr with q | q
    · exact h r q
    · rw [q]; exact hp
  · exact absurd h hx
theorem bi_f {x : Int32} {P : Nat → Prop} {i : Nat} (hp : ¬ P i) : BI 0 (∀ r, r < i + 1 → P r) := Or.inr ⟨rfl, fun q => hp (q i (Nat.lt_succ_self i))⟩
/-- a proposition as a number -/
noncomputable def bI (P : Prop) : Int32 := @ite _ P (Classical.propDecidable P) 1 0
theorem bI_t {P : Prop} (h : P) : bI P = 1 := if_pos h
theorem bI_f {P : Prop} (h : ¬ P) : bI P = 0 := if_neg h
theorem bI_b (P : Prop) : bI P = 0 ∨ bI P = 1 := by
  rcases Classical.em P with h | h
  · exact Or.inr (bI_t h)
  · exact Or.inl (bI_f h)
theorem bI_0 {P : Prop} : bI P = 0 ↔ ¬ P := ⟨fun h q => by rw [bI_t q] at h; exact absurd h (by decide), bI_f⟩
theorem bI_1 {P : Prop} : bI P = 1 ↔ P := ⟨fun h => Classical.byContradiction fun q => by rw [bI_f q] at h; exact absurd h (by decide), bI_t⟩
theorem bI_n {P : Prop} : ¬ bI P = 0 ↔ P := ⟨fun h => Classical.byContradiction fun q => h (bI_f q), fun h q => by rw [bI_t h] at q; exact absurd q (by decide)⟩
theorem bI_c {P Q : Prop} (h : P ↔ Q) : bI P = bI Q := by rw [show P = Q from propext h]
theorem bi_end {x : Int32} {P : Prop} (h : BI x P) : x = bI P := by
  rcases h with ⟨h, q⟩ | ⟨h, q⟩
  · rw [bI_t q]; exact h
  · rw [bI_f q]; exact h
theorem bi_b {x : Int32} {P : Prop} (h : BI x P) : x = 0 ∨ x = 1 := by
  rcases h with ⟨h, -⟩ | ⟨h, -⟩
  · exact Or.inr h
  · exact Or.inl h
theorem upd_upd (f : Row) (k : Nat) (x y : Int32) : upd (upd f k x) k y = upd f k y := by
  funext j
  simp only [upd]
  by_cases h : j = k
  · rw [if_pos h, if_pos h]
  · rw [if_neg h, if_neg h, if_neg h]
