/-! what a state is: the reference's world (one row of numbers and what stands beside it), the class's by blocks -/
abbrev Row : Type := Nat → Int32
/-- past, pasts, runs, told, ahead, shown, shows, text, typed, numbers, spot, from, reason, cause, orders, order, spare, held -/
abbrev MT : Type := Row × Int32 × Int32 × Row × Row × Row × Int32 × Row × Int32 × Row × Int32 × Int32 × Int32 × Int32 × Int32 × Int32 × Row × Row
abbrev MSt : Type := Row × MT
def mW (D : va_G) (L : Nat → Nat) (o0 : Row) (o1 : Row) (o2 : Int32) (o3 : Int32) (o4 : Row) (o5 : Row) (o6 : Row) (o7 : Int32) (o8 : Row) (o9 : Int32) (o10 : Row) (o11 : Int32) (o12 : Int32) (o13 : Int32) (o14 : Int32) (o15 : Int32) (o16 : Int32) (o17 : Row) (o18 : Row) : va_W :=
  [(L 0, .inr (7, [.ref (L 1), .ref (L 2), .ref (L 3), .ref (L 4), .int o2, .int o3, .ref (L 5), .int o9, .ref (L 6), .ref (L 7), .ref (L 8), .int o7, .int o11, .int o12, .int o13, .int o14, .int o15, .int o16, .ref (L 9)])),
   (L 1, .inl (D.1 100, 127, .inl o0)), (L 2, .inl (D.1 100, 508, .inl o1)), (L 3, .inl (D.1 100, 127, .inl o17)), (L 4, .inl (D.1 100, 127, .inl o18)), (L 5, .inl (D.1 100, 60, .inl o8)), (L 6, .inl (D.1 100, 7, .inl o4)), (L 7, .inl (D.1 100, 7, .inl o5)), (L 8, .inl (D.1 100, 105, .inl o6)), (L 9, .inl (D.1 100, 3, .inl o10))]
theorem ce {α : Type} {a b : α} {l m : List α} (h : a = b) (t : l = m) : a :: l = b :: m := by rw [h, t]
theorem nar_b {v : Int32} (h : v = 0 ∨ v = 1) : narrow .boolean (.int v) = .int v := by
  rcases h with rfl | rfl <;> rfl
theorem cpy_step0 (f g : Row) (dp i : Nat) : upd (va_cpy f g 0 dp i) (dp + i) (f i) = va_cpy f g 0 dp (i + 1) := by
  funext k
  simp only [upd, va_cpy]
  by_cases h : k = dp + i
  · subst h
    rw [if_pos rfl, if_pos (by omega)]
    exact congrArg f (by omega)
  · rw [if_neg h]
    by_cases h2 : dp ≤ k ∧ k < dp + i
    · rw [if_pos h2, if_pos (by omega)]
    · rw [if_neg h2, if_neg (by omega)]
theorem cpy_step00 (f g : Row) (i : Nat) : upd (va_cpy f g 0 0 i) i (f i) = va_cpy f g 0 0 (i + 1) := by
  have h := cpy_step0 f g 0 i
  rw [Nat.zero_add] at h
  exact h
theorem cpy_0 (f g : Row) (sp dp : Nat) : va_cpy f g sp dp 0 = g := by
  funext k
  simp only [va_cpy]
  rw [if_neg (by omega)]
theorem shift_step (f : Row) (d i : Nat) : upd (va_cpy f f d 0 i) i (va_cpy f f d 0 i (i + d)) = va_cpy f f d 0 (i + 1) := by
  funext k
  simp only [upd, va_cpy]
  by_cases h : k = i
  · subst h
    rw [if_pos rfl, if_neg (by omega), if_pos (by omega)]
    exact congrArg f (by omega)
  · rw [if_neg h]
    by_cases h2 : 0 ≤ k ∧ k < 0 + i
    · rw [if_pos h2, if_pos (by omega)]
    · rw [if_neg h2, if_neg (by omega)]
/-- a state is put behind the others; the oldest goes where there are four -/
def pushR (s pa : Row) (P : Nat) : Row × Nat := if P = 4 then (va_cpy s (va_cpy pa pa 127 0 381) 0 (127 * 3) 127, 3 + 1) else (va_cpy s pa 0 (127 * P) 127, P + 1)
theorem upd_eq (f : Row) (k : Nat) (x : Int32) : upd f k x k = x := if_pos rfl
theorem upd_ne (f : Row) {k j : Nat} (x : Int32) (h : j ≠ k) : upd f k x j = f j := if_neg h
theorem r_idecN {p : Program} {l : Launch} {e : Env} {R : Room} {s : State} {m : MethodId} {args : Array Value} {below : List Frame} {meth : Method} {c : Code} {H : Heap} {locs : List Loc} {cells slots : Nat} {Q : State → Prop} {cc : ByteArray} {pc : Nat} {ls : Array Slot} {rest : List Value} {x : Int32} (hx : p.tables.exec = Jvm.exec) (hb : c.code = cc) {v nL k : Nat} {lv lv' : List (Nat × Value)} (i : Nat) (hd : 1 ≤ i) (hdg : decode cc pc = .ok (.iinc v (-1), 3)) (h : lv_has ls nL lv) (hk : lv[k]? = some (v, .int x)) (ex : x = nI i) (hv : v < nL) (hl : (v, Value.int (nI (i - 1))) :: lv.filter (fun q => !(q.1 == v) && !(q.1 + 1 == v && q.2.category == 2)) = lv')
    (kk : ∀ ls' : Array Slot, lv_has ls' nL lv' → W p l e R s m args below meth c H locs cells slots Q (F0 m (pc + 3) ls' rest)) : W p l e R s m args below meth c H locs cells slots Q (F0 m pc ls rest) := by
  subst ex
  obtain ⟨j, rfl⟩ : ∃ j, i = j + 1 := ⟨i - 1, by omega⟩
  exact lv_iinc hx hb (k := k) hdg h hk (v := nI j) (pk_m1 j) hv hl kk
/-- a row moved up by ten places, from its end down -/
theorem down_step (s : Row) (j : Nat) (h : 10 ≤ j) (h2 : j < 60) : upd (va_cpy s s (57 + (j + 1)) (67 + (j + 1)) (60 - (j + 1))) (67 + j) (va_cpy s s (57 + (j + 1)) (67 + (j + 1)) (60 - (j + 1)) (67 + j - 10)) = va_cpy s s (57 + j) (67 + j) (60 - j) := by
  funext k
  simp only [upd, va_cpy]
  by_cases e : k = 67 + j
  · subst e
    rw [if_pos rfl, if_neg (by omega), if_pos (by omega)]
    exact congrArg s (by omega)
  · rw [if_neg e]
    by_cases e2 : 67 + (j + 1) ≤ k ∧ k < 67 + (j + 1) + (60 - (j + 1))
    · rw [if_pos e2, if_pos (by omega)]
      exact congrArg s (by omega)
    · rw [if_neg e2, if_neg (by omega)]
theorem Foc.cell2 {b b' : va_W} (i j : Nat) {x y x' y' : Nat × va_E} (h : b[i]? = some x) (g : (b.eraseIdx i)[j]? = some y) (h' : b'[i]? = some x') (g' : (b'.eraseIdx i)[j]? = some y') (hr : (b.eraseIdx i).eraseIdx j = (b'.eraseIdx i).eraseIdx j) : Foc b [x, y] b' [x', y'] := by
  refine ⟨(b.eraseIdx i).eraseIdx j, (perm_erase b i x h).trans ((perm_erase _ j y g).cons x), ?_⟩
  rw [hr]
  exact (perm_erase b' i x' h').trans ((perm_erase _ j y' g').cons x')
