/-! a burst of the law: register by register -/
noncomputable def rdP (xb xg : Row) (k : Nat) (y : LRs × Row × Nat) : LRs × Row × Nat := if (phL xb xg y.1).1 = 0 then ((phL xb xg y.1).2, y.2.1, y.2.2) else (if 6 ≤ k then ((phL xb xg y.1).2, y.2.1, y.2.2) else ((phL xb xg y.1).2, va_cpy (phL xb xg y.1).2.1 y.2.1 0 (7 * y.2.2) 7, y.2.2 + 1))
noncomputable def rdI (xb xg : Row) (k : Nat) (x : LRs × Row × Nat) : Nat → LRs × Row × Nat
  | 0 => x
  | f + 1 => rdP xb xg k (rdI xb xg k x f)
/-- the register whose turn it is -/
def rgL (xt : Row) (k : Nat) : Nat := if xt 9 = 0 then k else 6 - k
/-- the rows, what is told, what was shown, how often, behind k registers -/
noncomputable def rdO (xb xg : Row) (x : LRs) (xw xq : Row) (q : Nat) : Nat → LRs × Row × Row × Nat
  | 0 => (x, xq, va_cpy x.1 xw 0 0 7, 1)
  | k + 1 => ((rdI xb xg k ((rdO xb xg x xw xq q k).1, (rdO xb xg x xw xq q k).2.2.1, (rdO xb xg x xw xq q k).2.2.2) q).1, upd (rdO xb xg x xw xq q k).2.1 (rgL (rdO xb xg x xw xq q k).1.2.2.1 k) ((rdO xb xg x xw xq q k).1.1 (rgL (rdO xb xg x xw xq q k).1.2.2.1 k)), (rdI xb xg k ((rdO xb xg x xw xq q k).1, (rdO xb xg x xw xq q k).2.2.1, (rdO xb xg x xw xq q k).2.2.2) q).2.1, (rdI xb xg k ((rdO xb xg x xw xq q k).1, (rdO xb xg x xw xq q k).2.2.1, (rdO xb xg x xw xq q k).2.2.2) q).2.2)
theorem phL_ok {xb xg : Row} {x : LRs} {p z q : Nat} (h : lOK x.2.2.1 p z q) : ((phL xb xg x).1 = 0 ∧ lOK (phL xb xg x).2.2.2.1 (p + 1) z q) ∨ ((phL xb xg x).1 = 1 ∧ lOK (phL xb xg x).2.2.2.1 0 z q ∧ p + 1 = z) := ph_ok h
theorem rdI_ok {xb xg : Row} {k : Nat} {x : LRs × Row × Nat} {p z q : Nat} (h : lOK x.1.2.2.1 p z q) (hn : 1 ≤ x.2.2) : ∀ f, ∃ p', lOK (rdI xb xg k x f).1.2.2.1 p' z q ∧ 1 ≤ (rdI xb xg k x f).2.2 ∧ (k < 6 → ((rdI xb xg k x f).2.2 - 1) * z + p' = (x.2.2 - 1) * z + p + f) ∧ (6 ≤ k → (rdI xb xg k x f).2.2 = x.2.2)
  | 0 => ⟨p, h, hn, fun _ => rfl, fun _ => rfl⟩
  | f + 1 => by
    obtain ⟨p', g1, g2, g3, g4⟩ := rdI_ok (xb := xb) (xg := xg) (k := k) h hn f
    show ∃ p', lOK (rdP xb xg k (rdI xb xg k x f)).1.2.2.1 p' z q ∧ _
    rcases phL_ok (xb := xb) (xg := xg) g1 with ⟨e1, e2⟩ | ⟨e1, e2, e3⟩
    · refine ⟨p' + 1, ?_⟩
      have e : rdI xb xg k x (f + 1) = ((phL xb xg (rdI xb xg k x f).1).2, (rdI xb xg k x f).2.1, (rdI xb xg k x f).2.2) := by
        show rdP xb xg k _ = _
        unfold rdP
        rw [if_pos e1]
      rw [show rdP xb xg k (rdI xb xg k x f) = rdI xb xg k x (f + 1) from rfl, e]
      exact ⟨e2, g2, fun hk => by have := g3 hk; dsimp only; omega, fun hk => g4 hk⟩
    · refine ⟨0, ?_⟩
      have en : ¬ (phL xb xg (rdI xb xg k x f).1).1 = 0 := by rw [e1]; decide
      by_cases hk : 6 ≤ k
      · have e : rdI xb xg k x (f + 1) = ((phL xb xg (rdI xb xg k x f).1).2, (rdI xb xg k x f).2.1, (rdI xb xg k x f).2.2) := by
          show rdP xb xg k _ = _
          unfold rdP
          rw [if_neg en, if_pos hk]
        rw [show rdP xb xg k (rdI xb xg k x f) = rdI xb xg k x (f + 1) from rfl, e]
        exact ⟨e2, g2, fun h => absurd h (by omega), fun hk => g4 hk⟩
      · have e : rdI xb xg k x (f + 1) = ((phL xb xg (rdI xb xg k x f).1).2, va_cpy (phL xb xg (rdI xb xg k x f).1).2.1 (rdI xb xg k x f).2.1 0 (7 * (rdI xb xg k x f).2.2) 7, (rdI xb xg k x f).2.2 + 1) := by
          show rdP xb xg k _ = _
          unfold rdP
          rw [if_neg en, if_neg hk]
        rw [show rdP xb xg k (rdI xb xg k x f) = rdI xb xg k x (f + 1) from rfl, e]
        refine ⟨e2, Nat.le_add_left _ _, fun h => ?_, fun h => absurd h hk⟩
        have := g3 h
        dsimp only
        obtain ⟨m, hm⟩ : ∃ m, (rdI xb xg k x f).2.2 = m + 1 := ⟨(rdI xb xg k x f).2.2 - 1, by omega⟩
        rw [hm] at this ⊢
        rw [show m + 1 + 1 - 1 = m + 1 from rfl, Nat.succ_mul]
        rw [show m + 1 - 1 = m from rfl] at this
        omega
theorem n_bound {m z p p0 t : Nat} (h : m * z + p = p0 + t) (h0 : p0 < z) (ht : t < 8 * z) : m ≤ 8 := by
  rcases Nat.lt_or_ge 8 m with q | q
  · have := Nat.mul_le_mul_right z q
    omega
  · exact q
theorem rdO_ok {xb xg : Row} {x : LRs} {xw xq : Row} {p z q : Nat} (h : lOK x.2.2.1 p z q) (hq : 6 * q < 8 * z) : ∀ k, k ≤ 7 → ∃ p', lOK (rdO xb xg x xw xq q k).1.2.2.1 p' z q ∧ 1 ≤ (rdO xb xg x xw xq q k).2.2.2 ∧ (k ≤ 6 → ((rdO xb xg x xw xq q k).2.2.2 - 1) * z + p' = p + k * q) ∧ (rdO xb xg x xw xq q k).2.2.2 ≤ 9
  | 0, _ => ⟨p, h, Nat.le_refl 1, fun _ => by show (1 - 1) * z + p = p + 0 * q; omega, by show 1 ≤ 9; decide⟩
  | k + 1, hk => by
    obtain ⟨p', g1, g2, g3, g4⟩ := rdO_ok (xb := xb) (xg := xg) (xw := xw) (xq := xq) h hq k (by omega)
    obtain ⟨p2, f1, f2, f3, f4⟩ := rdI_ok (xb := xb) (xg := xg) (k := k) (x := ((rdO xb xg x xw xq q k).1, (rdO xb xg x xw xq q k).2.2.1, (rdO xb xg x xw xq q k).2.2.2)) g1 g2 q
    have e3 : (rdO xb xg x xw xq q (k + 1)).2.2.2 = (rdI xb xg k ((rdO xb xg x xw xq q k).1, (rdO xb xg x xw xq q k).2.2.1, (rdO xb xg x xw xq q k).2.2.2) q).2.2 := rfl
    refine ⟨p2, f1, f2, fun h6 => ?_, ?_⟩
    · have e1 := f3 (by omega)
      have e2 := g3 (by omega)
      rw [e3, Nat.succ_mul]
      dsimp only at e1
      omega
    · rw [e3]
      rcases Nat.lt_or_ge k 6 with h6 | h6
      · have e1 := f3 h6
        have e2 := g3 (by omega)
        have hkq : k * q + q ≤ 6 * q := by rw [← Nat.succ_mul]; exact Nat.mul_le_mul_right q (by omega)
        dsimp only at e1
        have := n_bound (t := k * q + q) (p0 := p) (by rw [e1, e2]; omega) h.2.2.2.1 (by omega)
        omega
      · rw [f4 h6]
        exact g4
/-- within the k-th register -/
theorem rdI_b {xb xg : Row} {x : LRs} {xw xq : Row} {p z q : Nat} (h : lOK x.2.2.1 p z q) (hq : 6 * q < 8 * z) {k : Nat} (hk : k < 7) {f : Nat} (hf : f ≤ q) : ∃ p', lOK (rdI xb xg k ((rdO xb xg x xw xq q k).1, (rdO xb xg x xw xq q k).2.2.1, (rdO xb xg x xw xq q k).2.2.2) f).1.2.2.1 p' z q ∧ (rdI xb xg k ((rdO xb xg x xw xq q k).1, (rdO xb xg x xw xq q k).2.2.1, (rdO xb xg x xw xq q k).2.2.2) f).2.2 ≤ 9 ∧ (k < 6 → f < q → (rdI xb xg k ((rdO xb xg x xw xq q k).1, (rdO xb xg x xw xq q k).2.2.1, (rdO xb xg x xw xq q k).2.2.2) f).2.2 ≤ 9 ∧ (¬ (phL xb xg (rdI xb xg k ((rdO xb xg x xw xq q k).1, (rdO xb xg x xw xq q k).2.2.1, (rdO xb xg x xw xq q k).2.2.2) f).1).1 = 0 → (rdI xb xg k ((rdO xb xg x xw xq q k).1, (rdO xb xg x xw xq q k).2.2.1, (rdO xb xg x xw xq q k).2.2.2) f).2.2 ≤ 8)) := by
  obtain ⟨p', g1, g2, g3, g4⟩ := rdO_ok (xb := xb) (xg := xg) (xw := xw) (xq := xq) h hq k (by omega)
  obtain ⟨p2, f1, f2, f3, f4⟩ := rdI_ok (xb := xb) (xg := xg) (k := k) (x := ((rdO xb xg x xw xq q k).1, (rdO xb xg x xw xq q k).2.2.1, (rdO xb xg x xw xq q k).2.2.2)) g1 g2 f
  have hb : (rdI xb xg k ((rdO xb xg x xw xq q k).1, (rdO xb xg x xw xq q k).2.2.1, (rdO xb xg x xw xq q k).2.2.2) f).2.2 ≤ 9 := by
    rcases Nat.lt_or_ge k 6 with h6 | h6
    · have e1 := f3 h6
      have e2 := g3 (by omega)
      have hkq : k * q + q ≤ 6 * q := by rw [← Nat.succ_mul]; exact Nat.mul_le_mul_right q (by omega)
      dsimp only at e1
      have := n_bound (t := k * q + f) (p0 := p) (by rw [e1, e2]; omega) h.2.2.2.1 (by omega)
      omega
    · rw [f4 h6]
      exact g4
  refine ⟨p2, f1, hb, fun h6 hfq => ⟨hb, fun hn => ?_⟩⟩
  rcases phL_ok (xb := xb) (xg := xg) f1 with ⟨e1, -⟩ | ⟨e1, e2, e5⟩
  · exact absurd e1 hn
  · have e1 := f3 h6
    have e2 := g3 (by omega)
    have hkq : k * q + q ≤ 6 * q := by rw [← Nat.succ_mul]; exact Nat.mul_le_mul_right q (by omega)
    dsimp only at e1
    generalize (rdI xb xg k ((rdO xb xg x xw xq q k).1, (rdO xb xg x xw xq q k).2.2.1, (rdO xb xg x xw xq q k).2.2.2) f).2.2 = S at e1 f2 ⊢
    obtain ⟨m, rfl⟩ : ∃ m, S = m + 1 := ⟨S - 1, by omega⟩
    rw [show m + 1 - 1 = m from rfl] at e1
    have e9 : (m + 1) * z = m * z + z := Nat.succ_mul m z
    have := n_bound (m := m + 1) (p := 0) (z := z) (t := k * q + f + 1) (p0 := p) (by rw [e9]; omega) h.2.2.2.1 (by omega)
    omega
/-- how many of the first r registers are told as the k-th time shown -/
def smN (q w : Row) (k : Nat) : Nat → Nat
  | 0 => 0
  | r + 1 => smN q w k r + (if q r = w (7 * k + r) then 1 else 0)
theorem smN_le (q w : Row) (k : Nat) : ∀ r, smN q w k r ≤ r
  | 0 => Nat.le_refl 0
  | r + 1 => by
    have := smN_le q w k r
    show smN q w k r + (if q r = w (7 * k + r) then 1 else 0) ≤ r + 1
    split <;> omega
theorem smN_all (q w : Row) (k : Nat) : ∀ r, smN q w k r = r ↔ ∀ j, j < r → q j = w (7 * k + j)
  | 0 => ⟨fun _ j h => absurd h (Nat.not_lt_zero j), fun _ => rfl⟩
  | r + 1 => by
    have ih := smN_all q w k r
    have hle := smN_le q w k r
    constructor
    · intro h
      have h : smN q w k r + (if q r = w (7 * k + r) then 1 else 0) = r + 1 := h
      by_cases c : q r = w (7 * k + r)
      · rw [if_pos c] at h
        intro j hj
        rcases Nat.lt_succ_iff_lt_or_eq.mp hj with g | g
        · exact ih.mp (by omega) j g
        · rw [g]; exact c
      · rw [if_neg c] at h
        omega
    · intro h
      show smN q w k r + (if q r = w (7 * k + r) then 1 else 0) = r + 1
      rw [if_pos (h r (Nat.lt_succ_self r)), ih.mpr (fun j hj => h j (by omega))]
/-- whether a burst is torn -/
noncomputable def tnL (q w : Row) (c : Nat) : Int32 := bI (∀ j, j < c → ¬ ∀ r, r < 7 → q r = w (7 * j + r))

set_option maxRecDepth 100000 in
set_option maxHeartbeats 4000000 in
theorem c_L_reads (l : Launch) (D : va_G) (sz : Nat) (kv kb kg kn kt ka kw kq : Nat) (xv xb xg xn xt xa xw xq : Row) (p0 z q : Nat) (hok : lOK xt p0 z q) (hq : 6 * q < 8 * z) : MI l yL_reads cL_reads 14 (some .boolean) 7 159 D sz [.ref kv, .ref kb, .ref kg, .ref kn, .ref kt, .ref ka, .ref kw, .ref kq] ([(kv, .inl (D.1 100, 7, .inl xv)), (kb, .inl (D.1 100, 7, .inl xb)), (kg, .inl (D.1 100, 7, .inl xg)), (kn, .inl (D.1 100, 7, .inl xn)), (kt, .inl (D.1 100, 11, .inl xt)), (ka, .inl (D.1 100, 27, .inl xa)), (kw, .inl (D.1 100, 64, .inl xw)), (kq, .inl (D.1 100, 14, .inl xq))]) (tnL (rdO xb xg (xv, xn, xt, xa) xw xq q 7).2.1 (rdO xb xg (xv, xn, xt, xa) xw xq q 7).2.2.1 (rdO xb xg (xv, xn, xt, xa) xw xq q 7).2.2.2) ([(kv, .inl (D.1 100, 7, .inl ((rdO xb xg (xv, xn, xt, xa) xw xq q 7).1.1))), (kb, .inl (D.1 100, 7, .inl xb)), (kg, .inl (D.1 100, 7, .inl xg)), (kn, .inl (D.1 100, 7, .inl ((rdO xb xg (xv, xn, xt, xa) xw xq q 7).1.2.1))), (kt, .inl (D.1 100, 11, .inl ((rdO xb xg (xv, xn, xt, xa) xw xq q 7).1.2.2.1))), (ka, .inl (D.1 100, 27, .inl ((rdO xb xg (xv, xn, xt, xa) xw xq q 7).1.2.2.2))), (kw, .inl (D.1 100, 64, .inl ((rdO xb xg (xv, xn, xt, xa) xw xq q 7).2.2.1))), (kq, .inl (D.1 100, 14, .inl ((rdO xb xg (xv, xn, xt, xa) xw xq q 7).2.1)))]) := by
  refine r_enterI (by decide) (Nat.le_of_ble_eq_true rfl) ?_
  intro p e st m args below meth c ls A X hret hk hw hl
  have X : CX D p m c cL_reads 14 st args RL A := X
  have hx := X.1.1
  have hb := X.1.2.1
  have hown := X.1.2.2.2.1
  have hts := X.1.2.2.2.2
  have hl : lv_has ls 14 [(0, .ref kv), (1, .ref kb), (2, .ref kg), (3, .ref kn), (4, .ref kt), (5, .ref ka), (6, .ref kw), (7, .ref kq)] := hl
  refine lv_iconst (v := 1) hx hb dL_reads_0 (by decide) ?_
  refine lv_istore (lv' := [(8, .int 1), (0, .ref kv), (1, .ref kb), (2, .ref kg), (3, .ref kn), (4, .ref kt), (5, .ref ka), (6, .ref kw), (7, .ref kq)]) hx hb dL_reads_1 hl (by decide) rfl (fun ls hl => ?_)
  refine lv_iconst (v := 0) hx hb dL_reads_3 (by decide) ?_
  refine lv_istore (lv' := [(9, .int 0), (8, .int 1), (0, .ref kv), (1, .ref kb), (2, .ref kg), (3, .ref kn), (4, .ref kt), (5, .ref ka), (6, .ref kw), (7, .ref kq)]) hx hb dL_reads_4 hl (by decide) rfl (fun ls hl => ?_)
  have key6 : ∀ (n6 : Nat) (i : Nat), (i ≤ 7) → (7 - i < n6) → ∀ (H : Heap) (locs : List Loc) (ls : Array Slot), Wd D A st.heap H locs ([(kv, .inl (D.1 100, 7, .inl xv)), (kb, .inl (D.1 100, 7, .inl xb)), (kg, .inl (D.1 100, 7, .inl xg)), (kn, .inl (D.1 100, 7, .inl xn)), (kt, .inl (D.1 100, 11, .inl xt)), (ka, .inl (D.1 100, 27, .inl xa)), (kw, .inl (D.1 100, 64, .inl (va_cpy xv xw 0 0 i))), (kq, .inl (D.1 100, 14, .inl xq))]) → lv_has ls 14 [(0, .ref kv), (1, .ref kb), (2, .ref kg), (3, .ref kn), (4, .ref kt), (5, .ref ka), (6, .ref kw), (7, .ref kq), (8, .int 1), (9, .int (nI i))] → W p l e (rmOf 7 0 0 159) st m args below meth c H locs 0 0 (QI below args st D A (tnL (rdO xb xg (xv, xn, xt, xa) xw xq q 7).2.1 (rdO xb xg (xv, xn, xt, xa) xw xq q 7).2.2.1 (rdO xb xg (xv, xn, xt, xa) xw xq q 7).2.2.2) ([(kv, .inl (D.1 100, 7, .inl ((rdO xb xg (xv, xn, xt, xa) xw xq q 7).1.1))), (kb, .inl (D.1 100, 7, .inl xb)), (kg, .inl (D.1 100, 7, .inl xg)), (kn, .inl (D.1 100, 7, .inl ((rdO xb xg (xv, xn, xt, xa) xw xq q 7).1.2.1))), (kt, .inl (D.1 100, 11, .inl ((rdO xb xg (xv, xn, xt, xa) xw xq q 7).1.2.2.1))), (ka, .inl (D.1 100, 27, .inl ((rdO xb xg (xv, xn, xt, xa) xw xq q 7).1.2.2.2))), (kw, .inl (D.1 100, 64, .inl ((rdO xb xg (xv, xn, xt, xa) xw xq q 7).2.2.1))), (kq, .inl (D.1 100, 14, .inl ((rdO xb xg (xv, xn, xt, xa) xw xq q 7).2.1)))])) (F0 m 6 ls []) := by
    intro n6
    induction n6 with
    | zero => intro i hi hm; omega
    | succ n6 ih6 =>
      intro i hi hm H locs ls hw hl
      refine lv_iload hx hb dL_reads_6 (lv_at hl 9 rfl) ?_
      refine lv_bipush (v := 7) hx hb dL_reads_8 (by decide) ?_
      refine r_geN (tgt := 28) hx hb i 7 rfl rfl (by omega) (by omega) dL_reads_10 (by decide) (fun c1 => ?_) (fun c1 => ?_)
      · skip
        refine lv_iconst (v := 0) hx hb dL_reads_28 (by decide) ?_
        refine lv_istore (lv' := [(9, .int 0), (0, .ref kv), (1, .ref kb), (2, .ref kg), (3, .ref kn), (4, .ref kt), (5, .ref ka), (6, .ref kw), (7, .ref kq), (8, .int 1)]) hx hb dL_reads_29 hl (by decide) rfl (fun ls hl => ?_)
        have key31 : ∀ (n31 : Nat) (k : Nat) (y : LRs × Row × Row × Nat), (k ≤ 7) → (7 - k < n31) → (y = rdO xb xg (xv, xn, xt, xa) xw xq q k) → ∀ (H : Heap) (locs : List Loc) (ls : Array Slot), Wd D A st.heap H locs ([(kv, .inl (D.1 100, 7, .inl y.1.1)), (kb, .inl (D.1 100, 7, .inl xb)), (kg, .inl (D.1 100, 7, .inl xg)), (kn, .inl (D.1 100, 7, .inl y.1.2.1)), (kt, .inl (D.1 100, 11, .inl y.1.2.2.1)), (ka, .inl (D.1 100, 27, .inl y.1.2.2.2)), (kw, .inl (D.1 100, 64, .inl y.2.2.1)), (kq, .inl (D.1 100, 14, .inl y.2.1))]) → lv_has ls 14 [(0, .ref kv), (1, .ref kb), (2, .ref kg), (3, .ref kn), (4, .ref kt), (5, .ref ka), (6, .ref kw), (7, .ref kq), (8, .int (nI y.2.2.2)), (9, .int (nI k))] → W p l e (rmOf 7 0 0 159) st m args below meth c H locs 0 0 (QI below args st D A (tnL (rdO xb xg (xv, xn, xt, xa) xw xq q 7).2.1 (rdO xb xg (xv, xn, xt, xa) xw xq q 7).2.2.1 (rdO xb xg (xv, xn, xt, xa) xw xq q 7).2.2.2) ([(kv, .inl (D.1 100, 7, .inl ((rdO xb xg (xv, xn, xt, xa) xw xq q 7).1.1))), (kb, .inl (D.1 100, 7, .inl xb)), (kg, .inl (D.1 100, 7, .inl xg)), (kn, .inl (D.1 100, 7, .inl ((rdO xb xg (xv, xn, xt, xa) xw xq q 7).1.2.1))), (kt, .inl (D.1 100, 11, .inl ((rdO xb xg (xv, xn, xt, xa) xw xq q 7).1.2.2.1))), (ka, .inl (D.1 100, 27, .inl ((rdO xb xg (xv, xn, xt, xa) xw xq q 7).1.2.2.2))), (kw, .inl (D.1 100, 64, .inl ((rdO xb xg (xv, xn, xt, xa) xw xq q 7).2.2.1))), (kq, .inl (D.1 100, 14, .inl ((rdO xb xg (xv, xn, xt, xa) xw xq q 7).2.1)))])) (F0 m 31 ls []) := by
          intro n31
          induction n31 with
          | zero => intro k y hk1 hm hy; omega
          | succ n31 ih31 =>
            intro k y hk1 hm hy H locs ls hw hl
            obtain ⟨p9, hok9, hn9, -, hn8⟩ := rdO_ok (xb := xb) (xg := xg) (x := (xv, xn, xt, xa)) (xw := xw) (xq := xq) hok hq k hk1
            rw [← hy] at hok9 hn9 hn8
            refine lv_iload hx hb dL_reads_31 (lv_at hl 9 rfl) ?_
            refine lv_bipush (v := 7) hx hb dL_reads_33 (by decide) ?_
            refine r_geN (tgt := 170) hx hb k 7 rfl rfl (by omega) (by omega) dL_reads_35 (by decide) (fun c2 => ?_) (fun c2 => ?_)
            · skip
              refine lv_iconst (v := 0) hx hb dL_reads_170 (by decide) ?_
              refine lv_istore (lv' := [(9, .int 0), (0, .ref kv), (1, .ref kb), (2, .ref kg), (3, .ref kn), (4, .ref kt), (5, .ref ka), (6, .ref kw), (7, .ref kq), (8, .int (nI y.2.2.2))]) hx hb dL_reads_171 hl (by decide) rfl (fun ls hl => ?_)
              have key173 : ∀ (n173 : Nat) (i : Nat), (i ≤ y.2.2.2) → (y.2.2.2 - i < n173) → (∀ j, j < i → ¬ ∀ r, r < 7 → y.2.1 r = y.2.2.1 (7 * j + r)) → ∀ (H : Heap) (locs : List Loc) (ls : Array Slot), Wd D A st.heap H locs ([(kv, .inl (D.1 100, 7, .inl y.1.1)), (kb, .inl (D.1 100, 7, .inl xb)), (kg, .inl (D.1 100, 7, .inl xg)), (kn, .inl (D.1 100, 7, .inl y.1.2.1)), (kt, .inl (D.1 100, 11, .inl y.1.2.2.1)), (ka, .inl (D.1 100, 27, .inl y.1.2.2.2)), (kw, .inl (D.1 100, 64, .inl y.2.2.1)), (kq, .inl (D.1 100, 14, .inl y.2.1))]) → lv_has ls 14 [(0, .ref kv), (1, .ref kb), (2, .ref kg), (3, .ref kn), (4, .ref kt), (5, .ref ka), (6, .ref kw), (7, .ref kq), (8, .int (nI y.2.2.2)), (9, .int (nI i))] → W p l e (rmOf 7 0 0 159) st m args below meth c H locs 0 0 (QI below args st D A (tnL (rdO xb xg (xv, xn, xt, xa) xw xq q 7).2.1 (rdO xb xg (xv, xn, xt, xa) xw xq q 7).2.2.1 (rdO xb xg (xv, xn, xt, xa) xw xq q 7).2.2.2) ([(kv, .inl (D.1 100, 7, .inl ((rdO xb xg (xv, xn, xt, xa) xw xq q 7).1.1))), (kb, .inl (D.1 100, 7, .inl xb)), (kg, .inl (D.1 100, 7, .inl xg)), (kn, .inl (D.1 100, 7, .inl ((rdO xb xg (xv, xn, xt, xa) xw xq q 7).1.2.1))), (kt, .inl (D.1 100, 11, .inl ((rdO xb xg (xv, xn, xt, xa) xw xq q 7).1.2.2.1))), (ka, .inl (D.1 100, 27, .inl ((rdO xb xg (xv, xn, xt, xa) xw xq q 7).1.2.2.2))), (kw, .inl (D.1 100, 64, .inl ((rdO xb xg (xv, xn, xt, xa) xw xq q 7).2.2.1))), (kq, .inl (D.1 100, 14, .inl ((rdO xb xg (xv, xn, xt, xa) xw xq q 7).2.1)))])) (F0 m 173 ls []) := by
                intro n173
                induction n173 with
                | zero => intro i hi2 hm2 hB; omega
                | succ n173 ih173 =>
                  intro i hi2 hm2 hB H locs ls hw hl
                  refine lv_iload hx hb dL_reads_173 (lv_at hl 9 rfl) ?_
                  refine lv_iload hx hb dL_reads_175 (lv_at hl 8 rfl) ?_
                  refine r_geN (tgt := 243) hx hb i y.2.2.2 rfl rfl (by omega) (by omega) dL_reads_177 (by decide) (fun c3 => ?_) (fun c3 => ?_)
                  · skip
                    refine lv_iconst (v := 1) hx hb dL_reads_243 (by decide) ?_
                    exact r_ret X hw hk hret rfl (by unfold tnL; rw [show k = 7 from by omega] at hy; rw [← hy]; exact (bI_t (fun j hj => hB j (by omega))).symm) (by rw [show k = 7 from by omega] at hy; rw [hy]) dL_reads_244
                  · skip
                    refine lv_iconst (v := 0) hx hb dL_reads_180 (by decide) ?_
                    refine lv_istore (lv' := [(10, .int 0), (0, .ref kv), (1, .ref kb), (2, .ref kg), (3, .ref kn), (4, .ref kt), (5, .ref ka), (6, .ref kw), (7, .ref kq), (8, .int (nI y.2.2.2)), (9, .int (nI i))]) hx hb dL_reads_181 hl (by decide) rfl (fun ls hl => ?_)
                    refine lv_iconst (v := 0) hx hb dL_reads_183 (by decide) ?_
                    refine lv_istore (lv' := [(11, .int 0), (10, .int 0), (0, .ref kv), (1, .ref kb), (2, .ref kg), (3, .ref kn), (4, .ref kt), (5, .ref ka), (6, .ref kw), (7, .ref kq), (8, .int (nI y.2.2.2)), (9, .int (nI i))]) hx hb dL_reads_184 hl (by decide) rfl (fun ls hl => ?_)
                    have key186 : ∀ (n186 : Nat) (r x : Nat), (r ≤ 7) → (7 - r < n186) → (x = smN y.2.1 y.2.2.1 i r) → ∀ (H : Heap) (locs : List Loc) (ls : Array Slot), Wd D A st.heap H locs ([(kv, .inl (D.1 100, 7, .inl y.1.1)), (kb, .inl (D.1 100, 7, .inl xb)), (kg, .inl (D.1 100, 7, .inl xg)), (kn, .inl (D.1 100, 7, .inl y.1.2.1)), (kt, .inl (D.1 100, 11, .inl y.1.2.2.1)), (ka, .inl (D.1 100, 27, .inl y.1.2.2.2)), (kw, .inl (D.1 100, 64, .inl y.2.2.1)), (kq, .inl (D.1 100, 14, .inl y.2.1))]) → lv_has ls 14 [(0, .ref kv), (1, .ref kb), (2, .ref kg), (3, .ref kn), (4, .ref kt), (5, .ref ka), (6, .ref kw), (7, .ref kq), (8, .int (nI y.2.2.2)), (9, .int (nI i)), (10, .int (nI x)), (11, .int (nI r))] → W p l e (rmOf 7 0 0 159) st m args below meth c H locs 0 0 (QI below args st D A (tnL (rdO xb xg (xv, xn, xt, xa) xw xq q 7).2.1 (rdO xb xg (xv, xn, xt, xa) xw xq q 7).2.2.1 (rdO xb xg (xv, xn, xt, xa) xw xq q 7).2.2.2) ([(kv, .inl (D.1 100, 7, .inl ((rdO xb xg (xv, xn, xt, xa) xw xq q 7).1.1))), (kb, .inl (D.1 100, 7, .inl xb)), (kg, .inl (D.1 100, 7, .inl xg)), (kn, .inl (D.1 100, 7, .inl ((rdO xb xg (xv, xn, xt, xa) xw xq q 7).1.2.1))), (kt, .inl (D.1 100, 11, .inl ((rdO xb xg (xv, xn, xt, xa) xw xq q 7).1.2.2.1))), (ka, .inl (D.1 100, 27, .inl ((rdO xb xg (xv, xn, xt, xa) xw xq q 7).1.2.2.2))), (kw, .inl (D.1 100, 64, .inl ((rdO xb xg (xv, xn, xt, xa) xw xq q 7).2.2.1))), (kq, .inl (D.1 100, 14, .inl ((rdO xb xg (xv, xn, xt, xa) xw xq q 7).2.1)))])) (F0 m 186 ls []) := by
                      intro n186
                      induction n186 with
                      | zero => intro r x hr hm3 hx0; omega
                      | succ n186 ih186 =>
                        intro r x hr hm3 hx0 H locs ls hw hl
                        have hx7 : x ≤ r := by rw [hx0]; exact smN_le _ _ _ _
                        refine lv_iload hx hb dL_reads_186 (lv_at hl 11 rfl) ?_
                        refine lv_bipush (v := 7) hx hb dL_reads_188 (by decide) ?_
                        refine r_geN (tgt := 228) hx hb r 7 rfl rfl (by omega) (by omega) dL_reads_190 (by decide) (fun c4 => ?_) (fun c4 => ?_)
                        · skip
                          obtain rfl : r = 7 := by omega
                          subst hx0
                          refine lv_iload hx hb dL_reads_228 (lv_at hl 10 rfl) ?_
                          refine lv_bipush (v := 7) hx hb dL_reads_230 (by decide) ?_
                          refine r_neN (tgt := 237) hx hb (smN y.2.1 y.2.2.1 i 7) 7 rfl rfl (by omega) (by omega) dL_reads_232 (by decide) (fun c5 => ?_) (fun c5 => ?_)
                          · skip
                            have h9 : ¬ smN y.2.1 y.2.2.1 i 7 = 7 := c5
                            refine r_iincN (lv' := [(9, .int (nI (i + 1))), (0, .ref kv), (1, .ref kb), (2, .ref kg), (3, .ref kn), (4, .ref kt), (5, .ref ka), (6, .ref kw), (7, .ref kq), (8, .int (nI y.2.2.2)), (10, .int (nI (smN y.2.1 y.2.2.1 i 7))), (11, .int 7)]) hx hb i 1 rfl dL_reads_237 hl (k := 9) rfl rfl (by decide) rfl (fun ls hl => ?_)
                            refine lv_goto (tgt := 173) hx hb dL_reads_240 (by decide) ?_
                            exact ih173 (i + 1) (by omega) (by omega) (fun j hj => by rcases Nat.lt_succ_iff_lt_or_eq.mp hj with h | h; exact hB j h; rw [h]; exact fun w => h9 ((smN_all _ _ _ 7).mpr w)) _ _ _ hw (lv_sub hl [1, 2, 3, 4, 5, 6, 7, 8, 9, 0] rfl)
                          · skip
                            refine lv_iconst (v := 0) hx hb dL_reads_235 (by decide) ?_
                            exact r_ret X hw hk hret rfl (by unfold tnL; rw [show k = 7 from by omega] at hy; rw [← hy]; exact (bI_f (fun w => w i (by omega) ((smN_all _ _ _ 7).mp c5))).symm) (by rw [show k = 7 from by omega] at hy; rw [hy]) dL_reads_236
                        · skip
                          refine lv_iload hx hb dL_reads_193 (lv_at hl 10 rfl) ?_
                          refine lv_aload hx hb dL_reads_195 (lv_at hl 7 rfl) ?_
                          refine lv_iload hx hb dL_reads_197 (lv_at hl 11 rfl) ?_
                          refine r_iald X hw (f := y.2.1) r (m_at 7 rfl) rfl (by omega) (by decide) dL_reads_199 ?_
                          refine lv_aload hx hb dL_reads_200 (lv_at hl 6 rfl) ?_
                          refine lv_bipush (v := 7) hx hb dL_reads_202 (by decide) ?_
                          refine lv_iload hx hb dL_reads_204 (lv_at hl 9 rfl) ?_
                          refine r_mulN hx hb 7 i rfl rfl dL_reads_206 ?_
                          refine lv_iload hx hb dL_reads_207 (lv_at hl 11 rfl) ?_
                          refine r_addN hx hb (7 * i) r rfl rfl dL_reads_209 ?_
                          refine r_iald X hw (f := y.2.2.1) (7 * i + r) (m_at 6 rfl) rfl (by omega) (by decide) dL_reads_210 ?_
                          refine lv_icmp_ne (tgt := 218) hx hb dL_reads_211 (by decide) (fun c6 => ?_) (fun c6 => ?_)
                          · skip
                            refine lv_iconst (v := 0) hx hb dL_reads_218 (by decide) ?_
                            refine r_addN hx hb x 0 rfl rfl dL_reads_219 ?_
                            refine lv_istore (lv' := [(10, .int (nI (x + 0))), (0, .ref kv), (1, .ref kb), (2, .ref kg), (3, .ref kn), (4, .ref kt), (5, .ref ka), (6, .ref kw), (7, .ref kq), (8, .int (nI y.2.2.2)), (9, .int (nI i)), (11, .int (nI r))]) hx hb dL_reads_220 hl (by decide) rfl (fun ls hl => ?_)
                            refine r_iincN (lv' := [(11, .int (nI (r + 1))), (10, .int (nI (x + 0))), (0, .ref kv), (1, .ref kb), (2, .ref kg), (3, .ref kn), (4, .ref kt), (5, .ref ka), (6, .ref kw), (7, .ref kq), (8, .int (nI y.2.2.2)), (9, .int (nI i))]) hx hb r 1 rfl dL_reads_222 hl (k := 11) rfl rfl (by decide) rfl (fun ls hl => ?_)
                            refine lv_goto (tgt := 186) hx hb dL_reads_225 (by decide) ?_
                            exact ih186 (r + 1) (x + 0) (by omega) (by omega) (by show _ = smN y.2.1 y.2.2.1 i r + _; rw [if_neg c6]; rw [hx0]) _ _ _ hw (lv_sub hl [2, 3, 4, 5, 6, 7, 8, 9, 10, 11, 1, 0] rfl)
                          · skip
                            refine lv_iconst (v := 1) hx hb dL_reads_214 (by decide) ?_
                            refine lv_goto (tgt := 219) hx hb dL_reads_215 (by decide) ?_
                            refine r_addN hx hb x 1 rfl rfl dL_reads_219 ?_
                            refine lv_istore (lv' := [(10, .int (nI (x + 1))), (0, .ref kv), (1, .ref kb), (2, .ref kg), (3, .ref kn), (4, .ref kt), (5, .ref ka), (6, .ref kw), (7, .ref kq), (8, .int (nI y.2.2.2)), (9, .int (nI i)), (11, .int (nI r))]) hx hb dL_reads_220 hl (by decide) rfl (fun ls hl => ?_)
                            refine r_iincN (lv' := [(11, .int (nI (r + 1))), (10, .int (nI (x + 1))), (0, .ref kv), (1, .ref kb), (2, .ref kg), (3, .ref kn), (4, .ref kt), (5, .ref ka), (6, .ref kw), (7, .ref kq), (8, .int (nI y.2.2.2)), (9, .int (nI i))]) hx hb r 1 rfl dL_reads_222 hl (k := 11) rfl rfl (by decide) rfl (fun ls hl => ?_)
                            refine lv_goto (tgt := 186) hx hb dL_reads_225 (by decide) ?_
                            exact ih186 (r + 1) (x + 1) (by omega) (by omega) (by show _ = smN y.2.1 y.2.2.1 i r + _; rw [if_pos c6]; rw [hx0]) _ _ _ hw (lv_sub hl [2, 3, 4, 5, 6, 7, 8, 9, 10, 11, 1, 0] rfl)
                    exact key186 8 0 0 (by omega) (by omega) rfl _ _ _ hw (lv_sub hl [2, 3, 4, 5, 6, 7, 8, 9, 10, 11, 1, 0] rfl)
              exact key173 (y.2.2.2 + 1) 0 (by omega) (by omega) (fun j hj => absurd hj (Nat.not_lt_zero j)) _ _ _ hw (lv_sub hl [1, 2, 3, 4, 5, 6, 7, 8, 9, 0] rfl)
            · skip
              refine lv_aload hx hb dL_reads_38 (lv_at hl 4 rfl) ?_
              refine lv_bipush (v := 9) hx hb dL_reads_40 (by decide) ?_
              refine r_iald X hw (f := y.1.2.2.1) 9 (m_at 4 rfl) rfl (by decide) (by decide) dL_reads_42 ?_
              refine lv_if_ne (tgt := 51) hx hb dL_reads_43 (by decide) (fun c7 => ?_) (fun c7 => ?_)
              · skip
                refine lv_bipush (v := 6) hx hb dL_reads_51 (by decide) ?_
                refine lv_iload hx hb dL_reads_53 (lv_at hl 9 rfl) ?_
                refine r_subN hx hb 6 k rfl rfl (by omega) dL_reads_55 ?_
                refine lv_istore (lv' := [(10, .int (nI (6 - k))), (0, .ref kv), (1, .ref kb), (2, .ref kg), (3, .ref kn), (4, .ref kt), (5, .ref ka), (6, .ref kw), (7, .ref kq), (8, .int (nI y.2.2.2)), (9, .int (nI k))]) hx hb dL_reads_56 hl (by decide) rfl (fun ls hl => ?_)
                refine lv_aload hx hb dL_reads_58 (lv_at hl 8 rfl) ?_
                refine lv_iload hx hb dL_reads_60 (lv_at hl 0 rfl) ?_
                refine lv_aload_n hx hb dL_reads_62 rfl (lv_at hl 1 rfl) ?_
                refine lv_iload hx hb dL_reads_63 (lv_at hl 0 rfl) ?_
                refine r_iald X hw (f := y.1.1) (6 - k) (m_at 0 rfl) rfl (by omega) (by decide) dL_reads_65 ?_
                refine r_iast X hw (ws' := [(kv, .inl (D.1 100, 7, .inl y.1.1)), (kb, .inl (D.1 100, 7, .inl xb)), (kg, .inl (D.1 100, 7, .inl xg)), (kn, .inl (D.1 100, 7, .inl y.1.2.1)), (kt, .inl (D.1 100, 11, .inl y.1.2.2.1)), (ka, .inl (D.1 100, 27, .inl y.1.2.2.2)), (kw, .inl (D.1 100, 64, .inl y.2.2.1)), (kq, .inl (D.1 100, 14, .inl (upd y.2.1 (6 - k) (y.1.1 (6 - k)))))]) (6 - k) rfl (by omega) (by decide) (Foc.cell 7 rfl rfl (ce rfl (ce rfl (ce rfl (ce rfl (ce rfl (ce rfl (ce rfl rfl)))))))) dL_reads_66 (fun H locs hw => ?_)
                refine lv_iconst (v := 0) hx hb dL_reads_67 (by decide) ?_
                refine lv_istore (lv' := [(11, .int 0), (10, .int (nI (6 - k))), (0, .ref kv), (1, .ref kb), (2, .ref kg), (3, .ref kn), (4, .ref kt), (5, .ref ka), (6, .ref kw), (7, .ref kq), (8, .int (nI y.2.2.2)), (9, .int (nI k))]) hx hb dL_reads_68 hl (by decide) rfl (fun ls hl => ?_)
                have key70 : ∀ (n70 : Nat) (f : Nat) (x : LRs × Row × Nat), (f ≤ q) → (q - f < n70) → (x = rdI xb xg k (y.1, y.2.2.1, y.2.2.2) f) → ∀ (H : Heap) (locs : List Loc) (ls : Array Slot), Wd D A st.heap H locs ([(kv, .inl (D.1 100, 7, .inl x.1.1)), (kb, .inl (D.1 100, 7, .inl xb)), (kg, .inl (D.1 100, 7, .inl xg)), (kn, .inl (D.1 100, 7, .inl x.1.2.1)), (kt, .inl (D.1 100, 11, .inl x.1.2.2.1)), (ka, .inl (D.1 100, 27, .inl x.1.2.2.2)), (kw, .inl (D.1 100, 64, .inl x.2.1)), (kq, .inl (D.1 100, 14, .inl (upd y.2.1 (6 - k) (y.1.1 (6 - k)))))]) → lv_has ls 14 [(0, .ref kv), (1, .ref kb), (2, .ref kg), (3, .ref kn), (4, .ref kt), (5, .ref ka), (6, .ref kw), (7, .ref kq), (8, .int (nI x.2.2)), (9, .int (nI k)), (10, .int (nI (6 - k))), (11, .int (nI f))] → W p l e (rmOf 7 0 0 159) st m args below meth c H locs 0 0 (QI below args st D A (tnL (rdO xb xg (xv, xn, xt, xa) xw xq q 7).2.1 (rdO xb xg (xv, xn, xt, xa) xw xq q 7).2.2.1 (rdO xb xg (xv, xn, xt, xa) xw xq q 7).2.2.2) ([(kv, .inl (D.1 100, 7, .inl ((rdO xb xg (xv, xn, xt, xa) xw xq q 7).1.1))), (kb, .inl (D.1 100, 7, .inl xb)), (kg, .inl (D.1 100, 7, .inl xg)), (kn, .inl (D.1 100, 7, .inl ((rdO xb xg (xv, xn, xt, xa) xw xq q 7).1.2.1))), (kt, .inl (D.1 100, 11, .inl ((rdO xb xg (xv, xn, xt, xa) xw xq q 7).1.2.2.1))), (ka, .inl (D.1 100, 27, .inl ((rdO xb xg (xv, xn, xt, xa) xw xq q 7).1.2.2.2))), (kw, .inl (D.1 100, 64, .inl ((rdO xb xg (xv, xn, xt, xa) xw xq q 7).2.2.1))), (kq, .inl (D.1 100, 14, .inl ((rdO xb xg (xv, xn, xt, xa) xw xq q 7).2.1)))])) (F0 m 70 ls []) := by
                  intro n70
                  induction n70 with
                  | zero => intro f x hf hm2 hxe; omega
                  | succ n70 ih70 =>
                    intro f x hf hm2 hxe H locs ls hw hl
                    obtain ⟨p2, hok2, hn2, hn3⟩ := rdI_b (xb := xb) (xg := xg) (x := (xv, xn, xt, xa)) (xw := xw) (xq := xq) hok hq (k := k) (by omega) hf
                    rw [← hy] at hok2 hn2 hn3
                    rw [← hxe] at hok2 hn2 hn3
                    have hx8 : x.1.2.2.1 8 = nI q := hok2.2.2.1
                    have hq8 := hok.2.2.2.2.2.2
                    refine lv_iload hx hb dL_reads_70 (lv_at hl 11 rfl) ?_
                    refine lv_aload hx hb dL_reads_72 (lv_at hl 4 rfl) ?_
                    refine lv_bipush (v := 8) hx hb dL_reads_74 (by decide) ?_
                    refine r_iald X hw (f := x.1.2.2.1) 8 (m_at 4 rfl) rfl (by decide) (by decide) dL_reads_76 ?_
                    rw [hx8]
                    refine r_geN (tgt := 164) hx hb f q rfl rfl (by omega) (by omega) dL_reads_77 (by decide) (fun c8 => ?_) (fun c8 => ?_)
                    · skip
                      have hfq : f = q := by omega
                      subst hxe
                      rw [hfq] at hw hl
                      refine r_iincN (lv' := [(9, .int (nI (k + 1))), (0, .ref kv), (1, .ref kb), (2, .ref kg), (3, .ref kn), (4, .ref kt), (5, .ref ka), (6, .ref kw), (7, .ref kq), (8, .int (nI ((rdI xb xg k (y.1, y.2.2.1, y.2.2.2) q).2.2))), (10, .int (nI (6 - k))), (11, .int (nI q))]) hx hb k 1 rfl dL_reads_164 hl (k := 9) rfl rfl (by decide) rfl (fun ls hl => ?_)
                      refine lv_goto (tgt := 31) hx hb dL_reads_167 (by decide) ?_
                      exact ih31 (k + 1) ((rdI xb xg k (y.1, y.2.2.1, y.2.2.2) q).1, upd y.2.1 (6 - k) (y.1.1 (6 - k)), (rdI xb xg k (y.1, y.2.2.1, y.2.2.2) q).2.1, (rdI xb xg k (y.1, y.2.2.1, y.2.2.2) q).2.2) (by omega) (by omega) (by show _ = rdO xb xg (xv, xn, xt, xa) xw xq q (k + 1); unfold rdO rgL; rw [← hy]; rw [if_neg c7]) _ _ _ hw (lv_sub hl [1, 2, 3, 4, 5, 6, 7, 8, 9, 0] rfl)
                    · skip
                      refine lv_aload_n hx hb dL_reads_80 rfl (lv_at hl 0 rfl) ?_
                      refine lv_aload_n hx hb dL_reads_81 rfl (lv_at hl 1 rfl) ?_
                      refine lv_aload_n hx hb dL_reads_82 rfl (lv_at hl 2 rfl) ?_
                      refine lv_aload_n hx hb dL_reads_83 rfl (lv_at hl 3 rfl) ?_
                      refine lv_aload hx hb dL_reads_84 (lv_at hl 4 rfl) ?_
                      refine lv_aload hx hb dL_reads_86 (lv_at hl 5 rfl) ?_
                      refine r_callS X hw (ws' := [(kv, .inl (D.1 100, 7, .inl ((phL xb xg x.1).2.1))), (kb, .inl (D.1 100, 7, .inl xb)), (kg, .inl (D.1 100, 7, .inl xg)), (kn, .inl (D.1 100, 7, .inl ((phL xb xg x.1).2.2.1))), (kt, .inl (D.1 100, 11, .inl ((phL xb xg x.1).2.2.2.1))), (ka, .inl (D.1 100, 27, .inl ((phL xb xg x.1).2.2.2.2))), (kw, .inl (D.1 100, 64, .inl x.2.1)), (kq, .inl (D.1 100, 14, .inl (upd y.2.1 (6 - k) (y.1.1 (6 - k)))))]) (As := [.ref kv, .ref kb, .ref kg, .ref kn, .ref kt, .ref ka]) (rest := []) lk_L_45 (c_L_phaseY l D _ kv kb kg kn kt ka x.1 xb xg) (Foc.pick [0, 0, 0, 0, 0, 0] (r := [(kw, .inl (D.1 100, 64, .inl x.2.1)), (kq, .inl (D.1 100, 14, .inl (upd y.2.1 (6 - k) (y.1.1 (6 - k)))))]) rfl rfl) rfl hl.1 (Nat.le_of_ble_eq_true rfl) ⟨Nat.le_of_ble_eq_true rfl, Nat.le_of_ble_eq_true rfl⟩ rfl dL_reads_88 ⟨Nat.le_refl _, Nat.le_refl _⟩ (fun H locs hw => ?_)
                      refine lv_istore (lv' := [(12, .int ((phL xb xg x.1).1)), (0, .ref kv), (1, .ref kb), (2, .ref kg), (3, .ref kn), (4, .ref kt), (5, .ref ka), (6, .ref kw), (7, .ref kq), (8, .int (nI x.2.2)), (9, .int (nI k)), (10, .int (nI (6 - k))), (11, .int (nI f))]) hx hb dL_reads_91 hl (by decide) rfl (fun ls hl => ?_)
                      by_cases g9 : ((phL xb xg x.1).1) = 0
                      · skip
                        refine lv_iconst (v := 0) hx hb dL_reads_93 (by decide) ?_
                        refine lv_istore (lv' := [(13, .int 0), (12, .int ((phL xb xg x.1).1)), (0, .ref kv), (1, .ref kb), (2, .ref kg), (3, .ref kn), (4, .ref kt), (5, .ref ka), (6, .ref kw), (7, .ref kq), (8, .int (nI x.2.2)), (9, .int (nI k)), (10, .int (nI (6 - k))), (11, .int (nI f))]) hx hb dL_reads_94 hl (by decide) rfl (fun ls hl => ?_)
                        refine lv_iload hx hb dL_reads_96 (lv_at hl 0 rfl) ?_
                        refine lv_bipush (v := 7) hx hb dL_reads_98 (by decide) ?_
                        refine lv_icmp_ge (tgt := 136) hx hb dL_reads_100 (by decide) (fun h => absurd h (by decide)) (fun _ => ?_)
                        refine lv_iload hx hb dL_reads_103 (lv_at hl 1 rfl) ?_
                        refine lv_if_eq (tgt := 136) hx hb dL_reads_105 (by decide) (fun _ => ?_) (fun h => absurd g9 h)
                        refine lv_iload hx hb dL_reads_136 (lv_at hl 10 rfl) ?_
                        refine lv_iload hx hb dL_reads_138 (lv_at hl 1 rfl) ?_
                        refine lv_if_eq (tgt := 154) hx hb dL_reads_140 (by decide) (fun _ => ?_) (fun h => absurd g9 h)
                        refine lv_iconst (v := 0) hx hb dL_reads_154 (by decide) ?_
                        refine r_addN hx hb x.2.2 0 rfl rfl dL_reads_155 ?_
                        refine lv_istore (lv' := [(8, .int (nI (x.2.2 + 0))), (13, .int 0), (12, .int ((phL xb xg x.1).1)), (0, .ref kv), (1, .ref kb), (2, .ref kg), (3, .ref kn), (4, .ref kt), (5, .ref ka), (6, .ref kw), (7, .ref kq), (9, .int (nI k)), (10, .int (nI (6 - k))), (11, .int (nI f))]) hx hb dL_reads_156 hl (by decide) rfl (fun ls hl => ?_)
                        refine r_iincN (lv' := [(11, .int (nI (f + 1))), (8, .int (nI (x.2.2 + 0))), (13, .int 0), (12, .int ((phL xb xg x.1).1)), (0, .ref kv), (1, .ref kb), (2, .ref kg), (3, .ref kn), (4, .ref kt), (5, .ref ka), (6, .ref kw), (7, .ref kq), (9, .int (nI k)), (10, .int (nI (6 - k)))]) hx hb f 1 rfl dL_reads_158 hl (k := 13) rfl rfl (by decide) rfl (fun ls hl => ?_)
                        refine lv_goto (tgt := 70) hx hb dL_reads_161 (by decide) ?_
                        exact ih70 (f + 1) ((phL xb xg x.1).2, x.2.1, x.2.2) (by omega) (by omega) (by show _ = rdP xb xg k (rdI xb xg k (y.1, y.2.2.1, y.2.2.2) f); rw [← hxe]; unfold rdP; rw [if_pos g9]) _ _ _ hw (lv_sub hl [4, 5, 6, 7, 8, 9, 10, 11, 1, 12, 13, 0] rfl)
                      · skip
                        by_cases g10 : 6 ≤ k
                        · skip
                          refine lv_iconst (v := 0) hx hb dL_reads_93 (by decide) ?_
                          refine lv_istore (lv' := [(13, .int 0), (12, .int ((phL xb xg x.1).1)), (0, .ref kv), (1, .ref kb), (2, .ref kg), (3, .ref kn), (4, .ref kt), (5, .ref ka), (6, .ref kw), (7, .ref kq), (8, .int (nI x.2.2)), (9, .int (nI k)), (10, .int (nI (6 - k))), (11, .int (nI f))]) hx hb dL_reads_94 hl (by decide) rfl (fun ls hl => ?_)
                          refine lv_iload hx hb dL_reads_96 (lv_at hl 0 rfl) ?_
                          refine lv_bipush (v := 7) hx hb dL_reads_98 (by decide) ?_
                          refine lv_icmp_ge (tgt := 136) hx hb dL_reads_100 (by decide) (fun h => absurd h (by decide)) (fun _ => ?_)
                          refine lv_iload hx hb dL_reads_103 (lv_at hl 1 rfl) ?_
                          refine lv_if_eq (tgt := 136) hx hb dL_reads_105 (by decide) (fun h => absurd h g9) (fun _ => ?_)
                          refine lv_iload hx hb dL_reads_108 (lv_at hl 11 rfl) ?_
                          refine lv_bipush (v := 6) hx hb dL_reads_110 (by decide) ?_
                          refine r_geN (tgt := 136) hx hb k 6 rfl rfl (by omega) (by omega) dL_reads_112 (by decide) (fun c11 => ?_) (fun c11 => absurd c11 (by omega))
                          refine lv_iload hx hb dL_reads_136 (lv_at hl 10 rfl) ?_
                          refine lv_iload hx hb dL_reads_138 (lv_at hl 1 rfl) ?_
                          refine lv_if_eq (tgt := 154) hx hb dL_reads_140 (by decide) (fun h => absurd h g9) (fun _ => ?_)
                          refine lv_iload hx hb dL_reads_143 (lv_at hl 11 rfl) ?_
                          refine lv_bipush (v := 6) hx hb dL_reads_145 (by decide) ?_
                          refine r_geN (tgt := 154) hx hb k 6 rfl rfl (by omega) (by omega) dL_reads_147 (by decide) (fun c12 => ?_) (fun c12 => absurd c12 (by omega))
                          refine lv_iconst (v := 0) hx hb dL_reads_154 (by decide) ?_
                          refine r_addN hx hb x.2.2 0 rfl rfl dL_reads_155 ?_
                          refine lv_istore (lv' := [(8, .int (nI (x.2.2 + 0))), (13, .int 0), (12, .int ((phL xb xg x.1).1)), (0, .ref kv), (1, .ref kb), (2, .ref kg), (3, .ref kn), (4, .ref kt), (5, .ref ka), (6, .ref kw), (7, .ref kq), (9, .int (nI k)), (10, .int (nI (6 - k))), (11, .int (nI f))]) hx hb dL_reads_156 hl (by decide) rfl (fun ls hl => ?_)
                          refine r_iincN (lv' := [(11, .int (nI (f + 1))), (8, .int (nI (x.2.2 + 0))), (13, .int 0), (12, .int ((phL xb xg x.1).1)), (0, .ref kv), (1, .ref kb), (2, .ref kg), (3, .ref kn), (4, .ref kt), (5, .ref ka), (6, .ref kw), (7, .ref kq), (9, .int (nI k)), (10, .int (nI (6 - k)))]) hx hb f 1 rfl dL_reads_158 hl (k := 13) rfl rfl (by decide) rfl (fun ls hl => ?_)
                          refine lv_goto (tgt := 70) hx hb dL_reads_161 (by decide) ?_
                          exact ih70 (f + 1) ((phL xb xg x.1).2, x.2.1, x.2.2) (by omega) (by omega) (by show _ = rdP xb xg k (rdI xb xg k (y.1, y.2.2.1, y.2.2.2) f); rw [← hxe]; unfold rdP; rw [if_neg g9]; rw [if_pos g10]) _ _ _ hw (lv_sub hl [4, 5, 6, 7, 8, 9, 10, 11, 1, 12, 13, 0] rfl)
                        · skip
                          have h88 := (hn3 (by omega) (by omega)).2 g9
                          refine lv_iconst (v := 0) hx hb dL_reads_93 (by decide) ?_
                          refine lv_istore (lv' := [(13, .int 0), (12, .int ((phL xb xg x.1).1)), (0, .ref kv), (1, .ref kb), (2, .ref kg), (3, .ref kn), (4, .ref kt), (5, .ref ka), (6, .ref kw), (7, .ref kq), (8, .int (nI x.2.2)), (9, .int (nI k)), (10, .int (nI (6 - k))), (11, .int (nI f))]) hx hb dL_reads_94 hl (by decide) rfl (fun ls hl => ?_)
                          have key96 : ∀ (n96 : Nat) (j : Nat), (j ≤ 7) → (7 - j < n96) → ∀ (H : Heap) (locs : List Loc) (ls : Array Slot), Wd D A st.heap H locs ([(kv, .inl (D.1 100, 7, .inl ((phL xb xg x.1).2.1))), (kb, .inl (D.1 100, 7, .inl xb)), (kg, .inl (D.1 100, 7, .inl xg)), (kn, .inl (D.1 100, 7, .inl ((phL xb xg x.1).2.2.1))), (kt, .inl (D.1 100, 11, .inl ((phL xb xg x.1).2.2.2.1))), (ka, .inl (D.1 100, 27, .inl ((phL xb xg x.1).2.2.2.2))), (kw, .inl (D.1 100, 64, .inl (va_cpy (phL xb xg x.1).2.1 x.2.1 0 (7 * x.2.2) j))), (kq, .inl (D.1 100, 14, .inl (upd y.2.1 (6 - k) (y.1.1 (6 - k)))))]) → lv_has ls 14 [(0, .ref kv), (1, .ref kb), (2, .ref kg), (3, .ref kn), (4, .ref kt), (5, .ref ka), (6, .ref kw), (7, .ref kq), (8, .int (nI x.2.2)), (9, .int (nI k)), (10, .int (nI (6 - k))), (11, .int (nI f)), (12, .int ((phL xb xg x.1).1)), (13, .int (nI j))] → W p l e (rmOf 7 0 0 159) st m args below meth c H locs 0 0 (QI below args st D A (tnL (rdO xb xg (xv, xn, xt, xa) xw xq q 7).2.1 (rdO xb xg (xv, xn, xt, xa) xw xq q 7).2.2.1 (rdO xb xg (xv, xn, xt, xa) xw xq q 7).2.2.2) ([(kv, .inl (D.1 100, 7, .inl ((rdO xb xg (xv, xn, xt, xa) xw xq q 7).1.1))), (kb, .inl (D.1 100, 7, .inl xb)), (kg, .inl (D.1 100, 7, .inl xg)), (kn, .inl (D.1 100, 7, .inl ((rdO xb xg (xv, xn, xt, xa) xw xq q 7).1.2.1))), (kt, .inl (D.1 100, 11, .inl ((rdO xb xg (xv, xn, xt, xa) xw xq q 7).1.2.2.1))), (ka, .inl (D.1 100, 27, .inl ((rdO xb xg (xv, xn, xt, xa) xw xq q 7).1.2.2.2))), (kw, .inl (D.1 100, 64, .inl ((rdO xb xg (xv, xn, xt, xa) xw xq q 7).2.2.1))), (kq, .inl (D.1 100, 14, .inl ((rdO xb xg (xv, xn, xt, xa) xw xq q 7).2.1)))])) (F0 m 96 ls []) := by
                            intro n96
                            induction n96 with
                            | zero => intro j hj hm3; omega
                            | succ n96 ih96 =>
                              intro j hj hm3 H locs ls hw hl
                              refine lv_iload hx hb dL_reads_96 (lv_at hl 13 rfl) ?_
                              refine lv_bipush (v := 7) hx hb dL_reads_98 (by decide) ?_
                              refine r_geN (tgt := 136) hx hb j 7 rfl rfl (by omega) (by omega) dL_reads_100 (by decide) (fun c13 => ?_) (fun c13 => ?_)
                              · skip
                                obtain rfl : j = 7 := by omega
                                refine lv_iload hx hb dL_reads_136 (lv_at hl 8 rfl) ?_
                                refine lv_iload hx hb dL_reads_138 (lv_at hl 12 rfl) ?_
                                refine lv_if_eq (tgt := 154) hx hb dL_reads_140 (by decide) (fun h => absurd h g9) (fun _ => ?_)
                                refine lv_iload hx hb dL_reads_143 (lv_at hl 9 rfl) ?_
                                refine lv_bipush (v := 6) hx hb dL_reads_145 (by decide) ?_
                                refine r_geN (tgt := 154) hx hb k 6 rfl rfl (by omega) (by omega) dL_reads_147 (by decide) (fun c14 => absurd c14 (by omega)) (fun c14 => ?_)
                                refine lv_iconst (v := 1) hx hb dL_reads_150 (by decide) ?_
                                refine lv_goto (tgt := 155) hx hb dL_reads_151 (by decide) ?_
                                refine r_addN hx hb x.2.2 1 rfl rfl dL_reads_155 ?_
                                refine lv_istore (lv' := [(8, .int (nI (x.2.2 + 1))), (0, .ref kv), (1, .ref kb), (2, .ref kg), (3, .ref kn), (4, .ref kt), (5, .ref ka), (6, .ref kw), (7, .ref kq), (9, .int (nI k)), (10, .int (nI (6 - k))), (11, .int (nI f)), (12, .int ((phL xb xg x.1).1)), (13, .int 7)]) hx hb dL_reads_156 hl (by decide) rfl (fun ls hl => ?_)
                                refine r_iincN (lv' := [(11, .int (nI (f + 1))), (8, .int (nI (x.2.2 + 1))), (0, .ref kv), (1, .ref kb), (2, .ref kg), (3, .ref kn), (4, .ref kt), (5, .ref ka), (6, .ref kw), (7, .ref kq), (9, .int (nI k)), (10, .int (nI (6 - k))), (12, .int ((phL xb xg x.1).1)), (13, .int 7)]) hx hb f 1 rfl dL_reads_158 hl (k := 11) rfl rfl (by decide) rfl (fun ls hl => ?_)
                                refine lv_goto (tgt := 70) hx hb dL_reads_161 (by decide) ?_
                                exact ih70 (f + 1) ((phL xb xg x.1).2, va_cpy (phL xb xg x.1).2.1 x.2.1 0 (7 * x.2.2) 7, x.2.2 + 1) (by omega) (by omega) (by show _ = rdP xb xg k (rdI xb xg k (y.1, y.2.2.1, y.2.2.2) f); rw [← hxe]; unfold rdP; rw [if_neg g9]; rw [if_neg g10]) _ _ _ hw (lv_sub hl [2, 3, 4, 5, 6, 7, 8, 9, 1, 10, 11, 0] rfl)
                              · skip
                                refine lv_iload hx hb dL_reads_103 (lv_at hl 12 rfl) ?_
                                refine lv_if_eq (tgt := 136) hx hb dL_reads_105 (by decide) (fun h => absurd h g9) (fun _ => ?_)
                                refine lv_iload hx hb dL_reads_108 (lv_at hl 9 rfl) ?_
                                refine lv_bipush (v := 6) hx hb dL_reads_110 (by decide) ?_
                                refine r_geN (tgt := 136) hx hb k 6 rfl rfl (by omega) (by omega) dL_reads_112 (by decide) (fun c15 => absurd c15 (by omega)) (fun c15 => ?_)
                                refine lv_aload hx hb dL_reads_115 (lv_at hl 6 rfl) ?_
                                refine lv_bipush (v := 7) hx hb dL_reads_117 (by decide) ?_
                                refine lv_iload hx hb dL_reads_119 (lv_at hl 8 rfl) ?_
                                refine r_mulN hx hb 7 x.2.2 rfl rfl dL_reads_121 ?_
                                refine lv_iload hx hb dL_reads_122 (lv_at hl 13 rfl) ?_
                                refine r_addN hx hb (7 * x.2.2) j rfl rfl dL_reads_124 ?_
                                refine lv_aload_n hx hb dL_reads_125 rfl (lv_at hl 0 rfl) ?_
                                refine lv_iload hx hb dL_reads_126 (lv_at hl 13 rfl) ?_
                                refine r_iald X hw (f := (phL xb xg x.1).2.1) j (m_at 0 rfl) rfl (by omega) (by decide) dL_reads_128 ?_
                                refine r_iast X hw (ws' := [(kv, .inl (D.1 100, 7, .inl ((phL xb xg x.1).2.1))), (kb, .inl (D.1 100, 7, .inl xb)), (kg, .inl (D.1 100, 7, .inl xg)), (kn, .inl (D.1 100, 7, .inl ((phL xb xg x.1).2.2.1))), (kt, .inl (D.1 100, 11, .inl ((phL xb xg x.1).2.2.2.1))), (ka, .inl (D.1 100, 27, .inl ((phL xb xg x.1).2.2.2.2))), (kw, .inl (D.1 100, 64, .inl (upd (va_cpy (phL xb xg x.1).2.1 x.2.1 0 (7 * x.2.2) j) (7 * x.2.2 + j) (((phL xb xg x.1).2.1) j)))), (kq, .inl (D.1 100, 14, .inl (upd y.2.1 (6 - k) (y.1.1 (6 - k)))))]) (7 * x.2.2 + j) rfl (by omega) (by decide) (Foc.cell 6 rfl rfl (ce rfl (ce rfl (ce rfl (ce rfl (ce rfl (ce rfl (ce rfl rfl)))))))) dL_reads_129 (fun H locs hw => ?_)
                                refine r_iincN (lv' := [(13, .int (nI (j + 1))), (0, .ref kv), (1, .ref kb), (2, .ref kg), (3, .ref kn), (4, .ref kt), (5, .ref ka), (6, .ref kw), (7, .ref kq), (8, .int (nI x.2.2)), (9, .int (nI k)), (10, .int (nI (6 - k))), (11, .int (nI f)), (12, .int ((phL xb xg x.1).1))]) hx hb j 1 rfl dL_reads_130 hl (k := 13) rfl rfl (by decide) rfl (fun ls hl => ?_)
                                refine lv_goto (tgt := 96) hx hb dL_reads_133 (by decide) ?_
                                exact ih96 (j + 1) (by omega) (by omega) _ _ _ (by rw [← cpy_step0]; exact hw) (lv_sub hl [1, 2, 3, 4, 5, 6, 7, 8, 9, 10, 11, 12, 13, 0] rfl)
                          exact key96 8 0 (by omega) (by omega) _ _ _ (by rw [cpy_0]; exact hw) (lv_sub hl [2, 3, 4, 5, 6, 7, 8, 9, 10, 11, 12, 13, 1, 0] rfl)
                exact key70 (q + 1) 0 (y.1, y.2.2.1, y.2.2.2) (by omega) (by omega) rfl _ _ _ hw (lv_sub hl [2, 3, 4, 5, 6, 7, 8, 9, 10, 11, 1, 0] rfl)
              · skip
                refine lv_iload hx hb dL_reads_46 (lv_at hl 9 rfl) ?_
                refine lv_goto (tgt := 56) hx hb dL_reads_48 (by decide) ?_
                refine lv_istore (lv' := [(10, .int (nI k)), (0, .ref kv), (1, .ref kb), (2, .ref kg), (3, .ref kn), (4, .ref kt), (5, .ref ka), (6, .ref kw), (7, .ref kq), (8, .int (nI y.2.2.2)), (9, .int (nI k))]) hx hb dL_reads_56 hl (by decide) rfl (fun ls hl => ?_)
                refine lv_aload hx hb dL_reads_58 (lv_at hl 8 rfl) ?_
                refine lv_iload hx hb dL_reads_60 (lv_at hl 0 rfl) ?_
                refine lv_aload_n hx hb dL_reads_62 rfl (lv_at hl 1 rfl) ?_
                refine lv_iload hx hb dL_reads_63 (lv_at hl 0 rfl) ?_
                refine r_iald X hw (f := y.1.1) k (m_at 0 rfl) rfl (by omega) (by decide) dL_reads_65 ?_
                refine r_iast X hw (ws' := [(kv, .inl (D.1 100, 7, .inl y.1.1)), (kb, .inl (D.1 100, 7, .inl xb)), (kg, .inl (D.1 100, 7, .inl xg)), (kn, .inl (D.1 100, 7, .inl y.1.2.1)), (kt, .inl (D.1 100, 11, .inl y.1.2.2.1)), (ka, .inl (D.1 100, 27, .inl y.1.2.2.2)), (kw, .inl (D.1 100, 64, .inl y.2.2.1)), (kq, .inl (D.1 100, 14, .inl (upd y.2.1 k (y.1.1 k))))]) k rfl (by omega) (by decide) (Foc.cell 7 rfl rfl (ce rfl (ce rfl (ce rfl (ce rfl (ce rfl (ce rfl (ce rfl rfl)))))))) dL_reads_66 (fun H locs hw => ?_)
                refine lv_iconst (v := 0) hx hb dL_reads_67 (by decide) ?_
                refine lv_istore (lv' := [(11, .int 0), (10, .int (nI k)), (0, .ref kv), (1, .ref kb), (2, .ref kg), (3, .ref kn), (4, .ref kt), (5, .ref ka), (6, .ref kw), (7, .ref kq), (8, .int (nI y.2.2.2)), (9, .int (nI k))]) hx hb dL_reads_68 hl (by decide) rfl (fun ls hl => ?_)
                have key70 : ∀ (n70 : Nat) (f : Nat) (x : LRs × Row × Nat), (f ≤ q) → (q - f < n70) → (x = rdI xb xg k (y.1, y.2.2.1, y.2.2.2) f) → ∀ (H : Heap) (locs : List Loc) (ls : Array Slot), Wd D A st.heap H locs ([(kv, .inl (D.1 100, 7, .inl x.1.1)), (kb, .inl (D.1 100, 7, .inl xb)), (kg, .inl (D.1 100, 7, .inl xg)), (kn, .inl (D.1 100, 7, .inl x.1.2.1)), (kt, .inl (D.1 100, 11, .inl x.1.2.2.1)), (ka, .inl (D.1 100, 27, .inl x.1.2.2.2)), (kw, .inl (D.1 100, 64, .inl x.2.1)), (kq, .inl (D.1 100, 14, .inl (upd y.2.1 k (y.1.1 k))))]) → lv_has ls 14 [(0, .ref kv), (1, .ref kb), (2, .ref kg), (3, .ref kn), (4, .ref kt), (5, .ref ka), (6, .ref kw), (7, .ref kq), (8, .int (nI x.2.2)), (9, .int (nI k)), (10, .int (nI k)), (11, .int (nI f))] → W p l e (rmOf 7 0 0 159) st m args below meth c H locs 0 0 (QI below args st D A (tnL (rdO xb xg (xv, xn, xt, xa) xw xq q 7).2.1 (rdO xb xg (xv, xn, xt, xa) xw xq q 7).2.2.1 (rdO xb xg (xv, xn, xt, xa) xw xq q 7).2.2.2) ([(kv, .inl (D.1 100, 7, .inl ((rdO xb xg (xv, xn, xt, xa) xw xq q 7).1.1))), (kb, .inl (D.1 100, 7, .inl xb)), (kg, .inl (D.1 100, 7, .inl xg)), (kn, .inl (D.1 100, 7, .inl ((rdO xb xg (xv, xn, xt, xa) xw xq q 7).1.2.1))), (kt, .inl (D.1 100, 11, .inl ((rdO xb xg (xv, xn, xt, xa) xw xq q 7).1.2.2.1))), (ka, .inl (D.1 100, 27, .inl ((rdO xb xg (xv, xn, xt, xa) xw xq q 7).1.2.2.2))), (kw, .inl (D.1 100, 64, .inl ((rdO xb xg (xv, xn, xt, xa) xw xq q 7).2.2.1))), (kq, .inl (D.1 100, 14, .inl ((rdO xb xg (xv, xn, xt, xa) xw xq q 7).2.1)))])) (F0 m 70 ls []) := by
                  intro n70
                  induction n70 with
                  | zero => intro f x hf hm2 hxe; omega
                  | succ n70 ih70 =>
                    intro f x hf hm2 hxe H locs ls hw hl
                    obtain ⟨p2, hok2, hn2, hn3⟩ := rdI_b (xb := xb) (xg := xg) (x := (xv, xn, xt, xa)) (xw := xw) (xq := xq) hok hq (k := k) (by omega) hf
                    rw [← hy] at hok2 hn2 hn3
                    rw [← hxe] at hok2 hn2 hn3
                    have hx8 : x.1.2.2.1 8 = nI q := hok2.2.2.1
                    have hq8 := hok.2.2.2.2.2.2
                    refine lv_iload hx hb dL_reads_70 (lv_at hl 11 rfl) ?_
                    refine lv_aload hx hb dL_reads_72 (lv_at hl 4 rfl) ?_
                    refine lv_bipush (v := 8) hx hb dL_reads_74 (by decide) ?_
                    refine r_iald X hw (f := x.1.2.2.1) 8 (m_at 4 rfl) rfl (by decide) (by decide) dL_reads_76 ?_
                    rw [hx8]
                    refine r_geN (tgt := 164) hx hb f q rfl rfl (by omega) (by omega) dL_reads_77 (by decide) (fun c16 => ?_) (fun c16 => ?_)
                    · skip
                      have hfq : f = q := by omega
                      subst hxe
                      rw [hfq] at hw hl
                      refine r_iincN (lv' := [(9, .int (nI (k + 1))), (0, .ref kv), (1, .ref kb), (2, .ref kg), (3, .ref kn), (4, .ref kt), (5, .ref ka), (6, .ref kw), (7, .ref kq), (8, .int (nI ((rdI xb xg k (y.1, y.2.2.1, y.2.2.2) q).2.2))), (10, .int (nI k)), (11, .int (nI q))]) hx hb k 1 rfl dL_reads_164 hl (k := 9) rfl rfl (by decide) rfl (fun ls hl => ?_)
                      refine lv_goto (tgt := 31) hx hb dL_reads_167 (by decide) ?_
                      exact ih31 (k + 1) ((rdI xb xg k (y.1, y.2.2.1, y.2.2.2) q).1, upd y.2.1 k (y.1.1 k), (rdI xb xg k (y.1, y.2.2.1, y.2.2.2) q).2.1, (rdI xb xg k (y.1, y.2.2.1, y.2.2.2) q).2.2) (by omega) (by omega) (by show _ = rdO xb xg (xv, xn, xt, xa) xw xq q (k + 1); unfold rdO rgL; rw [← hy]; rw [if_pos c7]) _ _ _ hw (lv_sub hl [1, 2, 3, 4, 5, 6, 7, 8, 9, 0] rfl)
                    · skip
                      refine lv_aload_n hx hb dL_reads_80 rfl (lv_at hl 0 rfl) ?_
                      refine lv_aload_n hx hb dL_reads_81 rfl (lv_at hl 1 rfl) ?_
                      refine lv_aload_n hx hb dL_reads_82 rfl (lv_at hl 2 rfl) ?_
                      refine lv_aload_n hx hb dL_reads_83 rfl (lv_at hl 3 rfl) ?_
                      refine lv_aload hx hb dL_reads_84 (lv_at hl 4 rfl) ?_
                      refine lv_aload hx hb dL_reads_86 (lv_at hl 5 rfl) ?_
                      refine r_callS X hw (ws' := [(kv, .inl (D.1 100, 7, .inl ((phL xb xg x.1).2.1))), (kb, .inl (D.1 100, 7, .inl xb)), (kg, .inl (D.1 100, 7, .inl xg)), (kn, .inl (D.1 100, 7, .inl ((phL xb xg x.1).2.2.1))), (kt, .inl (D.1 100, 11, .inl ((phL xb xg x.1).2.2.2.1))), (ka, .inl (D.1 100, 27, .inl ((phL xb xg x.1).2.2.2.2))), (kw, .inl (D.1 100, 64, .inl x.2.1)), (kq, .inl (D.1 100, 14, .inl (upd y.2.1 k (y.1.1 k))))]) (As := [.ref kv, .ref kb, .ref kg, .ref kn, .ref kt, .ref ka]) (rest := []) lk_L_45 (c_L_phaseY l D _ kv kb kg kn kt ka x.1 xb xg) (Foc.pick [0, 0, 0, 0, 0, 0] (r := [(kw, .inl (D.1 100, 64, .inl x.2.1)), (kq, .inl (D.1 100, 14, .inl (upd y.2.1 k (y.1.1 k))))]) rfl rfl) rfl hl.1 (Nat.le_of_ble_eq_true rfl) ⟨Nat.le_of_ble_eq_true rfl, Nat.le_of_ble_eq_true rfl⟩ rfl dL_reads_88 ⟨Nat.le_refl _, Nat.le_refl _⟩ (fun H locs hw => ?_)
                      refine lv_istore (lv' := [(12, .int ((phL xb xg x.1).1)), (0, .ref kv), (1, .ref kb), (2, .ref kg), (3, .ref kn), (4, .ref kt), (5, .ref ka), (6, .ref kw), (7, .ref kq), (8, .int (nI x.2.2)), (9, .int (nI k)), (10, .int (nI k)), (11, .int (nI f))]) hx hb dL_reads_91 hl (by decide) rfl (fun ls hl => ?_)
                      by_cases g17 : ((phL xb xg x.1).1) = 0
                      · skip
                        refine lv_iconst (v := 0) hx hb dL_reads_93 (by decide) ?_
                        refine lv_istore (lv' := [(13, .int 0), (12, .int ((phL xb xg x.1).1)), (0, .ref kv), (1, .ref kb), (2, .ref kg), (3, .ref kn), (4, .ref kt), (5, .ref ka), (6, .ref kw), (7, .ref kq), (8, .int (nI x.2.2)), (9, .int (nI k)), (10, .int (nI k)), (11, .int (nI f))]) hx hb dL_reads_94 hl (by decide) rfl (fun ls hl => ?_)
                        refine lv_iload hx hb dL_reads_96 (lv_at hl 0 rfl) ?_
                        refine lv_bipush (v := 7) hx hb dL_reads_98 (by decide) ?_
                        refine lv_icmp_ge (tgt := 136) hx hb dL_reads_100 (by decide) (fun h => absurd h (by decide)) (fun _ => ?_)
                        refine lv_iload hx hb dL_reads_103 (lv_at hl 1 rfl) ?_
                        refine lv_if_eq (tgt := 136) hx hb dL_reads_105 (by decide) (fun _ => ?_) (fun h => absurd g17 h)
                        refine lv_iload hx hb dL_reads_136 (lv_at hl 10 rfl) ?_
                        refine lv_iload hx hb dL_reads_138 (lv_at hl 1 rfl) ?_
                        refine lv_if_eq (tgt := 154) hx hb dL_reads_140 (by decide) (fun _ => ?_) (fun h => absurd g17 h)
                        refine lv_iconst (v := 0) hx hb dL_reads_154 (by decide) ?_
                        refine r_addN hx hb x.2.2 0 rfl rfl dL_reads_155 ?_
                        refine lv_istore (lv' := [(8, .int (nI (x.2.2 + 0))), (13, .int 0), (12, .int ((phL xb xg x.1).1)), (0, .ref kv), (1, .ref kb), (2, .ref kg), (3, .ref kn), (4, .ref kt), (5, .ref ka), (6, .ref kw), (7, .ref kq), (9, .int (nI k)), (10, .int (nI k)), (11, .int (nI f))]) hx hb dL_reads_156 hl (by decide) rfl (fun ls hl => ?_)
                        refine r_iincN (lv' := [(11, .int (nI (f + 1))), (8, .int (nI (x.2.2 + 0))), (13, .int 0), (12, .int ((phL xb xg x.1).1)), (0, .ref kv), (1, .ref kb), (2, .ref kg), (3, .ref kn), (4, .ref kt), (5, .ref ka), (6, .ref kw), (7, .ref kq), (9, .int (nI k)), (10, .int (nI k))]) hx hb f 1 rfl dL_reads_158 hl (k := 13) rfl rfl (by decide) rfl (fun ls hl => ?_)
                        refine lv_goto (tgt := 70) hx hb dL_reads_161 (by decide) ?_
                        exact ih70 (f + 1) ((phL xb xg x.1).2, x.2.1, x.2.2) (by omega) (by omega) (by show _ = rdP xb xg k (rdI xb xg k (y.1, y.2.2.1, y.2.2.2) f); rw [← hxe]; unfold rdP; rw [if_pos g17]) _ _ _ hw (lv_sub hl [4, 5, 6, 7, 8, 9, 10, 11, 1, 12, 13, 0] rfl)
                      · skip
                        by_cases g18 : 6 ≤ k
                        · skip
                          refine lv_iconst (v := 0) hx hb dL_reads_93 (by decide) ?_
                          refine lv_istore (lv' := [(13, .int 0), (12, .int ((phL xb xg x.1).1)), (0, .ref kv), (1, .ref kb), (2, .ref kg), (3, .ref kn), (4, .ref kt), (5, .ref ka), (6, .ref kw), (7, .ref kq), (8, .int (nI x.2.2)), (9, .int (nI k)), (10, .int (nI k)), (11, .int (nI f))]) hx hb dL_reads_94 hl (by decide) rfl (fun ls hl => ?_)
                          refine lv_iload hx hb dL_reads_96 (lv_at hl 0 rfl) ?_
                          refine lv_bipush (v := 7) hx hb dL_reads_98 (by decide) ?_
                          refine lv_icmp_ge (tgt := 136) hx hb dL_reads_100 (by decide) (fun h => absurd h (by decide)) (fun _ => ?_)
                          refine lv_iload hx hb dL_reads_103 (lv_at hl 1 rfl) ?_
                          refine lv_if_eq (tgt := 136) hx hb dL_reads_105 (by decide) (fun h => absurd h g17) (fun _ => ?_)
                          refine lv_iload hx hb dL_reads_108 (lv_at hl 11 rfl) ?_
                          refine lv_bipush (v := 6) hx hb dL_reads_110 (by decide) ?_
                          refine r_geN (tgt := 136) hx hb k 6 rfl rfl (by omega) (by omega) dL_reads_112 (by decide) (fun c19 => ?_) (fun c19 => absurd c19 (by omega))
                          refine lv_iload hx hb dL_reads_136 (lv_at hl 10 rfl) ?_
                          refine lv_iload hx hb dL_reads_138 (lv_at hl 1 rfl) ?_
                          refine lv_if_eq (tgt := 154) hx hb dL_reads_140 (by decide) (fun h => absurd h g17) (fun _ => ?_)
                          refine lv_iload hx hb dL_reads_143 (lv_at hl 11 rfl) ?_
                          refine lv_bipush (v := 6) hx hb dL_reads_145 (by decide) ?_
                          refine r_geN (tgt := 154) hx hb k 6 rfl rfl (by omega) (by omega) dL_reads_147 (by decide) (fun c20 => ?_) (fun c20 => absurd c20 (by omega))
                          refine lv_iconst (v := 0) hx hb dL_reads_154 (by decide) ?_
                          refine r_addN hx hb x.2.2 0 rfl rfl dL_reads_155 ?_
                          refine lv_istore (lv' := [(8, .int (nI (x.2.2 + 0))), (13, .int 0), (12, .int ((phL xb xg x.1).1)), (0, .ref kv), (1, .ref kb), (2, .ref kg), (3, .ref kn), (4, .ref kt), (5, .ref ka), (6, .ref kw), (7, .ref kq), (9, .int (nI k)), (10, .int (nI k)), (11, .int (nI f))]) hx hb dL_reads_156 hl (by decide) rfl (fun ls hl => ?_)
                          refine r_iincN (lv' := [(11, .int (nI (f + 1))), (8, .int (nI (x.2.2 + 0))), (13, .int 0), (12, .int ((phL xb xg x.1).1)), (0, .ref kv), (1, .ref kb), (2, .ref kg), (3, .ref kn), (4, .ref kt), (5, .ref ka), (6, .ref kw), (7, .ref kq), (9, .int (nI k)), (10, .int (nI k))]) hx hb f 1 rfl dL_reads_158 hl (k := 13) rfl rfl (by decide) rfl (fun ls hl => ?_)
                          refine lv_goto (tgt := 70) hx hb dL_reads_161 (by decide) ?_
                          exact ih70 (f + 1) ((phL xb xg x.1).2, x.2.1, x.2.2) (by omega) (by omega) (by show _ = rdP xb xg k (rdI xb xg k (y.1, y.2.2.1, y.2.2.2) f); rw [← hxe]; unfold rdP; rw [if_neg g17]; rw [if_pos g18]) _ _ _ hw (lv_sub hl [4, 5, 6, 7, 8, 9, 10, 11, 1, 12, 13, 0] rfl)
                        · skip
                          have h88 := (hn3 (by omega) (by omega)).2 g17
                          refine lv_iconst (v := 0) hx hb dL_reads_93 (by decide) ?_
                          refine lv_istore (lv' := [(13, .int 0), (12, .int ((phL xb xg x.1).1)), (0, .ref kv), (1, .ref kb), (2, .ref kg), (3, .ref kn), (4, .ref kt), (5, .ref ka), (6, .ref kw), (7, .ref kq), (8, .int (nI x.2.2)), (9, .int (nI k)), (10, .int (nI k)), (11, .int (nI f))]) hx hb dL_reads_94 hl (by decide) rfl (fun ls hl => ?_)
                          have key96 : ∀ (n96 : Nat) (j : Nat), (j ≤ 7) → (7 - j < n96) → ∀ (H : Heap) (locs : List Loc) (ls : Array Slot), Wd D A st.heap H locs ([(kv, .inl (D.1 100, 7, .inl ((phL xb xg x.1).2.1))), (kb, .inl (D.1 100, 7, .inl xb)), (kg, .inl (D.1 100, 7, .inl xg)), (kn, .inl (D.1 100, 7, .inl ((phL xb xg x.1).2.2.1))), (kt, .inl (D.1 100, 11, .inl ((phL xb xg x.1).2.2.2.1))), (ka, .inl (D.1 100, 27, .inl ((phL xb xg x.1).2.2.2.2))), (kw, .inl (D.1 100, 64, .inl (va_cpy (phL xb xg x.1).2.1 x.2.1 0 (7 * x.2.2) j))), (kq, .inl (D.1 100, 14, .inl (upd y.2.1 k (y.1.1 k))))]) → lv_has ls 14 [(0, .ref kv), (1, .ref kb), (2, .ref kg), (3, .ref kn), (4, .ref kt), (5, .ref ka), (6, .ref kw), (7, .ref kq), (8, .int (nI x.2.2)), (9, .int (nI k)), (10, .int (nI k)), (11, .int (nI f)), (12, .int ((phL xb xg x.1).1)), (13, .int (nI j))] → W p l e (rmOf 7 0 0 159) st m args below meth c H locs 0 0 (QI below args st D A (tnL (rdO xb xg (xv, xn, xt, xa) xw xq q 7).2.1 (rdO xb xg (xv, xn, xt, xa) xw xq q 7).2.2.1 (rdO xb xg (xv, xn, xt, xa) xw xq q 7).2.2.2) ([(kv, .inl (D.1 100, 7, .inl ((rdO xb xg (xv, xn, xt, xa) xw xq q 7).1.1))), (kb, .inl (D.1 100, 7, .inl xb)), (kg, .inl (D.1 100, 7, .inl xg)), (kn, .inl (D.1 100, 7, .inl ((rdO xb xg (xv, xn, xt, xa) xw xq q 7).1.2.1))), (kt, .inl (D.1 100, 11, .inl ((rdO xb xg (xv, xn, xt, xa) xw xq q 7).1.2.2.1))), (ka, .inl (D.1 100, 27, .inl ((rdO xb xg (xv, xn, xt, xa) xw xq q 7).1.2.2.2))), (kw, .inl (D.1 100, 64, .inl ((rdO xb xg (xv, xn, xt, xa) xw xq q 7).2.2.1))), (kq, .inl (D.1 100, 14, .inl ((rdO xb xg (xv, xn, xt, xa) xw xq q 7).2.1)))])) (F0 m 96 ls []) := by
                            intro n96
                            induction n96 with
                            | zero => intro j hj hm3; omega
                            | succ n96 ih96 =>
                              intro j hj hm3 H locs ls hw hl
                              refine lv_iload hx hb dL_reads_96 (lv_at hl 13 rfl) ?_
                              refine lv_bipush (v := 7) hx hb dL_reads_98 (by decide) ?_
                              refine r_geN (tgt := 136) hx hb j 7 rfl rfl (by omega) (by omega) dL_reads_100 (by decide) (fun c21 => ?_) (fun c21 => ?_)
                              · skip
                                obtain rfl : j = 7 := by omega
                                refine lv_iload hx hb dL_reads_136 (lv_at hl 8 rfl) ?_
                                refine lv_iload hx hb dL_reads_138 (lv_at hl 12 rfl) ?_
                                refine lv_if_eq (tgt := 154) hx hb dL_reads_140 (by decide) (fun h => absurd h g17) (fun _ => ?_)
                                refine lv_iload hx hb dL_reads_143 (lv_at hl 9 rfl) ?_
                                refine lv_bipush (v := 6) hx hb dL_reads_145 (by decide) ?_
                                refine r_geN (tgt := 154) hx hb k 6 rfl rfl (by omega) (by omega) dL_reads_147 (by decide) (fun c22 => absurd c22 (by omega)) (fun c22 => ?_)
                                refine lv_iconst (v := 1) hx hb dL_reads_150 (by decide) ?_
                                refine lv_goto (tgt := 155) hx hb dL_reads_151 (by decide) ?_
                                refine r_addN hx hb x.2.2 1 rfl rfl dL_reads_155 ?_
                                refine lv_istore (lv' := [(8, .int (nI (x.2.2 + 1))), (0, .ref kv), (1, .ref kb), (2, .ref kg), (3, .ref kn), (4, .ref kt), (5, .ref ka), (6, .ref kw), (7, .ref kq), (9, .int (nI k)), (10, .int (nI k)), (11, .int (nI f)), (12, .int ((phL xb xg x.1).1)), (13, .int 7)]) hx hb dL_reads_156 hl (by decide) rfl (fun ls hl => ?_)
                                refine r_iincN (lv' := [(11, .int (nI (f + 1))), (8, .int (nI (x.2.2 + 1))), (0, .ref kv), (1, .ref kb), (2, .ref kg), (3, .ref kn), (4, .ref kt), (5, .ref ka), (6, .ref kw), (7, .ref kq), (9, .int (nI k)), (10, .int (nI k)), (12, .int ((phL xb xg x.1).1)), (13, .int 7)]) hx hb f 1 rfl dL_reads_158 hl (k := 11) rfl rfl (by decide) rfl (fun ls hl => ?_)
                                refine lv_goto (tgt := 70) hx hb dL_reads_161 (by decide) ?_
                                exact ih70 (f + 1) ((phL xb xg x.1).2, va_cpy (phL xb xg x.1).2.1 x.2.1 0 (7 * x.2.2) 7, x.2.2 + 1) (by omega) (by omega) (by show _ = rdP xb xg k (rdI xb xg k (y.1, y.2.2.1, y.2.2.2) f); rw [← hxe]; unfold rdP; rw [if_neg g17]; rw [if_neg g18]) _ _ _ hw (lv_sub hl [2, 3, 4, 5, 6, 7, 8, 9, 1, 10, 11, 0] rfl)
                              · skip
                                refine lv_iload hx hb dL_reads_103 (lv_at hl 12 rfl) ?_
                                refine lv_if_eq (tgt := 136) hx hb dL_reads_105 (by decide) (fun h => absurd h g17) (fun _ => ?_)
                                refine lv_iload hx hb dL_reads_108 (lv_at hl 9 rfl) ?_
                                refine lv_bipush (v := 6) hx hb dL_reads_110 (by decide) ?_
                                refine r_geN (tgt := 136) hx hb k 6 rfl rfl (by omega) (by omega) dL_reads_112 (by decide) (fun c23 => absurd c23 (by omega)) (fun c23 => ?_)
                                refine lv_aload hx hb dL_reads_115 (lv_at hl 6 rfl) ?_
                                refine lv_bipush (v := 7) hx hb dL_reads_117 (by decide) ?_
                                refine lv_iload hx hb dL_reads_119 (lv_at hl 8 rfl) ?_
                                refine r_mulN hx hb 7 x.2.2 rfl rfl dL_reads_121 ?_
                                refine lv_iload hx hb dL_reads_122 (lv_at hl 13 rfl) ?_
                                refine r_addN hx hb (7 * x.2.2) j rfl rfl dL_reads_124 ?_
                                refine lv_aload_n hx hb dL_reads_125 rfl (lv_at hl 0 rfl) ?_
                                refine lv_iload hx hb dL_reads_126 (lv_at hl 13 rfl) ?_
                                refine r_iald X hw (f := (phL xb xg x.1).2.1) j (m_at 0 rfl) rfl (by omega) (by decide) dL_reads_128 ?_
                                refine r_iast X hw (ws' := [(kv, .inl (D.1 100, 7, .inl ((phL xb xg x.1).2.1))), (kb, .inl (D.1 100, 7, .inl xb)), (kg, .inl (D.1 100, 7, .inl xg)), (kn, .inl (D.1 100, 7, .inl ((phL xb xg x.1).2.2.1))), (kt, .inl (D.1 100, 11, .inl ((phL xb xg x.1).2.2.2.1))), (ka, .inl (D.1 100, 27, .inl ((phL xb xg x.1).2.2.2.2))), (kw, .inl (D.1 100, 64, .inl (upd (va_cpy (phL xb xg x.1).2.1 x.2.1 0 (7 * x.2.2) j) (7 * x.2.2 + j) (((phL xb xg x.1).2.1) j)))), (kq, .inl (D.1 100, 14, .inl (upd y.2.1 k (y.1.1 k))))]) (7 * x.2.2 + j) rfl (by omega) (by decide) (Foc.cell 6 rfl rfl (ce rfl (ce rfl (ce rfl (ce rfl (ce rfl (ce rfl (ce rfl rfl)))))))) dL_reads_129 (fun H locs hw => ?_)
                                refine r_iincN (lv' := [(13, .int (nI (j + 1))), (0, .ref kv), (1, .ref kb), (2, .ref kg), (3, .ref kn), (4, .ref kt), (5, .ref ka), (6, .ref kw), (7, .ref kq), (8, .int (nI x.2.2)), (9, .int (nI k)), (10, .int (nI k)), (11, .int (nI f)), (12, .int ((phL xb xg x.1).1))]) hx hb j 1 rfl dL_reads_130 hl (k := 13) rfl rfl (by decide) rfl (fun ls hl => ?_)
                                refine lv_goto (tgt := 96) hx hb dL_reads_133 (by decide) ?_
                                exact ih96 (j + 1) (by omega) (by omega) _ _ _ (by rw [← cpy_step0]; exact hw) (lv_sub hl [1, 2, 3, 4, 5, 6, 7, 8, 9, 10, 11, 12, 13, 0] rfl)
                          exact key96 8 0 (by omega) (by omega) _ _ _ (by rw [cpy_0]; exact hw) (lv_sub hl [2, 3, 4, 5, 6, 7, 8, 9, 10, 11, 12, 13, 1, 0] rfl)
                exact key70 (q + 1) 0 (y.1, y.2.2.1, y.2.2.2) (by omega) (by omega) rfl _ _ _ hw (lv_sub hl [2, 3, 4, 5, 6, 7, 8, 9, 10, 11, 1, 0] rfl)
        exact key31 8 0 ((xv, xn, xt, xa), xq, va_cpy xv xw 0 0 7, 1) (by omega) (by omega) rfl _ _ _ (by rw [show i = 7 from by omega] at hw; exact hw) (lv_sub hl [1, 2, 3, 4, 5, 6, 7, 8, 9, 0] rfl)
      · skip
        refine lv_aload hx hb dL_reads_13 (lv_at hl 6 rfl) ?_
        refine lv_iload hx hb dL_reads_15 (lv_at hl 9 rfl) ?_
        refine lv_aload_n hx hb dL_reads_17 rfl (lv_at hl 0 rfl) ?_
        refine lv_iload hx hb dL_reads_18 (lv_at hl 9 rfl) ?_
        refine r_iald X hw (f := xv) i (m_at 0 rfl) rfl (by omega) (by decide) dL_reads_20 ?_
        refine r_iast X hw (ws' := [(kv, .inl (D.1 100, 7, .inl xv)), (kb, .inl (D.1 100, 7, .inl xb)), (kg, .inl (D.1 100, 7, .inl xg)), (kn, .inl (D.1 100, 7, .inl xn)), (kt, .inl (D.1 100, 11, .inl xt)), (ka, .inl (D.1 100, 27, .inl xa)), (kw, .inl (D.1 100, 64, .inl (upd (va_cpy xv xw 0 0 i) i (xv i)))), (kq, .inl (D.1 100, 14, .inl xq))]) i rfl (by omega) (by decide) (Foc.cell 6 rfl rfl (ce rfl (ce rfl (ce rfl (ce rfl (ce rfl (ce rfl (ce rfl rfl)))))))) dL_reads_21 (fun H locs hw => ?_)
        refine r_iincN (lv' := [(9, .int (nI (i + 1))), (0, .ref kv), (1, .ref kb), (2, .ref kg), (3, .ref kn), (4, .ref kt), (5, .ref ka), (6, .ref kw), (7, .ref kq), (8, .int 1)]) hx hb i 1 rfl dL_reads_22 hl (k := 9) rfl rfl (by decide) rfl (fun ls hl => ?_)
        refine lv_goto (tgt := 6) hx hb dL_reads_25 (by decide) ?_
        exact ih6 (i + 1) (by omega) (by omega) _ _ _ (by rw [← cpy_step00]; exact hw) (lv_sub hl [1, 2, 3, 4, 5, 6, 7, 8, 9, 0] rfl)
  exact key6 8 0 (by omega) (by omega) _ _ _ (by rw [cpy_0]; exact hw) (lv_sub hl [2, 3, 4, 5, 6, 7, 8, 9, 1, 0] rfl)

theorem c_L_readsY (l : Launch) (D : va_G) (sz : Nat) (kv kb kg kn kt ka kw kq : Nat) (X : LRs) (xb xg xw xq : Row) (p z q : Nat) (hok : lOK X.2.2.1 p z q) (hq : 6 * q < 8 * z) : MI l yL_reads cL_reads 14 (some .boolean) 7 159 D sz [.ref kv, .ref kb, .ref kg, .ref kn, .ref kt, .ref ka, .ref kw, .ref kq] [(kv, .inl (D.1 100, 7, .inl X.1)), (kb, .inl (D.1 100, 7, .inl xb)), (kg, .inl (D.1 100, 7, .inl xg)), (kn, .inl (D.1 100, 7, .inl X.2.1)), (kt, .inl (D.1 100, 11, .inl X.2.2.1)), (ka, .inl (D.1 100, 27, .inl X.2.2.2)), (kw, .inl (D.1 100, 64, .inl xw)), (kq, .inl (D.1 100, 14, .inl xq))] (tnL (rdO xb xg X xw xq q 7).2.1 (rdO xb xg X xw xq q 7).2.2.1 (rdO xb xg X xw xq q 7).2.2.2) [(kv, .inl (D.1 100, 7, .inl ((rdO xb xg X xw xq q 7).1.1))), (kb, .inl (D.1 100, 7, .inl xb)), (kg, .inl (D.1 100, 7, .inl xg)), (kn, .inl (D.1 100, 7, .inl ((rdO xb xg X xw xq q 7).1.2.1))), (kt, .inl (D.1 100, 11, .inl ((rdO xb xg X xw xq q 7).1.2.2.1))), (ka, .inl (D.1 100, 27, .inl ((rdO xb xg X xw xq q 7).1.2.2.2))), (kw, .inl (D.1 100, 64, .inl ((rdO xb xg X xw xq q 7).2.2.1))), (kq, .inl (D.1 100, 14, .inl ((rdO xb xg X xw xq q 7).2.1)))] := c_L_reads l D sz kv kb kg kn kt ka kw kq X.1 xb xg X.2.1 X.2.2.1 X.2.2.2 xw xq p z q hok hq
