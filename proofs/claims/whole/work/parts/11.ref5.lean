/-! a burst of the reference: register by register -/
abbrev MT8 : Type := Row × Int32 × Row × Int32 × Int32 × Int32 × Int32 × Int32 × Int32 × Row × Row
/-- a phase within a burst, at the k-th register: the row, what was shown, how often -/
noncomputable def rdPh (k : Nat) (y : Row × Row × Nat) : Row × Row × Nat := if (sp_X7_phase y.1).1 = 0 then ((sp_X7_phase y.1).2, y.2.1, y.2.2) else (if 6 ≤ k then ((sp_X7_phase y.1).2, y.2.1, y.2.2) else ((sp_X7_phase y.1).2, va_cpy (sp_X7_phase y.1).2 y.2.1 0 (7 * y.2.2) 7, y.2.2 + 1))
noncomputable def rdIn (k : Nat) (x : Row × Row × Nat) : Nat → Row × Row × Nat
  | 0 => x
  | f + 1 => rdPh k (rdIn k x f)
/-- the row, what is told, what was shown, how often, behind k registers -/
noncomputable def rdK (s td sh : Row) (q : Nat) : Nat → Row × Row × Row × Nat
  | 0 => (s, td, va_cpy s sh 0 (7 * 0) 7, 1)
  | k + 1 => ((rdIn k ((rdK s td sh q k).1, (rdK s td sh q k).2.2.1, (rdK s td sh q k).2.2.2) q).1, upd (rdK s td sh q k).2.1 (if (rdK s td sh q k).1 38 = 0 then k else 6 - k) ((rdK s td sh q k).1 (0 + (if (rdK s td sh q k).1 38 = 0 then k else 6 - k))), (rdIn k ((rdK s td sh q k).1, (rdK s td sh q k).2.2.1, (rdK s td sh q k).2.2.2) q).2.1, (rdIn k ((rdK s td sh q k).1, (rdK s td sh q k).2.2.1, (rdK s td sh q k).2.2.2) q).2.2)
/-- what a burst needs of the row: the phase below the second, the settings in their ranges -/
def rOK (s : Row) (p z q : Nat) : Prop := s 28 = nI p ∧ s 39 = nI z ∧ s 37 = nI q ∧ p < z ∧ 4 ≤ z ∧ z ≤ 60 ∧ q ≤ 8
theorem phase_ok {s : Row} {p z q : Nat} (h : rOK s p z q) : ((sp_X7_phase s).1 = 0 ∧ rOK (sp_X7_phase s).2 (p + 1) z q) ∨ ((sp_X7_phase s).1 = 1 ∧ rOK (sp_X7_phase s).2 0 z q ∧ p + 1 = z) := by
  obtain ⟨h1, h2, h3, h4, h5, h6, h7⟩ := h
  rcases phase_28 h1 h2 h4 (by omega) with ⟨g1, g2, g3⟩ | ⟨g1, g2, g3⟩
  · exact Or.inl ⟨g1, g2, (phase_set s (by decide) (by decide)).trans h2, (phase_set s (by decide) (by decide)).trans h3, g3, h5, h6, h7⟩
  · exact Or.inr ⟨g1, ⟨g2, (phase_set s (by decide) (by decide)).trans h2, (phase_set s (by decide) (by decide)).trans h3, by omega, h5, h6, h7⟩, g3⟩
theorem rdIn_ok {k : Nat} {x : Row × Row × Nat} {p z q : Nat} (h : rOK x.1 p z q) (hn : 1 ≤ x.2.2) : ∀ f, ∃ p', rOK (rdIn k x f).1 p' z q ∧ 1 ≤ (rdIn k x f).2.2 ∧ (k < 6 → ((rdIn k x f).2.2 - 1) * z + p' = (x.2.2 - 1) * z + p + f) ∧ (6 ≤ k → (rdIn k x f).2.2 = x.2.2)
  | 0 => ⟨p, h, hn, fun _ => rfl, fun _ => rfl⟩
  | f + 1 => by
    obtain ⟨p', g1, g2, g3, g4⟩ := rdIn_ok h hn f
    show ∃ p', rOK (rdPh k (rdIn k x f)).1 p' z q ∧ _
    rcases phase_ok g1 with ⟨e1, e2⟩ | ⟨e1, e2, e3⟩
    · refine ⟨p' + 1, ?_⟩
      have e : rdIn k x (f + 1) = ((sp_X7_phase (rdIn k x f).1).2, (rdIn k x f).2.1, (rdIn k x f).2.2) := by
        show rdPh k _ = _
        unfold rdPh
        rw [if_pos e1]
      rw [show rdPh k (rdIn k x f) = rdIn k x (f + 1) from rfl, e]
      exact ⟨e2, g2, fun hk => by have := g3 hk; dsimp only; omega, fun hk => g4 hk⟩
    · refine ⟨0, ?_⟩
      have en : ¬ (sp_X7_phase (rdIn k x f).1).1 = 0 := by rw [e1]; decide
      by_cases hk : 6 ≤ k
      · have e : rdIn k x (f + 1) = ((sp_X7_phase (rdIn k x f).1).2, (rdIn k x f).2.1, (rdIn k x f).2.2) := by
          show rdPh k _ = _
          unfold rdPh
          rw [if_neg en, if_pos hk]
        rw [show rdPh k (rdIn k x f) = rdIn k x (f + 1) from rfl, e]
        exact ⟨e2, g2, fun h => absurd h (by omega), fun hk => g4 hk⟩
      · have e : rdIn k x (f + 1) = ((sp_X7_phase (rdIn k x f).1).2, va_cpy (sp_X7_phase (rdIn k x f).1).2 (rdIn k x f).2.1 0 (7 * (rdIn k x f).2.2) 7, (rdIn k x f).2.2 + 1) := by
          show rdPh k _ = _
          unfold rdPh
          rw [if_neg en, if_neg hk]
        rw [show rdPh k (rdIn k x f) = rdIn k x (f + 1) from rfl, e]
        refine ⟨e2, Nat.le_add_left _ _, fun h => ?_, fun h => absurd h hk⟩
        have := g3 h
        dsimp only
        obtain ⟨m, hm⟩ : ∃ m, (rdIn k x f).2.2 = m + 1 := ⟨(rdIn k x f).2.2 - 1, by omega⟩
        rw [hm] at this ⊢
        rw [show m + 1 + 1 - 1 = m + 1 from rfl, Nat.succ_mul]
        rw [show m + 1 - 1 = m from rfl] at this
        omega
theorem n_bound {m z p p0 t : Nat} (h : m * z + p = p0 + t) (h0 : p0 < z) (hz : 4 ≤ z) (ht : t ≤ 48) : m ≤ 12 := by
  rcases Nat.lt_or_ge 12 m with q | q
  · have := Nat.mul_le_mul_right z q
    omega
  · exact q
theorem rdK_ok {s td sh : Row} {p z q : Nat} (h : rOK s p z q) : ∀ k, k ≤ 7 → ∃ p', rOK (rdK s td sh q k).1 p' z q ∧ 1 ≤ (rdK s td sh q k).2.2.2 ∧ (k ≤ 6 → ((rdK s td sh q k).2.2.2 - 1) * z + p' = p + k * q) ∧ (rdK s td sh q k).2.2.2 ≤ 13
  | 0, _ => ⟨p, h, Nat.le_refl 1, fun _ => by show (1 - 1) * z + p = p + 0 * q; omega, by show 1 ≤ 13; decide⟩
  | k + 1, hk => by
    obtain ⟨p', g1, g2, g3, g4⟩ := rdK_ok (td := td) (sh := sh) h k (by omega)
    obtain ⟨p2, f1, f2, f3, f4⟩ := rdIn_ok (k := k) (x := ((rdK s td sh q k).1, (rdK s td sh q k).2.2.1, (rdK s td sh q k).2.2.2)) g1 g2 q
    have hq := h.2.2.2.2.2.2
    refine ⟨p2, f1, f2, fun h6 => ?_, ?_⟩
    · have e1 := f3 (by omega)
      have e2 := g3 (by omega)
      have e3 : (rdK s td sh q (k + 1)).2.2.2 = (rdIn k ((rdK s td sh q k).1, (rdK s td sh q k).2.2.1, (rdK s td sh q k).2.2.2) q).2.2 := rfl
      rw [e3, Nat.succ_mul]
      dsimp only at e1
      omega
    · have e3 : (rdK s td sh q (k + 1)).2.2.2 = (rdIn k ((rdK s td sh q k).1, (rdK s td sh q k).2.2.1, (rdK s td sh q k).2.2.2) q).2.2 := rfl
      rw [e3]
      rcases Nat.lt_or_ge k 6 with h6 | h6
      · have e1 := f3 h6
        have e2 := g3 (by omega)
        have hkq : k * q ≤ 5 * 8 := Nat.mul_le_mul (by omega) hq
        dsimp only at e1
        have := n_bound (t := k * q + q) (p0 := p) (by rw [e1, e2]; omega) h.2.2.2.1 h.2.2.2.2.1 (by omega)
        omega
      · rw [f4 h6]
        exact g4
/-- within the k-th register -/
theorem rdIn_b {s td sh : Row} {p z q : Nat} (h : rOK s p z q) {k : Nat} (hk : k < 7) {f : Nat} (hf : f ≤ q) : ∃ p', rOK (rdIn k ((rdK s td sh q k).1, (rdK s td sh q k).2.2.1, (rdK s td sh q k).2.2.2) f).1 p' z q ∧ (rdIn k ((rdK s td sh q k).1, (rdK s td sh q k).2.2.1, (rdK s td sh q k).2.2.2) f).2.2 ≤ 13 := by
  obtain ⟨p', g1, g2, g3, g4⟩ := rdK_ok (td := td) (sh := sh) h k (by omega)
  obtain ⟨p2, f1, f2, f3, f4⟩ := rdIn_ok (k := k) (x := ((rdK s td sh q k).1, (rdK s td sh q k).2.2.1, (rdK s td sh q k).2.2.2)) g1 g2 f
  have hq := h.2.2.2.2.2.2
  refine ⟨p2, f1, ?_⟩
  rcases Nat.lt_or_ge k 6 with h6 | h6
  · have e1 := f3 h6
    have e2 := g3 (by omega)
    have hkq : k * q ≤ 5 * 8 := Nat.mul_le_mul (by omega) hq
    dsimp only at e1
    have := n_bound (t := k * q + f) (p0 := p) (by rw [e1, e2]; omega) h.2.2.2.1 h.2.2.2.2.1 (by omega)
    omega
  · rw [f4 h6]
    exact g4

set_option maxRecDepth 100000 in
set_option maxHeartbeats 4000000 in
theorem c_X7_shows (l : Launch) (D : va_G) (sz : Nat) (L : Nat → Nat) (s pa : Row) (P ru : Int32) (td ah sh : Row) (n : Nat) (o8 : Row) (o9 : Int32) (o10 : Row) (o11 : Int32) (o12 : Int32) (o13 : Int32) (o14 : Int32) (o15 : Int32) (o16 : Int32) (o17 : Row) (o18 : Row) (hn : n ≤ 14) : MV l yX7_shows cX7_shows 2 0 0 D sz [.ref (L 0)] (mW D L s pa P ru td ah sh (nI n) o8 o9 o10 o11 o12 o13 o14 o15 o16 o17 o18) (mW D L s pa P ru td ah (va_cpy s sh 0 (7 * n) 7) (nI (n + 1)) o8 o9 o10 o11 o12 o13 o14 o15 o16 o17 o18) := by
  refine r_enterV (by decide) (Nat.le_of_ble_eq_true rfl) ?_
  intro p e st m args below meth c ls A X hret hk hw hl
  have X : CX D p m c cX7_shows 2 st args RX7 A := X
  have hx := X.1.1
  have hb := X.1.2.1
  have hown := X.1.2.2.2.1
  have hts := X.1.2.2.2.2
  have hl : lv_has ls 2 [(0, .ref (L 0))] := hl
  refine lv_iconst (v := 0) hx hb dX7_shows_0 (by decide) ?_
  refine lv_istore_n (lv' := [(1, .int 0), (0, .ref (L 0))]) hx hb dX7_shows_1 rfl hl (by decide) rfl (fun ls hl => ?_)
  have key2 : ∀ (n2 : Nat) (i : Nat), (i ≤ 7) → (7 - i < n2) → ∀ (H : Heap) (locs : List Loc) (ls : Array Slot), Wd D A st.heap H locs (mW D L s pa P ru td ah (va_cpy s sh 0 (7 * n) i) (nI n) o8 o9 o10 o11 o12 o13 o14 o15 o16 o17 o18) → lv_has ls 2 [(0, .ref (L 0)), (1, .int (nI i))] → W p l e (rmOf 0 0 0 0) st m args below meth c H locs 0 0 (QV below args st D A (mW D L s pa P ru td ah (va_cpy s sh 0 (7 * n) 7) (nI (n + 1)) o8 o9 o10 o11 o12 o13 o14 o15 o16 o17 o18)) (F0 m 2 ls []) := by
    intro n2
    induction n2 with
    | zero => intro i hi hm; omega
    | succ n2 ih2 =>
      intro i hi hm H locs ls hw hl
      refine lv_iload_n hx hb dX7_shows_2 rfl (lv_at hl 1 rfl) ?_
      refine lv_bipush (v := 7) hx hb dX7_shows_3 (by decide) ?_
      refine r_geN (tgt := 36) hx hb i 7 rfl rfl (by omega) (by omega) dX7_shows_5 (by decide) (fun c1 => ?_) (fun c1 => ?_)
      · skip
        refine lv_aload_n hx hb dX7_shows_36 rfl (lv_at hl 0 rfl) ?_
        refine lv_dup hx hb dX7_shows_37 rfl ?_
        refine r_get X hw (v := .int (nI n)) fl_X7_114 (m_at 0 rfl) rfl dX7_shows_38 ?_
        refine lv_iconst (v := 1) hx hb dX7_shows_41 (by decide) ?_
        refine r_addN hx hb n 1 rfl rfl dX7_shows_42 ?_
        refine r_puti X hw (ws' := mW D L s pa P ru td ah (va_cpy s sh 0 (7 * n) i) (nI (n + 1)) o8 o9 o10 o11 o12 o13 o14 o15 o16 o17 o18) fp_X7_114 (Nat.le_of_ble_eq_true rfl) (Foc.cell 0 rfl rfl (ce rfl (ce rfl (ce rfl (ce rfl (ce rfl (ce rfl (ce rfl (ce rfl (ce rfl rfl)))))))))) dX7_shows_43 (fun H locs hw => ?_)
        exact r_retV X hw hk hret (by rw [show i = 7 from by omega]) dX7_shows_46
      · skip
        refine lv_aload_n hx hb dX7_shows_8 rfl (lv_at hl 0 rfl) ?_
        refine r_get X hw (v := .ref (L 8)) fl_X7_31 (m_at 0 rfl) rfl dX7_shows_9 ?_
        refine lv_bipush (v := 7) hx hb dX7_shows_12 (by decide) ?_
        refine lv_aload_n hx hb dX7_shows_14 rfl (lv_at hl 0 rfl) ?_
        refine r_get X hw (v := .int (nI n)) fl_X7_114 (m_at 0 rfl) rfl dX7_shows_15 ?_
        refine r_mulN hx hb 7 n rfl rfl dX7_shows_18 ?_
        refine lv_iload_n hx hb dX7_shows_19 rfl (lv_at hl 1 rfl) ?_
        refine r_addN hx hb (7 * n) i rfl rfl dX7_shows_20 ?_
        refine lv_aload_n hx hb dX7_shows_21 rfl (lv_at hl 0 rfl) ?_
        refine r_get X hw (v := .ref (L 1)) fl_X7_7 (m_at 0 rfl) rfl dX7_shows_22 ?_
        refine lv_iconst (v := 0) hx hb dX7_shows_25 (by decide) ?_
        refine lv_iload_n hx hb dX7_shows_26 rfl (lv_at hl 1 rfl) ?_
        refine r_addN hx hb 0 i rfl rfl dX7_shows_27 ?_
        refine r_iald X hw (f := s) (0 + i) (m_at 1 rfl) rfl (by omega) (by decide) dX7_shows_28 ?_
        refine r_iast X hw (ws' := mW D L s pa P ru td ah (upd (va_cpy s sh 0 (7 * n) i) (7 * n + i) (s (0 + i))) (nI n) o8 o9 o10 o11 o12 o13 o14 o15 o16 o17 o18) (7 * n + i) rfl (by omega) (by decide) (Foc.cell 8 rfl rfl (ce rfl (ce rfl (ce rfl (ce rfl (ce rfl (ce rfl (ce rfl (ce rfl (ce rfl rfl)))))))))) dX7_shows_29 (fun H locs hw => ?_)
        refine r_iincN (lv' := [(1, .int (nI (i + 1))), (0, .ref (L 0))]) hx hb i 1 rfl dX7_shows_30 hl (k := 1) rfl rfl (by decide) rfl (fun ls hl => ?_)
        refine lv_goto (tgt := 2) hx hb dX7_shows_33 (by decide) ?_
        exact ih2 (i + 1) (by omega) (by omega) _ _ _ (by rw [← cpy_step0, show s i = s (0 + i) from by rw [Nat.zero_add]]; exact hw) (lv_sub hl [1, 0] rfl)
  exact key2 8 0 (by omega) (by omega) _ _ _ (by rw [cpy_0]; exact hw) (lv_sub hl [1, 0] rfl)

set_option maxRecDepth 100000 in
set_option maxHeartbeats 4000000 in
theorem c_X7_readsAll (l : Launch) (D : va_G) (sz : Nat) (L : Nat → Nat) (s pa : Row) (P ru : Int32) (td ah sh : Row) (n0 : Int32) (o8 : Row) (o9 : Int32) (o10 : Row) (o11 : Int32) (o12 : Int32) (o13 : Int32) (o14 : Int32) (o15 : Int32) (o16 : Int32) (o17 : Row) (o18 : Row) (p z q : Nat) (hok : rOK s p z q) : MV l yX7_readsAll cX7_readsAll 4 11 238 D sz [.ref (L 0)] (mW D L s pa P ru td ah sh n0 o8 o9 o10 o11 o12 o13 o14 o15 o16 o17 o18) (mW D L ((rdK s td sh q 7).1) pa P ru ((rdK s td sh q 7).2.1) ah ((rdK s td sh q 7).2.2.1) (nI (rdK s td sh q 7).2.2.2) o8 o9 o10 o11 o12 o13 o14 o15 o16 o17 o18) := by
  refine r_enterV (by decide) (Nat.le_of_ble_eq_true rfl) ?_
  intro p e st m args below meth c ls A X hret hk hw hl
  have X : CX D p m c cX7_readsAll 4 st args RX7 A := X
  have hx := X.1.1
  have hb := X.1.2.1
  have hown := X.1.2.2.2.1
  have hts := X.1.2.2.2.2
  have hl : lv_has ls 4 [(0, .ref (L 0))] := hl
  refine lv_aload_n hx hb dX7_readsAll_0 rfl (lv_at hl 0 rfl) ?_
  refine lv_iconst (v := 0) hx hb dX7_readsAll_1 (by decide) ?_
  refine r_puti X hw (ws' := mW D L s pa P ru td ah sh 0 o8 o9 o10 o11 o12 o13 o14 o15 o16 o17 o18) fp_X7_114 (Nat.le_of_ble_eq_true rfl) (Foc.cell 0 rfl rfl (ce rfl (ce rfl (ce rfl (ce rfl (ce rfl (ce rfl (ce rfl (ce rfl (ce rfl rfl)))))))))) dX7_readsAll_2 (fun H locs hw => ?_)
  refine lv_aload_n hx hb dX7_readsAll_5 rfl (lv_at hl 0 rfl) ?_
  refine r_callVv X hw (ws' := mW D L s pa P ru td ah (va_cpy s sh 0 (7 * 0) 7) (nI (0 + 1)) o8 o9 o10 o11 o12 o13 o14 o15 o16 o17 o18) (As := []) (rest := []) lk_X7_117 (c_X7_shows l D _ L s pa P ru td ah sh 0 o8 o9 o10 o11 o12 o13 o14 o15 o16 o17 o18 (by omega)) Foc.all (m_at 0 rfl) rfl hl.1 (Nat.le_of_ble_eq_true rfl) ⟨Nat.le_of_ble_eq_true rfl, Nat.le_of_ble_eq_true rfl⟩ rfl dX7_readsAll_6 ⟨Nat.le_refl _, Nat.le_refl _⟩ (fun H locs hw => ?_)
  refine lv_iconst (v := 0) hx hb dX7_readsAll_9 (by decide) ?_
  refine lv_istore_n (lv' := [(1, .int 0), (0, .ref (L 0))]) hx hb dX7_readsAll_10 rfl hl (by decide) rfl (fun ls hl => ?_)
  have key11 : ∀ (n11 : Nat) (k : Nat) (y : Row × Row × Row × Nat), (k ≤ 7) → (7 - k < n11) → (y = rdK s td sh q k) → ∀ (H : Heap) (locs : List Loc) (ls : Array Slot), Wd D A st.heap H locs (mW D L y.1 pa P ru y.2.1 ah y.2.2.1 (nI y.2.2.2) o8 o9 o10 o11 o12 o13 o14 o15 o16 o17 o18) → lv_has ls 4 [(0, .ref (L 0)), (1, .int (nI k))] → W p l e (rmOf 11 0 0 238) st m args below meth c H locs 0 0 (QV below args st D A (mW D L ((rdK s td sh q 7).1) pa P ru ((rdK s td sh q 7).2.1) ah ((rdK s td sh q 7).2.2.1) (nI (rdK s td sh q 7).2.2.2) o8 o9 o10 o11 o12 o13 o14 o15 o16 o17 o18)) (F0 m 11 ls []) := by
    intro n11
    induction n11 with
    | zero => intro k y hk1 hm hy; omega
    | succ n11 ih11 =>
      intro k y hk1 hm hy H locs ls hw hl
      have hq8 := hok.2.2.2.2.2.2
      refine lv_iload_n hx hb dX7_readsAll_11 rfl (lv_at hl 1 rfl) ?_
      refine lv_bipush (v := 7) hx hb dX7_readsAll_12 (by decide) ?_
      refine r_geN (tgt := 92) hx hb k 7 rfl rfl (by omega) (by omega) dX7_readsAll_14 (by decide) (fun c1 => ?_) (fun c1 => ?_)
      · skip
        exact r_retV X hw hk hret (by rw [hy, show k = 7 from by omega]) dX7_readsAll_92
      · skip
        refine lv_aload_n hx hb dX7_readsAll_17 rfl (lv_at hl 0 rfl) ?_
        refine r_get X hw (v := .ref (L 1)) fl_X7_7 (m_at 0 rfl) rfl dX7_readsAll_18 ?_
        refine lv_bipush (v := 38) hx hb dX7_readsAll_21 (by decide) ?_
        refine r_iald X hw (f := y.1) 38 (m_at 1 rfl) rfl (by decide) (by decide) dX7_readsAll_23 ?_
        refine lv_if_ne (tgt := 31) hx hb dX7_readsAll_24 (by decide) (fun c2 => ?_) (fun c2 => ?_)
        · skip
          refine lv_bipush (v := 6) hx hb dX7_readsAll_31 (by decide) ?_
          refine lv_iload_n hx hb dX7_readsAll_33 rfl (lv_at hl 1 rfl) ?_
          refine r_subN hx hb 6 k rfl rfl (by omega) dX7_readsAll_34 ?_
          refine lv_istore_n (lv' := [(2, .int (nI (6 - k))), (0, .ref (L 0)), (1, .int (nI k))]) hx hb dX7_readsAll_35 rfl hl (by decide) rfl (fun ls hl => ?_)
          refine lv_aload_n hx hb dX7_readsAll_36 rfl (lv_at hl 1 rfl) ?_
          refine r_get X hw (v := .ref (L 6)) fl_X7_25 (m_at 0 rfl) rfl dX7_readsAll_37 ?_
          refine lv_iload_n hx hb dX7_readsAll_40 rfl (lv_at hl 0 rfl) ?_
          refine lv_aload_n hx hb dX7_readsAll_41 rfl (lv_at hl 1 rfl) ?_
          refine r_get X hw (v := .ref (L 1)) fl_X7_7 (m_at 0 rfl) rfl dX7_readsAll_42 ?_
          refine lv_iconst (v := 0) hx hb dX7_readsAll_45 (by decide) ?_
          refine lv_iload_n hx hb dX7_readsAll_46 rfl (lv_at hl 0 rfl) ?_
          refine r_addN hx hb 0 (6 - k) rfl rfl dX7_readsAll_47 ?_
          refine r_iald X hw (f := y.1) (0 + (6 - k)) (m_at 1 rfl) rfl (by omega) (by decide) dX7_readsAll_48 ?_
          refine r_iast X hw (ws' := mW D L y.1 pa P ru (upd y.2.1 (6 - k) (y.1 (0 + (6 - k)))) ah y.2.2.1 (nI y.2.2.2) o8 o9 o10 o11 o12 o13 o14 o15 o16 o17 o18) (6 - k) rfl (by omega) (by decide) (Foc.cell 6 rfl rfl (ce rfl (ce rfl (ce rfl (ce rfl (ce rfl (ce rfl (ce rfl (ce rfl (ce rfl rfl)))))))))) dX7_readsAll_49 (fun H locs hw => ?_)
          refine lv_iconst (v := 0) hx hb dX7_readsAll_50 (by decide) ?_
          refine lv_istore_n (lv' := [(3, .int 0), (2, .int (nI (6 - k))), (0, .ref (L 0)), (1, .int (nI k))]) hx hb dX7_readsAll_51 rfl hl (by decide) rfl (fun ls hl => ?_)
          have key52 : ∀ (n52 : Nat) (f : Nat) (x : Row × Row × Nat), (f ≤ q) → (q - f < n52) → (x = rdIn k (y.1, y.2.2.1, y.2.2.2) f) → ∀ (H : Heap) (locs : List Loc) (ls : Array Slot), Wd D A st.heap H locs (mW D L x.1 pa P ru (upd y.2.1 (6 - k) (y.1 (0 + (6 - k)))) ah x.2.1 (nI x.2.2) o8 o9 o10 o11 o12 o13 o14 o15 o16 o17 o18) → lv_has ls 4 [(0, .ref (L 0)), (1, .int (nI k)), (2, .int (nI (6 - k))), (3, .int (nI f))] → W p l e (rmOf 11 0 0 238) st m args below meth c H locs 0 0 (QV below args st D A (mW D L ((rdK s td sh q 7).1) pa P ru ((rdK s td sh q 7).2.1) ah ((rdK s td sh q 7).2.2.1) (nI (rdK s td sh q 7).2.2.2) o8 o9 o10 o11 o12 o13 o14 o15 o16 o17 o18)) (F0 m 52 ls []) := by
            intro n52
            induction n52 with
            | zero => intro f x hf hm2 hxe; omega
            | succ n52 ih52 =>
              intro f x hf hm2 hxe H locs ls hw hl
              obtain ⟨p2, hok2, hn2⟩ := rdIn_b (td := td) (sh := sh) hok (k := k) (by omega) hf
              rw [← hy] at hok2 hn2
              rw [← hxe] at hok2 hn2
              have hx37 : x.1 37 = nI q := hok2.2.2.1
              refine lv_iload_n hx hb dX7_readsAll_52 rfl (lv_at hl 3 rfl) ?_
              refine lv_aload_n hx hb dX7_readsAll_53 rfl (lv_at hl 0 rfl) ?_
              refine r_get X hw (v := .ref (L 1)) fl_X7_7 (m_at 0 rfl) rfl dX7_readsAll_54 ?_
              refine lv_bipush (v := 37) hx hb dX7_readsAll_57 (by decide) ?_
              refine r_iald X hw (f := x.1) 37 (m_at 1 rfl) rfl (by decide) (by decide) dX7_readsAll_59 ?_
              rw [hx37]
              refine r_geN (tgt := 86) hx hb f q rfl rfl (by omega) (by omega) dX7_readsAll_60 (by decide) (fun c3 => ?_) (fun c3 => ?_)
              · skip
                refine r_iincN (lv' := [(1, .int (nI (k + 1))), (0, .ref (L 0)), (2, .int (nI (6 - k))), (3, .int (nI f))]) hx hb k 1 rfl dX7_readsAll_86 hl (k := 1) rfl rfl (by decide) rfl (fun ls hl => ?_)
                refine lv_goto (tgt := 11) hx hb dX7_readsAll_89 (by decide) ?_
                exact ih11 (k + 1) ((rdIn k (y.1, y.2.2.1, y.2.2.2) q).1, upd y.2.1 (6 - k) (y.1 (0 + (6 - k))), (rdIn k (y.1, y.2.2.1, y.2.2.2) q).2.1, (rdIn k (y.1, y.2.2.1, y.2.2.2) q).2.2) (by omega) (by omega) (by show _ = rdK s td sh q (k + 1); unfold rdK; rw [← hy]; rw [if_neg c2]) _ _ _ (by rw [show q = f from by omega, ← hxe]; exact hw) (lv_sub hl [1, 0] rfl)
              · skip
                refine lv_aload_n hx hb dX7_readsAll_63 rfl (lv_at hl 0 rfl) ?_
                refine r_callV X hw (ws' := mW D L ((sp_X7_phase x.1).2) pa P ru (upd y.2.1 (6 - k) (y.1 (0 + (6 - k)))) ah x.2.1 (nI x.2.2) o8 o9 o10 o11 o12 o13 o14 o15 o16 o17 o18) (As := []) (rest := []) lk_X7_100 (c_X7_phase l D _ L x.1 pa P ru (upd y.2.1 (6 - k) (y.1 (0 + (6 - k)))) ah x.2.1 (nI x.2.2) o8 o9 o10 o11 o12 o13 o14 o15 o16 o17 o18) Foc.all (m_at 0 rfl) rfl hl.1 (Nat.le_of_ble_eq_true rfl) ⟨Nat.le_of_ble_eq_true rfl, Nat.le_of_ble_eq_true rfl⟩ rfl dX7_readsAll_64 ⟨Nat.le_refl _, Nat.le_refl _⟩ (fun H locs hw => ?_)
                refine lv_if_eq (tgt := 80) hx hb dX7_readsAll_67 (by decide) (fun c4 => ?_) (fun c4 => ?_)
                · skip
                  refine r_iincN (lv' := [(3, .int (nI (f + 1))), (0, .ref (L 0)), (1, .int (nI k)), (2, .int (nI (6 - k)))]) hx hb f 1 rfl dX7_readsAll_80 hl (k := 3) rfl rfl (by decide) rfl (fun ls hl => ?_)
                  refine lv_goto (tgt := 52) hx hb dX7_readsAll_83 (by decide) ?_
                  exact ih52 (f + 1) (rdPh k x) (by omega) (by omega) (by rw [hxe]; rfl) _ _ _ (by rw [show rdPh k x = ((sp_X7_phase x.1).2, x.2.1, x.2.2) from (by unfold rdPh; rw [if_pos c4])]; exact hw) (lv_sub hl [1, 2, 3, 0] rfl)
                · skip
                  refine lv_iload_n hx hb dX7_readsAll_70 rfl (lv_at hl 1 rfl) ?_
                  refine lv_bipush (v := 6) hx hb dX7_readsAll_71 (by decide) ?_
                  refine r_geN (tgt := 80) hx hb k 6 rfl rfl (by omega) (by omega) dX7_readsAll_73 (by decide) (fun c5 => ?_) (fun c5 => ?_)
                  · skip
                    refine r_iincN (lv' := [(3, .int (nI (f + 1))), (0, .ref (L 0)), (1, .int (nI k)), (2, .int (nI (6 - k)))]) hx hb f 1 rfl dX7_readsAll_80 hl (k := 3) rfl rfl (by decide) rfl (fun ls hl => ?_)
                    refine lv_goto (tgt := 52) hx hb dX7_readsAll_83 (by decide) ?_
                    exact ih52 (f + 1) (rdPh k x) (by omega) (by omega) (by rw [hxe]; rfl) _ _ _ (by rw [show rdPh k x = ((sp_X7_phase x.1).2, x.2.1, x.2.2) from (by unfold rdPh; rw [if_neg c4]; rw [if_pos c5])]; exact hw) (lv_sub hl [1, 2, 3, 0] rfl)
                  · skip
                    refine lv_aload_n hx hb dX7_readsAll_76 rfl (lv_at hl 0 rfl) ?_
                    refine r_callVv X hw (ws' := mW D L ((sp_X7_phase x.1).2) pa P ru (upd y.2.1 (6 - k) (y.1 (0 + (6 - k)))) ah (va_cpy ((sp_X7_phase x.1).2) x.2.1 0 (7 * x.2.2) 7) (nI (x.2.2 + 1)) o8 o9 o10 o11 o12 o13 o14 o15 o16 o17 o18) (As := []) (rest := []) lk_X7_117 (c_X7_shows l D _ L ((sp_X7_phase x.1).2) pa P ru (upd y.2.1 (6 - k) (y.1 (0 + (6 - k)))) ah x.2.1 x.2.2 o8 o9 o10 o11 o12 o13 o14 o15 o16 o17 o18 (by omega)) Foc.all (m_at 0 rfl) rfl hl.1 (Nat.le_of_ble_eq_true rfl) ⟨Nat.le_of_ble_eq_true rfl, Nat.le_of_ble_eq_true rfl⟩ rfl dX7_readsAll_77 ⟨Nat.le_refl _, Nat.le_refl _⟩ (fun H locs hw => ?_)
                    refine r_iincN (lv' := [(3, .int (nI (f + 1))), (0, .ref (L 0)), (1, .int (nI k)), (2, .int (nI (6 - k)))]) hx hb f 1 rfl dX7_readsAll_80 hl (k := 3) rfl rfl (by decide) rfl (fun ls hl => ?_)
                    refine lv_goto (tgt := 52) hx hb dX7_readsAll_83 (by decide) ?_
                    exact ih52 (f + 1) (rdPh k x) (by omega) (by omega) (by rw [hxe]; rfl) _ _ _ (by rw [show rdPh k x = ((sp_X7_phase x.1).2, va_cpy ((sp_X7_phase x.1).2) x.2.1 0 (7 * x.2.2) 7, x.2.2 + 1) from (by unfold rdPh; rw [if_neg c4]; rw [if_neg (Nat.not_le.mpr c5)])]; exact hw) (lv_sub hl [1, 2, 3, 0] rfl)
          exact key52 (q + 1) 0 (y.1, y.2.2.1, y.2.2.2) (by omega) (by omega) rfl _ _ _ hw (lv_sub hl [2, 3, 1, 0] rfl)
        · skip
          refine lv_iload_n hx hb dX7_readsAll_27 rfl (lv_at hl 1 rfl) ?_
          refine lv_goto (tgt := 35) hx hb dX7_readsAll_28 (by decide) ?_
          refine lv_istore_n (lv' := [(2, .int (nI k)), (0, .ref (L 0)), (1, .int (nI k))]) hx hb dX7_readsAll_35 rfl hl (by decide) rfl (fun ls hl => ?_)
          refine lv_aload_n hx hb dX7_readsAll_36 rfl (lv_at hl 1 rfl) ?_
          refine r_get X hw (v := .ref (L 6)) fl_X7_25 (m_at 0 rfl) rfl dX7_readsAll_37 ?_
          refine lv_iload_n hx hb dX7_readsAll_40 rfl (lv_at hl 0 rfl) ?_
          refine lv_aload_n hx hb dX7_readsAll_41 rfl (lv_at hl 1 rfl) ?_
          refine r_get X hw (v := .ref (L 1)) fl_X7_7 (m_at 0 rfl) rfl dX7_readsAll_42 ?_
          refine lv_iconst (v := 0) hx hb dX7_readsAll_45 (by decide) ?_
          refine lv_iload_n hx hb dX7_readsAll_46 rfl (lv_at hl 0 rfl) ?_
          refine r_addN hx hb 0 k rfl rfl dX7_readsAll_47 ?_
          refine r_iald X hw (f := y.1) (0 + k) (m_at 1 rfl) rfl (by omega) (by decide) dX7_readsAll_48 ?_
          refine r_iast X hw (ws' := mW D L y.1 pa P ru (upd y.2.1 k (y.1 (0 + k))) ah y.2.2.1 (nI y.2.2.2) o8 o9 o10 o11 o12 o13 o14 o15 o16 o17 o18) k rfl (by omega) (by decide) (Foc.cell 6 rfl rfl (ce rfl (ce rfl (ce rfl (ce rfl (ce rfl (ce rfl (ce rfl (ce rfl (ce rfl rfl)))))))))) dX7_readsAll_49 (fun H locs hw => ?_)
          refine lv_iconst (v := 0) hx hb dX7_readsAll_50 (by decide) ?_
          refine lv_istore_n (lv' := [(3, .int 0), (2, .int (nI k)), (0, .ref (L 0)), (1, .int (nI k))]) hx hb dX7_readsAll_51 rfl hl (by decide) rfl (fun ls hl => ?_)
          have key52 : ∀ (n52 : Nat) (f : Nat) (x : Row × Row × Nat), (f ≤ q) → (q - f < n52) → (x = rdIn k (y.1, y.2.2.1, y.2.2.2) f) → ∀ (H : Heap) (locs : List Loc) (ls : Array Slot), Wd D A st.heap H locs (mW D L x.1 pa P ru (upd y.2.1 k (y.1 (0 + k))) ah x.2.1 (nI x.2.2) o8 o9 o10 o11 o12 o13 o14 o15 o16 o17 o18) → lv_has ls 4 [(0, .ref (L 0)), (1, .int (nI k)), (2, .int (nI k)), (3, .int (nI f))] → W p l e (rmOf 11 0 0 238) st m args below meth c H locs 0 0 (QV below args st D A (mW D L ((rdK s td sh q 7).1) pa P ru ((rdK s td sh q 7).2.1) ah ((rdK s td sh q 7).2.2.1) (nI (rdK s td sh q 7).2.2.2) o8 o9 o10 o11 o12 o13 o14 o15 o16 o17 o18)) (F0 m 52 ls []) := by
            intro n52
            induction n52 with
            | zero => intro f x hf hm2 hxe; omega
            | succ n52 ih52 =>
              intro f x hf hm2 hxe H locs ls hw hl
              obtain ⟨p2, hok2, hn2⟩ := rdIn_b (td := td) (sh := sh) hok (k := k) (by omega) hf
              rw [← hy] at hok2 hn2
              rw [← hxe] at hok2 hn2
              have hx37 : x.1 37 = nI q := hok2.2.2.1
              refine lv_iload_n hx hb dX7_readsAll_52 rfl (lv_at hl 3 rfl) ?_
              refine lv_aload_n hx hb dX7_readsAll_53 rfl (lv_at hl 0 rfl) ?_
              refine r_get X hw (v := .ref (L 1)) fl_X7_7 (m_at 0 rfl) rfl dX7_readsAll_54 ?_
              refine lv_bipush (v := 37) hx hb dX7_readsAll_57 (by decide) ?_
              refine r_iald X hw (f := x.1) 37 (m_at 1 rfl) rfl (by decide) (by decide) dX7_readsAll_59 ?_
              rw [hx37]
              refine r_geN (tgt := 86) hx hb f q rfl rfl (by omega) (by omega) dX7_readsAll_60 (by decide) (fun c6 => ?_) (fun c6 => ?_)
              · skip
                refine r_iincN (lv' := [(1, .int (nI (k + 1))), (0, .ref (L 0)), (2, .int (nI k)), (3, .int (nI f))]) hx hb k 1 rfl dX7_readsAll_86 hl (k := 1) rfl rfl (by decide) rfl (fun ls hl => ?_)
                refine lv_goto (tgt := 11) hx hb dX7_readsAll_89 (by decide) ?_
                exact ih11 (k + 1) ((rdIn k (y.1, y.2.2.1, y.2.2.2) q).1, upd y.2.1 k (y.1 (0 + k)), (rdIn k (y.1, y.2.2.1, y.2.2.2) q).2.1, (rdIn k (y.1, y.2.2.1, y.2.2.2) q).2.2) (by omega) (by omega) (by show _ = rdK s td sh q (k + 1); unfold rdK; rw [← hy]; rw [if_pos c2]) _ _ _ (by rw [show q = f from by omega, ← hxe]; exact hw) (lv_sub hl [1, 0] rfl)
              · skip
                refine lv_aload_n hx hb dX7_readsAll_63 rfl (lv_at hl 0 rfl) ?_
                refine r_callV X hw (ws' := mW D L ((sp_X7_phase x.1).2) pa P ru (upd y.2.1 k (y.1 (0 + k))) ah x.2.1 (nI x.2.2) o8 o9 o10 o11 o12 o13 o14 o15 o16 o17 o18) (As := []) (rest := []) lk_X7_100 (c_X7_phase l D _ L x.1 pa P ru (upd y.2.1 k (y.1 (0 + k))) ah x.2.1 (nI x.2.2) o8 o9 o10 o11 o12 o13 o14 o15 o16 o17 o18) Foc.all (m_at 0 rfl) rfl hl.1 (Nat.le_of_ble_eq_true rfl) ⟨Nat.le_of_ble_eq_true rfl, Nat.le_of_ble_eq_true rfl⟩ rfl dX7_readsAll_64 ⟨Nat.le_refl _, Nat.le_refl _⟩ (fun H locs hw => ?_)
                refine lv_if_eq (tgt := 80) hx hb dX7_readsAll_67 (by decide) (fun c7 => ?_) (fun c7 => ?_)
                · skip
                  refine r_iincN (lv' := [(3, .int (nI (f + 1))), (0, .ref (L 0)), (1, .int (nI k)), (2, .int (nI k))]) hx hb f 1 rfl dX7_readsAll_80 hl (k := 3) rfl rfl (by decide) rfl (fun ls hl => ?_)
                  refine lv_goto (tgt := 52) hx hb dX7_readsAll_83 (by decide) ?_
                  exact ih52 (f + 1) (rdPh k x) (by omega) (by omega) (by rw [hxe]; rfl) _ _ _ (by rw [show rdPh k x = ((sp_X7_phase x.1).2, x.2.1, x.2.2) from (by unfold rdPh; rw [if_pos c7])]; exact hw) (lv_sub hl [1, 2, 3, 0] rfl)
                · skip
                  refine lv_iload_n hx hb dX7_readsAll_70 rfl (lv_at hl 1 rfl) ?_
                  refine lv_bipush (v := 6) hx hb dX7_readsAll_71 (by decide) ?_
                  refine r_geN (tgt := 80) hx hb k 6 rfl rfl (by omega) (by omega) dX7_readsAll_73 (by decide) (fun c8 => ?_) (fun c8 => ?_)
                  · skip
                    refine r_iincN (lv' := [(3, .int (nI (f + 1))), (0, .ref (L 0)), (1, .int (nI k)), (2, .int (nI k))]) hx hb f 1 rfl dX7_readsAll_80 hl (k := 3) rfl rfl (by decide) rfl (fun ls hl => ?_)
                    refine lv_goto (tgt := 52) hx hb dX7_readsAll_83 (by decide) ?_
                    exact ih52 (f + 1) (rdPh k x) (by omega) (by omega) (by rw [hxe]; rfl) _ _ _ (by rw [show rdPh k x = ((sp_X7_phase x.1).2, x.2.1, x.2.2) from (by unfold rdPh; rw [if_neg c7]; rw [if_pos c8])]; exact hw) (lv_sub hl [1, 2, 3, 0] rfl)
                  · skip
                    refine lv_aload_n hx hb dX7_readsAll_76 rfl (lv_at hl 0 rfl) ?_
                    refine r_callVv X hw (ws' := mW D L ((sp_X7_phase x.1).2) pa P ru (upd y.2.1 k (y.1 (0 + k))) ah (va_cpy ((sp_X7_phase x.1).2) x.2.1 0 (7 * x.2.2) 7) (nI (x.2.2 + 1)) o8 o9 o10 o11 o12 o13 o14 o15 o16 o17 o18) (As := []) (rest := []) lk_X7_117 (c_X7_shows l D _ L ((sp_X7_phase x.1).2) pa P ru (upd y.2.1 k (y.1 (0 + k))) ah x.2.1 x.2.2 o8 o9 o10 o11 o12 o13 o14 o15 o16 o17 o18 (by omega)) Foc.all (m_at 0 rfl) rfl hl.1 (Nat.le_of_ble_eq_true rfl) ⟨Nat.le_of_ble_eq_true rfl, Nat.le_of_ble_eq_true rfl⟩ rfl dX7_readsAll_77 ⟨Nat.le_refl _, Nat.le_refl _⟩ (fun H locs hw => ?_)
                    refine r_iincN (lv' := [(3, .int (nI (f + 1))), (0, .ref (L 0)), (1, .int (nI k)), (2, .int (nI k))]) hx hb f 1 rfl dX7_readsAll_80 hl (k := 3) rfl rfl (by decide) rfl (fun ls hl => ?_)
                    refine lv_goto (tgt := 52) hx hb dX7_readsAll_83 (by decide) ?_
                    exact ih52 (f + 1) (rdPh k x) (by omega) (by omega) (by rw [hxe]; rfl) _ _ _ (by rw [show rdPh k x = ((sp_X7_phase x.1).2, va_cpy ((sp_X7_phase x.1).2) x.2.1 0 (7 * x.2.2) 7, x.2.2 + 1) from (by unfold rdPh; rw [if_neg c7]; rw [if_neg (Nat.not_le.mpr c8)])]; exact hw) (lv_sub hl [1, 2, 3, 0] rfl)
          exact key52 (q + 1) 0 (y.1, y.2.2.1, y.2.2.2) (by omega) (by omega) rfl _ _ _ hw (lv_sub hl [2, 3, 1, 0] rfl)
  exact key11 8 0 (s, td, va_cpy s sh 0 (7 * 0) 7, 1) (by omega) (by omega) rfl _ _ _ hw (lv_sub hl [1, 0] rfl)
