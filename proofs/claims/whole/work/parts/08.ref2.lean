set_option maxRecDepth 100000 in
set_option maxHeartbeats 4000000 in
theorem c_X7_alarmAtN (l : Launch) (D : va_G) (sz : Nat) (a : Nat) (ha : a < 3) : MI l yX7_alarmAt cX7_alarmAt 1 (some .int) 0 0 D sz [.int (nI a)] [] (nI (40 + 9 * a)) ([]) := by
  refine r_enterI (by decide) (Nat.le_of_ble_eq_true rfl) ?_
  intro p e st m args below meth c ls A X hret hk hw hl
  have X : CX D p m c cX7_alarmAt 1 st args RX7 A := X
  have hx := X.1.1
  have hb := X.1.2.1
  have hown := X.1.2.2.2.1
  have hts := X.1.2.2.2.2
  have hl : lv_has ls 1 [(0, .int (nI a))] := hl
  refine lv_bipush (v := 40) hx hb dX7_alarmAt_0 (by decide) ?_
  refine lv_bipush (v := 9) hx hb dX7_alarmAt_2 (by decide) ?_
  refine lv_iload_n hx hb dX7_alarmAt_4 rfl (lv_at hl 0 rfl) ?_
  refine r_mulN hx hb 9 a rfl rfl dX7_alarmAt_5 ?_
  refine r_addN hx hb 40 (9 * a) rfl rfl dX7_alarmAt_6 ?_
  exact r_ret X hw hk hret rfl rfl rfl dX7_alarmAt_7

noncomputable def sp_X7_puts (s : Row) (r : Nat) (v : Int32) : Row := upd s (0 + r) ((v &&& (255 - (s (7 + r)))) ||| ((s (14 + r)) &&& (s (7 + r))))
set_option maxRecDepth 100000 in
set_option maxHeartbeats 4000000 in
theorem c_X7_puts (l : Launch) (D : va_G) (sz : Nat) (L : Nat → Nat) (s : Row) (o1 : Row) (o2 : Int32) (o3 : Int32) (o4 : Row) (o5 : Row) (o6 : Row) (o7 : Int32) (o8 : Row) (o9 : Int32) (o10 : Row) (o11 : Int32) (o12 : Int32) (o13 : Int32) (o14 : Int32) (o15 : Int32) (o16 : Int32) (o17 : Row) (o18 : Row) (r : Nat) (v : Int32) (hr : r < 7) : MV l yX7_puts cX7_puts 4 0 0 D sz [.ref (L 0), .int (nI r), .int v] (mW D L s o1 o2 o3 o4 o5 o6 o7 o8 o9 o10 o11 o12 o13 o14 o15 o16 o17 o18) (mW D L (sp_X7_puts s r v) o1 o2 o3 o4 o5 o6 o7 o8 o9 o10 o11 o12 o13 o14 o15 o16 o17 o18) := by
  refine r_enterV (by decide) (Nat.le_of_ble_eq_true rfl) ?_
  intro p e st m args below meth c ls A X hret hk hw hl
  have X : CX D p m c cX7_puts 4 st args RX7 A := X
  have hx := X.1.1
  have hb := X.1.2.1
  have hown := X.1.2.2.2.1
  have hts := X.1.2.2.2.2
  have hl : lv_has ls 4 [(0, .ref (L 0)), (1, .int (nI r)), (2, .int v)] := hl
  refine lv_aload_n hx hb dX7_puts_0 rfl (lv_at hl 0 rfl) ?_
  refine r_get X hw (v := .ref (L 1)) fl_X7_7 (m_at 0 rfl) rfl dX7_puts_1 ?_
  refine lv_bipush (v := 7) hx hb dX7_puts_4 (by decide) ?_
  refine lv_iload_n hx hb dX7_puts_6 rfl (lv_at hl 1 rfl) ?_
  refine r_addN hx hb 7 r rfl rfl dX7_puts_7 ?_
  refine r_iald X hw (f := s) (7 + r) (m_at 1 rfl) rfl (by omega) (by decide) dX7_puts_8 ?_
  refine lv_istore_n (lv' := [(3, .int (s (7 + r))), (0, .ref (L 0)), (1, .int (nI r)), (2, .int v)]) hx hb dX7_puts_9 rfl hl (by decide) rfl (fun ls hl => ?_)
  refine lv_aload_n hx hb dX7_puts_10 rfl (lv_at hl 1 rfl) ?_
  refine r_get X hw (v := .ref (L 1)) fl_X7_7 (m_at 0 rfl) rfl dX7_puts_11 ?_
  refine lv_iconst (v := 0) hx hb dX7_puts_14 (by decide) ?_
  refine lv_iload_n hx hb dX7_puts_15 rfl (lv_at hl 2 rfl) ?_
  refine r_addN hx hb 0 r rfl rfl dX7_puts_16 ?_
  refine lv_iload_n hx hb dX7_puts_17 rfl (lv_at hl 3 rfl) ?_
  refine lv_sipush (v := 255) hx hb dX7_puts_18 (by decide) ?_
  refine lv_iload_n hx hb dX7_puts_21 rfl (lv_at hl 0 rfl) ?_
  refine lv_isub hx hb dX7_puts_22 ?_
  refine lv_iand hx hb dX7_puts_23 ?_
  refine lv_aload_n hx hb dX7_puts_24 rfl (lv_at hl 1 rfl) ?_
  refine r_get X hw (v := .ref (L 1)) fl_X7_7 (m_at 0 rfl) rfl dX7_puts_25 ?_
  refine lv_bipush (v := 14) hx hb dX7_puts_28 (by decide) ?_
  refine lv_iload_n hx hb dX7_puts_30 rfl (lv_at hl 2 rfl) ?_
  refine r_addN hx hb 14 r rfl rfl dX7_puts_31 ?_
  refine r_iald X hw (f := s) (14 + r) (m_at 1 rfl) rfl (by omega) (by decide) dX7_puts_32 ?_
  refine lv_iload_n hx hb dX7_puts_33 rfl (lv_at hl 0 rfl) ?_
  refine lv_iand hx hb dX7_puts_34 ?_
  refine lv_ior hx hb dX7_puts_35 ?_
  refine r_iast X hw (ws' := mW D L (upd s (0 + r) ((v &&& (255 - (s (7 + r)))) ||| ((s (14 + r)) &&& (s (7 + r))))) o1 o2 o3 o4 o5 o6 o7 o8 o9 o10 o11 o12 o13 o14 o15 o16 o17 o18) (0 + r) rfl (by omega) (by decide) (Foc.cell 1 rfl rfl (ce rfl (ce rfl (ce rfl (ce rfl (ce rfl (ce rfl (ce rfl (ce rfl (ce rfl rfl)))))))))) dX7_puts_36 (fun H locs hw => ?_)
  exact r_retV X hw hk hret (rfl) dX7_puts_37

noncomputable def sp_X7_steps (s : Row) (r : Nat) : Int32 × Row := (if (sp_X7_rolls s r) = 0 then (sp_X7_rolls s r, upd (sp_X7_puts s r (sp_X7_stepped s r)) (21 + r) (((sp_X7_puts s r (sp_X7_stepped s r)) (21 + r)) + 0)) else (sp_X7_rolls s r, upd (sp_X7_puts s r (sp_X7_stepped s r)) (21 + r) (((sp_X7_puts s r (sp_X7_stepped s r)) (21 + r)) + 1)))
set_option maxRecDepth 100000 in
set_option maxHeartbeats 4000000 in
theorem c_X7_steps (l : Launch) (D : va_G) (sz : Nat) (L : Nat → Nat) (s : Row) (o1 : Row) (o2 : Int32) (o3 : Int32) (o4 : Row) (o5 : Row) (o6 : Row) (o7 : Int32) (o8 : Row) (o9 : Int32) (o10 : Row) (o11 : Int32) (o12 : Int32) (o13 : Int32) (o14 : Int32) (o15 : Int32) (o16 : Int32) (o17 : Row) (o18 : Row) (r : Nat) (hr : r < 7) : MI l yX7_steps cX7_steps 3 (some .boolean) 8 172 D sz [.ref (L 0), .int (nI r)] (mW D L s o1 o2 o3 o4 o5 o6 o7 o8 o9 o10 o11 o12 o13 o14 o15 o16 o17 o18) ((sp_X7_steps s r).1) (mW D L ((sp_X7_steps s r).2) o1 o2 o3 o4 o5 o6 o7 o8 o9 o10 o11 o12 o13 o14 o15 o16 o17 o18) := by
  refine r_enterI (by decide) (Nat.le_of_ble_eq_true rfl) ?_
  intro p e st m args below meth c ls A X hret hk hw hl
  have X : CX D p m c cX7_steps 3 st args RX7 A := X
  have hx := X.1.1
  have hb := X.1.2.1
  have hown := X.1.2.2.2.1
  have hts := X.1.2.2.2.2
  have hl : lv_has ls 3 [(0, .ref (L 0)), (1, .int (nI r))] := hl
  refine lv_aload_n hx hb dX7_steps_0 rfl (lv_at hl 0 rfl) ?_
  refine lv_iload_n hx hb dX7_steps_1 rfl (lv_at hl 1 rfl) ?_
  refine r_callV X hw (ws' := mW D L s o1 o2 o3 o4 o5 o6 o7 o8 o9 o10 o11 o12 o13 o14 o15 o16 o17 o18) (As := [.int (nI r)]) (rest := []) lk_X7_74 (c_X7_rolls l D _ L s o1 o2 o3 o4 o5 o6 o7 o8 o9 o10 o11 o12 o13 o14 o15 o16 o17 o18 r (by omega)) Foc.all (m_at 0 rfl) rfl hl.1 (Nat.le_of_ble_eq_true rfl) ⟨Nat.le_of_ble_eq_true rfl, Nat.le_of_ble_eq_true rfl⟩ rfl dX7_steps_2 ⟨Nat.le_refl _, Nat.le_refl _⟩ (fun H locs hw => ?_)
  refine lv_istore_n (lv' := [(2, .int (sp_X7_rolls s r)), (0, .ref (L 0)), (1, .int (nI r))]) hx hb dX7_steps_5 rfl hl (by decide) rfl (fun ls hl => ?_)
  refine lv_aload_n hx hb dX7_steps_6 rfl (lv_at hl 1 rfl) ?_
  refine lv_iload_n hx hb dX7_steps_7 rfl (lv_at hl 2 rfl) ?_
  refine lv_aload_n hx hb dX7_steps_8 rfl (lv_at hl 1 rfl) ?_
  refine lv_iload_n hx hb dX7_steps_9 rfl (lv_at hl 2 rfl) ?_
  refine r_callV X hw (ws' := mW D L s o1 o2 o3 o4 o5 o6 o7 o8 o9 o10 o11 o12 o13 o14 o15 o16 o17 o18) (As := [.int (nI r)]) (rest := [.int (nI r), .ref (L 0)]) lk_X7_81 (c_X7_stepped l D _ L s o1 o2 o3 o4 o5 o6 o7 o8 o9 o10 o11 o12 o13 o14 o15 o16 o17 o18 r (by omega)) Foc.all (m_at 0 rfl) rfl hl.1 (Nat.le_of_ble_eq_true rfl) ⟨Nat.le_of_ble_eq_true rfl, Nat.le_of_ble_eq_true rfl⟩ rfl dX7_steps_10 ⟨Nat.le_refl _, Nat.le_refl _⟩ (fun H locs hw => ?_)
  refine r_callVv X hw (ws' := mW D L (sp_X7_puts s r (sp_X7_stepped s r)) o1 o2 o3 o4 o5 o6 o7 o8 o9 o10 o11 o12 o13 o14 o15 o16 o17 o18) (As := [.int (nI r), .int (sp_X7_stepped s r)]) (rest := []) lk_X7_84 (c_X7_puts l D _ L s o1 o2 o3 o4 o5 o6 o7 o8 o9 o10 o11 o12 o13 o14 o15 o16 o17 o18 r (sp_X7_stepped s r) (by omega)) Foc.all (m_at 0 rfl) rfl hl.1 (Nat.le_of_ble_eq_true rfl) ⟨Nat.le_of_ble_eq_true rfl, Nat.le_of_ble_eq_true rfl⟩ rfl dX7_steps_13 ⟨Nat.le_refl _, Nat.le_refl _⟩ (fun H locs hw => ?_)
  refine lv_aload_n hx hb dX7_steps_16 rfl (lv_at hl 1 rfl) ?_
  refine r_get X hw (v := .ref (L 1)) fl_X7_7 (m_at 0 rfl) rfl dX7_steps_17 ?_
  refine lv_bipush (v := 21) hx hb dX7_steps_20 (by decide) ?_
  refine lv_iload_n hx hb dX7_steps_22 rfl (lv_at hl 2 rfl) ?_
  refine r_addN hx hb 21 r rfl rfl dX7_steps_23 ?_
  refine lv_dup2_11 hx hb dX7_steps_24 rfl rfl ?_
  refine r_iald X hw (f := sp_X7_puts s r (sp_X7_stepped s r)) (21 + r) (m_at 1 rfl) rfl (by omega) (by decide) dX7_steps_25 ?_
  refine lv_iload_n hx hb dX7_steps_26 rfl (lv_at hl 0 rfl) ?_
  refine lv_if_eq (tgt := 34) hx hb dX7_steps_27 (by decide) (fun c1 => ?_) (fun c1 => ?_)
  · skip
    refine lv_iconst (v := 0) hx hb dX7_steps_34 (by decide) ?_
    refine lv_iadd hx hb dX7_steps_35 ?_
    refine r_iast X hw (ws' := mW D L (upd (sp_X7_puts s r (sp_X7_stepped s r)) (21 + r) (((sp_X7_puts s r (sp_X7_stepped s r)) (21 + r)) + 0)) o1 o2 o3 o4 o5 o6 o7 o8 o9 o10 o11 o12 o13 o14 o15 o16 o17 o18) (21 + r) rfl (by omega) (by decide) (Foc.cell 1 rfl rfl (ce rfl (ce rfl (ce rfl (ce rfl (ce rfl (ce rfl (ce rfl (ce rfl (ce rfl rfl)))))))))) dX7_steps_36 (fun H locs hw => ?_)
    refine lv_iload_n hx hb dX7_steps_37 rfl (lv_at hl 0 rfl) ?_
    exact r_ret X hw hk hret (nar_b (bo_X7_rolls s r)) (by unfold sp_X7_steps; rw [if_pos c1]) (by unfold sp_X7_steps; rw [if_pos c1]) dX7_steps_38
  · skip
    refine lv_iconst (v := 1) hx hb dX7_steps_30 (by decide) ?_
    refine lv_goto (tgt := 35) hx hb dX7_steps_31 (by decide) ?_
    refine lv_iadd hx hb dX7_steps_35 ?_
    refine r_iast X hw (ws' := mW D L (upd (sp_X7_puts s r (sp_X7_stepped s r)) (21 + r) (((sp_X7_puts s r (sp_X7_stepped s r)) (21 + r)) + 1)) o1 o2 o3 o4 o5 o6 o7 o8 o9 o10 o11 o12 o13 o14 o15 o16 o17 o18) (21 + r) rfl (by omega) (by decide) (Foc.cell 1 rfl rfl (ce rfl (ce rfl (ce rfl (ce rfl (ce rfl (ce rfl (ce rfl (ce rfl (ce rfl rfl)))))))))) dX7_steps_36 (fun H locs hw => ?_)
    refine lv_iload_n hx hb dX7_steps_37 rfl (lv_at hl 0 rfl) ?_
    exact r_ret X hw hk hret (nar_b (bo_X7_rolls s r)) (by unfold sp_X7_steps; rw [if_neg c1]) (by unfold sp_X7_steps; rw [if_neg c1]) dX7_steps_38

/-- a flag that a loop carries, by what it stands for -/
def BI (x : Int32) (P : Prop) : Prop := (x = 1 ∧ P) ∨ (x = 0 ∧ ¬ P)
theorem bi_0 {P : Nat → Prop} : BI 1 (∀ r, r < 0 → P r) := Or.inl ⟨rfl, fun r h => absurd h (Nat.not_lt_zero r)⟩
theorem bi_f0 {x : Int32} {P : Nat → Prop} {i : Nat} (h : BI x (∀ r, r < i → P r)) (hx : x = 0) : BI 0 (∀ r, r < i + 1 → P r) := by
  rcases h with ⟨h, -⟩ | ⟨-, h⟩
  · rw [hx] at h; exact absurd h (by decide)
  · exact Or.inr ⟨rfl, fun q => h (fun r hr => q r (Nat.lt_succ_of_lt hr))⟩
theorem bi_t {x : Int32} {P : Nat → Prop} {i : Nat} (h : BI x (∀ r, r < i → P r)) (hx : ¬ x = 0) (hp : P i) : BI 1 (∀ r, r < i + 1 → P r) := by
  rcases h with ⟨-, h⟩ | ⟨h, -⟩
  · refine Or.inl ⟨rfl, fun r hr => ?_⟩
    rcases Nat.lt_succ_iff_lt_or_eq.mp hr with q | q
    · exact h r q
    · rw [q]; exact hp
  · exact absurd h hx
theorem bi_f {x : Int32} {P : Nat → Prop} {i : Nat} (hp : ¬ P i) : BI 0 (∀ r, r < i + 1 → P r) := Or.inr ⟨rfl, fun q => hp (q i (Nat.lt_succ_self i))⟩
/-- a proposition as a number -/
noncomputable def bI (P : Prop) : Int32 := @ite _ P (Classical.propDecidable P) 1 0
theorem bI_t {P : Prop} (h : P) : bI P = 1 := if_pos h
theorem bI_f {P : Prop} (h : ¬ P) : bI P = 0 := if_neg h
theorem bI_b (P : Prop) : bI P = 0 ∨ bI P = 1 := by
  rcases Classical.em P with h | h
  · exact Or.inr (bI_t h)
  · exact Or.inl (bI_f h)
theorem bI_0 {P : Prop} : bI P = 0 ↔ ¬ P := ⟨fun h q => by rw [bI_t q] at h; exact absurd h (by decide), bI_f⟩
theorem bI_1 {P : Prop} : bI P = 1 ↔ P := ⟨fun h => Classical.byContradiction fun q => by rw [bI_f q] at h; exact absurd h (by decide), bI_t⟩
theorem bI_n {P : Prop} : ¬ bI P = 0 ↔ P := ⟨fun h => Classical.byContradiction fun q => h (bI_f q), fun h q => by rw [bI_t h] at q; exact absurd q (by decide)⟩
theorem bI_c {P Q : Prop} (h : P ↔ Q) : bI P = bI Q := by rw [show P = Q from propext h]
theorem bi_end {x : Int32} {P : Prop} (h : BI x P) : x = bI P := by
  rcases h with ⟨h, q⟩ | ⟨h, q⟩
  · rw [bI_t q]; exact h
  · rw [bI_f q]; exact h
theorem bi_b {x : Int32} {P : Prop} (h : BI x P) : x = 0 ∨ x = 1 := by
  rcases h with ⟨h, -⟩ | ⟨h, -⟩
  · exact Or.inr h
  · exact Or.inl h
/-- an alarm's value of a register is masked, or as the register has it -/
abbrev rMatP (s : Row) (a r : Nat) : Prop := (s (40 + 9 * a + 5) >>> (nI r &&& 31)) &&& 1 = 1 ∨ s (40 + 9 * a + r) = s (0 + r)
noncomputable def sp_X7_matches (s : Row) (a : Nat) : Int32 := bI (∀ r, r < 5 → rMatP s a r)
theorem bo_X7_matches (s : Row) (a : Nat) : sp_X7_matches s a = 0 ∨ sp_X7_matches s a = 1 := bI_b _

set_option maxRecDepth 100000 in
set_option maxHeartbeats 4000000 in
theorem c_X7_matches (l : Launch) (D : va_G) (sz : Nat) (L : Nat → Nat) (s : Row) (o1 : Row) (o2 : Int32) (o3 : Int32) (o4 : Row) (o5 : Row) (o6 : Row) (o7 : Int32) (o8 : Row) (o9 : Int32) (o10 : Row) (o11 : Int32) (o12 : Int32) (o13 : Int32) (o14 : Int32) (o15 : Int32) (o16 : Int32) (o17 : Row) (o18 : Row) (a : Nat) (ha : a < 3) : MI l yX7_matches cX7_matches 5 (some .boolean) 1 20 D sz [.ref (L 0), .int (nI a)] (mW D L s o1 o2 o3 o4 o5 o6 o7 o8 o9 o10 o11 o12 o13 o14 o15 o16 o17 o18) (sp_X7_matches s a) (mW D L s o1 o2 o3 o4 o5 o6 o7 o8 o9 o10 o11 o12 o13 o14 o15 o16 o17 o18) := by
  refine r_enterI (by decide) (Nat.le_of_ble_eq_true rfl) ?_
  intro p e st m args below meth c ls A X hret hk hw hl
  have X : CX D p m c cX7_matches 5 st args RX7 A := X
  have hx := X.1.1
  have hb := X.1.2.1
  have hown := X.1.2.2.2.1
  have hts := X.1.2.2.2.2
  have hl : lv_has ls 5 [(0, .ref (L 0)), (1, .int (nI a))] := hl
  refine lv_iload_n hx hb dX7_matches_0 rfl (lv_at hl 1 rfl) ?_
  refine r_callS X hw (ws' := mW D L s o1 o2 o3 o4 o5 o6 o7 o8 o9 o10 o11 o12 o13 o14 o15 o16 o17 o18) (As := [.int (nI a)]) (rest := []) lk_X7_88 (c_X7_alarmAtN l D _ a (by omega)) Foc.nil rfl hl.1 (Nat.le_of_ble_eq_true rfl) ⟨Nat.le_of_ble_eq_true rfl, Nat.le_of_ble_eq_true rfl⟩ rfl dX7_matches_1 ⟨Nat.le_refl _, Nat.le_refl _⟩ (fun H locs hw => ?_)
  refine lv_istore_n (lv' := [(2, .int (nI (40 + 9 * a))), (0, .ref (L 0)), (1, .int (nI a))]) hx hb dX7_matches_4 rfl hl (by decide) rfl (fun ls hl => ?_)
  refine lv_iconst (v := 1) hx hb dX7_matches_5 (by decide) ?_
  refine lv_istore_n (lv' := [(3, .int 1), (2, .int (nI (40 + 9 * a))), (0, .ref (L 0)), (1, .int (nI a))]) hx hb dX7_matches_6 rfl hl (by decide) rfl (fun ls hl => ?_)
  refine lv_iconst (v := 0) hx hb dX7_matches_7 (by decide) ?_
  refine lv_istore (lv' := [(4, .int 0), (3, .int 1), (2, .int (nI (40 + 9 * a))), (0, .ref (L 0)), (1, .int (nI a))]) hx hb dX7_matches_8 hl (by decide) rfl (fun ls hl => ?_)
  have key10 : ∀ (n10 : Nat) (i : Nat) (x : Int32), (i ≤ 5) → (5 - i < n10) → (BI x (∀ r, r < i → rMatP s a r)) → ∀ (H : Heap) (locs : List Loc) (ls : Array Slot), Wd D A st.heap H locs (mW D L s o1 o2 o3 o4 o5 o6 o7 o8 o9 o10 o11 o12 o13 o14 o15 o16 o17 o18) → lv_has ls 5 [(0, .ref (L 0)), (1, .int (nI a)), (2, .int (nI (40 + 9 * a))), (3, .int x), (4, .int (nI i))] → W p l e (rmOf 1 0 0 20) st m args below meth c H locs 0 0 (QI below args st D A (sp_X7_matches s a) (mW D L s o1 o2 o3 o4 o5 o6 o7 o8 o9 o10 o11 o12 o13 o14 o15 o16 o17 o18)) (F0 m 10 ls []) := by
    intro n10
    induction n10 with
    | zero => intro i x hi hn hB; omega
    | succ n10 ih10 =>
      intro i x hi hn hB H locs ls hw hl
      refine lv_iload hx hb dX7_matches_10 (lv_at hl 4 rfl) ?_
      refine lv_iconst (v := 5) hx hb dX7_matches_12 (by decide) ?_
      refine r_geN (tgt := 70) hx hb i 5 rfl rfl (by omega) (by omega) dX7_matches_13 (by decide) (fun c1 => ?_) (fun c1 => ?_)
      · skip
        refine lv_iload_n hx hb dX7_matches_70 rfl (lv_at hl 3 rfl) ?_
        exact r_ret X hw hk hret (nar_b (bi_b hB)) (by rw [show i = 5 from by omega] at hB; exact bi_end hB) rfl dX7_matches_71
      · skip
        refine lv_iload_n hx hb dX7_matches_16 rfl (lv_at hl 3 rfl) ?_
        refine lv_if_eq (tgt := 62) hx hb dX7_matches_17 (by decide) (fun c2 => ?_) (fun c2 => ?_)
        · skip
          refine lv_iconst (v := 0) hx hb dX7_matches_62 (by decide) ?_
          refine lv_istore_n (lv' := [(3, .int 0), (0, .ref (L 0)), (1, .int (nI a)), (2, .int (nI (40 + 9 * a))), (4, .int (nI i))]) hx hb dX7_matches_63 rfl hl (by decide) rfl (fun ls hl => ?_)
          refine r_iincN (lv' := [(4, .int (nI (i + 1))), (3, .int 0), (0, .ref (L 0)), (1, .int (nI a)), (2, .int (nI (40 + 9 * a)))]) hx hb i 1 rfl dX7_matches_64 hl (k := 4) rfl rfl (by decide) rfl (fun ls hl => ?_)
          refine lv_goto (tgt := 10) hx hb dX7_matches_67 (by decide) ?_
          exact ih10 (i + 1) 0 (by omega) (by omega) (bi_f0 hB c2) _ _ _ hw (lv_sub hl [2, 3, 4, 1, 0] rfl)
        · skip
          refine lv_aload_n hx hb dX7_matches_20 rfl (lv_at hl 0 rfl) ?_
          refine r_get X hw (v := .ref (L 1)) fl_X7_7 (m_at 0 rfl) rfl dX7_matches_21 ?_
          refine lv_iload_n hx hb dX7_matches_24 rfl (lv_at hl 2 rfl) ?_
          refine lv_iconst (v := 5) hx hb dX7_matches_25 (by decide) ?_
          refine r_addN hx hb (40 + 9 * a) 5 rfl rfl dX7_matches_26 ?_
          refine r_iald X hw (f := s) (40 + 9 * a + 5) (m_at 1 rfl) rfl (by omega) (by decide) dX7_matches_27 ?_
          refine lv_iload hx hb dX7_matches_28 (lv_at hl 4 rfl) ?_
          refine lv_ishr hx hb dX7_matches_30 ?_
          refine lv_iconst (v := 1) hx hb dX7_matches_31 (by decide) ?_
          refine lv_iand hx hb dX7_matches_32 ?_
          refine lv_iconst (v := 1) hx hb dX7_matches_33 (by decide) ?_
          refine lv_icmp_eq (tgt := 58) hx hb dX7_matches_34 (by decide) (fun c3 => ?_) (fun c3 => ?_)
          · skip
            refine lv_iconst (v := 1) hx hb dX7_matches_58 (by decide) ?_
            refine lv_goto (tgt := 63) hx hb dX7_matches_59 (by decide) ?_
            refine lv_istore_n (lv' := [(3, .int 1), (0, .ref (L 0)), (1, .int (nI a)), (2, .int (nI (40 + 9 * a))), (4, .int (nI i))]) hx hb dX7_matches_63 rfl hl (by decide) rfl (fun ls hl => ?_)
            refine r_iincN (lv' := [(4, .int (nI (i + 1))), (3, .int 1), (0, .ref (L 0)), (1, .int (nI a)), (2, .int (nI (40 + 9 * a)))]) hx hb i 1 rfl dX7_matches_64 hl (k := 4) rfl rfl (by decide) rfl (fun ls hl => ?_)
            refine lv_goto (tgt := 10) hx hb dX7_matches_67 (by decide) ?_
            exact ih10 (i + 1) 1 (by omega) (by omega) (bi_t hB c2 (Or.inl c3)) _ _ _ hw (lv_sub hl [2, 3, 4, 1, 0] rfl)
          · skip
            refine lv_aload_n hx hb dX7_matches_37 rfl (lv_at hl 0 rfl) ?_
            refine r_get X hw (v := .ref (L 1)) fl_X7_7 (m_at 0 rfl) rfl dX7_matches_38 ?_
            refine lv_iload_n hx hb dX7_matches_41 rfl (lv_at hl 2 rfl) ?_
            refine lv_iload hx hb dX7_matches_42 (lv_at hl 4 rfl) ?_
            refine r_addN hx hb (40 + 9 * a) i rfl rfl dX7_matches_44 ?_
            refine r_iald X hw (f := s) (40 + 9 * a + i) (m_at 1 rfl) rfl (by omega) (by decide) dX7_matches_45 ?_
            refine lv_aload_n hx hb dX7_matches_46 rfl (lv_at hl 0 rfl) ?_
            refine r_get X hw (v := .ref (L 1)) fl_X7_7 (m_at 0 rfl) rfl dX7_matches_47 ?_
            refine lv_iconst (v := 0) hx hb dX7_matches_50 (by decide) ?_
            refine lv_iload hx hb dX7_matches_51 (lv_at hl 4 rfl) ?_
            refine r_addN hx hb 0 i rfl rfl dX7_matches_53 ?_
            refine r_iald X hw (f := s) (0 + i) (m_at 1 rfl) rfl (by omega) (by decide) dX7_matches_54 ?_
            refine lv_icmp_ne (tgt := 62) hx hb dX7_matches_55 (by decide) (fun c4 => ?_) (fun c4 => ?_)
            · skip
              refine lv_iconst (v := 0) hx hb dX7_matches_62 (by decide) ?_
              refine lv_istore_n (lv' := [(3, .int 0), (0, .ref (L 0)), (1, .int (nI a)), (2, .int (nI (40 + 9 * a))), (4, .int (nI i))]) hx hb dX7_matches_63 rfl hl (by decide) rfl (fun ls hl => ?_)
              refine r_iincN (lv' := [(4, .int (nI (i + 1))), (3, .int 0), (0, .ref (L 0)), (1, .int (nI a)), (2, .int (nI (40 + 9 * a)))]) hx hb i 1 rfl dX7_matches_64 hl (k := 4) rfl rfl (by decide) rfl (fun ls hl => ?_)
              refine lv_goto (tgt := 10) hx hb dX7_matches_67 (by decide) ?_
              exact ih10 (i + 1) 0 (by omega) (by omega) (bi_f (x := x) (not_or.mpr ⟨c3, c4⟩)) _ _ _ hw (lv_sub hl [2, 3, 4, 1, 0] rfl)
            · skip
              refine lv_iconst (v := 1) hx hb dX7_matches_58 (by decide) ?_
              refine lv_goto (tgt := 63) hx hb dX7_matches_59 (by decide) ?_
              refine lv_istore_n (lv' := [(3, .int 1), (0, .ref (L 0)), (1, .int (nI a)), (2, .int (nI (40 + 9 * a))), (4, .int (nI i))]) hx hb dX7_matches_63 rfl hl (by decide) rfl (fun ls hl => ?_)
              refine r_iincN (lv' := [(4, .int (nI (i + 1))), (3, .int 1), (0, .ref (L 0)), (1, .int (nI a)), (2, .int (nI (40 + 9 * a)))]) hx hb i 1 rfl dX7_matches_64 hl (k := 4) rfl rfl (by decide) rfl (fun ls hl => ?_)
              refine lv_goto (tgt := 10) hx hb dX7_matches_67 (by decide) ?_
              exact ih10 (i + 1) 1 (by omega) (by omega) (bi_t hB c2 (Or.inr c4)) _ _ _ hw (lv_sub hl [2, 3, 4, 1, 0] rfl)
  exact key10 6 0 1 (by omega) (by omega) bi_0 _ _ _ hw (lv_sub hl [3, 4, 2, 1, 0] rfl)

/-- an alarm after a tick -/
noncomputable def alStep (s : Row) (a : Nat) : Row := if s (40 + 9 * a + 6) = 1 then (if sp_X7_matches s a = 0 then s else upd (upd (upd s (40 + 9 * a + 7) 1) (40 + 9 * a + 8) ((upd s (40 + 9 * a + 7) 1) (40 + 9 * a + 8) + 1)) 30 ((upd (upd s (40 + 9 * a + 7) 1) (40 + 9 * a + 8) ((upd s (40 + 9 * a + 7) 1) (40 + 9 * a + 8) + 1)) 30 + 1)) else s
noncomputable def alF (s : Row) : Nat → Row
  | 0 => s
  | i + 1 => alStep (alF s i) i

noncomputable def sp_X7_tickR (s : Row) : Row := (if ((sp_X7_steps (upd s 29 ((s 29) + 1)) 0).1) = 0 then (sp_X7_steps (upd s 29 ((s 29) + 1)) 0).2 else (if ((sp_X7_steps ((sp_X7_steps (upd s 29 ((s 29) + 1)) 0).2) 1).1) = 0 then (sp_X7_steps ((sp_X7_steps (upd s 29 ((s 29) + 1)) 0).2) 1).2 else (if ((sp_X7_steps ((sp_X7_steps ((sp_X7_steps (upd s 29 ((s 29) + 1)) 0).2) 1).2) 2).1) = 0 then (sp_X7_steps ((sp_X7_steps ((sp_X7_steps (upd s 29 ((s 29) + 1)) 0).2) 1).2) 2).2 else (if ((sp_X7_steps ((sp_X7_steps ((sp_X7_steps ((sp_X7_steps ((sp_X7_steps (upd s 29 ((s 29) + 1)) 0).2) 1).2) 2).2) 3).2) 4).1) = 0 then (sp_X7_steps ((sp_X7_steps ((sp_X7_steps ((sp_X7_steps ((sp_X7_steps (upd s 29 ((s 29) + 1)) 0).2) 1).2) 2).2) 3).2) 4).2 else (if ((sp_X7_steps ((sp_X7_steps ((sp_X7_steps ((sp_X7_steps ((sp_X7_steps ((sp_X7_steps (upd s 29 ((s 29) + 1)) 0).2) 1).2) 2).2) 3).2) 4).2) 5).1) = 0 then (sp_X7_steps ((sp_X7_steps ((sp_X7_steps ((sp_X7_steps ((sp_X7_steps ((sp_X7_steps (upd s 29 ((s 29) + 1)) 0).2) 1).2) 2).2) 3).2) 4).2) 5).2 else (sp_X7_steps ((sp_X7_steps ((sp_X7_steps ((sp_X7_steps ((sp_X7_steps ((sp_X7_steps ((sp_X7_steps (upd s 29 ((s 29) + 1)) 0).2) 1).2) 2).2) 3).2) 4).2) 5).2) 6).2)))))
noncomputable def sp_X7_tick (s : Row) : Row := alF (sp_X7_tickR s) 3
set_option maxRecDepth 100000 in
set_option maxHeartbeats 4000000 in
theorem c_X7_tick (l : Launch) (D : va_G) (sz : Nat) (L : Nat → Nat) (s : Row) (o1 : Row) (o2 : Int32) (o3 : Int32) (o4 : Row) (o5 : Row) (o6 : Row) (o7 : Int32) (o8 : Row) (o9 : Int32) (o10 : Row) (o11 : Int32) (o12 : Int32) (o13 : Int32) (o14 : Int32) (o15 : Int32) (o16 : Int32) (o17 : Row) (o18 : Row) : MV l yX7_tick cX7_tick 4 9 194 D sz [.ref (L 0)] (mW D L s o1 o2 o3 o4 o5 o6 o7 o8 o9 o10 o11 o12 o13 o14 o15 o16 o17 o18) (mW D L (sp_X7_tick s) o1 o2 o3 o4 o5 o6 o7 o8 o9 o10 o11 o12 o13 o14 o15 o16 o17 o18) := by
  refine r_enterV (by decide) (Nat.le_of_ble_eq_true rfl) ?_
  intro p e st m args below meth c ls A X hret hk hw hl
  have X : CX D p m c cX7_tick 4 st args RX7 A := X
  have hx := X.1.1
  have hb := X.1.2.1
  have hown := X.1.2.2.2.1
  have hts := X.1.2.2.2.2
  have hl : lv_has ls 4 [(0, .ref (L 0))] := hl
  have cut76 : ∀ (s1 : Row), (sp_X7_tick s = alF s1 3) → ∀ (H : Heap) (locs : List Loc) (ls : Array Slot), Wd D A st.heap H locs (mW D L s1 o1 o2 o3 o4 o5 o6 o7 o8 o9 o10 o11 o12 o13 o14 o15 o16 o17 o18) → lv_has ls 4 [(0, .ref (L 0))] → W p l e (rmOf 9 0 0 194) st m args below meth c H locs 0 0 (QV below args st D A (mW D L (sp_X7_tick s) o1 o2 o3 o4 o5 o6 o7 o8 o9 o10 o11 o12 o13 o14 o15 o16 o17 o18)) (F0 m 76 ls []) := by
    intro s1 hq H locs ls hw hl
    refine lv_iconst (v := 0) hx hb dX7_tick_76 (by decide) ?_
    refine lv_istore_n (lv' := [(2, .int 0), (0, .ref (L 0))]) hx hb dX7_tick_77 rfl hl (by decide) rfl (fun ls hl => ?_)
    have key78 : ∀ (n78 : Nat) (i : Nat), (i ≤ 3) → (3 - i < n78) → ∀ (H : Heap) (locs : List Loc) (ls : Array Slot), Wd D A st.heap H locs (mW D L (alF s1 i) o1 o2 o3 o4 o5 o6 o7 o8 o9 o10 o11 o12 o13 o14 o15 o16 o17 o18) → lv_has ls 4 [(0, .ref (L 0)), (2, .int (nI i))] → W p l e (rmOf 9 0 0 194) st m args below meth c H locs 0 0 (QV below args st D A (mW D L (sp_X7_tick s) o1 o2 o3 o4 o5 o6 o7 o8 o9 o10 o11 o12 o13 o14 o15 o16 o17 o18)) (F0 m 78 ls []) := by
      intro n78
      induction n78 with
      | zero => intro i hi hn; omega
      | succ n78 ih78 =>
        intro i hi hn H locs ls hw hl
        refine lv_iload_n hx hb dX7_tick_78 rfl (lv_at hl 1 rfl) ?_
        refine lv_iconst (v := 3) hx hb dX7_tick_79 (by decide) ?_
        refine r_geN (tgt := 149) hx hb i 3 rfl rfl (by omega) (by omega) dX7_tick_80 (by decide) (fun c1 => ?_) (fun c1 => ?_)
        · skip
          exact r_retV X hw hk hret (by rw [hq, show i = 3 from by omega]) dX7_tick_149
        · skip
          refine lv_iload_n hx hb dX7_tick_83 rfl (lv_at hl 1 rfl) ?_
          refine r_callS X hw (ws' := mW D L (alF s1 i) o1 o2 o3 o4 o5 o6 o7 o8 o9 o10 o11 o12 o13 o14 o15 o16 o17 o18) (As := [.int (nI i)]) (rest := []) lk_X7_88 (c_X7_alarmAtN l D _ i (by omega)) Foc.nil rfl hl.1 (Nat.le_of_ble_eq_true rfl) ⟨Nat.le_of_ble_eq_true rfl, Nat.le_of_ble_eq_true rfl⟩ rfl dX7_tick_84 ⟨Nat.le_refl _, Nat.le_refl _⟩ (fun H locs hw => ?_)
          refine lv_istore_n (lv' := [(3, .int (nI (40 + 9 * i))), (0, .ref (L 0)), (2, .int (nI i))]) hx hb dX7_tick_87 rfl hl (by decide) rfl (fun ls hl => ?_)
          refine lv_aload_n hx hb dX7_tick_88 rfl (lv_at hl 1 rfl) ?_
          refine r_get X hw (v := .ref (L 1)) fl_X7_7 (m_at 0 rfl) rfl dX7_tick_89 ?_
          refine lv_iload_n hx hb dX7_tick_92 rfl (lv_at hl 0 rfl) ?_
          refine lv_bipush (v := 6) hx hb dX7_tick_93 (by decide) ?_
          refine r_addN hx hb (40 + 9 * i) 6 rfl rfl dX7_tick_95 ?_
          refine r_iald X hw (f := alF s1 i) (40 + 9 * i + 6) (m_at 1 rfl) rfl (by omega) (by decide) dX7_tick_96 ?_
          refine lv_iconst (v := 1) hx hb dX7_tick_97 (by decide) ?_
          refine lv_icmp_ne (tgt := 143) hx hb dX7_tick_98 (by decide) (fun c2 => ?_) (fun c2 => ?_)
          · skip
            refine r_iincN (lv' := [(2, .int (nI (i + 1))), (3, .int (nI (40 + 9 * i))), (0, .ref (L 0))]) hx hb i 1 rfl dX7_tick_143 hl (k := 2) rfl rfl (by decide) rfl (fun ls hl => ?_)
            refine lv_goto (tgt := 78) hx hb dX7_tick_146 (by decide) ?_
            exact ih78 (i + 1) (by omega) (by omega) _ _ _ (by rw [show alF s1 (i + 1) = alF s1 i from (by show alStep _ _ = _; unfold alStep; rw [if_neg c2])]; exact hw) (lv_sub hl [2, 0] rfl)
          · skip
            refine lv_aload_n hx hb dX7_tick_101 rfl (lv_at hl 1 rfl) ?_
            refine lv_iload_n hx hb dX7_tick_102 rfl (lv_at hl 2 rfl) ?_
            refine r_callV X hw (ws' := mW D L (alF s1 i) o1 o2 o3 o4 o5 o6 o7 o8 o9 o10 o11 o12 o13 o14 o15 o16 o17 o18) (As := [.int (nI i)]) (rest := []) lk_X7_94 (c_X7_matches l D _ L (alF s1 i) o1 o2 o3 o4 o5 o6 o7 o8 o9 o10 o11 o12 o13 o14 o15 o16 o17 o18 i (by omega)) Foc.all (m_at 0 rfl) rfl hl.1 (Nat.le_of_ble_eq_true rfl) ⟨Nat.le_of_ble_eq_true rfl, Nat.le_of_ble_eq_true rfl⟩ rfl dX7_tick_103 ⟨Nat.le_refl _, Nat.le_refl _⟩ (fun H locs hw => ?_)
            refine lv_if_eq (tgt := 143) hx hb dX7_tick_106 (by decide) (fun c3 => ?_) (fun c3 => ?_)
            · skip
              refine r_iincN (lv' := [(2, .int (nI (i + 1))), (3, .int (nI (40 + 9 * i))), (0, .ref (L 0))]) hx hb i 1 rfl dX7_tick_143 hl (k := 2) rfl rfl (by decide) rfl (fun ls hl => ?_)
              refine lv_goto (tgt := 78) hx hb dX7_tick_146 (by decide) ?_
              exact ih78 (i + 1) (by omega) (by omega) _ _ _ (by rw [show alF s1 (i + 1) = alF s1 i from (by show alStep _ _ = _; unfold alStep; rw [if_pos c2]; rw [if_pos c3])]; exact hw) (lv_sub hl [2, 0] rfl)
            · skip
              refine lv_aload_n hx hb dX7_tick_109 rfl (lv_at hl 1 rfl) ?_
              refine r_get X hw (v := .ref (L 1)) fl_X7_7 (m_at 0 rfl) rfl dX7_tick_110 ?_
              refine lv_iload_n hx hb dX7_tick_113 rfl (lv_at hl 0 rfl) ?_
              refine lv_bipush (v := 7) hx hb dX7_tick_114 (by decide) ?_
              refine r_addN hx hb (40 + 9 * i) 7 rfl rfl dX7_tick_116 ?_
              refine lv_iconst (v := 1) hx hb dX7_tick_117 (by decide) ?_
              refine r_iast X hw (ws' := mW D L (upd (alF s1 i) (40 + 9 * i + 7) 1) o1 o2 o3 o4 o5 o6 o7 o8 o9 o10 o11 o12 o13 o14 o15 o16 o17 o18) (40 + 9 * i + 7) rfl (by omega) (by decide) (Foc.cell 1 rfl rfl (ce rfl (ce rfl (ce rfl (ce rfl (ce rfl (ce rfl (ce rfl (ce rfl (ce rfl rfl)))))))))) dX7_tick_118 (fun H locs hw => ?_)
              refine lv_aload_n hx hb dX7_tick_119 rfl (lv_at hl 1 rfl) ?_
              refine r_get X hw (v := .ref (L 1)) fl_X7_7 (m_at 0 rfl) rfl dX7_tick_120 ?_
              refine lv_iload_n hx hb dX7_tick_123 rfl (lv_at hl 0 rfl) ?_
              refine lv_bipush (v := 8) hx hb dX7_tick_124 (by decide) ?_
              refine r_addN hx hb (40 + 9 * i) 8 rfl rfl dX7_tick_126 ?_
              refine lv_dup2_11 hx hb dX7_tick_127 rfl rfl ?_
              refine r_iald X hw (f := upd (alF s1 i) (40 + 9 * i + 7) 1) (40 + 9 * i + 8) (m_at 1 rfl) rfl (by omega) (by decide) dX7_tick_128 ?_
              refine lv_iconst (v := 1) hx hb dX7_tick_129 (by decide) ?_
              refine lv_iadd hx hb dX7_tick_130 ?_
              refine r_iast X hw (ws' := mW D L (upd (upd (alF s1 i) (40 + 9 * i + 7) 1) (40 + 9 * i + 8) (((upd (alF s1 i) (40 + 9 * i + 7) 1) (40 + 9 * i + 8)) + 1)) o1 o2 o3 o4 o5 o6 o7 o8 o9 o10 o11 o12 o13 o14 o15 o16 o17 o18) (40 + 9 * i + 8) rfl (by omega) (by decide) (Foc.cell 1 rfl rfl (ce rfl (ce rfl (ce rfl (ce rfl (ce rfl (ce rfl (ce rfl (ce rfl (ce rfl rfl)))))))))) dX7_tick_131 (fun H locs hw => ?_)
              refine lv_aload_n hx hb dX7_tick_132 rfl (lv_at hl 1 rfl) ?_
              refine r_get X hw (v := .ref (L 1)) fl_X7_7 (m_at 0 rfl) rfl dX7_tick_133 ?_
              refine lv_bipush (v := 30) hx hb dX7_tick_136 (by decide) ?_
              refine lv_dup2_11 hx hb dX7_tick_138 rfl rfl ?_
              refine r_iald X hw (f := upd (upd (alF s1 i) (40 + 9 * i + 7) 1) (40 + 9 * i + 8) (((upd (alF s1 i) (40 + 9 * i + 7) 1) (40 + 9 * i + 8)) + 1)) 30 (m_at 1 rfl) rfl (by decide) (by decide) dX7_tick_139 ?_
              refine lv_iconst (v := 1) hx hb dX7_tick_140 (by decide) ?_
              refine lv_iadd hx hb dX7_tick_141 ?_
              refine r_iast X hw (ws' := mW D L (upd (upd (upd (alF s1 i) (40 + 9 * i + 7) 1) (40 + 9 * i + 8) (((upd (alF s1 i) (40 + 9 * i + 7) 1) (40 + 9 * i + 8)) + 1)) 30 (((upd (upd (alF s1 i) (40 + 9 * i + 7) 1) (40 + 9 * i + 8) (((upd (alF s1 i) (40 + 9 * i + 7) 1) (40 + 9 * i + 8)) + 1)) 30) + 1)) o1 o2 o3 o4 o5 o6 o7 o8 o9 o10 o11 o12 o13 o14 o15 o16 o17 o18) 30 rfl (by decide) (by decide) (Foc.cell 1 rfl rfl (ce rfl (ce rfl (ce rfl (ce rfl (ce rfl (ce rfl (ce rfl (ce rfl (ce rfl rfl)))))))))) dX7_tick_142 (fun H locs hw => ?_)
              refine r_iincN (lv' := [(2, .int (nI (i + 1))), (3, .int (nI (40 + 9 * i))), (0, .ref (L 0))]) hx hb i 1 rfl dX7_tick_143 hl (k := 2) rfl rfl (by decide) rfl (fun ls hl => ?_)
              refine lv_goto (tgt := 78) hx hb dX7_tick_146 (by decide) ?_
              exact ih78 (i + 1) (by omega) (by omega) _ _ _ (by rw [show alF s1 (i + 1) = upd (upd (upd (alF s1 i) (40 + 9 * i + 7) 1) (40 + 9 * i + 8) (((upd (alF s1 i) (40 + 9 * i + 7) 1) (40 + 9 * i + 8)) + 1)) 30 (((upd (upd (alF s1 i) (40 + 9 * i + 7) 1) (40 + 9 * i + 8) (((upd (alF s1 i) (40 + 9 * i + 7) 1) (40 + 9 * i + 8)) + 1)) 30) + 1) from (by show alStep _ _ = _; unfold alStep; rw [if_pos c2]; rw [if_neg c3])]; exact hw) (lv_sub hl [2, 0] rfl)
    exact key78 4 0 (by omega) (by omega) _ _ _ hw (lv_sub hl [1, 0] rfl)
  refine lv_aload_n hx hb dX7_tick_0 rfl (lv_at hl 0 rfl) ?_
  refine r_get X hw (v := .ref (L 1)) fl_X7_7 (m_at 0 rfl) rfl dX7_tick_1 ?_
  refine lv_bipush (v := 29) hx hb dX7_tick_4 (by decide) ?_
  refine lv_dup2_11 hx hb dX7_tick_6 rfl rfl ?_
  refine r_iald X hw (f := s) 29 (m_at 1 rfl) rfl (by decide) (by decide) dX7_tick_7 ?_
  refine lv_iconst (v := 1) hx hb dX7_tick_8 (by decide) ?_
  refine lv_iadd hx hb dX7_tick_9 ?_
  refine r_iast X hw (ws' := mW D L (upd s 29 ((s 29) + 1)) o1 o2 o3 o4 o5 o6 o7 o8 o9 o10 o11 o12 o13 o14 o15 o16 o17 o18) 29 rfl (by decide) (by decide) (Foc.cell 1 rfl rfl (ce rfl (ce rfl (ce rfl (ce rfl (ce rfl (ce rfl (ce rfl (ce rfl (ce rfl rfl)))))))))) dX7_tick_10 (fun H locs hw => ?_)
  refine lv_iconst (v := 1) hx hb dX7_tick_11 (by decide) ?_
  refine lv_istore_n (lv' := [(1, .int 1), (0, .ref (L 0))]) hx hb dX7_tick_12 rfl hl (by decide) rfl (fun ls hl => ?_)
  refine lv_iconst (v := 0) hx hb dX7_tick_13 (by decide) ?_
  refine lv_istore_n (lv' := [(2, .int 0), (1, .int 1), (0, .ref (L 0))]) hx hb dX7_tick_14 rfl hl (by decide) rfl (fun ls hl => ?_)
  refine lv_iload_n hx hb dX7_tick_15 rfl (lv_at hl 0 rfl) ?_
  refine lv_iconst (v := 2) hx hb dX7_tick_16 (by decide) ?_
  refine lv_icmp_gt (tgt := 36) hx hb dX7_tick_17 (by decide) (fun h => absurd h (by decide)) (fun _ => ?_)
  refine lv_iload_n hx hb dX7_tick_20 rfl (lv_at hl 1 rfl) ?_
  refine lv_if_eq (tgt := 36) hx hb dX7_tick_21 (by decide) (fun h => absurd h (by decide)) (fun _ => ?_)
  refine lv_aload_n hx hb dX7_tick_24 rfl (lv_at hl 2 rfl) ?_
  refine lv_iload_n hx hb dX7_tick_25 rfl (lv_at hl 0 rfl) ?_
  refine r_callV X hw (ws' := mW D L ((sp_X7_steps (upd s 29 ((s 29) + 1)) 0).2) o1 o2 o3 o4 o5 o6 o7 o8 o9 o10 o11 o12 o13 o14 o15 o16 o17 o18) (As := [.int 0]) (rest := []) lk_X7_91 (c_X7_steps l D _ L (upd s 29 ((s 29) + 1)) o1 o2 o3 o4 o5 o6 o7 o8 o9 o10 o11 o12 o13 o14 o15 o16 o17 o18 0 (by omega)) Foc.all (m_at 0 rfl) rfl hl.1 (Nat.le_of_ble_eq_true rfl) ⟨Nat.le_of_ble_eq_true rfl, Nat.le_of_ble_eq_true rfl⟩ rfl dX7_tick_26 ⟨Nat.le_refl _, Nat.le_refl _⟩ (fun H locs hw => ?_)
  refine lv_istore_n (lv' := [(1, .int ((sp_X7_steps (upd s 29 ((s 29) + 1)) 0).1)), (2, .int 0), (0, .ref (L 0))]) hx hb dX7_tick_29 rfl hl (by decide) rfl (fun ls hl => ?_)
  refine r_iincN (lv' := [(2, .int 1), (1, .int ((sp_X7_steps (upd s 29 ((s 29) + 1)) 0).1)), (0, .ref (L 0))]) hx hb 0 1 rfl dX7_tick_30 hl (k := 1) rfl rfl (by decide) rfl (fun ls hl => ?_)
  refine lv_goto (tgt := 15) hx hb dX7_tick_33 (by decide) ?_
  refine lv_iload_n hx hb dX7_tick_15 rfl (lv_at hl 0 rfl) ?_
  refine lv_iconst (v := 2) hx hb dX7_tick_16 (by decide) ?_
  refine lv_icmp_gt (tgt := 36) hx hb dX7_tick_17 (by decide) (fun h => absurd h (by decide)) (fun _ => ?_)
  refine lv_iload_n hx hb dX7_tick_20 rfl (lv_at hl 1 rfl) ?_
  refine lv_if_eq (tgt := 36) hx hb dX7_tick_21 (by decide) (fun c4 => ?_) (fun c4 => ?_)
  · skip
    refine lv_iload_n hx hb dX7_tick_36 rfl (lv_at hl 1 rfl) ?_
    refine lv_if_eq (tgt := 76) hx hb dX7_tick_37 (by decide) (fun _ => ?_) (fun h => absurd c4 h)
    exact cut76 ((sp_X7_steps (upd s 29 ((s 29) + 1)) 0).2) (by unfold sp_X7_tick sp_X7_tickR; rw [if_pos c4]) _ _ _ hw (lv_sub hl [2] rfl)
  · skip
    refine lv_aload_n hx hb dX7_tick_24 rfl (lv_at hl 2 rfl) ?_
    refine lv_iload_n hx hb dX7_tick_25 rfl (lv_at hl 0 rfl) ?_
    refine r_callV X hw (ws' := mW D L ((sp_X7_steps ((sp_X7_steps (upd s 29 ((s 29) + 1)) 0).2) 1).2) o1 o2 o3 o4 o5 o6 o7 o8 o9 o10 o11 o12 o13 o14 o15 o16 o17 o18) (As := [.int 1]) (rest := []) lk_X7_91 (c_X7_steps l D _ L ((sp_X7_steps (upd s 29 ((s 29) + 1)) 0).2) o1 o2 o3 o4 o5 o6 o7 o8 o9 o10 o11 o12 o13 o14 o15 o16 o17 o18 1 (by omega)) Foc.all (m_at 0 rfl) rfl hl.1 (Nat.le_of_ble_eq_true rfl) ⟨Nat.le_of_ble_eq_true rfl, Nat.le_of_ble_eq_true rfl⟩ rfl dX7_tick_26 ⟨Nat.le_refl _, Nat.le_refl _⟩ (fun H locs hw => ?_)
    refine lv_istore_n (lv' := [(1, .int ((sp_X7_steps ((sp_X7_steps (upd s 29 ((s 29) + 1)) 0).2) 1).1)), (2, .int 1), (0, .ref (L 0))]) hx hb dX7_tick_29 rfl hl (by decide) rfl (fun ls hl => ?_)
    refine r_iincN (lv' := [(2, .int 2), (1, .int ((sp_X7_steps ((sp_X7_steps (upd s 29 ((s 29) + 1)) 0).2) 1).1)), (0, .ref (L 0))]) hx hb 1 1 rfl dX7_tick_30 hl (k := 1) rfl rfl (by decide) rfl (fun ls hl => ?_)
    refine lv_goto (tgt := 15) hx hb dX7_tick_33 (by decide) ?_
    refine lv_iload_n hx hb dX7_tick_15 rfl (lv_at hl 0 rfl) ?_
    refine lv_iconst (v := 2) hx hb dX7_tick_16 (by decide) ?_
    refine lv_icmp_gt (tgt := 36) hx hb dX7_tick_17 (by decide) (fun h => absurd h (by decide)) (fun _ => ?_)
    refine lv_iload_n hx hb dX7_tick_20 rfl (lv_at hl 1 rfl) ?_
    refine lv_if_eq (tgt := 36) hx hb dX7_tick_21 (by decide) (fun c5 => ?_) (fun c5 => ?_)
    · skip
      refine lv_iload_n hx hb dX7_tick_36 rfl (lv_at hl 1 rfl) ?_
      refine lv_if_eq (tgt := 76) hx hb dX7_tick_37 (by decide) (fun _ => ?_) (fun h => absurd c5 h)
      exact cut76 ((sp_X7_steps ((sp_X7_steps (upd s 29 ((s 29) + 1)) 0).2) 1).2) (by unfold sp_X7_tick sp_X7_tickR; rw [if_neg c4]; rw [if_pos c5]) _ _ _ hw (lv_sub hl [2] rfl)
    · skip
      refine lv_aload_n hx hb dX7_tick_24 rfl (lv_at hl 2 rfl) ?_
      refine lv_iload_n hx hb dX7_tick_25 rfl (lv_at hl 0 rfl) ?_
      refine r_callV X hw (ws' := mW D L ((sp_X7_steps ((sp_X7_steps ((sp_X7_steps (upd s 29 ((s 29) + 1)) 0).2) 1).2) 2).2) o1 o2 o3 o4 o5 o6 o7 o8 o9 o10 o11 o12 o13 o14 o15 o16 o17 o18) (As := [.int 2]) (rest := []) lk_X7_91 (c_X7_steps l D _ L ((sp_X7_steps ((sp_X7_steps (upd s 29 ((s 29) + 1)) 0).2) 1).2) o1 o2 o3 o4 o5 o6 o7 o8 o9 o10 o11 o12 o13 o14 o15 o16 o17 o18 2 (by omega)) Foc.all (m_at 0 rfl) rfl hl.1 (Nat.le_of_ble_eq_true rfl) ⟨Nat.le_of_ble_eq_true rfl, Nat.le_of_ble_eq_true rfl⟩ rfl dX7_tick_26 ⟨Nat.le_refl _, Nat.le_refl _⟩ (fun H locs hw => ?_)
      refine lv_istore_n (lv' := [(1, .int ((sp_X7_steps ((sp_X7_steps ((sp_X7_steps (upd s 29 ((s 29) + 1)) 0).2) 1).2) 2).1)), (2, .int 2), (0, .ref (L 0))]) hx hb dX7_tick_29 rfl hl (by decide) rfl (fun ls hl => ?_)
      refine r_iincN (lv' := [(2, .int 3), (1, .int ((sp_X7_steps ((sp_X7_steps ((sp_X7_steps (upd s 29 ((s 29) + 1)) 0).2) 1).2) 2).1)), (0, .ref (L 0))]) hx hb 2 1 rfl dX7_tick_30 hl (k := 1) rfl rfl (by decide) rfl (fun ls hl => ?_)
      refine lv_goto (tgt := 15) hx hb dX7_tick_33 (by decide) ?_
      refine lv_iload_n hx hb dX7_tick_15 rfl (lv_at hl 0 rfl) ?_
      refine lv_iconst (v := 2) hx hb dX7_tick_16 (by decide) ?_
      refine lv_icmp_gt (tgt := 36) hx hb dX7_tick_17 (by decide) (fun _ => ?_) (fun h => absurd (by decide) h)
      refine lv_iload_n hx hb dX7_tick_36 rfl (lv_at hl 1 rfl) ?_
      refine lv_if_eq (tgt := 76) hx hb dX7_tick_37 (by decide) (fun c6 => ?_) (fun c6 => ?_)
      · skip
        exact cut76 ((sp_X7_steps ((sp_X7_steps ((sp_X7_steps (upd s 29 ((s 29) + 1)) 0).2) 1).2) 2).2) (by unfold sp_X7_tick sp_X7_tickR; rw [if_neg c4]; rw [if_neg c5]; rw [if_pos c6]) _ _ _ hw (lv_sub hl [2] rfl)
      · skip
        refine lv_aload_n hx hb dX7_tick_40 rfl (lv_at hl 2 rfl) ?_
        refine lv_iconst (v := 3) hx hb dX7_tick_41 (by decide) ?_
        refine r_callV X hw (ws' := mW D L ((sp_X7_steps ((sp_X7_steps ((sp_X7_steps ((sp_X7_steps (upd s 29 ((s 29) + 1)) 0).2) 1).2) 2).2) 3).2) o1 o2 o3 o4 o5 o6 o7 o8 o9 o10 o11 o12 o13 o14 o15 o16 o17 o18) (As := [.int 3]) (rest := []) lk_X7_91 (c_X7_steps l D _ L ((sp_X7_steps ((sp_X7_steps ((sp_X7_steps (upd s 29 ((s 29) + 1)) 0).2) 1).2) 2).2) o1 o2 o3 o4 o5 o6 o7 o8 o9 o10 o11 o12 o13 o14 o15 o16 o17 o18 3 (by omega)) Foc.all (m_at 0 rfl) rfl hl.1 (Nat.le_of_ble_eq_true rfl) ⟨Nat.le_of_ble_eq_true rfl, Nat.le_of_ble_eq_true rfl⟩ rfl dX7_tick_42 ⟨Nat.le_refl _, Nat.le_refl _⟩ (fun H locs hw => ?_)
        refine lv_istore_n (lv' := [(2, .int ((sp_X7_steps ((sp_X7_steps ((sp_X7_steps ((sp_X7_steps (upd s 29 ((s 29) + 1)) 0).2) 1).2) 2).2) 3).1)), (1, .int ((sp_X7_steps ((sp_X7_steps ((sp_X7_steps (upd s 29 ((s 29) + 1)) 0).2) 1).2) 2).1)), (0, .ref (L 0))]) hx hb dX7_tick_45 rfl hl (by decide) rfl (fun ls hl => ?_)
        refine lv_aload_n hx hb dX7_tick_46 rfl (lv_at hl 2 rfl) ?_
        refine lv_iconst (v := 4) hx hb dX7_tick_47 (by decide) ?_
        refine r_callV X hw (ws' := mW D L ((sp_X7_steps ((sp_X7_steps ((sp_X7_steps ((sp_X7_steps ((sp_X7_steps (upd s 29 ((s 29) + 1)) 0).2) 1).2) 2).2) 3).2) 4).2) o1 o2 o3 o4 o5 o6 o7 o8 o9 o10 o11 o12 o13 o14 o15 o16 o17 o18) (As := [.int 4]) (rest := []) lk_X7_91 (c_X7_steps l D _ L ((sp_X7_steps ((sp_X7_steps ((sp_X7_steps ((sp_X7_steps (upd s 29 ((s 29) + 1)) 0).2) 1).2) 2).2) 3).2) o1 o2 o3 o4 o5 o6 o7 o8 o9 o10 o11 o12 o13 o14 o15 o16 o17 o18 4 (by omega)) Foc.all (m_at 0 rfl) rfl hl.1 (Nat.le_of_ble_eq_true rfl) ⟨Nat.le_of_ble_eq_true rfl, Nat.le_of_ble_eq_true rfl⟩ rfl dX7_tick_48 ⟨Nat.le_refl _, Nat.le_refl _⟩ (fun H locs hw => ?_)
        refine lv_istore_n (lv' := [(1, .int ((sp_X7_steps ((sp_X7_steps ((sp_X7_steps ((sp_X7_steps ((sp_X7_steps (upd s 29 ((s 29) + 1)) 0).2) 1).2) 2).2) 3).2) 4).1)), (2, .int ((sp_X7_steps ((sp_X7_steps ((sp_X7_steps ((sp_X7_steps (upd s 29 ((s 29) + 1)) 0).2) 1).2) 2).2) 3).1)), (0, .ref (L 0))]) hx hb dX7_tick_51 rfl hl (by decide) rfl (fun ls hl => ?_)
        refine lv_iconst (v := 5) hx hb dX7_tick_52 (by decide) ?_
        refine lv_istore_n (lv' := [(3, .int 5), (1, .int ((sp_X7_steps ((sp_X7_steps ((sp_X7_steps ((sp_X7_steps ((sp_X7_steps (upd s 29 ((s 29) + 1)) 0).2) 1).2) 2).2) 3).2) 4).1)), (2, .int ((sp_X7_steps ((sp_X7_steps ((sp_X7_steps ((sp_X7_steps (upd s 29 ((s 29) + 1)) 0).2) 1).2) 2).2) 3).1)), (0, .ref (L 0))]) hx hb dX7_tick_53 rfl hl (by decide) rfl (fun ls hl => ?_)
        refine lv_iload_n hx hb dX7_tick_54 rfl (lv_at hl 0 rfl) ?_
        refine lv_bipush (v := 6) hx hb dX7_tick_55 (by decide) ?_
        refine lv_icmp_gt (tgt := 76) hx hb dX7_tick_57 (by decide) (fun h => absurd h (by decide)) (fun _ => ?_)
        refine lv_iload_n hx hb dX7_tick_60 rfl (lv_at hl 1 rfl) ?_
        refine lv_if_eq (tgt := 76) hx hb dX7_tick_61 (by decide) (fun c7 => ?_) (fun c7 => ?_)
        · skip
          exact cut76 ((sp_X7_steps ((sp_X7_steps ((sp_X7_steps ((sp_X7_steps ((sp_X7_steps (upd s 29 ((s 29) + 1)) 0).2) 1).2) 2).2) 3).2) 4).2) (by unfold sp_X7_tick sp_X7_tickR; rw [if_neg c4]; rw [if_neg c5]; rw [if_neg c6]; rw [if_pos c7]) _ _ _ hw (lv_sub hl [3] rfl)
        · skip
          refine lv_aload_n hx hb dX7_tick_64 rfl (lv_at hl 3 rfl) ?_
          refine lv_iload_n hx hb dX7_tick_65 rfl (lv_at hl 0 rfl) ?_
          refine r_callV X hw (ws' := mW D L ((sp_X7_steps ((sp_X7_steps ((sp_X7_steps ((sp_X7_steps ((sp_X7_steps ((sp_X7_steps (upd s 29 ((s 29) + 1)) 0).2) 1).2) 2).2) 3).2) 4).2) 5).2) o1 o2 o3 o4 o5 o6 o7 o8 o9 o10 o11 o12 o13 o14 o15 o16 o17 o18) (As := [.int 5]) (rest := []) lk_X7_91 (c_X7_steps l D _ L ((sp_X7_steps ((sp_X7_steps ((sp_X7_steps ((sp_X7_steps ((sp_X7_steps (upd s 29 ((s 29) + 1)) 0).2) 1).2) 2).2) 3).2) 4).2) o1 o2 o3 o4 o5 o6 o7 o8 o9 o10 o11 o12 o13 o14 o15 o16 o17 o18 5 (by omega)) Foc.all (m_at 0 rfl) rfl hl.1 (Nat.le_of_ble_eq_true rfl) ⟨Nat.le_of_ble_eq_true rfl, Nat.le_of_ble_eq_true rfl⟩ rfl dX7_tick_66 ⟨Nat.le_refl _, Nat.le_refl _⟩ (fun H locs hw => ?_)
          refine lv_istore_n (lv' := [(1, .int ((sp_X7_steps ((sp_X7_steps ((sp_X7_steps ((sp_X7_steps ((sp_X7_steps ((sp_X7_steps (upd s 29 ((s 29) + 1)) 0).2) 1).2) 2).2) 3).2) 4).2) 5).1)), (3, .int 5), (2, .int ((sp_X7_steps ((sp_X7_steps ((sp_X7_steps ((sp_X7_steps (upd s 29 ((s 29) + 1)) 0).2) 1).2) 2).2) 3).1)), (0, .ref (L 0))]) hx hb dX7_tick_69 rfl hl (by decide) rfl (fun ls hl => ?_)
          refine r_iincN (lv' := [(3, .int 6), (1, .int ((sp_X7_steps ((sp_X7_steps ((sp_X7_steps ((sp_X7_steps ((sp_X7_steps ((sp_X7_steps (upd s 29 ((s 29) + 1)) 0).2) 1).2) 2).2) 3).2) 4).2) 5).1)), (2, .int ((sp_X7_steps ((sp_X7_steps ((sp_X7_steps ((sp_X7_steps (upd s 29 ((s 29) + 1)) 0).2) 1).2) 2).2) 3).1)), (0, .ref (L 0))]) hx hb 5 1 rfl dX7_tick_70 hl (k := 1) rfl rfl (by decide) rfl (fun ls hl => ?_)
          refine lv_goto (tgt := 54) hx hb dX7_tick_73 (by decide) ?_
          refine lv_iload_n hx hb dX7_tick_54 rfl (lv_at hl 0 rfl) ?_
          refine lv_bipush (v := 6) hx hb dX7_tick_55 (by decide) ?_
          refine lv_icmp_gt (tgt := 76) hx hb dX7_tick_57 (by decide) (fun h => absurd h (by decide)) (fun _ => ?_)
          refine lv_iload_n hx hb dX7_tick_60 rfl (lv_at hl 1 rfl) ?_
          refine lv_if_eq (tgt := 76) hx hb dX7_tick_61 (by decide) (fun c8 => ?_) (fun c8 => ?_)
          · skip
            exact cut76 ((sp_X7_steps ((sp_X7_steps ((sp_X7_steps ((sp_X7_steps ((sp_X7_steps ((sp_X7_steps (upd s 29 ((s 29) + 1)) 0).2) 1).2) 2).2) 3).2) 4).2) 5).2) (by unfold sp_X7_tick sp_X7_tickR; rw [if_neg c4]; rw [if_neg c5]; rw [if_neg c6]; rw [if_neg c7]; rw [if_pos c8]) _ _ _ hw (lv_sub hl [3] rfl)
          · skip
            refine lv_aload_n hx hb dX7_tick_64 rfl (lv_at hl 3 rfl) ?_
            refine lv_iload_n hx hb dX7_tick_65 rfl (lv_at hl 0 rfl) ?_
            refine r_callV X hw (ws' := mW D L ((sp_X7_steps ((sp_X7_steps ((sp_X7_steps ((sp_X7_steps ((sp_X7_steps ((sp_X7_steps ((sp_X7_steps (upd s 29 ((s 29) + 1)) 0).2) 1).2) 2).2) 3).2) 4).2) 5).2) 6).2) o1 o2 o3 o4 o5 o6 o7 o8 o9 o10 o11 o12 o13 o14 o15 o16 o17 o18) (As := [.int 6]) (rest := []) lk_X7_91 (c_X7_steps l D _ L ((sp_X7_steps ((sp_X7_steps ((sp_X7_steps ((sp_X7_steps ((sp_X7_steps ((sp_X7_steps (upd s 29 ((s 29) + 1)) 0).2) 1).2) 2).2) 3).2) 4).2) 5).2) o1 o2 o3 o4 o5 o6 o7 o8 o9 o10 o11 o12 o13 o14 o15 o16 o17 o18 6 (by omega)) Foc.all (m_at 0 rfl) rfl hl.1 (Nat.le_of_ble_eq_true rfl) ⟨Nat.le_of_ble_eq_true rfl, Nat.le_of_ble_eq_true rfl⟩ rfl dX7_tick_66 ⟨Nat.le_refl _, Nat.le_refl _⟩ (fun H locs hw => ?_)
            refine lv_istore_n (lv' := [(1, .int ((sp_X7_steps ((sp_X7_steps ((sp_X7_steps ((sp_X7_steps ((sp_X7_steps ((sp_X7_steps ((sp_X7_steps (upd s 29 ((s 29) + 1)) 0).2) 1).2) 2).2) 3).2) 4).2) 5).2) 6).1)), (3, .int 6), (2, .int ((sp_X7_steps ((sp_X7_steps ((sp_X7_steps ((sp_X7_steps (upd s 29 ((s 29) + 1)) 0).2) 1).2) 2).2) 3).1)), (0, .ref (L 0))]) hx hb dX7_tick_69 rfl hl (by decide) rfl (fun ls hl => ?_)
            refine r_iincN (lv' := [(3, .int 7), (1, .int ((sp_X7_steps ((sp_X7_steps ((sp_X7_steps ((sp_X7_steps ((sp_X7_steps ((sp_X7_steps ((sp_X7_steps (upd s 29 ((s 29) + 1)) 0).2) 1).2) 2).2) 3).2) 4).2) 5).2) 6).1)), (2, .int ((sp_X7_steps ((sp_X7_steps ((sp_X7_steps ((sp_X7_steps (upd s 29 ((s 29) + 1)) 0).2) 1).2) 2).2) 3).1)), (0, .ref (L 0))]) hx hb 6 1 rfl dX7_tick_70 hl (k := 1) rfl rfl (by decide) rfl (fun ls hl => ?_)
            refine lv_goto (tgt := 54) hx hb dX7_tick_73 (by decide) ?_
            refine lv_iload_n hx hb dX7_tick_54 rfl (lv_at hl 0 rfl) ?_
            refine lv_bipush (v := 6) hx hb dX7_tick_55 (by decide) ?_
            refine lv_icmp_gt (tgt := 76) hx hb dX7_tick_57 (by decide) (fun _ => ?_) (fun h => absurd (by decide) h)
            exact cut76 ((sp_X7_steps ((sp_X7_steps ((sp_X7_steps ((sp_X7_steps ((sp_X7_steps ((sp_X7_steps ((sp_X7_steps (upd s 29 ((s 29) + 1)) 0).2) 1).2) 2).2) 3).2) 4).2) 5).2) 6).2) (by unfold sp_X7_tick sp_X7_tickR; rw [if_neg c4]; rw [if_neg c5]; rw [if_neg c6]; rw [if_neg c7]; rw [if_neg c8]) _ _ _ hw (lv_sub hl [3] rfl)

noncomputable def sp_X7_phase (s : Row) : Int32 × Row := (if ((upd (upd s 35 ((s 35) + 1)) 28 (((upd s 35 ((s 35) + 1)) 28) + 1)) 28) = ((upd (upd s 35 ((s 35) + 1)) 28 (((upd s 35 ((s 35) + 1)) 28) + 1)) 39) then (1, sp_X7_tick (upd (upd (upd s 35 ((s 35) + 1)) 28 (((upd s 35 ((s 35) + 1)) 28) + 1)) 28 0)) else (0, upd (upd s 35 ((s 35) + 1)) 28 (((upd s 35 ((s 35) + 1)) 28) + 1)))
set_option maxRecDepth 100000 in
set_option maxHeartbeats 4000000 in
theorem c_X7_phase (l : Launch) (D : va_G) (sz : Nat) (L : Nat → Nat) (s : Row) (o1 : Row) (o2 : Int32) (o3 : Int32) (o4 : Row) (o5 : Row) (o6 : Row) (o7 : Int32) (o8 : Row) (o9 : Int32) (o10 : Row) (o11 : Int32) (o12 : Int32) (o13 : Int32) (o14 : Int32) (o15 : Int32) (o16 : Int32) (o17 : Row) (o18 : Row) : MI l yX7_phase cX7_phase 2 (some .boolean) 10 217 D sz [.ref (L 0)] (mW D L s o1 o2 o3 o4 o5 o6 o7 o8 o9 o10 o11 o12 o13 o14 o15 o16 o17 o18) ((sp_X7_phase s).1) (mW D L ((sp_X7_phase s).2) o1 o2 o3 o4 o5 o6 o7 o8 o9 o10 o11 o12 o13 o14 o15 o16 o17 o18) := by
  refine r_enterI (by decide) (Nat.le_of_ble_eq_true rfl) ?_
  intro p e st m args below meth c ls A X hret hk hw hl
  have X : CX D p m c cX7_phase 2 st args RX7 A := X
  have hx := X.1.1
  have hb := X.1.2.1
  have hown := X.1.2.2.2.1
  have hts := X.1.2.2.2.2
  have hl : lv_has ls 2 [(0, .ref (L 0))] := hl
  refine lv_aload_n hx hb dX7_phase_0 rfl (lv_at hl 0 rfl) ?_
  refine r_get X hw (v := .ref (L 1)) fl_X7_7 (m_at 0 rfl) rfl dX7_phase_1 ?_
  refine lv_bipush (v := 35) hx hb dX7_phase_4 (by decide) ?_
  refine lv_dup2_11 hx hb dX7_phase_6 rfl rfl ?_
  refine r_iald X hw (f := s) 35 (m_at 1 rfl) rfl (by decide) (by decide) dX7_phase_7 ?_
  refine lv_iconst (v := 1) hx hb dX7_phase_8 (by decide) ?_
  refine lv_iadd hx hb dX7_phase_9 ?_
  refine r_iast X hw (ws' := mW D L (upd s 35 ((s 35) + 1)) o1 o2 o3 o4 o5 o6 o7 o8 o9 o10 o11 o12 o13 o14 o15 o16 o17 o18) 35 rfl (by decide) (by decide) (Foc.cell 1 rfl rfl (ce rfl (ce rfl (ce rfl (ce rfl (ce rfl (ce rfl (ce rfl (ce rfl (ce rfl rfl)))))))))) dX7_phase_10 (fun H locs hw => ?_)
  refine lv_aload_n hx hb dX7_phase_11 rfl (lv_at hl 0 rfl) ?_
  refine r_get X hw (v := .ref (L 1)) fl_X7_7 (m_at 0 rfl) rfl dX7_phase_12 ?_
  refine lv_bipush (v := 28) hx hb dX7_phase_15 (by decide) ?_
  refine lv_dup2_11 hx hb dX7_phase_17 rfl rfl ?_
  refine r_iald X hw (f := upd s 35 ((s 35) + 1)) 28 (m_at 1 rfl) rfl (by decide) (by decide) dX7_phase_18 ?_
  refine lv_iconst (v := 1) hx hb dX7_phase_19 (by decide) ?_
  refine lv_iadd hx hb dX7_phase_20 ?_
  refine r_iast X hw (ws' := mW D L (upd (upd s 35 ((s 35) + 1)) 28 (((upd s 35 ((s 35) + 1)) 28) + 1)) o1 o2 o3 o4 o5 o6 o7 o8 o9 o10 o11 o12 o13 o14 o15 o16 o17 o18) 28 rfl (by decide) (by decide) (Foc.cell 1 rfl rfl (ce rfl (ce rfl (ce rfl (ce rfl (ce rfl (ce rfl (ce rfl (ce rfl (ce rfl rfl)))))))))) dX7_phase_21 (fun H locs hw => ?_)
  refine lv_aload_n hx hb dX7_phase_22 rfl (lv_at hl 0 rfl) ?_
  refine r_get X hw (v := .ref (L 1)) fl_X7_7 (m_at 0 rfl) rfl dX7_phase_23 ?_
  refine lv_bipush (v := 28) hx hb dX7_phase_26 (by decide) ?_
  refine r_iald X hw (f := upd (upd s 35 ((s 35) + 1)) 28 (((upd s 35 ((s 35) + 1)) 28) + 1)) 28 (m_at 1 rfl) rfl (by decide) (by decide) dX7_phase_28 ?_
  refine lv_aload_n hx hb dX7_phase_29 rfl (lv_at hl 0 rfl) ?_
  refine r_get X hw (v := .ref (L 1)) fl_X7_7 (m_at 0 rfl) rfl dX7_phase_30 ?_
  refine lv_bipush (v := 39) hx hb dX7_phase_33 (by decide) ?_
  refine r_iald X hw (f := upd (upd s 35 ((s 35) + 1)) 28 (((upd s 35 ((s 35) + 1)) 28) + 1)) 39 (m_at 1 rfl) rfl (by decide) (by decide) dX7_phase_35 ?_
  refine lv_icmp_ne (tgt := 43) hx hb dX7_phase_36 (by decide) (fun c1 => ?_) (fun c1 => ?_)
  · skip
    refine lv_iconst (v := 0) hx hb dX7_phase_43 (by decide) ?_
    refine lv_istore_n (lv' := [(1, .int 0), (0, .ref (L 0))]) hx hb dX7_phase_44 rfl hl (by decide) rfl (fun ls hl => ?_)
    refine lv_iload_n hx hb dX7_phase_45 rfl (lv_at hl 0 rfl) ?_
    refine lv_if_eq (tgt := 61) hx hb dX7_phase_46 (by decide) (fun _ => ?_) (fun h => absurd (by decide) h)
    refine lv_iload_n hx hb dX7_phase_61 rfl (lv_at hl 0 rfl) ?_
    exact r_ret X hw hk hret rfl (by unfold sp_X7_phase; rw [if_neg c1]) (by unfold sp_X7_phase; rw [if_neg c1]) dX7_phase_62
  · skip
    refine lv_iconst (v := 1) hx hb dX7_phase_39 (by decide) ?_
    refine lv_goto (tgt := 44) hx hb dX7_phase_40 (by decide) ?_
    refine lv_istore_n (lv' := [(1, .int 1), (0, .ref (L 0))]) hx hb dX7_phase_44 rfl hl (by decide) rfl (fun ls hl => ?_)
    refine lv_iload_n hx hb dX7_phase_45 rfl (lv_at hl 0 rfl) ?_
    refine lv_if_eq (tgt := 61) hx hb dX7_phase_46 (by decide) (fun h => absurd h (by decide)) (fun _ => ?_)
    refine lv_aload_n hx hb dX7_phase_49 rfl (lv_at hl 1 rfl) ?_
    refine r_get X hw (v := .ref (L 1)) fl_X7_7 (m_at 0 rfl) rfl dX7_phase_50 ?_
    refine lv_bipush (v := 28) hx hb dX7_phase_53 (by decide) ?_
    refine lv_iconst (v := 0) hx hb dX7_phase_55 (by decide) ?_
    refine r_iast X hw (ws' := mW D L (upd (upd (upd s 35 ((s 35) + 1)) 28 (((upd s 35 ((s 35) + 1)) 28) + 1)) 28 0) o1 o2 o3 o4 o5 o6 o7 o8 o9 o10 o11 o12 o13 o14 o15 o16 o17 o18) 28 rfl (by decide) (by decide) (Foc.cell 1 rfl rfl (ce rfl (ce rfl (ce rfl (ce rfl (ce rfl (ce rfl (ce rfl (ce rfl (ce rfl rfl)))))))))) dX7_phase_56 (fun H locs hw => ?_)
    refine lv_aload_n hx hb dX7_phase_57 rfl (lv_at hl 1 rfl) ?_
    refine r_callVv X hw (ws' := mW D L (sp_X7_tick (upd (upd (upd s 35 ((s 35) + 1)) 28 (((upd s 35 ((s 35) + 1)) 28) + 1)) 28 0)) o1 o2 o3 o4 o5 o6 o7 o8 o9 o10 o11 o12 o13 o14 o15 o16 o17 o18) (As := []) (rest := []) lk_X7_97 (c_X7_tick l D _ L (upd (upd (upd s 35 ((s 35) + 1)) 28 (((upd s 35 ((s 35) + 1)) 28) + 1)) 28 0) o1 o2 o3 o4 o5 o6 o7 o8 o9 o10 o11 o12 o13 o14 o15 o16 o17 o18) Foc.all (m_at 0 rfl) rfl hl.1 (Nat.le_of_ble_eq_true rfl) ⟨Nat.le_of_ble_eq_true rfl, Nat.le_of_ble_eq_true rfl⟩ rfl dX7_phase_58 ⟨Nat.le_refl _, Nat.le_refl _⟩ (fun H locs hw => ?_)
    refine lv_iload_n hx hb dX7_phase_61 rfl (lv_at hl 0 rfl) ?_
    exact r_ret X hw hk hret rfl (by unfold sp_X7_phase; rw [if_pos c1]) (by unfold sp_X7_phase; rw [if_pos c1]) dX7_phase_62

/-- phases that pass: what they leave, and the ticks among them -/
noncomputable def phF (s : Row) : Nat → Row
  | 0 => s
  | i + 1 => (sp_X7_phase (phF s i)).2
noncomputable def phN (s : Row) : Nat → Int32
  | 0 => 0
  | i + 1 => phN s i + (if (sp_X7_phase (phF s i)).1 = 0 then 0 else 1)

set_option maxRecDepth 100000 in
set_option maxHeartbeats 4000000 in
theorem c_X7_passes (l : Launch) (D : va_G) (sz : Nat) (L : Nat → Nat) (s : Row) (o1 : Row) (o2 : Int32) (o3 : Int32) (o4 : Row) (o5 : Row) (o6 : Row) (o7 : Int32) (o8 : Row) (o9 : Int32) (o10 : Row) (o11 : Int32) (o12 : Int32) (o13 : Int32) (o14 : Int32) (o15 : Int32) (o16 : Int32) (o17 : Row) (o18 : Row) (N : Nat) (hN : N < 2147483648) : MI l yX7_passes cX7_passes 4 (some .int) 11 238 D sz [.ref (L 0), .int (nI N)] (mW D L s o1 o2 o3 o4 o5 o6 o7 o8 o9 o10 o11 o12 o13 o14 o15 o16 o17 o18) (phN s N) (mW D L (phF s N) o1 o2 o3 o4 o5 o6 o7 o8 o9 o10 o11 o12 o13 o14 o15 o16 o17 o18) := by
  refine r_enterI (by decide) (Nat.le_of_ble_eq_true rfl) ?_
  intro p e st m args below meth c ls A X hret hk hw hl
  have X : CX D p m c cX7_passes 4 st args RX7 A := X
  have hx := X.1.1
  have hb := X.1.2.1
  have hown := X.1.2.2.2.1
  have hts := X.1.2.2.2.2
  have hl : lv_has ls 4 [(0, .ref (L 0)), (1, .int (nI N))] := hl
  refine lv_iconst (v := 0) hx hb dX7_passes_0 (by decide) ?_
  refine lv_istore_n (lv' := [(2, .int 0), (0, .ref (L 0)), (1, .int (nI N))]) hx hb dX7_passes_1 rfl hl (by decide) rfl (fun ls hl => ?_)
  refine lv_iconst (v := 0) hx hb dX7_passes_2 (by decide) ?_
  refine lv_istore_n (lv' := [(3, .int 0), (2, .int 0), (0, .ref (L 0)), (1, .int (nI N))]) hx hb dX7_passes_3 rfl hl (by decide) rfl (fun ls hl => ?_)
  have key4 : ∀ (n4 : Nat) (i : Nat) (x : Int32), (i ≤ N) → (N - i < n4) → (x = phN s i) → ∀ (H : Heap) (locs : List Loc) (ls : Array Slot), Wd D A st.heap H locs (mW D L (phF s i) o1 o2 o3 o4 o5 o6 o7 o8 o9 o10 o11 o12 o13 o14 o15 o16 o17 o18) → lv_has ls 4 [(0, .ref (L 0)), (1, .int (nI N)), (2, .int x), (3, .int (nI i))] → W p l e (rmOf 11 0 0 238) st m args below meth c H locs 0 0 (QI below args st D A (phN s N) (mW D L (phF s N) o1 o2 o3 o4 o5 o6 o7 o8 o9 o10 o11 o12 o13 o14 o15 o16 o17 o18)) (F0 m 4 ls []) := by
    intro n4
    induction n4 with
    | zero => intro i x hi hn hx0; omega
    | succ n4 ih4 =>
      intro i x hi hn hx0 H locs ls hw hl
      refine lv_iload_n hx hb dX7_passes_4 rfl (lv_at hl 3 rfl) ?_
      refine lv_iload_n hx hb dX7_passes_5 rfl (lv_at hl 1 rfl) ?_
      refine r_geN (tgt := 30) hx hb i N rfl rfl (by omega) (by omega) dX7_passes_6 (by decide) (fun c1 => ?_) (fun c1 => ?_)
      · skip
        refine lv_iload_n hx hb dX7_passes_30 rfl (lv_at hl 2 rfl) ?_
        exact r_ret X hw hk hret rfl (by rw [hx0, show i = N from by omega]) (by rw [show i = N from by omega]) dX7_passes_31
      · skip
        refine lv_iload_n hx hb dX7_passes_9 rfl (lv_at hl 2 rfl) ?_
        refine lv_aload_n hx hb dX7_passes_10 rfl (lv_at hl 0 rfl) ?_
        refine r_callV X hw (ws' := mW D L ((sp_X7_phase (phF s i)).2) o1 o2 o3 o4 o5 o6 o7 o8 o9 o10 o11 o12 o13 o14 o15 o16 o17 o18) (As := []) (rest := [.int x]) lk_X7_100 (c_X7_phase l D _ L (phF s i) o1 o2 o3 o4 o5 o6 o7 o8 o9 o10 o11 o12 o13 o14 o15 o16 o17 o18) Foc.all (m_at 0 rfl) rfl hl.1 (Nat.le_of_ble_eq_true rfl) ⟨Nat.le_of_ble_eq_true rfl, Nat.le_of_ble_eq_true rfl⟩ rfl dX7_passes_11 ⟨Nat.le_refl _, Nat.le_refl _⟩ (fun H locs hw => ?_)
        refine lv_if_eq (tgt := 21) hx hb dX7_passes_14 (by decide) (fun c2 => ?_) (fun c2 => ?_)
        · skip
          refine lv_iconst (v := 0) hx hb dX7_passes_21 (by decide) ?_
          refine lv_iadd hx hb dX7_passes_22 ?_
          refine lv_istore_n (lv' := [(2, .int (x + 0)), (0, .ref (L 0)), (1, .int (nI N)), (3, .int (nI i))]) hx hb dX7_passes_23 rfl hl (by decide) rfl (fun ls hl => ?_)
          refine r_iincN (lv' := [(3, .int (nI (i + 1))), (2, .int (x + 0)), (0, .ref (L 0)), (1, .int (nI N))]) hx hb i 1 rfl dX7_passes_24 hl (k := 3) rfl rfl (by decide) rfl (fun ls hl => ?_)
          refine lv_goto (tgt := 4) hx hb dX7_passes_27 (by decide) ?_
          exact ih4 (i + 1) (x + 0) (by omega) (by omega) (by show _ = phN s i + _; rw [if_pos c2]; rw [hx0]) _ _ _ hw (lv_sub hl [2, 3, 1, 0] rfl)
        · skip
          refine lv_iconst (v := 1) hx hb dX7_passes_17 (by decide) ?_
          refine lv_goto (tgt := 22) hx hb dX7_passes_18 (by decide) ?_
          refine lv_iadd hx hb dX7_passes_22 ?_
          refine lv_istore_n (lv' := [(2, .int (x + 1)), (0, .ref (L 0)), (1, .int (nI N)), (3, .int (nI i))]) hx hb dX7_passes_23 rfl hl (by decide) rfl (fun ls hl => ?_)
          refine r_iincN (lv' := [(3, .int (nI (i + 1))), (2, .int (x + 1)), (0, .ref (L 0)), (1, .int (nI N))]) hx hb i 1 rfl dX7_passes_24 hl (k := 3) rfl rfl (by decide) rfl (fun ls hl => ?_)
          refine lv_goto (tgt := 4) hx hb dX7_passes_27 (by decide) ?_
          exact ih4 (i + 1) (x + 1) (by omega) (by omega) (by show _ = phN s i + _; rw [if_neg c2]; rw [hx0]) _ _ _ hw (lv_sub hl [2, 3, 1, 0] rfl)
  exact key4 (N + 1) 0 0 (by omega) (by omega) rfl _ _ _ hw (lv_sub hl [2, 3, 1, 0] rfl)
