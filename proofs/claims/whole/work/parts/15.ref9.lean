theorem in_okM (k N : Nat) (h : k ≤ N) (hN : N < 2147483648) : ¬ sp_X7_in (nI k) (-1) (nI N) = 0 := by
  unfold sp_X7_in
  rw [if_neg (fun q => nI_pos (n := k) (by omega) (Int32.lt_trans q (by decide))), if_neg (fun q => absurd ((nI_ltI (by omega) (by omega)).mp q) (by omega))]
  decide

noncomputable def sp_X7_arm (s : Row) (a : Nat) (v : Nat) : Int32 × Row := (s (40 + 9 * a + 6), upd (upd s (40 + 9 * a + 6) 1) (40 + 9 * a + 5) (nI v))
set_option maxRecDepth 100000 in
set_option maxHeartbeats 4000000 in
theorem c_X7_arm_1 (l : Launch) (D : va_G) (sz : Nat) (L : Nat → Nat) (s pa : Row) (P : Nat) (o4 : Row) (o5 : Row) (o6 : Row) (o7 : Int32) (o8 : Row) (o9 : Int32) (o10 : Row) (o11 : Int32) (o12 : Int32) (o13 : Int32) (o14 : Int32) (o15 : Int32) (o16 : Int32) (o17 : Row) (o18 : Row) (a : Nat) (v : Nat) (ha : a < 3) (hv : v < 32) (hP : P ≤ 4) : MI l yX7_arm cX7_arm 5 (some .int) 2 42 D sz [.ref (L 0), .int (nI a), .int (nI v)] (mW D L s pa (nI P) 1 o4 o5 o6 o7 o8 o9 o10 o11 o12 o13 o14 o15 o16 o17 o18) ((sp_X7_arm s a v).1) (mW D L ((sp_X7_arm s a v).2) pa (nI P) 1 o4 o5 o6 o7 o8 o9 o10 o11 o12 o13 o14 o15 o16 o17 o18) := by
  refine r_enterI (by decide) (Nat.le_of_ble_eq_true rfl) ?_
  intro p e st m args below meth c ls A X hret hk hw hl
  have X : CX D p m c cX7_arm 5 st args RX7 A := X
  have hx := X.1.1
  have hb := X.1.2.1
  have hown := X.1.2.2.2.1
  have hts := X.1.2.2.2.2
  have hl : lv_has ls 5 [(0, .ref (L 0)), (1, .int (nI a)), (2, .int (nI v))] := hl
  refine lv_iload_n hx hb dX7_arm_0 rfl (lv_at hl 1 rfl) ?_
  refine r_callS X hw (ws' := mW D L s pa (nI P) 1 o4 o5 o6 o7 o8 o9 o10 o11 o12 o13 o14 o15 o16 o17 o18) (As := [.int (nI a)]) (rest := []) lk_X7_137 (c_X7_isAlarm l D _ (nI a)) Foc.nil rfl hl.1 (Nat.le_of_ble_eq_true rfl) ⟨Nat.le_of_ble_eq_true rfl, Nat.le_of_ble_eq_true rfl⟩ rfl dX7_arm_1 ⟨Nat.le_refl _, Nat.le_refl _⟩ (fun H locs hw => ?_)
  refine lv_if_eq (tgt := 17) hx hb dX7_arm_4 (by decide) (fun h => absurd h (isAl_ok (by omega))) (fun _ => ?_)
  refine lv_iload_n hx hb dX7_arm_7 rfl (lv_at hl 2 rfl) ?_
  refine lv_iconst (v := (-1)) hx hb dX7_arm_8 (by decide) ?_
  refine lv_bipush (v := 31) hx hb dX7_arm_9 (by decide) ?_
  refine r_callS X hw (ws' := mW D L s pa (nI P) 1 o4 o5 o6 o7 o8 o9 o10 o11 o12 o13 o14 o15 o16 o17 o18) (As := [.int (nI v), .int (-1), .int 31]) (rest := []) lk_X7_45 (c_X7_in l D _ (nI v) (-1) 31) Foc.nil rfl hl.1 (Nat.le_of_ble_eq_true rfl) ⟨Nat.le_of_ble_eq_true rfl, Nat.le_of_ble_eq_true rfl⟩ rfl dX7_arm_11 ⟨Nat.le_refl _, Nat.le_refl _⟩ (fun H locs hw => ?_)
  refine lv_if_ne (tgt := 20) hx hb dX7_arm_14 (by decide) (fun _ => ?_) (fun h => absurd h (in_okM v 31 (by omega) (by decide)))
  refine lv_aload_n hx hb dX7_arm_20 rfl (lv_at hl 0 rfl) ?_
  refine r_callVv X hw (ws' := mW D L s pa (nI P) 1 o4 o5 o6 o7 o8 o9 o10 o11 o12 o13 o14 o15 o16 o17 o18) (As := []) (rest := []) lk_X7_107 (c_X7_changesR l D _ L s pa P 1 o4 o5 o6 o7 o8 o9 o10 o11 o12 o13 o14 o15 o16 o17 o18 (by omega) (by decide)) Foc.all (m_at 0 rfl) rfl hl.1 (Nat.le_of_ble_eq_true rfl) ⟨Nat.le_of_ble_eq_true rfl, Nat.le_of_ble_eq_true rfl⟩ rfl dX7_arm_21 ⟨Nat.le_refl _, Nat.le_refl _⟩ (fun H locs hw => ?_)
  refine lv_iload_n hx hb dX7_arm_24 rfl (lv_at hl 1 rfl) ?_
  refine r_callS X hw (ws' := mW D L s pa (nI P) 1 o4 o5 o6 o7 o8 o9 o10 o11 o12 o13 o14 o15 o16 o17 o18) (As := [.int (nI a)]) (rest := []) lk_X7_88 (c_X7_alarmAtN l D _ a (by omega)) Foc.nil rfl hl.1 (Nat.le_of_ble_eq_true rfl) ⟨Nat.le_of_ble_eq_true rfl, Nat.le_of_ble_eq_true rfl⟩ rfl dX7_arm_25 ⟨Nat.le_refl _, Nat.le_refl _⟩ (fun H locs hw => ?_)
  refine lv_istore_n (lv' := [(3, .int (nI (40 + 9 * a))), (0, .ref (L 0)), (1, .int (nI a)), (2, .int (nI v))]) hx hb dX7_arm_28 rfl hl (by decide) rfl (fun ls hl => ?_)
  refine lv_aload_n hx hb dX7_arm_29 rfl (lv_at hl 1 rfl) ?_
  refine r_get X hw (v := .ref (L 1)) fl_X7_7 (m_at 0 rfl) rfl dX7_arm_30 ?_
  refine lv_iload_n hx hb dX7_arm_33 rfl (lv_at hl 0 rfl) ?_
  refine lv_bipush (v := 6) hx hb dX7_arm_34 (by decide) ?_
  refine r_addN hx hb (40 + 9 * a) 6 rfl rfl dX7_arm_36 ?_
  refine r_iald X hw (f := s) (40 + 9 * a + 6) (m_at 1 rfl) rfl (by omega) (by decide) dX7_arm_37 ?_
  refine lv_istore (lv' := [(4, .int (s (40 + 9 * a + 6))), (3, .int (nI (40 + 9 * a))), (0, .ref (L 0)), (1, .int (nI a)), (2, .int (nI v))]) hx hb dX7_arm_38 hl (by decide) rfl (fun ls hl => ?_)
  refine lv_aload_n hx hb dX7_arm_40 rfl (lv_at hl 2 rfl) ?_
  refine r_get X hw (v := .ref (L 1)) fl_X7_7 (m_at 0 rfl) rfl dX7_arm_41 ?_
  refine lv_iload_n hx hb dX7_arm_44 rfl (lv_at hl 1 rfl) ?_
  refine lv_bipush (v := 6) hx hb dX7_arm_45 (by decide) ?_
  refine r_addN hx hb (40 + 9 * a) 6 rfl rfl dX7_arm_47 ?_
  refine lv_iload_n hx hb dX7_arm_48 rfl (lv_at hl 4 rfl) ?_
  refine lv_if_ge (tgt := 56) hx hb dX7_arm_49 (by decide) (fun _ => ?_) (fun h => absurd (nI_pos' (by omega)) h)
  refine lv_iconst (v := 1) hx hb dX7_arm_56 (by decide) ?_
  refine r_iast X hw (ws' := mW D L (upd s (40 + 9 * a + 6) 1) pa (nI P) 1 o4 o5 o6 o7 o8 o9 o10 o11 o12 o13 o14 o15 o16 o17 o18) (40 + 9 * a + 6) rfl (by omega) (by decide) (Foc.cell 1 rfl rfl (ce rfl (ce rfl (ce rfl (ce rfl (ce rfl (ce rfl (ce rfl (ce rfl (ce rfl rfl)))))))))) dX7_arm_57 (fun H locs hw => ?_)
  refine lv_aload_n hx hb dX7_arm_58 rfl (lv_at hl 2 rfl) ?_
  refine r_get X hw (v := .ref (L 1)) fl_X7_7 (m_at 0 rfl) rfl dX7_arm_59 ?_
  refine lv_iload_n hx hb dX7_arm_62 rfl (lv_at hl 1 rfl) ?_
  refine lv_iconst (v := 5) hx hb dX7_arm_63 (by decide) ?_
  refine r_addN hx hb (40 + 9 * a) 5 rfl rfl dX7_arm_64 ?_
  refine lv_iload_n hx hb dX7_arm_65 rfl (lv_at hl 4 rfl) ?_
  refine lv_if_ge (tgt := 80) hx hb dX7_arm_66 (by decide) (fun _ => ?_) (fun h => absurd (nI_pos' (by omega)) h)
  refine lv_iload_n hx hb dX7_arm_80 rfl (lv_at hl 4 rfl) ?_
  refine r_iast X hw (ws' := mW D L (upd (upd s (40 + 9 * a + 6) 1) (40 + 9 * a + 5) (nI v)) pa (nI P) 1 o4 o5 o6 o7 o8 o9 o10 o11 o12 o13 o14 o15 o16 o17 o18) (40 + 9 * a + 5) rfl (by omega) (by decide) (Foc.cell 1 rfl rfl (ce rfl (ce rfl (ce rfl (ce rfl (ce rfl (ce rfl (ce rfl (ce rfl (ce rfl rfl)))))))))) dX7_arm_81 (fun H locs hw => ?_)
  refine lv_iload hx hb dX7_arm_82 (lv_at hl 0 rfl) ?_
  exact r_ret X hw hk hret rfl (rfl) (rfl) dX7_arm_84

set_option maxRecDepth 100000 in
set_option maxHeartbeats 4000000 in
theorem c_X7_arm_0 (l : Launch) (D : va_G) (sz : Nat) (L : Nat → Nat) (s pa : Row) (P : Nat) (o4 : Row) (o5 : Row) (o6 : Row) (o7 : Int32) (o8 : Row) (o9 : Int32) (o10 : Row) (o11 : Int32) (o12 : Int32) (o13 : Int32) (o14 : Int32) (o15 : Int32) (o16 : Int32) (o17 : Row) (o18 : Row) (a : Nat) (v : Nat) (ha : a < 3) (hv : v < 32) (hP : P ≤ 4) : MI l yX7_arm cX7_arm 5 (some .int) 2 42 D sz [.ref (L 0), .int (nI a), .int (nI v)] (mW D L s pa (nI P) 0 o4 o5 o6 o7 o8 o9 o10 o11 o12 o13 o14 o15 o16 o17 o18) ((sp_X7_arm s a v).1) (mW D L ((sp_X7_arm s a v).2) ((pushR s pa P).1) (nI (pushR s pa P).2) 0 o4 o5 o6 o7 o8 o9 o10 o11 o12 o13 o14 o15 o16 o17 o18) := by
  refine r_enterI (by decide) (Nat.le_of_ble_eq_true rfl) ?_
  intro p e st m args below meth c ls A X hret hk hw hl
  have X : CX D p m c cX7_arm 5 st args RX7 A := X
  have hx := X.1.1
  have hb := X.1.2.1
  have hown := X.1.2.2.2.1
  have hts := X.1.2.2.2.2
  have hl : lv_has ls 5 [(0, .ref (L 0)), (1, .int (nI a)), (2, .int (nI v))] := hl
  refine lv_iload_n hx hb dX7_arm_0 rfl (lv_at hl 1 rfl) ?_
  refine r_callS X hw (ws' := mW D L s pa (nI P) 0 o4 o5 o6 o7 o8 o9 o10 o11 o12 o13 o14 o15 o16 o17 o18) (As := [.int (nI a)]) (rest := []) lk_X7_137 (c_X7_isAlarm l D _ (nI a)) Foc.nil rfl hl.1 (Nat.le_of_ble_eq_true rfl) ⟨Nat.le_of_ble_eq_true rfl, Nat.le_of_ble_eq_true rfl⟩ rfl dX7_arm_1 ⟨Nat.le_refl _, Nat.le_refl _⟩ (fun H locs hw => ?_)
  refine lv_if_eq (tgt := 17) hx hb dX7_arm_4 (by decide) (fun h => absurd h (isAl_ok (by omega))) (fun _ => ?_)
  refine lv_iload_n hx hb dX7_arm_7 rfl (lv_at hl 2 rfl) ?_
  refine lv_iconst (v := (-1)) hx hb dX7_arm_8 (by decide) ?_
  refine lv_bipush (v := 31) hx hb dX7_arm_9 (by decide) ?_
  refine r_callS X hw (ws' := mW D L s pa (nI P) 0 o4 o5 o6 o7 o8 o9 o10 o11 o12 o13 o14 o15 o16 o17 o18) (As := [.int (nI v), .int (-1), .int 31]) (rest := []) lk_X7_45 (c_X7_in l D _ (nI v) (-1) 31) Foc.nil rfl hl.1 (Nat.le_of_ble_eq_true rfl) ⟨Nat.le_of_ble_eq_true rfl, Nat.le_of_ble_eq_true rfl⟩ rfl dX7_arm_11 ⟨Nat.le_refl _, Nat.le_refl _⟩ (fun H locs hw => ?_)
  refine lv_if_ne (tgt := 20) hx hb dX7_arm_14 (by decide) (fun _ => ?_) (fun h => absurd h (in_okM v 31 (by omega) (by decide)))
  refine lv_aload_n hx hb dX7_arm_20 rfl (lv_at hl 0 rfl) ?_
  refine r_callVv X hw (ws' := mW D L s ((pushR s pa P).1) (nI (pushR s pa P).2) 0 o4 o5 o6 o7 o8 o9 o10 o11 o12 o13 o14 o15 o16 o17 o18) (As := []) (rest := []) lk_X7_107 (c_X7_changes0 l D _ L s pa P 0 o4 o5 o6 o7 o8 o9 o10 o11 o12 o13 o14 o15 o16 o17 o18 (by omega)) Foc.all (m_at 0 rfl) rfl hl.1 (Nat.le_of_ble_eq_true rfl) ⟨Nat.le_of_ble_eq_true rfl, Nat.le_of_ble_eq_true rfl⟩ rfl dX7_arm_21 ⟨Nat.le_refl _, Nat.le_refl _⟩ (fun H locs hw => ?_)
  refine lv_iload_n hx hb dX7_arm_24 rfl (lv_at hl 1 rfl) ?_
  refine r_callS X hw (ws' := mW D L s ((pushR s pa P).1) (nI (pushR s pa P).2) 0 o4 o5 o6 o7 o8 o9 o10 o11 o12 o13 o14 o15 o16 o17 o18) (As := [.int (nI a)]) (rest := []) lk_X7_88 (c_X7_alarmAtN l D _ a (by omega)) Foc.nil rfl hl.1 (Nat.le_of_ble_eq_true rfl) ⟨Nat.le_of_ble_eq_true rfl, Nat.le_of_ble_eq_true rfl⟩ rfl dX7_arm_25 ⟨Nat.le_refl _, Nat.le_refl _⟩ (fun H locs hw => ?_)
  refine lv_istore_n (lv' := [(3, .int (nI (40 + 9 * a))), (0, .ref (L 0)), (1, .int (nI a)), (2, .int (nI v))]) hx hb dX7_arm_28 rfl hl (by decide) rfl (fun ls hl => ?_)
  refine lv_aload_n hx hb dX7_arm_29 rfl (lv_at hl 1 rfl) ?_
  refine r_get X hw (v := .ref (L 1)) fl_X7_7 (m_at 0 rfl) rfl dX7_arm_30 ?_
  refine lv_iload_n hx hb dX7_arm_33 rfl (lv_at hl 0 rfl) ?_
  refine lv_bipush (v := 6) hx hb dX7_arm_34 (by decide) ?_
  refine r_addN hx hb (40 + 9 * a) 6 rfl rfl dX7_arm_36 ?_
  refine r_iald X hw (f := s) (40 + 9 * a + 6) (m_at 1 rfl) rfl (by omega) (by decide) dX7_arm_37 ?_
  refine lv_istore (lv' := [(4, .int (s (40 + 9 * a + 6))), (3, .int (nI (40 + 9 * a))), (0, .ref (L 0)), (1, .int (nI a)), (2, .int (nI v))]) hx hb dX7_arm_38 hl (by decide) rfl (fun ls hl => ?_)
  refine lv_aload_n hx hb dX7_arm_40 rfl (lv_at hl 2 rfl) ?_
  refine r_get X hw (v := .ref (L 1)) fl_X7_7 (m_at 0 rfl) rfl dX7_arm_41 ?_
  refine lv_iload_n hx hb dX7_arm_44 rfl (lv_at hl 1 rfl) ?_
  refine lv_bipush (v := 6) hx hb dX7_arm_45 (by decide) ?_
  refine r_addN hx hb (40 + 9 * a) 6 rfl rfl dX7_arm_47 ?_
  refine lv_iload_n hx hb dX7_arm_48 rfl (lv_at hl 4 rfl) ?_
  refine lv_if_ge (tgt := 56) hx hb dX7_arm_49 (by decide) (fun _ => ?_) (fun h => absurd (nI_pos' (by omega)) h)
  refine lv_iconst (v := 1) hx hb dX7_arm_56 (by decide) ?_
  refine r_iast X hw (ws' := mW D L (upd s (40 + 9 * a + 6) 1) ((pushR s pa P).1) (nI (pushR s pa P).2) 0 o4 o5 o6 o7 o8 o9 o10 o11 o12 o13 o14 o15 o16 o17 o18) (40 + 9 * a + 6) rfl (by omega) (by decide) (Foc.cell 1 rfl rfl (ce rfl (ce rfl (ce rfl (ce rfl (ce rfl (ce rfl (ce rfl (ce rfl (ce rfl rfl)))))))))) dX7_arm_57 (fun H locs hw => ?_)
  refine lv_aload_n hx hb dX7_arm_58 rfl (lv_at hl 2 rfl) ?_
  refine r_get X hw (v := .ref (L 1)) fl_X7_7 (m_at 0 rfl) rfl dX7_arm_59 ?_
  refine lv_iload_n hx hb dX7_arm_62 rfl (lv_at hl 1 rfl) ?_
  refine lv_iconst (v := 5) hx hb dX7_arm_63 (by decide) ?_
  refine r_addN hx hb (40 + 9 * a) 5 rfl rfl dX7_arm_64 ?_
  refine lv_iload_n hx hb dX7_arm_65 rfl (lv_at hl 4 rfl) ?_
  refine lv_if_ge (tgt := 80) hx hb dX7_arm_66 (by decide) (fun _ => ?_) (fun h => absurd (nI_pos' (by omega)) h)
  refine lv_iload_n hx hb dX7_arm_80 rfl (lv_at hl 4 rfl) ?_
  refine r_iast X hw (ws' := mW D L (upd (upd s (40 + 9 * a + 6) 1) (40 + 9 * a + 5) (nI v)) ((pushR s pa P).1) (nI (pushR s pa P).2) 0 o4 o5 o6 o7 o8 o9 o10 o11 o12 o13 o14 o15 o16 o17 o18) (40 + 9 * a + 5) rfl (by omega) (by decide) (Foc.cell 1 rfl rfl (ce rfl (ce rfl (ce rfl (ce rfl (ce rfl (ce rfl (ce rfl (ce rfl (ce rfl rfl)))))))))) dX7_arm_81 (fun H locs hw => ?_)
  refine lv_iload hx hb dX7_arm_82 (lv_at hl 0 rfl) ?_
  exact r_ret X hw hk hret rfl (rfl) (rfl) dX7_arm_84

noncomputable def sp_X7_armM (s : Row) (a : Nat) : Int32 × Row := (s (40 + 9 * a + 6), upd (upd s (40 + 9 * a + 6) 0) (40 + 9 * a + 5) ((upd s (40 + 9 * a + 6) 0) (40 + 9 * a + 5)))
set_option maxRecDepth 100000 in
set_option maxHeartbeats 4000000 in
theorem c_X7_armM_1 (l : Launch) (D : va_G) (sz : Nat) (L : Nat → Nat) (s pa : Row) (P : Nat) (o4 : Row) (o5 : Row) (o6 : Row) (o7 : Int32) (o8 : Row) (o9 : Int32) (o10 : Row) (o11 : Int32) (o12 : Int32) (o13 : Int32) (o14 : Int32) (o15 : Int32) (o16 : Int32) (o17 : Row) (o18 : Row) (a : Nat) (ha : a < 3) (hP : P ≤ 4) : MI l yX7_arm cX7_arm 5 (some .int) 2 42 D sz [.ref (L 0), .int (nI a), .int (-1)] (mW D L s pa (nI P) 1 o4 o5 o6 o7 o8 o9 o10 o11 o12 o13 o14 o15 o16 o17 o18) ((sp_X7_armM s a).1) (mW D L ((sp_X7_armM s a).2) pa (nI P) 1 o4 o5 o6 o7 o8 o9 o10 o11 o12 o13 o14 o15 o16 o17 o18) := by
  refine r_enterI (by decide) (Nat.le_of_ble_eq_true rfl) ?_
  intro p e st m args below meth c ls A X hret hk hw hl
  have X : CX D p m c cX7_arm 5 st args RX7 A := X
  have hx := X.1.1
  have hb := X.1.2.1
  have hown := X.1.2.2.2.1
  have hts := X.1.2.2.2.2
  have hl : lv_has ls 5 [(0, .ref (L 0)), (1, .int (nI a)), (2, .int (-1))] := hl
  refine lv_iload_n hx hb dX7_arm_0 rfl (lv_at hl 1 rfl) ?_
  refine r_callS X hw (ws' := mW D L s pa (nI P) 1 o4 o5 o6 o7 o8 o9 o10 o11 o12 o13 o14 o15 o16 o17 o18) (As := [.int (nI a)]) (rest := []) lk_X7_137 (c_X7_isAlarm l D _ (nI a)) Foc.nil rfl hl.1 (Nat.le_of_ble_eq_true rfl) ⟨Nat.le_of_ble_eq_true rfl, Nat.le_of_ble_eq_true rfl⟩ rfl dX7_arm_1 ⟨Nat.le_refl _, Nat.le_refl _⟩ (fun H locs hw => ?_)
  refine lv_if_eq (tgt := 17) hx hb dX7_arm_4 (by decide) (fun h => absurd h (isAl_ok (by omega))) (fun _ => ?_)
  refine lv_iload_n hx hb dX7_arm_7 rfl (lv_at hl 2 rfl) ?_
  refine lv_iconst (v := (-1)) hx hb dX7_arm_8 (by decide) ?_
  refine lv_bipush (v := 31) hx hb dX7_arm_9 (by decide) ?_
  refine r_callS X hw (ws' := mW D L s pa (nI P) 1 o4 o5 o6 o7 o8 o9 o10 o11 o12 o13 o14 o15 o16 o17 o18) (As := [.int (-1), .int (-1), .int 31]) (rest := []) lk_X7_45 (c_X7_in l D _ (-1) (-1) 31) Foc.nil rfl hl.1 (Nat.le_of_ble_eq_true rfl) ⟨Nat.le_of_ble_eq_true rfl, Nat.le_of_ble_eq_true rfl⟩ rfl dX7_arm_11 ⟨Nat.le_refl _, Nat.le_refl _⟩ (fun H locs hw => ?_)
  refine lv_if_ne (tgt := 20) hx hb dX7_arm_14 (by decide) (fun _ => ?_) (fun h => absurd h (by decide))
  refine lv_aload_n hx hb dX7_arm_20 rfl (lv_at hl 0 rfl) ?_
  refine r_callVv X hw (ws' := mW D L s pa (nI P) 1 o4 o5 o6 o7 o8 o9 o10 o11 o12 o13 o14 o15 o16 o17 o18) (As := []) (rest := []) lk_X7_107 (c_X7_changesR l D _ L s pa P 1 o4 o5 o6 o7 o8 o9 o10 o11 o12 o13 o14 o15 o16 o17 o18 (by omega) (by decide)) Foc.all (m_at 0 rfl) rfl hl.1 (Nat.le_of_ble_eq_true rfl) ⟨Nat.le_of_ble_eq_true rfl, Nat.le_of_ble_eq_true rfl⟩ rfl dX7_arm_21 ⟨Nat.le_refl _, Nat.le_refl _⟩ (fun H locs hw => ?_)
  refine lv_iload_n hx hb dX7_arm_24 rfl (lv_at hl 1 rfl) ?_
  refine r_callS X hw (ws' := mW D L s pa (nI P) 1 o4 o5 o6 o7 o8 o9 o10 o11 o12 o13 o14 o15 o16 o17 o18) (As := [.int (nI a)]) (rest := []) lk_X7_88 (c_X7_alarmAtN l D _ a (by omega)) Foc.nil rfl hl.1 (Nat.le_of_ble_eq_true rfl) ⟨Nat.le_of_ble_eq_true rfl, Nat.le_of_ble_eq_true rfl⟩ rfl dX7_arm_25 ⟨Nat.le_refl _, Nat.le_refl _⟩ (fun H locs hw => ?_)
  refine lv_istore_n (lv' := [(3, .int (nI (40 + 9 * a))), (0, .ref (L 0)), (1, .int (nI a)), (2, .int (-1))]) hx hb dX7_arm_28 rfl hl (by decide) rfl (fun ls hl => ?_)
  refine lv_aload_n hx hb dX7_arm_29 rfl (lv_at hl 1 rfl) ?_
  refine r_get X hw (v := .ref (L 1)) fl_X7_7 (m_at 0 rfl) rfl dX7_arm_30 ?_
  refine lv_iload_n hx hb dX7_arm_33 rfl (lv_at hl 0 rfl) ?_
  refine lv_bipush (v := 6) hx hb dX7_arm_34 (by decide) ?_
  refine r_addN hx hb (40 + 9 * a) 6 rfl rfl dX7_arm_36 ?_
  refine r_iald X hw (f := s) (40 + 9 * a + 6) (m_at 1 rfl) rfl (by omega) (by decide) dX7_arm_37 ?_
  refine lv_istore (lv' := [(4, .int (s (40 + 9 * a + 6))), (3, .int (nI (40 + 9 * a))), (0, .ref (L 0)), (1, .int (nI a)), (2, .int (-1))]) hx hb dX7_arm_38 hl (by decide) rfl (fun ls hl => ?_)
  refine lv_aload_n hx hb dX7_arm_40 rfl (lv_at hl 2 rfl) ?_
  refine r_get X hw (v := .ref (L 1)) fl_X7_7 (m_at 0 rfl) rfl dX7_arm_41 ?_
  refine lv_iload_n hx hb dX7_arm_44 rfl (lv_at hl 1 rfl) ?_
  refine lv_bipush (v := 6) hx hb dX7_arm_45 (by decide) ?_
  refine r_addN hx hb (40 + 9 * a) 6 rfl rfl dX7_arm_47 ?_
  refine lv_iload_n hx hb dX7_arm_48 rfl (lv_at hl 4 rfl) ?_
  refine lv_if_ge (tgt := 56) hx hb dX7_arm_49 (by decide) (fun h => absurd h (by decide)) (fun _ => ?_)
  refine lv_iconst (v := 0) hx hb dX7_arm_52 (by decide) ?_
  refine lv_goto (tgt := 57) hx hb dX7_arm_53 (by decide) ?_
  refine r_iast X hw (ws' := mW D L (upd s (40 + 9 * a + 6) 0) pa (nI P) 1 o4 o5 o6 o7 o8 o9 o10 o11 o12 o13 o14 o15 o16 o17 o18) (40 + 9 * a + 6) rfl (by omega) (by decide) (Foc.cell 1 rfl rfl (ce rfl (ce rfl (ce rfl (ce rfl (ce rfl (ce rfl (ce rfl (ce rfl (ce rfl rfl)))))))))) dX7_arm_57 (fun H locs hw => ?_)
  refine lv_aload_n hx hb dX7_arm_58 rfl (lv_at hl 2 rfl) ?_
  refine r_get X hw (v := .ref (L 1)) fl_X7_7 (m_at 0 rfl) rfl dX7_arm_59 ?_
  refine lv_iload_n hx hb dX7_arm_62 rfl (lv_at hl 1 rfl) ?_
  refine lv_iconst (v := 5) hx hb dX7_arm_63 (by decide) ?_
  refine r_addN hx hb (40 + 9 * a) 5 rfl rfl dX7_arm_64 ?_
  refine lv_iload_n hx hb dX7_arm_65 rfl (lv_at hl 4 rfl) ?_
  refine lv_if_ge (tgt := 80) hx hb dX7_arm_66 (by decide) (fun h => absurd h (by decide)) (fun _ => ?_)
  refine lv_aload_n hx hb dX7_arm_69 rfl (lv_at hl 2 rfl) ?_
  refine r_get X hw (v := .ref (L 1)) fl_X7_7 (m_at 0 rfl) rfl dX7_arm_70 ?_
  refine lv_iload_n hx hb dX7_arm_73 rfl (lv_at hl 1 rfl) ?_
  refine lv_iconst (v := 5) hx hb dX7_arm_74 (by decide) ?_
  refine r_addN hx hb (40 + 9 * a) 5 rfl rfl dX7_arm_75 ?_
  refine r_iald X hw (f := upd s (40 + 9 * a + 6) 0) (40 + 9 * a + 5) (m_at 1 rfl) rfl (by omega) (by decide) dX7_arm_76 ?_
  refine lv_goto (tgt := 81) hx hb dX7_arm_77 (by decide) ?_
  refine r_iast X hw (ws' := mW D L (upd (upd s (40 + 9 * a + 6) 0) (40 + 9 * a + 5) ((upd s (40 + 9 * a + 6) 0) (40 + 9 * a + 5))) pa (nI P) 1 o4 o5 o6 o7 o8 o9 o10 o11 o12 o13 o14 o15 o16 o17 o18) (40 + 9 * a + 5) rfl (by omega) (by decide) (Foc.cell 1 rfl rfl (ce rfl (ce rfl (ce rfl (ce rfl (ce rfl (ce rfl (ce rfl (ce rfl (ce rfl rfl)))))))))) dX7_arm_81 (fun H locs hw => ?_)
  refine lv_iload hx hb dX7_arm_82 (lv_at hl 0 rfl) ?_
  exact r_ret X hw hk hret rfl (rfl) (rfl) dX7_arm_84

set_option maxRecDepth 100000 in
set_option maxHeartbeats 4000000 in
theorem c_X7_armM_0 (l : Launch) (D : va_G) (sz : Nat) (L : Nat → Nat) (s pa : Row) (P : Nat) (o4 : Row) (o5 : Row) (o6 : Row) (o7 : Int32) (o8 : Row) (o9 : Int32) (o10 : Row) (o11 : Int32) (o12 : Int32) (o13 : Int32) (o14 : Int32) (o15 : Int32) (o16 : Int32) (o17 : Row) (o18 : Row) (a : Nat) (ha : a < 3) (hP : P ≤ 4) : MI l yX7_arm cX7_arm 5 (some .int) 2 42 D sz [.ref (L 0), .int (nI a), .int (-1)] (mW D L s pa (nI P) 0 o4 o5 o6 o7 o8 o9 o10 o11 o12 o13 o14 o15 o16 o17 o18) ((sp_X7_armM s a).1) (mW D L ((sp_X7_armM s a).2) ((pushR s pa P).1) (nI (pushR s pa P).2) 0 o4 o5 o6 o7 o8 o9 o10 o11 o12 o13 o14 o15 o16 o17 o18) := by
  refine r_enterI (by decide) (Nat.le_of_ble_eq_true rfl) ?_
  intro p e st m args below meth c ls A X hret hk hw hl
  have X : CX D p m c cX7_arm 5 st args RX7 A := X
  have hx := X.1.1
  have hb := X.1.2.1
  have hown := X.1.2.2.2.1
  have hts := X.1.2.2.2.2
  have hl : lv_has ls 5 [(0, .ref (L 0)), (1, .int (nI a)), (2, .int (-1))] := hl
  refine lv_iload_n hx hb dX7_arm_0 rfl (lv_at hl 1 rfl) ?_
  refine r_callS X hw (ws' := mW D L s pa (nI P) 0 o4 o5 o6 o7 o8 o9 o10 o11 o12 o13 o14 o15 o16 o17 o18) (As := [.int (nI a)]) (rest := []) lk_X7_137 (c_X7_isAlarm l D _ (nI a)) Foc.nil rfl hl.1 (Nat.le_of_ble_eq_true rfl) ⟨Nat.le_of_ble_eq_true rfl, Nat.le_of_ble_eq_true rfl⟩ rfl dX7_arm_1 ⟨Nat.le_refl _, Nat.le_refl _⟩ (fun H locs hw => ?_)
  refine lv_if_eq (tgt := 17) hx hb dX7_arm_4 (by decide) (fun h => absurd h (isAl_ok (by omega))) (fun _ => ?_)
  refine lv_iload_n hx hb dX7_arm_7 rfl (lv_at hl 2 rfl) ?_
  refine lv_iconst (v := (-1)) hx hb dX7_arm_8 (by decide) ?_
  refine lv_bipush (v := 31) hx hb dX7_arm_9 (by decide) ?_
  refine r_callS X hw (ws' := mW D L s pa (nI P) 0 o4 o5 o6 o7 o8 o9 o10 o11 o12 o13 o14 o15 o16 o17 o18) (As := [.int (-1), .int (-1), .int 31]) (rest := []) lk_X7_45 (c_X7_in l D _ (-1) (-1) 31) Foc.nil rfl hl.1 (Nat.le_of_ble_eq_true rfl) ⟨Nat.le_of_ble_eq_true rfl, Nat.le_of_ble_eq_true rfl⟩ rfl dX7_arm_11 ⟨Nat.le_refl _, Nat.le_refl _⟩ (fun H locs hw => ?_)
  refine lv_if_ne (tgt := 20) hx hb dX7_arm_14 (by decide) (fun _ => ?_) (fun h => absurd h (by decide))
  refine lv_aload_n hx hb dX7_arm_20 rfl (lv_at hl 0 rfl) ?_
  refine r_callVv X hw (ws' := mW D L s ((pushR s pa P).1) (nI (pushR s pa P).2) 0 o4 o5 o6 o7 o8 o9 o10 o11 o12 o13 o14 o15 o16 o17 o18) (As := []) (rest := []) lk_X7_107 (c_X7_changes0 l D _ L s pa P 0 o4 o5 o6 o7 o8 o9 o10 o11 o12 o13 o14 o15 o16 o17 o18 (by omega)) Foc.all (m_at 0 rfl) rfl hl.1 (Nat.le_of_ble_eq_true rfl) ⟨Nat.le_of_ble_eq_true rfl, Nat.le_of_ble_eq_true rfl⟩ rfl dX7_arm_21 ⟨Nat.le_refl _, Nat.le_refl _⟩ (fun H locs hw => ?_)
  refine lv_iload_n hx hb dX7_arm_24 rfl (lv_at hl 1 rfl) ?_
  refine r_callS X hw (ws' := mW D L s ((pushR s pa P).1) (nI (pushR s pa P).2) 0 o4 o5 o6 o7 o8 o9 o10 o11 o12 o13 o14 o15 o16 o17 o18) (As := [.int (nI a)]) (rest := []) lk_X7_88 (c_X7_alarmAtN l D _ a (by omega)) Foc.nil rfl hl.1 (Nat.le_of_ble_eq_true rfl) ⟨Nat.le_of_ble_eq_true rfl, Nat.le_of_ble_eq_true rfl⟩ rfl dX7_arm_25 ⟨Nat.le_refl _, Nat.le_refl _⟩ (fun H locs hw => ?_)
  refine lv_istore_n (lv' := [(3, .int (nI (40 + 9 * a))), (0, .ref (L 0)), (1, .int (nI a)), (2, .int (-1))]) hx hb dX7_arm_28 rfl hl (by decide) rfl (fun ls hl => ?_)
  refine lv_aload_n hx hb dX7_arm_29 rfl (lv_at hl 1 rfl) ?_
  refine r_get X hw (v := .ref (L 1)) fl_X7_7 (m_at 0 rfl) rfl dX7_arm_30 ?_
  refine lv_iload_n hx hb dX7_arm_33 rfl (lv_at hl 0 rfl) ?_
  refine lv_bipush (v := 6) hx hb dX7_arm_34 (by decide) ?_
  refine r_addN hx hb (40 + 9 * a) 6 rfl rfl dX7_arm_36 ?_
  refine r_iald X hw (f := s) (40 + 9 * a + 6) (m_at 1 rfl) rfl (by omega) (by decide) dX7_arm_37 ?_
  refine lv_istore (lv' := [(4, .int (s (40 + 9 * a + 6))), (3, .int (nI (40 + 9 * a))), (0, .ref (L 0)), (1, .int (nI a)), (2, .int (-1))]) hx hb dX7_arm_38 hl (by decide) rfl (fun ls hl => ?_)
  refine lv_aload_n hx hb dX7_arm_40 rfl (lv_at hl 2 rfl) ?_
  refine r_get X hw (v := .ref (L 1)) fl_X7_7 (m_at 0 rfl) rfl dX7_arm_41 ?_
  refine lv_iload_n hx hb dX7_arm_44 rfl (lv_at hl 1 rfl) ?_
  refine lv_bipush (v := 6) hx hb dX7_arm_45 (by decide) ?_
  refine r_addN hx hb (40 + 9 * a) 6 rfl rfl dX7_arm_47 ?_
  refine lv_iload_n hx hb dX7_arm_48 rfl (lv_at hl 4 rfl) ?_
  refine lv_if_ge (tgt := 56) hx hb dX7_arm_49 (by decide) (fun h => absurd h (by decide)) (fun _ => ?_)
  refine lv_iconst (v := 0) hx hb dX7_arm_52 (by decide) ?_
  refine lv_goto (tgt := 57) hx hb dX7_arm_53 (by decide) ?_
  refine r_iast X hw (ws' := mW D L (upd s (40 + 9 * a + 6) 0) ((pushR s pa P).1) (nI (pushR s pa P).2) 0 o4 o5 o6 o7 o8 o9 o10 o11 o12 o13 o14 o15 o16 o17 o18) (40 + 9 * a + 6) rfl (by omega) (by decide) (Foc.cell 1 rfl rfl (ce rfl (ce rfl (ce rfl (ce rfl (ce rfl (ce rfl (ce rfl (ce rfl (ce rfl rfl)))))))))) dX7_arm_57 (fun H locs hw => ?_)
  refine lv_aload_n hx hb dX7_arm_58 rfl (lv_at hl 2 rfl) ?_
  refine r_get X hw (v := .ref (L 1)) fl_X7_7 (m_at 0 rfl) rfl dX7_arm_59 ?_
  refine lv_iload_n hx hb dX7_arm_62 rfl (lv_at hl 1 rfl) ?_
  refine lv_iconst (v := 5) hx hb dX7_arm_63 (by decide) ?_
  refine r_addN hx hb (40 + 9 * a) 5 rfl rfl dX7_arm_64 ?_
  refine lv_iload_n hx hb dX7_arm_65 rfl (lv_at hl 4 rfl) ?_
  refine lv_if_ge (tgt := 80) hx hb dX7_arm_66 (by decide) (fun h => absurd h (by decide)) (fun _ => ?_)
  refine lv_aload_n hx hb dX7_arm_69 rfl (lv_at hl 2 rfl) ?_
  refine r_get X hw (v := .ref (L 1)) fl_X7_7 (m_at 0 rfl) rfl dX7_arm_70 ?_
  refine lv_iload_n hx hb dX7_arm_73 rfl (lv_at hl 1 rfl) ?_
  refine lv_iconst (v := 5) hx hb dX7_arm_74 (by decide) ?_
  refine r_addN hx hb (40 + 9 * a) 5 rfl rfl dX7_arm_75 ?_
  refine r_iald X hw (f := upd s (40 + 9 * a + 6) 0) (40 + 9 * a + 5) (m_at 1 rfl) rfl (by omega) (by decide) dX7_arm_76 ?_
  refine lv_goto (tgt := 81) hx hb dX7_arm_77 (by decide) ?_
  refine r_iast X hw (ws' := mW D L (upd (upd s (40 + 9 * a + 6) 0) (40 + 9 * a + 5) ((upd s (40 + 9 * a + 6) 0) (40 + 9 * a + 5))) ((pushR s pa P).1) (nI (pushR s pa P).2) 0 o4 o5 o6 o7 o8 o9 o10 o11 o12 o13 o14 o15 o16 o17 o18) (40 + 9 * a + 5) rfl (by omega) (by decide) (Foc.cell 1 rfl rfl (ce rfl (ce rfl (ce rfl (ce rfl (ce rfl (ce rfl (ce rfl (ce rfl (ce rfl rfl)))))))))) dX7_arm_81 (fun H locs hw => ?_)
  refine lv_iload hx hb dX7_arm_82 (lv_at hl 0 rfl) ?_
  exact r_ret X hw hk hret rfl (rfl) (rfl) dX7_arm_84

set_option maxRecDepth 100000 in
set_option maxHeartbeats 4000000 in
theorem c_X7_arm_bad (l : Launch) (D : va_G) (sz : Nat) (L : Nat → Nat) (o0 : Row) (o1 : Row) (o2 : Int32) (o3 : Int32) (o4 : Row) (o5 : Row) (o6 : Row) (o7 : Int32) (o8 : Row) (o9 : Int32) (o10 : Row) (o11 : Int32) (o12 : Int32) (o13 : Int32) (o14 : Int32) (o15 : Int32) (o16 : Int32) (o17 : Row) (o18 : Row) (a1 a2 : Int32) (hbad : ¬ ((¬ sp_X7_isAlarm a1 = 0) ∧ ¬ sp_X7_in a2 (-1) 31 = 0)) : MI l yX7_arm cX7_arm 5 (some .int) 2 42 D sz [.ref (L 0), .int a1, .int a2] (mW D L o0 o1 o2 o3 o4 o5 o6 o7 o8 o9 o10 o11 o12 o13 o14 o15 o16 o17 o18) (-1000001) (mW D L o0 o1 o2 o3 o4 o5 o6 o7 o8 o9 o10 o11 o12 o13 o14 o15 o16 o17 o18) := by
  refine r_enterI (by decide) (Nat.le_of_ble_eq_true rfl) ?_
  intro p e st m args below meth c ls A X hret hk hw hl
  have X : CX D p m c cX7_arm 5 st args RX7 A := X
  have hx := X.1.1
  have hb := X.1.2.1
  have hown := X.1.2.2.2.1
  have hts := X.1.2.2.2.2
  have hl : lv_has ls 5 [(0, .ref (L 0)), (1, .int a1), (2, .int a2)] := hl
  refine lv_iload_n hx hb dX7_arm_0 rfl (lv_at hl 1 rfl) ?_
  refine r_callS X hw (ws' := mW D L o0 o1 o2 o3 o4 o5 o6 o7 o8 o9 o10 o11 o12 o13 o14 o15 o16 o17 o18) (As := [.int a1]) (rest := []) lk_X7_137 (c_X7_isAlarm l D _ a1) Foc.nil rfl hl.1 (Nat.le_of_ble_eq_true rfl) ⟨Nat.le_of_ble_eq_true rfl, Nat.le_of_ble_eq_true rfl⟩ rfl dX7_arm_1 ⟨Nat.le_refl _, Nat.le_refl _⟩ (fun H locs hw => ?_)
  refine lv_if_eq (tgt := 17) hx hb dX7_arm_4 (by decide) (fun c1 => ?_) (fun c1 => ?_)
  · skip
    refine lv_ldc (v := (-1000001)) hx hb hown (hts _ kc_X7_106) dX7_arm_17 ?_
    exact r_ret X hw hk hret rfl rfl rfl dX7_arm_19
  · skip
    refine lv_iload_n hx hb dX7_arm_7 rfl (lv_at hl 2 rfl) ?_
    refine lv_iconst (v := (-1)) hx hb dX7_arm_8 (by decide) ?_
    refine lv_bipush (v := 31) hx hb dX7_arm_9 (by decide) ?_
    refine r_callS X hw (ws' := mW D L o0 o1 o2 o3 o4 o5 o6 o7 o8 o9 o10 o11 o12 o13 o14 o15 o16 o17 o18) (As := [.int a2, .int (-1), .int 31]) (rest := []) lk_X7_45 (c_X7_in l D _ a2 (-1) 31) Foc.nil rfl hl.1 (Nat.le_of_ble_eq_true rfl) ⟨Nat.le_of_ble_eq_true rfl, Nat.le_of_ble_eq_true rfl⟩ rfl dX7_arm_11 ⟨Nat.le_refl _, Nat.le_refl _⟩ (fun H locs hw => ?_)
    refine lv_if_ne (tgt := 20) hx hb dX7_arm_14 (by decide) (fun c2 => ?_) (fun c2 => ?_)
    · skip
      exact absurd ⟨c1, c2⟩ hbad
    · skip
      refine lv_ldc (v := (-1000001)) hx hb hown (hts _ kc_X7_106) dX7_arm_17 ?_
      exact r_ret X hw hk hret rfl rfl rfl dX7_arm_19

/-- the flags as a set, alarm by alarm -/
noncomputable def flN (s : Row) : Nat → Int32
  | 0 => 0
  | i + 1 => flN s i ||| s (40 + 9 * i + 7) <<< (nI i &&& 31)
noncomputable def sp_X7_flags (s : Row) : Int32 := flN s 3
/-- flags taken away -/
noncomputable def clN (s : Row) : Nat → Row
  | 0 => s
  | i + 1 => upd (clN s i) (40 + 9 * i + 7) 0

set_option maxRecDepth 100000 in
set_option maxHeartbeats 4000000 in
theorem c_X7_flags (l : Launch) (D : va_G) (sz : Nat) (L : Nat → Nat) (s : Row) (o1 : Row) (o2 : Int32) (o3 : Int32) (o4 : Row) (o5 : Row) (o6 : Row) (o7 : Int32) (o8 : Row) (o9 : Int32) (o10 : Row) (o11 : Int32) (o12 : Int32) (o13 : Int32) (o14 : Int32) (o15 : Int32) (o16 : Int32) (o17 : Row) (o18 : Row) : MI l yX7_flags cX7_flags 3 (some .int) 1 20 D sz [.ref (L 0)] (mW D L s o1 o2 o3 o4 o5 o6 o7 o8 o9 o10 o11 o12 o13 o14 o15 o16 o17 o18) (sp_X7_flags s) (mW D L s o1 o2 o3 o4 o5 o6 o7 o8 o9 o10 o11 o12 o13 o14 o15 o16 o17 o18) := by
  refine r_enterI (by decide) (Nat.le_of_ble_eq_true rfl) ?_
  intro p e st m args below meth c ls A X hret hk hw hl
  have X : CX D p m c cX7_flags 3 st args RX7 A := X
  have hx := X.1.1
  have hb := X.1.2.1
  have hown := X.1.2.2.2.1
  have hts := X.1.2.2.2.2
  have hl : lv_has ls 3 [(0, .ref (L 0))] := hl
  refine lv_iconst (v := 0) hx hb dX7_flags_0 (by decide) ?_
  refine lv_istore_n (lv' := [(1, .int 0), (0, .ref (L 0))]) hx hb dX7_flags_1 rfl hl (by decide) rfl (fun ls hl => ?_)
  refine lv_iconst (v := 0) hx hb dX7_flags_2 (by decide) ?_
  refine lv_istore_n (lv' := [(2, .int 0), (1, .int 0), (0, .ref (L 0))]) hx hb dX7_flags_3 rfl hl (by decide) rfl (fun ls hl => ?_)
  have key4 : ∀ (n4 : Nat) (i : Nat) (x : Int32), (i ≤ 3) → (3 - i < n4) → (x = flN s i) → ∀ (H : Heap) (locs : List Loc) (ls : Array Slot), Wd D A st.heap H locs (mW D L s o1 o2 o3 o4 o5 o6 o7 o8 o9 o10 o11 o12 o13 o14 o15 o16 o17 o18) → lv_has ls 3 [(0, .ref (L 0)), (1, .int x), (2, .int (nI i))] → W p l e (rmOf 1 0 0 20) st m args below meth c H locs 0 0 (QI below args st D A (sp_X7_flags s) (mW D L s o1 o2 o3 o4 o5 o6 o7 o8 o9 o10 o11 o12 o13 o14 o15 o16 o17 o18)) (F0 m 4 ls []) := by
    intro n4
    induction n4 with
    | zero => intro i x hi hm hx0; omega
    | succ n4 ih4 =>
      intro i x hi hm hx0 H locs ls hw hl
      refine lv_iload_n hx hb dX7_flags_4 rfl (lv_at hl 2 rfl) ?_
      refine lv_iconst (v := 3) hx hb dX7_flags_5 (by decide) ?_
      refine r_geN (tgt := 32) hx hb i 3 rfl rfl (by omega) (by omega) dX7_flags_6 (by decide) (fun c1 => ?_) (fun c1 => ?_)
      · skip
        refine lv_iload_n hx hb dX7_flags_32 rfl (lv_at hl 1 rfl) ?_
        exact r_ret X hw hk hret rfl (by rw [hx0, show i = 3 from by omega]; rfl) rfl dX7_flags_33
      · skip
        refine lv_iload_n hx hb dX7_flags_9 rfl (lv_at hl 1 rfl) ?_
        refine lv_aload_n hx hb dX7_flags_10 rfl (lv_at hl 0 rfl) ?_
        refine r_get X hw (v := .ref (L 1)) fl_X7_7 (m_at 0 rfl) rfl dX7_flags_11 ?_
        refine lv_iload_n hx hb dX7_flags_14 rfl (lv_at hl 2 rfl) ?_
        refine r_callS X hw (ws' := mW D L s o1 o2 o3 o4 o5 o6 o7 o8 o9 o10 o11 o12 o13 o14 o15 o16 o17 o18) (As := [.int (nI i)]) (rest := [.ref (L 1), .int x]) lk_X7_88 (c_X7_alarmAtN l D _ i (by omega)) Foc.nil rfl hl.1 (Nat.le_of_ble_eq_true rfl) ⟨Nat.le_of_ble_eq_true rfl, Nat.le_of_ble_eq_true rfl⟩ rfl dX7_flags_15 ⟨Nat.le_refl _, Nat.le_refl _⟩ (fun H locs hw => ?_)
        refine lv_bipush (v := 7) hx hb dX7_flags_18 (by decide) ?_
        refine r_addN hx hb (40 + 9 * i) 7 rfl rfl dX7_flags_20 ?_
        refine r_iald X hw (f := s) (40 + 9 * i + 7) (m_at 1 rfl) rfl (by omega) (by decide) dX7_flags_21 ?_
        refine lv_iload_n hx hb dX7_flags_22 rfl (lv_at hl 2 rfl) ?_
        refine lv_ishl hx hb dX7_flags_23 ?_
        refine lv_ior hx hb dX7_flags_24 ?_
        refine lv_istore_n (lv' := [(1, .int (x ||| ((s (40 + 9 * i + 7)) <<< ((nI i) &&& 31)))), (0, .ref (L 0)), (2, .int (nI i))]) hx hb dX7_flags_25 rfl hl (by decide) rfl (fun ls hl => ?_)
        refine r_iincN (lv' := [(2, .int (nI (i + 1))), (1, .int (x ||| ((s (40 + 9 * i + 7)) <<< ((nI i) &&& 31)))), (0, .ref (L 0))]) hx hb i 1 rfl dX7_flags_26 hl (k := 2) rfl rfl (by decide) rfl (fun ls hl => ?_)
        refine lv_goto (tgt := 4) hx hb dX7_flags_29 (by decide) ?_
        exact ih4 (i + 1) (x ||| ((s (40 + 9 * i + 7)) <<< ((nI i) &&& 31))) (by omega) (by omega) (by rw [hx0]; rfl) _ _ _ hw (lv_sub hl [2, 1, 0] rfl)
  exact key4 4 0 0 (by omega) (by omega) rfl _ _ _ hw (lv_sub hl [2, 1, 0] rfl)

set_option maxRecDepth 100000 in
set_option maxHeartbeats 4000000 in
theorem c_X7_clear_0 (l : Launch) (D : va_G) (sz : Nat) (L : Nat → Nat) (s pa : Row) (P : Nat) (o4 : Row) (o5 : Row) (o6 : Row) (o7 : Int32) (o8 : Row) (o9 : Int32) (o10 : Row) (o11 : Int32) (o12 : Int32) (o13 : Int32) (o14 : Int32) (o15 : Int32) (o16 : Int32) (o17 : Row) (o18 : Row) (hP : P ≤ 4) : MI l yX7_clear cX7_clear 3 (some .int) 2 42 D sz [.ref (L 0)] (mW D L s pa (nI P) 0 o4 o5 o6 o7 o8 o9 o10 o11 o12 o13 o14 o15 o16 o17 o18) (sp_X7_flags s) (mW D L (clN s 3) ((pushR s pa P).1) (nI (pushR s pa P).2) 0 o4 o5 o6 o7 o8 o9 o10 o11 o12 o13 o14 o15 o16 o17 o18) := by
  refine r_enterI (by decide) (Nat.le_of_ble_eq_true rfl) ?_
  intro p e st m args below meth c ls A X hret hk hw hl
  have X : CX D p m c cX7_clear 3 st args RX7 A := X
  have hx := X.1.1
  have hb := X.1.2.1
  have hown := X.1.2.2.2.1
  have hts := X.1.2.2.2.2
  have hl : lv_has ls 3 [(0, .ref (L 0))] := hl
  refine lv_aload_n hx hb dX7_clear_0 rfl (lv_at hl 0 rfl) ?_
  refine r_callVv X hw (ws' := mW D L s ((pushR s pa P).1) (nI (pushR s pa P).2) 0 o4 o5 o6 o7 o8 o9 o10 o11 o12 o13 o14 o15 o16 o17 o18) (As := []) (rest := []) lk_X7_107 (c_X7_changes0 l D _ L s pa P 0 o4 o5 o6 o7 o8 o9 o10 o11 o12 o13 o14 o15 o16 o17 o18 (by omega)) Foc.all (m_at 0 rfl) rfl hl.1 (Nat.le_of_ble_eq_true rfl) ⟨Nat.le_of_ble_eq_true rfl, Nat.le_of_ble_eq_true rfl⟩ rfl dX7_clear_1 ⟨Nat.le_refl _, Nat.le_refl _⟩ (fun H locs hw => ?_)
  refine lv_aload_n hx hb dX7_clear_4 rfl (lv_at hl 0 rfl) ?_
  refine r_callV X hw (ws' := mW D L s ((pushR s pa P).1) (nI (pushR s pa P).2) 0 o4 o5 o6 o7 o8 o9 o10 o11 o12 o13 o14 o15 o16 o17 o18) (As := []) (rest := []) lk_X7_140 (c_X7_flags l D _ L s ((pushR s pa P).1) (nI (pushR s pa P).2) 0 o4 o5 o6 o7 o8 o9 o10 o11 o12 o13 o14 o15 o16 o17 o18) Foc.all (m_at 0 rfl) rfl hl.1 (Nat.le_of_ble_eq_true rfl) ⟨Nat.le_of_ble_eq_true rfl, Nat.le_of_ble_eq_true rfl⟩ rfl dX7_clear_5 ⟨Nat.le_refl _, Nat.le_refl _⟩ (fun H locs hw => ?_)
  refine lv_istore_n (lv' := [(1, .int (sp_X7_flags s)), (0, .ref (L 0))]) hx hb dX7_clear_8 rfl hl (by decide) rfl (fun ls hl => ?_)
  refine lv_iconst (v := 0) hx hb dX7_clear_9 (by decide) ?_
  refine lv_istore_n (lv' := [(2, .int 0), (1, .int (sp_X7_flags s)), (0, .ref (L 0))]) hx hb dX7_clear_10 rfl hl (by decide) rfl (fun ls hl => ?_)
  have key11 : ∀ (n11 : Nat) (i : Nat), (i ≤ 3) → (3 - i < n11) → ∀ (H : Heap) (locs : List Loc) (ls : Array Slot), Wd D A st.heap H locs (mW D L (clN s i) ((pushR s pa P).1) (nI (pushR s pa P).2) 0 o4 o5 o6 o7 o8 o9 o10 o11 o12 o13 o14 o15 o16 o17 o18) → lv_has ls 3 [(0, .ref (L 0)), (1, .int (sp_X7_flags s)), (2, .int (nI i))] → W p l e (rmOf 2 0 0 42) st m args below meth c H locs 0 0 (QI below args st D A (sp_X7_flags s) (mW D L (clN s 3) ((pushR s pa P).1) (nI (pushR s pa P).2) 0 o4 o5 o6 o7 o8 o9 o10 o11 o12 o13 o14 o15 o16 o17 o18)) (F0 m 11 ls []) := by
    intro n11
    induction n11 with
    | zero => intro i hi hm; omega
    | succ n11 ih11 =>
      intro i hi hm H locs ls hw hl
      refine lv_iload_n hx hb dX7_clear_11 rfl (lv_at hl 2 rfl) ?_
      refine lv_iconst (v := 3) hx hb dX7_clear_12 (by decide) ?_
      refine r_geN (tgt := 35) hx hb i 3 rfl rfl (by omega) (by omega) dX7_clear_13 (by decide) (fun c1 => ?_) (fun c1 => ?_)
      · skip
        refine lv_iload_n hx hb dX7_clear_35 rfl (lv_at hl 1 rfl) ?_
        exact r_ret X hw hk hret rfl rfl (by rw [show i = 3 from by omega]) dX7_clear_36
      · skip
        refine lv_aload_n hx hb dX7_clear_16 rfl (lv_at hl 0 rfl) ?_
        refine r_get X hw (v := .ref (L 1)) fl_X7_7 (m_at 0 rfl) rfl dX7_clear_17 ?_
        refine lv_iload_n hx hb dX7_clear_20 rfl (lv_at hl 2 rfl) ?_
        refine r_callS X hw (ws' := mW D L (clN s i) ((pushR s pa P).1) (nI (pushR s pa P).2) 0 o4 o5 o6 o7 o8 o9 o10 o11 o12 o13 o14 o15 o16 o17 o18) (As := [.int (nI i)]) (rest := [.ref (L 1)]) lk_X7_88 (c_X7_alarmAtN l D _ i (by omega)) Foc.nil rfl hl.1 (Nat.le_of_ble_eq_true rfl) ⟨Nat.le_of_ble_eq_true rfl, Nat.le_of_ble_eq_true rfl⟩ rfl dX7_clear_21 ⟨Nat.le_refl _, Nat.le_refl _⟩ (fun H locs hw => ?_)
        refine lv_bipush (v := 7) hx hb dX7_clear_24 (by decide) ?_
        refine r_addN hx hb (40 + 9 * i) 7 rfl rfl dX7_clear_26 ?_
        refine lv_iconst (v := 0) hx hb dX7_clear_27 (by decide) ?_
        refine r_iast X hw (ws' := mW D L (upd (clN s i) (40 + 9 * i + 7) 0) ((pushR s pa P).1) (nI (pushR s pa P).2) 0 o4 o5 o6 o7 o8 o9 o10 o11 o12 o13 o14 o15 o16 o17 o18) (40 + 9 * i + 7) rfl (by omega) (by decide) (Foc.cell 1 rfl rfl (ce rfl (ce rfl (ce rfl (ce rfl (ce rfl (ce rfl (ce rfl (ce rfl (ce rfl rfl)))))))))) dX7_clear_28 (fun H locs hw => ?_)
        refine r_iincN (lv' := [(2, .int (nI (i + 1))), (0, .ref (L 0)), (1, .int (sp_X7_flags s))]) hx hb i 1 rfl dX7_clear_29 hl (k := 2) rfl rfl (by decide) rfl (fun ls hl => ?_)
        refine lv_goto (tgt := 11) hx hb dX7_clear_32 (by decide) ?_
        exact ih11 (i + 1) (by omega) (by omega) _ _ _ hw (lv_sub hl [1, 2, 0] rfl)
  exact key11 4 0 (by omega) (by omega) _ _ _ hw (lv_sub hl [2, 1, 0] rfl)

/-- the ones of a byte, bit by bit -/
def bitA (b : Nat) : Nat → Int32
  | 0 => 0
  | i + 1 => bitA b i + (nI (b / 2 ^ i) - nI (b / 2 ^ i) / 2 * 2)
theorem bitA_end : ∀ b, b < 256 → ∀ i, i < 9 → b / 2 ^ i = 0 → bitA b i = bitA b 8 := by decide +kernel
theorem bit_lt {b i : Nat} (hb : b < 256) (hi : i ≤ 8) (h : ¬ b / 2 ^ i = 0) : i + 1 ≤ 8 := by
  rcases Nat.lt_or_ge i 8 with q | q
  · exact q
  · rw [show i = 8 from by omega] at h
    exact absurd (Nat.div_eq_of_lt (by omega)) h
theorem half (b i : Nat) (hb : b < 256) : nI (b / 2 ^ i) / 2 = nI (b / 2 ^ (i + 1)) := by
  have h := Nat.div_le_self b (2 ^ i)
  rw [show (2 : Int32) = nI 2 from rfl, pk_div (by omega) (by decide) (by decide), Nat.div_div_eq_div_mul, Nat.pow_succ]
/-- every number from o on is a byte, seven of them -/
def byteR (s : Row) (o : Nat) : Prop := ∀ r, r < 7 → ∃ b, b < 256 ∧ s (o + r) = nI b
def bitsI (x : Int32) : Int32 := bitA x.toNatClampNeg 8
theorem bitsI_n {b : Nat} (h : b < 256) : bitsI (nI b) = bitA b 8 := by
  unfold bitsI
  rw [nI_clamp (by omega)]
def failN (s : Row) : Nat → Int32
  | 0 => 0
  | i + 1 => failN s i + bitsI (s (7 + i))

set_option maxRecDepth 100000 in
set_option maxHeartbeats 4000000 in
theorem c_X7_bits (l : Launch) (D : va_G) (sz : Nat) (b : Nat) (hb9 : b < 256) : MI l yX7_bits cX7_bits 3 (some .int) 0 0 D sz [.int (nI b)] [] (bitA b 8) ([]) := by
  refine r_enterI (by decide) (Nat.le_of_ble_eq_true rfl) ?_
  intro p e st m args below meth c ls A X hret hk hw hl
  have X : CX D p m c cX7_bits 3 st args RX7 A := X
  have hx := X.1.1
  have hb := X.1.2.1
  have hown := X.1.2.2.2.1
  have hts := X.1.2.2.2.2
  have hl : lv_has ls 3 [(0, .int (nI b))] := hl
  refine lv_iconst (v := 0) hx hb dX7_bits_0 (by decide) ?_
  refine lv_istore_n (lv' := [(1, .int 0), (0, .int (nI b))]) hx hb dX7_bits_1 rfl hl (by decide) rfl (fun ls hl => ?_)
  refine lv_iload_n hx hb dX7_bits_2 rfl (lv_at hl 1 rfl) ?_
  rw [show nI b = nI (b / 2 ^ 0) from by rw [Nat.pow_zero, Nat.div_one]]
  refine lv_istore_n (lv' := [(2, .int (nI (b / 2 ^ 0))), (1, .int 0), (0, .int (nI b))]) hx hb dX7_bits_3 rfl hl (by decide) rfl (fun ls hl => ?_)
  have key4 : ∀ (n4 : Nat) (i : Nat) (x : Int32), (i ≤ 8) → (9 - i < n4) → (x = bitA b i) → ∀ (H : Heap) (locs : List Loc) (ls : Array Slot), Wd D A st.heap H locs ([]) → lv_has ls 3 [(0, .int (nI b)), (1, .int x), (2, .int (nI (b / 2 ^ i)))] → W p l e (rmOf 0 0 0 0) st m args below meth c H locs 0 0 (QI below args st D A (bitA b 8) ([])) (F0 m 4 ls []) := by
    intro n4
    induction n4 with
    | zero => intro i x hi hm hx0; omega
    | succ n4 ih4 =>
      intro i x hi hm hx0 H locs ls hw hl
      have hd := Nat.div_le_self b (2 ^ i)
      refine lv_iload_n hx hb dX7_bits_4 rfl (lv_at hl 2 rfl) ?_
      refine lv_if_le (tgt := 21) hx hb dX7_bits_5 (by decide) (fun c1 => ?_) (fun c1 => ?_)
      · skip
        refine lv_iload_n hx hb dX7_bits_21 rfl (lv_at hl 1 rfl) ?_
        exact r_ret X hw hk hret rfl (by rw [hx0]; refine bitA_end b hb9 i (by omega) ?_; have g := c1; rw [show (0 : Int32) = nI 0 from rfl, nI_leI (by omega) (by decide)] at g; exact Nat.le_zero.mp g) rfl dX7_bits_22
      · skip
        refine lv_iload_n hx hb dX7_bits_8 rfl (lv_at hl 1 rfl) ?_
        refine lv_iload_n hx hb dX7_bits_9 rfl (lv_at hl 2 rfl) ?_
        refine lv_iconst (v := 2) hx hb dX7_bits_10 (by decide) ?_
        refine lv_irem hx hb dX7_bits_11 (by decide) ?_
        refine lv_iadd hx hb dX7_bits_12 ?_
        refine lv_istore_n (lv' := [(1, .int (x + ((nI (b / 2 ^ i)) - (nI (b / 2 ^ i)) / 2 * 2))), (0, .int (nI b)), (2, .int (nI (b / 2 ^ i)))]) hx hb dX7_bits_13 rfl hl (by decide) rfl (fun ls hl => ?_)
        refine lv_iload_n hx hb dX7_bits_14 rfl (lv_at hl 2 rfl) ?_
        refine lv_iconst (v := 2) hx hb dX7_bits_15 (by decide) ?_
        refine lv_idiv hx hb dX7_bits_16 (by decide) ?_
        rw [half b i hb9]
        refine lv_istore_n (lv' := [(2, .int (nI (b / 2 ^ (i + 1)))), (1, .int (x + ((nI (b / 2 ^ i)) - (nI (b / 2 ^ i)) / 2 * 2))), (0, .int (nI b))]) hx hb dX7_bits_17 rfl hl (by decide) rfl (fun ls hl => ?_)
        refine lv_goto (tgt := 4) hx hb dX7_bits_18 (by decide) ?_
        exact ih4 (i + 1) (x + ((nI (b / 2 ^ i)) - (nI (b / 2 ^ i)) / 2 * 2)) (bit_lt hb9 hi (fun q => c1 (by rw [q]; decide))) (by omega) (by rw [hx0]; rfl) _ _ _ hw (lv_sub hl [2, 1, 0] rfl)
  exact key4 10 0 0 (by omega) (by omega) rfl _ _ _ hw (lv_sub hl [2, 1, 0] rfl)

set_option maxRecDepth 100000 in
set_option maxHeartbeats 4000000 in
theorem c_X7_failed (l : Launch) (D : va_G) (sz : Nat) (L : Nat → Nat) (s : Row) (o1 : Row) (o2 : Int32) (o3 : Int32) (o4 : Row) (o5 : Row) (o6 : Row) (o7 : Int32) (o8 : Row) (o9 : Int32) (o10 : Row) (o11 : Int32) (o12 : Int32) (o13 : Int32) (o14 : Int32) (o15 : Int32) (o16 : Int32) (o17 : Row) (o18 : Row) (hbad : byteR s 7) : MI l yX7_failed cX7_failed 3 (some .int) 1 22 D sz [.ref (L 0)] (mW D L s o1 o2 o3 o4 o5 o6 o7 o8 o9 o10 o11 o12 o13 o14 o15 o16 o17 o18) (failN s 7) (mW D L s o1 o2 o3 o4 o5 o6 o7 o8 o9 o10 o11 o12 o13 o14 o15 o16 o17 o18) := by
  refine r_enterI (by decide) (Nat.le_of_ble_eq_true rfl) ?_
  intro p e st m args below meth c ls A X hret hk hw hl
  have X : CX D p m c cX7_failed 3 st args RX7 A := X
  have hx := X.1.1
  have hb := X.1.2.1
  have hown := X.1.2.2.2.1
  have hts := X.1.2.2.2.2
  have hl : lv_has ls 3 [(0, .ref (L 0))] := hl
  refine lv_iconst (v := 0) hx hb dX7_failed_0 (by decide) ?_
  refine lv_istore_n (lv' := [(1, .int 0), (0, .ref (L 0))]) hx hb dX7_failed_1 rfl hl (by decide) rfl (fun ls hl => ?_)
  refine lv_iconst (v := 0) hx hb dX7_failed_2 (by decide) ?_
  refine lv_istore_n (lv' := [(2, .int 0), (1, .int 0), (0, .ref (L 0))]) hx hb dX7_failed_3 rfl hl (by decide) rfl (fun ls hl => ?_)
  have key4 : ∀ (n4 : Nat) (i : Nat) (x : Int32), (i ≤ 7) → (7 - i < n4) → (x = failN s i) → ∀ (H : Heap) (locs : List Loc) (ls : Array Slot), Wd D A st.heap H locs (mW D L s o1 o2 o3 o4 o5 o6 o7 o8 o9 o10 o11 o12 o13 o14 o15 o16 o17 o18) → lv_has ls 3 [(0, .ref (L 0)), (1, .int x), (2, .int (nI i))] → W p l e (rmOf 1 0 0 22) st m args below meth c H locs 0 0 (QI below args st D A (failN s 7) (mW D L s o1 o2 o3 o4 o5 o6 o7 o8 o9 o10 o11 o12 o13 o14 o15 o16 o17 o18)) (F0 m 4 ls []) := by
    intro n4
    induction n4 with
    | zero => intro i x hi hm hx0; omega
    | succ n4 ih4 =>
      intro i x hi hm hx0 H locs ls hw hl
      refine lv_iload_n hx hb dX7_failed_4 rfl (lv_at hl 2 rfl) ?_
      refine lv_bipush (v := 7) hx hb dX7_failed_5 (by decide) ?_
      refine r_geN (tgt := 31) hx hb i 7 rfl rfl (by omega) (by omega) dX7_failed_7 (by decide) (fun c1 => ?_) (fun c1 => ?_)
      · skip
        refine lv_iload_n hx hb dX7_failed_31 rfl (lv_at hl 1 rfl) ?_
        exact r_ret X hw hk hret rfl (by rw [hx0, show i = 7 from by omega]) rfl dX7_failed_32
      · skip
        refine lv_iload_n hx hb dX7_failed_10 rfl (lv_at hl 1 rfl) ?_
        refine lv_aload_n hx hb dX7_failed_11 rfl (lv_at hl 0 rfl) ?_
        refine r_get X hw (v := .ref (L 1)) fl_X7_7 (m_at 0 rfl) rfl dX7_failed_12 ?_
        refine lv_bipush (v := 7) hx hb dX7_failed_15 (by decide) ?_
        refine lv_iload_n hx hb dX7_failed_17 rfl (lv_at hl 2 rfl) ?_
        refine r_addN hx hb 7 i rfl rfl dX7_failed_18 ?_
        refine r_iald X hw (f := s) (7 + i) (m_at 1 rfl) rfl (by omega) (by decide) dX7_failed_19 ?_
        obtain ⟨b, hb9, eb⟩ := hbad i (by omega)
        rw [eb]
        refine r_callS X hw (ws' := mW D L s o1 o2 o3 o4 o5 o6 o7 o8 o9 o10 o11 o12 o13 o14 o15 o16 o17 o18) (As := [.int (nI b)]) (rest := [.int x]) lk_X7_143 (c_X7_bits l D _ b (by omega)) Foc.nil rfl hl.1 (Nat.le_of_ble_eq_true rfl) ⟨Nat.le_of_ble_eq_true rfl, Nat.le_of_ble_eq_true rfl⟩ rfl dX7_failed_20 ⟨Nat.le_refl _, Nat.le_refl _⟩ (fun H locs hw => ?_)
        refine lv_iadd hx hb dX7_failed_23 ?_
        refine lv_istore_n (lv' := [(1, .int (x + (bitA b 8))), (0, .ref (L 0)), (2, .int (nI i))]) hx hb dX7_failed_24 rfl hl (by decide) rfl (fun ls hl => ?_)
        refine r_iincN (lv' := [(2, .int (nI (i + 1))), (1, .int (x + (bitA b 8))), (0, .ref (L 0))]) hx hb i 1 rfl dX7_failed_25 hl (k := 2) rfl rfl (by decide) rfl (fun ls hl => ?_)
        refine lv_goto (tgt := 4) hx hb dX7_failed_28 (by decide) ?_
        exact ih4 (i + 1) (x + (bitA b 8)) (by omega) (by omega) (by show _ = failN s i + bitsI (s (7 + i)); rw [hx0, eb, bitsI_n hb9]) _ _ _ hw (lv_sub hl [2, 1, 0] rfl)
  exact key4 8 0 0 (by omega) (by omega) rfl _ _ _ hw (lv_sub hl [2, 1, 0] rfl)

noncomputable def sp_X7_fail (s : Row) (r : Nat) (k : Nat) (v : Nat) : Int32 × Row := ((sp_X7_puts (upd (upd s (7 + r) ((s (7 + r)) + ((1 : Int32) <<< ((nI k) &&& 31)))) (14 + r) ((((upd s (7 + r) ((s (7 + r)) + ((1 : Int32) <<< ((nI k) &&& 31)))) (14 + r)) &&& (255 - ((1 : Int32) <<< ((nI k) &&& 31)))) ||| ((nI v) <<< ((nI k) &&& 31)))) r ((upd (upd s (7 + r) ((s (7 + r)) + ((1 : Int32) <<< ((nI k) &&& 31)))) (14 + r) ((((upd s (7 + r) ((s (7 + r)) + ((1 : Int32) <<< ((nI k) &&& 31)))) (14 + r)) &&& (255 - ((1 : Int32) <<< ((nI k) &&& 31)))) ||| ((nI v) <<< ((nI k) &&& 31)))) (0 + r))) (0 + r), sp_X7_puts (upd (upd s (7 + r) ((s (7 + r)) + ((1 : Int32) <<< ((nI k) &&& 31)))) (14 + r) ((((upd s (7 + r) ((s (7 + r)) + ((1 : Int32) <<< ((nI k) &&& 31)))) (14 + r)) &&& (255 - ((1 : Int32) <<< ((nI k) &&& 31)))) ||| ((nI v) <<< ((nI k) &&& 31)))) r ((upd (upd s (7 + r) ((s (7 + r)) + ((1 : Int32) <<< ((nI k) &&& 31)))) (14 + r) ((((upd s (7 + r) ((s (7 + r)) + ((1 : Int32) <<< ((nI k) &&& 31)))) (14 + r)) &&& (255 - ((1 : Int32) <<< ((nI k) &&& 31)))) ||| ((nI v) <<< ((nI k) &&& 31)))) (0 + r)))
set_option maxRecDepth 100000 in
set_option maxHeartbeats 4000000 in
theorem c_X7_fail_0 (l : Launch) (D : va_G) (sz : Nat) (L : Nat → Nat) (s pa : Row) (P : Nat) (o4 : Row) (o5 : Row) (o6 : Row) (o7 : Int32) (o8 : Row) (o9 : Int32) (o10 : Row) (o11 : Int32) (o12 : Int32) (o13 : Int32) (o14 : Int32) (o15 : Int32) (o16 : Int32) (o17 : Row) (o18 : Row) (r : Nat) (k : Nat) (v : Nat) (hr : r < 7) (hk : k < 8) (hv : v < 2) (hP : P ≤ 4) (hc : ¬ (s (7 + r) >>> (nI k &&& 31)) &&& 1 = 1) : MI l yX7_fail cX7_fail 4 (some .int) 2 42 D sz [.ref (L 0), .int (nI r), .int (nI k), .int (nI v)] (mW D L s pa (nI P) 0 o4 o5 o6 o7 o8 o9 o10 o11 o12 o13 o14 o15 o16 o17 o18) ((sp_X7_fail s r k v).1) (mW D L ((sp_X7_fail s r k v).2) ((pushR s pa P).1) (nI (pushR s pa P).2) 0 o4 o5 o6 o7 o8 o9 o10 o11 o12 o13 o14 o15 o16 o17 o18) := by
  refine r_enterI (by decide) (Nat.le_of_ble_eq_true rfl) ?_
  intro p e st m args below meth c ls A X hret hk hw hl
  have X : CX D p m c cX7_fail 4 st args RX7 A := X
  have hx := X.1.1
  have hb := X.1.2.1
  have hown := X.1.2.2.2.1
  have hts := X.1.2.2.2.2
  have hl : lv_has ls 4 [(0, .ref (L 0)), (1, .int (nI r)), (2, .int (nI k)), (3, .int (nI v))] := hl
  refine lv_iload_n hx hb dX7_fail_0 rfl (lv_at hl 1 rfl) ?_
  refine r_callS X hw (ws' := mW D L s pa (nI P) 0 o4 o5 o6 o7 o8 o9 o10 o11 o12 o13 o14 o15 o16 o17 o18) (As := [.int (nI r)]) (rest := []) lk_X7_103 (c_X7_isRegister l D _ (nI r)) Foc.nil rfl hl.1 (Nat.le_of_ble_eq_true rfl) ⟨Nat.le_of_ble_eq_true rfl, Nat.le_of_ble_eq_true rfl⟩ rfl dX7_fail_1 ⟨Nat.le_refl _, Nat.le_refl _⟩ (fun H locs hw => ?_)
  refine lv_if_eq (tgt := 26) hx hb dX7_fail_4 (by decide) (fun h => absurd h (isReg_ok (by omega))) (fun _ => ?_)
  refine lv_iload_n hx hb dX7_fail_7 rfl (lv_at hl 2 rfl) ?_
  refine lv_iconst (v := 0) hx hb dX7_fail_8 (by decide) ?_
  refine lv_bipush (v := 7) hx hb dX7_fail_9 (by decide) ?_
  refine r_callS X hw (ws' := mW D L s pa (nI P) 0 o4 o5 o6 o7 o8 o9 o10 o11 o12 o13 o14 o15 o16 o17 o18) (As := [.int (nI k), .int 0, .int 7]) (rest := []) lk_X7_45 (c_X7_in l D _ (nI k) 0 7) Foc.nil rfl hl.1 (Nat.le_of_ble_eq_true rfl) ⟨Nat.le_of_ble_eq_true rfl, Nat.le_of_ble_eq_true rfl⟩ rfl dX7_fail_11 ⟨Nat.le_refl _, Nat.le_refl _⟩ (fun H locs hw => ?_)
  refine lv_if_eq (tgt := 26) hx hb dX7_fail_14 (by decide) (fun h => absurd h (in_ok k 7 (by omega) (by decide))) (fun _ => ?_)
  refine lv_iload_n hx hb dX7_fail_17 rfl (lv_at hl 3 rfl) ?_
  refine lv_iconst (v := 0) hx hb dX7_fail_18 (by decide) ?_
  refine lv_iconst (v := 1) hx hb dX7_fail_19 (by decide) ?_
  refine r_callS X hw (ws' := mW D L s pa (nI P) 0 o4 o5 o6 o7 o8 o9 o10 o11 o12 o13 o14 o15 o16 o17 o18) (As := [.int (nI v), .int 0, .int 1]) (rest := []) lk_X7_45 (c_X7_in l D _ (nI v) 0 1) Foc.nil rfl hl.1 (Nat.le_of_ble_eq_true rfl) ⟨Nat.le_of_ble_eq_true rfl, Nat.le_of_ble_eq_true rfl⟩ rfl dX7_fail_20 ⟨Nat.le_refl _, Nat.le_refl _⟩ (fun H locs hw => ?_)
  refine lv_if_ne (tgt := 29) hx hb dX7_fail_23 (by decide) (fun _ => ?_) (fun h => absurd h (in_ok v 1 (by omega) (by decide)))
  refine lv_aload_n hx hb dX7_fail_29 rfl (lv_at hl 0 rfl) ?_
  refine r_get X hw (v := .ref (L 1)) fl_X7_7 (m_at 0 rfl) rfl dX7_fail_30 ?_
  refine lv_bipush (v := 7) hx hb dX7_fail_33 (by decide) ?_
  refine lv_iload_n hx hb dX7_fail_35 rfl (lv_at hl 1 rfl) ?_
  refine r_addN hx hb 7 r rfl rfl dX7_fail_36 ?_
  refine r_iald X hw (f := s) (7 + r) (m_at 1 rfl) rfl (by omega) (by decide) dX7_fail_37 ?_
  refine lv_iload_n hx hb dX7_fail_38 rfl (lv_at hl 2 rfl) ?_
  refine lv_ishr hx hb dX7_fail_39 ?_
  refine lv_iconst (v := 1) hx hb dX7_fail_40 (by decide) ?_
  refine lv_iand hx hb dX7_fail_41 ?_
  refine lv_iconst (v := 1) hx hb dX7_fail_42 (by decide) ?_
  refine lv_icmp_ne (tgt := 49) hx hb dX7_fail_43 (by decide) (fun _ => ?_) (fun h => absurd h hc)
  refine lv_aload_n hx hb dX7_fail_49 rfl (lv_at hl 0 rfl) ?_
  refine r_callVv X hw (ws' := mW D L s ((pushR s pa P).1) (nI (pushR s pa P).2) 0 o4 o5 o6 o7 o8 o9 o10 o11 o12 o13 o14 o15 o16 o17 o18) (As := []) (rest := []) lk_X7_107 (c_X7_changes0 l D _ L s pa P 0 o4 o5 o6 o7 o8 o9 o10 o11 o12 o13 o14 o15 o16 o17 o18 (by omega)) Foc.all (m_at 0 rfl) rfl hl.1 (Nat.le_of_ble_eq_true rfl) ⟨Nat.le_of_ble_eq_true rfl, Nat.le_of_ble_eq_true rfl⟩ rfl dX7_fail_50 ⟨Nat.le_refl _, Nat.le_refl _⟩ (fun H locs hw => ?_)
  refine lv_aload_n hx hb dX7_fail_53 rfl (lv_at hl 0 rfl) ?_
  refine r_get X hw (v := .ref (L 1)) fl_X7_7 (m_at 0 rfl) rfl dX7_fail_54 ?_
  refine lv_bipush (v := 7) hx hb dX7_fail_57 (by decide) ?_
  refine lv_iload_n hx hb dX7_fail_59 rfl (lv_at hl 1 rfl) ?_
  refine r_addN hx hb 7 r rfl rfl dX7_fail_60 ?_
  refine lv_dup2_11 hx hb dX7_fail_61 rfl rfl ?_
  refine r_iald X hw (f := s) (7 + r) (m_at 1 rfl) rfl (by omega) (by decide) dX7_fail_62 ?_
  refine lv_iconst (v := 1) hx hb dX7_fail_63 (by decide) ?_
  refine lv_iload_n hx hb dX7_fail_64 rfl (lv_at hl 2 rfl) ?_
  refine lv_ishl hx hb dX7_fail_65 ?_
  refine lv_iadd hx hb dX7_fail_66 ?_
  refine r_iast X hw (ws' := mW D L (upd s (7 + r) ((s (7 + r)) + ((1 : Int32) <<< ((nI k) &&& 31)))) ((pushR s pa P).1) (nI (pushR s pa P).2) 0 o4 o5 o6 o7 o8 o9 o10 o11 o12 o13 o14 o15 o16 o17 o18) (7 + r) rfl (by omega) (by decide) (Foc.cell 1 rfl rfl (ce rfl (ce rfl (ce rfl (ce rfl (ce rfl (ce rfl (ce rfl (ce rfl (ce rfl rfl)))))))))) dX7_fail_67 (fun H locs hw => ?_)
  refine lv_aload_n hx hb dX7_fail_68 rfl (lv_at hl 0 rfl) ?_
  refine r_get X hw (v := .ref (L 1)) fl_X7_7 (m_at 0 rfl) rfl dX7_fail_69 ?_
  refine lv_bipush (v := 14) hx hb dX7_fail_72 (by decide) ?_
  refine lv_iload_n hx hb dX7_fail_74 rfl (lv_at hl 1 rfl) ?_
  refine r_addN hx hb 14 r rfl rfl dX7_fail_75 ?_
  refine lv_aload_n hx hb dX7_fail_76 rfl (lv_at hl 0 rfl) ?_
  refine r_get X hw (v := .ref (L 1)) fl_X7_7 (m_at 0 rfl) rfl dX7_fail_77 ?_
  refine lv_bipush (v := 14) hx hb dX7_fail_80 (by decide) ?_
  refine lv_iload_n hx hb dX7_fail_82 rfl (lv_at hl 1 rfl) ?_
  refine r_addN hx hb 14 r rfl rfl dX7_fail_83 ?_
  refine r_iald X hw (f := upd s (7 + r) ((s (7 + r)) + ((1 : Int32) <<< ((nI k) &&& 31)))) (14 + r) (m_at 1 rfl) rfl (by omega) (by decide) dX7_fail_84 ?_
  refine lv_sipush (v := 255) hx hb dX7_fail_85 (by decide) ?_
  refine lv_iconst (v := 1) hx hb dX7_fail_88 (by decide) ?_
  refine lv_iload_n hx hb dX7_fail_89 rfl (lv_at hl 2 rfl) ?_
  refine lv_ishl hx hb dX7_fail_90 ?_
  refine lv_isub hx hb dX7_fail_91 ?_
  refine lv_iand hx hb dX7_fail_92 ?_
  refine lv_iload_n hx hb dX7_fail_93 rfl (lv_at hl 3 rfl) ?_
  refine lv_iload_n hx hb dX7_fail_94 rfl (lv_at hl 2 rfl) ?_
  refine lv_ishl hx hb dX7_fail_95 ?_
  refine lv_ior hx hb dX7_fail_96 ?_
  refine r_iast X hw (ws' := mW D L (upd (upd s (7 + r) ((s (7 + r)) + ((1 : Int32) <<< ((nI k) &&& 31)))) (14 + r) ((((upd s (7 + r) ((s (7 + r)) + ((1 : Int32) <<< ((nI k) &&& 31)))) (14 + r)) &&& (255 - ((1 : Int32) <<< ((nI k) &&& 31)))) ||| ((nI v) <<< ((nI k) &&& 31)))) ((pushR s pa P).1) (nI (pushR s pa P).2) 0 o4 o5 o6 o7 o8 o9 o10 o11 o12 o13 o14 o15 o16 o17 o18) (14 + r) rfl (by omega) (by decide) (Foc.cell 1 rfl rfl (ce rfl (ce rfl (ce rfl (ce rfl (ce rfl (ce rfl (ce rfl (ce rfl (ce rfl rfl)))))))))) dX7_fail_97 (fun H locs hw => ?_)
  refine lv_aload_n hx hb dX7_fail_98 rfl (lv_at hl 0 rfl) ?_
  refine lv_iload_n hx hb dX7_fail_99 rfl (lv_at hl 1 rfl) ?_
  refine lv_aload_n hx hb dX7_fail_100 rfl (lv_at hl 0 rfl) ?_
  refine r_get X hw (v := .ref (L 1)) fl_X7_7 (m_at 0 rfl) rfl dX7_fail_101 ?_
  refine lv_iconst (v := 0) hx hb dX7_fail_104 (by decide) ?_
  refine lv_iload_n hx hb dX7_fail_105 rfl (lv_at hl 1 rfl) ?_
  refine r_addN hx hb 0 r rfl rfl dX7_fail_106 ?_
  refine r_iald X hw (f := upd (upd s (7 + r) ((s (7 + r)) + ((1 : Int32) <<< ((nI k) &&& 31)))) (14 + r) ((((upd s (7 + r) ((s (7 + r)) + ((1 : Int32) <<< ((nI k) &&& 31)))) (14 + r)) &&& (255 - ((1 : Int32) <<< ((nI k) &&& 31)))) ||| ((nI v) <<< ((nI k) &&& 31)))) (0 + r) (m_at 1 rfl) rfl (by omega) (by decide) dX7_fail_107 ?_
  refine r_callVv X hw (ws' := mW D L (sp_X7_puts (upd (upd s (7 + r) ((s (7 + r)) + ((1 : Int32) <<< ((nI k) &&& 31)))) (14 + r) ((((upd s (7 + r) ((s (7 + r)) + ((1 : Int32) <<< ((nI k) &&& 31)))) (14 + r)) &&& (255 - ((1 : Int32) <<< ((nI k) &&& 31)))) ||| ((nI v) <<< ((nI k) &&& 31)))) r ((upd (upd s (7 + r) ((s (7 + r)) + ((1 : Int32) <<< ((nI k) &&& 31)))) (14 + r) ((((upd s (7 + r) ((s (7 + r)) + ((1 : Int32) <<< ((nI k) &&& 31)))) (14 + r)) &&& (255 - ((1 : Int32) <<< ((nI k) &&& 31)))) ||| ((nI v) <<< ((nI k) &&& 31)))) (0 + r))) ((pushR s pa P).1) (nI (pushR s pa P).2) 0 o4 o5 o6 o7 o8 o9 o10 o11 o12 o13 o14 o15 o16 o17 o18) (As := [.int (nI r), .int ((upd (upd s (7 + r) ((s (7 + r)) + ((1 : Int32) <<< ((nI k) &&& 31)))) (14 + r) ((((upd s (7 + r) ((s (7 + r)) + ((1 : Int32) <<< ((nI k) &&& 31)))) (14 + r)) &&& (255 - ((1 : Int32) <<< ((nI k) &&& 31)))) ||| ((nI v) <<< ((nI k) &&& 31)))) (0 + r))]) (rest := []) lk_X7_84 (c_X7_puts l D _ L (upd (upd s (7 + r) ((s (7 + r)) + ((1 : Int32) <<< ((nI k) &&& 31)))) (14 + r) ((((upd s (7 + r) ((s (7 + r)) + ((1 : Int32) <<< ((nI k) &&& 31)))) (14 + r)) &&& (255 - ((1 : Int32) <<< ((nI k) &&& 31)))) ||| ((nI v) <<< ((nI k) &&& 31)))) ((pushR s pa P).1) (nI (pushR s pa P).2) 0 o4 o5 o6 o7 o8 o9 o10 o11 o12 o13 o14 o15 o16 o17 o18 r ((upd (upd s (7 + r) ((s (7 + r)) + ((1 : Int32) <<< ((nI k) &&& 31)))) (14 + r) ((((upd s (7 + r) ((s (7 + r)) + ((1 : Int32) <<< ((nI k) &&& 31)))) (14 + r)) &&& (255 - ((1 : Int32) <<< ((nI k) &&& 31)))) ||| ((nI v) <<< ((nI k) &&& 31)))) (0 + r)) (by omega)) Foc.all (m_at 0 rfl) rfl hl.1 (Nat.le_of_ble_eq_true rfl) ⟨Nat.le_of_ble_eq_true rfl, Nat.le_of_ble_eq_true rfl⟩ rfl dX7_fail_108 ⟨Nat.le_refl _, Nat.le_refl _⟩ (fun H locs hw => ?_)
  refine lv_aload_n hx hb dX7_fail_111 rfl (lv_at hl 0 rfl) ?_
  refine r_get X hw (v := .ref (L 1)) fl_X7_7 (m_at 0 rfl) rfl dX7_fail_112 ?_
  refine lv_iconst (v := 0) hx hb dX7_fail_115 (by decide) ?_
  refine lv_iload_n hx hb dX7_fail_116 rfl (lv_at hl 1 rfl) ?_
  refine r_addN hx hb 0 r rfl rfl dX7_fail_117 ?_
  refine r_iald X hw (f := sp_X7_puts (upd (upd s (7 + r) ((s (7 + r)) + ((1 : Int32) <<< ((nI k) &&& 31)))) (14 + r) ((((upd s (7 + r) ((s (7 + r)) + ((1 : Int32) <<< ((nI k) &&& 31)))) (14 + r)) &&& (255 - ((1 : Int32) <<< ((nI k) &&& 31)))) ||| ((nI v) <<< ((nI k) &&& 31)))) r ((upd (upd s (7 + r) ((s (7 + r)) + ((1 : Int32) <<< ((nI k) &&& 31)))) (14 + r) ((((upd s (7 + r) ((s (7 + r)) + ((1 : Int32) <<< ((nI k) &&& 31)))) (14 + r)) &&& (255 - ((1 : Int32) <<< ((nI k) &&& 31)))) ||| ((nI v) <<< ((nI k) &&& 31)))) (0 + r))) (0 + r) (m_at 1 rfl) rfl (by omega) (by decide) dX7_fail_118 ?_
  exact r_ret X hw hk hret rfl (rfl) (rfl) dX7_fail_119

set_option maxRecDepth 100000 in
set_option maxHeartbeats 4000000 in
theorem c_X7_fail_np (l : Launch) (D : va_G) (sz : Nat) (L : Nat → Nat) (s : Row) (o1 : Row) (o2 : Int32) (o3 : Int32) (o4 : Row) (o5 : Row) (o6 : Row) (o7 : Int32) (o8 : Row) (o9 : Int32) (o10 : Row) (o11 : Int32) (o12 : Int32) (o13 : Int32) (o14 : Int32) (o15 : Int32) (o16 : Int32) (o17 : Row) (o18 : Row) (r k v : Nat) (hr : r < 7) (hk : k < 8) (hv : v < 2) (hc : (s (7 + r) >>> (nI k &&& 31)) &&& 1 = 1) : MI l yX7_fail cX7_fail 4 (some .int) 2 42 D sz [.ref (L 0), .int (nI r), .int (nI k), .int (nI v)] (mW D L s o1 o2 o3 o4 o5 o6 o7 o8 o9 o10 o11 o12 o13 o14 o15 o16 o17 o18) (-1000002) (mW D L s o1 o2 o3 o4 o5 o6 o7 o8 o9 o10 o11 o12 o13 o14 o15 o16 o17 o18) := by
  refine r_enterI (by decide) (Nat.le_of_ble_eq_true rfl) ?_
  intro p e st m args below meth c ls A X hret hk hw hl
  have X : CX D p m c cX7_fail 4 st args RX7 A := X
  have hx := X.1.1
  have hb := X.1.2.1
  have hown := X.1.2.2.2.1
  have hts := X.1.2.2.2.2
  have hl : lv_has ls 4 [(0, .ref (L 0)), (1, .int (nI r)), (2, .int (nI k)), (3, .int (nI v))] := hl
  refine lv_iload_n hx hb dX7_fail_0 rfl (lv_at hl 1 rfl) ?_
  refine r_callS X hw (ws' := mW D L s o1 o2 o3 o4 o5 o6 o7 o8 o9 o10 o11 o12 o13 o14 o15 o16 o17 o18) (As := [.int (nI r)]) (rest := []) lk_X7_103 (c_X7_isRegister l D _ (nI r)) Foc.nil rfl hl.1 (Nat.le_of_ble_eq_true rfl) ⟨Nat.le_of_ble_eq_true rfl, Nat.le_of_ble_eq_true rfl⟩ rfl dX7_fail_1 ⟨Nat.le_refl _, Nat.le_refl _⟩ (fun H locs hw => ?_)
  refine lv_if_eq (tgt := 26) hx hb dX7_fail_4 (by decide) (fun h => absurd h (isReg_ok (by omega))) (fun _ => ?_)
  refine lv_iload_n hx hb dX7_fail_7 rfl (lv_at hl 2 rfl) ?_
  refine lv_iconst (v := 0) hx hb dX7_fail_8 (by decide) ?_
  refine lv_bipush (v := 7) hx hb dX7_fail_9 (by decide) ?_
  refine r_callS X hw (ws' := mW D L s o1 o2 o3 o4 o5 o6 o7 o8 o9 o10 o11 o12 o13 o14 o15 o16 o17 o18) (As := [.int (nI k), .int 0, .int 7]) (rest := []) lk_X7_45 (c_X7_in l D _ (nI k) 0 7) Foc.nil rfl hl.1 (Nat.le_of_ble_eq_true rfl) ⟨Nat.le_of_ble_eq_true rfl, Nat.le_of_ble_eq_true rfl⟩ rfl dX7_fail_11 ⟨Nat.le_refl _, Nat.le_refl _⟩ (fun H locs hw => ?_)
  refine lv_if_eq (tgt := 26) hx hb dX7_fail_14 (by decide) (fun h => absurd h (in_ok k 7 (by omega) (by decide))) (fun _ => ?_)
  refine lv_iload_n hx hb dX7_fail_17 rfl (lv_at hl 3 rfl) ?_
  refine lv_iconst (v := 0) hx hb dX7_fail_18 (by decide) ?_
  refine lv_iconst (v := 1) hx hb dX7_fail_19 (by decide) ?_
  refine r_callS X hw (ws' := mW D L s o1 o2 o3 o4 o5 o6 o7 o8 o9 o10 o11 o12 o13 o14 o15 o16 o17 o18) (As := [.int (nI v), .int 0, .int 1]) (rest := []) lk_X7_45 (c_X7_in l D _ (nI v) 0 1) Foc.nil rfl hl.1 (Nat.le_of_ble_eq_true rfl) ⟨Nat.le_of_ble_eq_true rfl, Nat.le_of_ble_eq_true rfl⟩ rfl dX7_fail_20 ⟨Nat.le_refl _, Nat.le_refl _⟩ (fun H locs hw => ?_)
  refine lv_if_ne (tgt := 29) hx hb dX7_fail_23 (by decide) (fun _ => ?_) (fun h => absurd h (in_ok v 1 (by omega) (by decide)))
  refine lv_aload_n hx hb dX7_fail_29 rfl (lv_at hl 0 rfl) ?_
  refine r_get X hw (v := .ref (L 1)) fl_X7_7 (m_at 0 rfl) rfl dX7_fail_30 ?_
  refine lv_bipush (v := 7) hx hb dX7_fail_33 (by decide) ?_
  refine lv_iload_n hx hb dX7_fail_35 rfl (lv_at hl 1 rfl) ?_
  refine r_addN hx hb 7 r rfl rfl dX7_fail_36 ?_
  refine r_iald X hw (f := s) (7 + r) (m_at 1 rfl) rfl (by omega) (by decide) dX7_fail_37 ?_
  refine lv_iload_n hx hb dX7_fail_38 rfl (lv_at hl 2 rfl) ?_
  refine lv_ishr hx hb dX7_fail_39 ?_
  refine lv_iconst (v := 1) hx hb dX7_fail_40 (by decide) ?_
  refine lv_iand hx hb dX7_fail_41 ?_
  refine lv_iconst (v := 1) hx hb dX7_fail_42 (by decide) ?_
  refine lv_icmp_ne (tgt := 49) hx hb dX7_fail_43 (by decide) (fun h => absurd hc h) (fun _ => ?_)
  refine lv_ldc (v := (-1000002)) hx hb hown (hts _ kc_X7_146) dX7_fail_46 ?_
  exact r_ret X hw hk hret rfl rfl rfl dX7_fail_48

set_option maxRecDepth 100000 in
set_option maxHeartbeats 4000000 in
theorem c_X7_fail_bad (l : Launch) (D : va_G) (sz : Nat) (L : Nat → Nat) (o0 : Row) (o1 : Row) (o2 : Int32) (o3 : Int32) (o4 : Row) (o5 : Row) (o6 : Row) (o7 : Int32) (o8 : Row) (o9 : Int32) (o10 : Row) (o11 : Int32) (o12 : Int32) (o13 : Int32) (o14 : Int32) (o15 : Int32) (o16 : Int32) (o17 : Row) (o18 : Row) (a1 a2 a3 : Int32) (hbad : ¬ ((¬ sp_X7_isRegister a1 = 0) ∧ (¬ sp_X7_in a2 0 7 = 0) ∧ ¬ sp_X7_in a3 0 1 = 0)) : MI l yX7_fail cX7_fail 4 (some .int) 2 42 D sz [.ref (L 0), .int a1, .int a2, .int a3] (mW D L o0 o1 o2 o3 o4 o5 o6 o7 o8 o9 o10 o11 o12 o13 o14 o15 o16 o17 o18) (-1000001) (mW D L o0 o1 o2 o3 o4 o5 o6 o7 o8 o9 o10 o11 o12 o13 o14 o15 o16 o17 o18) := by
  refine r_enterI (by decide) (Nat.le_of_ble_eq_true rfl) ?_
  intro p e st m args below meth c ls A X hret hk hw hl
  have X : CX D p m c cX7_fail 4 st args RX7 A := X
  have hx := X.1.1
  have hb := X.1.2.1
  have hown := X.1.2.2.2.1
  have hts := X.1.2.2.2.2
  have hl : lv_has ls 4 [(0, .ref (L 0)), (1, .int a1), (2, .int a2), (3, .int a3)] := hl
  refine lv_iload_n hx hb dX7_fail_0 rfl (lv_at hl 1 rfl) ?_
  refine r_callS X hw (ws' := mW D L o0 o1 o2 o3 o4 o5 o6 o7 o8 o9 o10 o11 o12 o13 o14 o15 o16 o17 o18) (As := [.int a1]) (rest := []) lk_X7_103 (c_X7_isRegister l D _ a1) Foc.nil rfl hl.1 (Nat.le_of_ble_eq_true rfl) ⟨Nat.le_of_ble_eq_true rfl, Nat.le_of_ble_eq_true rfl⟩ rfl dX7_fail_1 ⟨Nat.le_refl _, Nat.le_refl _⟩ (fun H locs hw => ?_)
  refine lv_if_eq (tgt := 26) hx hb dX7_fail_4 (by decide) (fun c1 => ?_) (fun c1 => ?_)
  · skip
    refine lv_ldc (v := (-1000001)) hx hb hown (hts _ kc_X7_106) dX7_fail_26 ?_
    exact r_ret X hw hk hret rfl rfl rfl dX7_fail_28
  · skip
    refine lv_iload_n hx hb dX7_fail_7 rfl (lv_at hl 2 rfl) ?_
    refine lv_iconst (v := 0) hx hb dX7_fail_8 (by decide) ?_
    refine lv_bipush (v := 7) hx hb dX7_fail_9 (by decide) ?_
    refine r_callS X hw (ws' := mW D L o0 o1 o2 o3 o4 o5 o6 o7 o8 o9 o10 o11 o12 o13 o14 o15 o16 o17 o18) (As := [.int a2, .int 0, .int 7]) (rest := []) lk_X7_45 (c_X7_in l D _ a2 0 7) Foc.nil rfl hl.1 (Nat.le_of_ble_eq_true rfl) ⟨Nat.le_of_ble_eq_true rfl, Nat.le_of_ble_eq_true rfl⟩ rfl dX7_fail_11 ⟨Nat.le_refl _, Nat.le_refl _⟩ (fun H locs hw => ?_)
    refine lv_if_eq (tgt := 26) hx hb dX7_fail_14 (by decide) (fun c2 => ?_) (fun c2 => ?_)
    · skip
      refine lv_ldc (v := (-1000001)) hx hb hown (hts _ kc_X7_106) dX7_fail_26 ?_
      exact r_ret X hw hk hret rfl rfl rfl dX7_fail_28
    · skip
      refine lv_iload_n hx hb dX7_fail_17 rfl (lv_at hl 3 rfl) ?_
      refine lv_iconst (v := 0) hx hb dX7_fail_18 (by decide) ?_
      refine lv_iconst (v := 1) hx hb dX7_fail_19 (by decide) ?_
      refine r_callS X hw (ws' := mW D L o0 o1 o2 o3 o4 o5 o6 o7 o8 o9 o10 o11 o12 o13 o14 o15 o16 o17 o18) (As := [.int a3, .int 0, .int 1]) (rest := []) lk_X7_45 (c_X7_in l D _ a3 0 1) Foc.nil rfl hl.1 (Nat.le_of_ble_eq_true rfl) ⟨Nat.le_of_ble_eq_true rfl, Nat.le_of_ble_eq_true rfl⟩ rfl dX7_fail_20 ⟨Nat.le_refl _, Nat.le_refl _⟩ (fun H locs hw => ?_)
      refine lv_if_ne (tgt := 29) hx hb dX7_fail_23 (by decide) (fun c3 => ?_) (fun c3 => ?_)
      · skip
        exact absurd ⟨c1, c2, c3⟩ hbad
      · skip
        refine lv_ldc (v := (-1000001)) hx hb hown (hts _ kc_X7_106) dX7_fail_26 ?_
        exact r_ret X hw hk hret rfl rfl rfl dX7_fail_28

noncomputable def sp_X7_heal (s : Row) (r : Nat) (k : Nat) : Int32 × Row := (failN (upd s (7 + r) ((s (7 + r)) - ((1 : Int32) <<< ((nI k) &&& 31)))) 7, upd s (7 + r) ((s (7 + r)) - ((1 : Int32) <<< ((nI k) &&& 31))))
set_option maxRecDepth 100000 in
set_option maxHeartbeats 4000000 in
theorem c_X7_heal_0 (l : Launch) (D : va_G) (sz : Nat) (L : Nat → Nat) (s pa : Row) (P : Nat) (o4 : Row) (o5 : Row) (o6 : Row) (o7 : Int32) (o8 : Row) (o9 : Int32) (o10 : Row) (o11 : Int32) (o12 : Int32) (o13 : Int32) (o14 : Int32) (o15 : Int32) (o16 : Int32) (o17 : Row) (o18 : Row) (r : Nat) (k : Nat) (hr : r < 7) (hk : k < 8) (hP : P ≤ 4) (hc : ¬ (s (7 + r) >>> (nI k &&& 31)) &&& 1 = 0) (hbad : byteR (upd s (7 + r) (s (7 + r) - (1 : Int32) <<< (nI k &&& 31))) 7) : MI l yX7_heal cX7_heal 3 (some .int) 2 44 D sz [.ref (L 0), .int (nI r), .int (nI k)] (mW D L s pa (nI P) 0 o4 o5 o6 o7 o8 o9 o10 o11 o12 o13 o14 o15 o16 o17 o18) ((sp_X7_heal s r k).1) (mW D L ((sp_X7_heal s r k).2) ((pushR s pa P).1) (nI (pushR s pa P).2) 0 o4 o5 o6 o7 o8 o9 o10 o11 o12 o13 o14 o15 o16 o17 o18) := by
  refine r_enterI (by decide) (Nat.le_of_ble_eq_true rfl) ?_
  intro p e st m args below meth c ls A X hret hk hw hl
  have X : CX D p m c cX7_heal 3 st args RX7 A := X
  have hx := X.1.1
  have hb := X.1.2.1
  have hown := X.1.2.2.2.1
  have hts := X.1.2.2.2.2
  have hl : lv_has ls 3 [(0, .ref (L 0)), (1, .int (nI r)), (2, .int (nI k))] := hl
  refine lv_iload_n hx hb dX7_heal_0 rfl (lv_at hl 1 rfl) ?_
  refine r_callS X hw (ws' := mW D L s pa (nI P) 0 o4 o5 o6 o7 o8 o9 o10 o11 o12 o13 o14 o15 o16 o17 o18) (As := [.int (nI r)]) (rest := []) lk_X7_103 (c_X7_isRegister l D _ (nI r)) Foc.nil rfl hl.1 (Nat.le_of_ble_eq_true rfl) ⟨Nat.le_of_ble_eq_true rfl, Nat.le_of_ble_eq_true rfl⟩ rfl dX7_heal_1 ⟨Nat.le_refl _, Nat.le_refl _⟩ (fun H locs hw => ?_)
  refine lv_if_eq (tgt := 17) hx hb dX7_heal_4 (by decide) (fun h => absurd h (isReg_ok (by omega))) (fun _ => ?_)
  refine lv_iload_n hx hb dX7_heal_7 rfl (lv_at hl 2 rfl) ?_
  refine lv_iconst (v := 0) hx hb dX7_heal_8 (by decide) ?_
  refine lv_bipush (v := 7) hx hb dX7_heal_9 (by decide) ?_
  refine r_callS X hw (ws' := mW D L s pa (nI P) 0 o4 o5 o6 o7 o8 o9 o10 o11 o12 o13 o14 o15 o16 o17 o18) (As := [.int (nI k), .int 0, .int 7]) (rest := []) lk_X7_45 (c_X7_in l D _ (nI k) 0 7) Foc.nil rfl hl.1 (Nat.le_of_ble_eq_true rfl) ⟨Nat.le_of_ble_eq_true rfl, Nat.le_of_ble_eq_true rfl⟩ rfl dX7_heal_11 ⟨Nat.le_refl _, Nat.le_refl _⟩ (fun H locs hw => ?_)
  refine lv_if_ne (tgt := 20) hx hb dX7_heal_14 (by decide) (fun _ => ?_) (fun h => absurd h (in_ok k 7 (by omega) (by decide)))
  refine lv_aload_n hx hb dX7_heal_20 rfl (lv_at hl 0 rfl) ?_
  refine r_get X hw (v := .ref (L 1)) fl_X7_7 (m_at 0 rfl) rfl dX7_heal_21 ?_
  refine lv_bipush (v := 7) hx hb dX7_heal_24 (by decide) ?_
  refine lv_iload_n hx hb dX7_heal_26 rfl (lv_at hl 1 rfl) ?_
  refine r_addN hx hb 7 r rfl rfl dX7_heal_27 ?_
  refine r_iald X hw (f := s) (7 + r) (m_at 1 rfl) rfl (by omega) (by decide) dX7_heal_28 ?_
  refine lv_iload_n hx hb dX7_heal_29 rfl (lv_at hl 2 rfl) ?_
  refine lv_ishr hx hb dX7_heal_30 ?_
  refine lv_iconst (v := 1) hx hb dX7_heal_31 (by decide) ?_
  refine lv_iand hx hb dX7_heal_32 ?_
  refine lv_if_ne (tgt := 39) hx hb dX7_heal_33 (by decide) (fun _ => ?_) (fun h => absurd h hc)
  refine lv_aload_n hx hb dX7_heal_39 rfl (lv_at hl 0 rfl) ?_
  refine r_callVv X hw (ws' := mW D L s ((pushR s pa P).1) (nI (pushR s pa P).2) 0 o4 o5 o6 o7 o8 o9 o10 o11 o12 o13 o14 o15 o16 o17 o18) (As := []) (rest := []) lk_X7_107 (c_X7_changes0 l D _ L s pa P 0 o4 o5 o6 o7 o8 o9 o10 o11 o12 o13 o14 o15 o16 o17 o18 (by omega)) Foc.all (m_at 0 rfl) rfl hl.1 (Nat.le_of_ble_eq_true rfl) ⟨Nat.le_of_ble_eq_true rfl, Nat.le_of_ble_eq_true rfl⟩ rfl dX7_heal_40 ⟨Nat.le_refl _, Nat.le_refl _⟩ (fun H locs hw => ?_)
  refine lv_aload_n hx hb dX7_heal_43 rfl (lv_at hl 0 rfl) ?_
  refine r_get X hw (v := .ref (L 1)) fl_X7_7 (m_at 0 rfl) rfl dX7_heal_44 ?_
  refine lv_bipush (v := 7) hx hb dX7_heal_47 (by decide) ?_
  refine lv_iload_n hx hb dX7_heal_49 rfl (lv_at hl 1 rfl) ?_
  refine r_addN hx hb 7 r rfl rfl dX7_heal_50 ?_
  refine lv_dup2_11 hx hb dX7_heal_51 rfl rfl ?_
  refine r_iald X hw (f := s) (7 + r) (m_at 1 rfl) rfl (by omega) (by decide) dX7_heal_52 ?_
  refine lv_iconst (v := 1) hx hb dX7_heal_53 (by decide) ?_
  refine lv_iload_n hx hb dX7_heal_54 rfl (lv_at hl 2 rfl) ?_
  refine lv_ishl hx hb dX7_heal_55 ?_
  refine lv_isub hx hb dX7_heal_56 ?_
  refine r_iast X hw (ws' := mW D L (upd s (7 + r) ((s (7 + r)) - ((1 : Int32) <<< ((nI k) &&& 31)))) ((pushR s pa P).1) (nI (pushR s pa P).2) 0 o4 o5 o6 o7 o8 o9 o10 o11 o12 o13 o14 o15 o16 o17 o18) (7 + r) rfl (by omega) (by decide) (Foc.cell 1 rfl rfl (ce rfl (ce rfl (ce rfl (ce rfl (ce rfl (ce rfl (ce rfl (ce rfl (ce rfl rfl)))))))))) dX7_heal_57 (fun H locs hw => ?_)
  refine lv_aload_n hx hb dX7_heal_58 rfl (lv_at hl 0 rfl) ?_
  refine r_callV X hw (ws' := mW D L (upd s (7 + r) ((s (7 + r)) - ((1 : Int32) <<< ((nI k) &&& 31)))) ((pushR s pa P).1) (nI (pushR s pa P).2) 0 o4 o5 o6 o7 o8 o9 o10 o11 o12 o13 o14 o15 o16 o17 o18) (As := []) (rest := []) lk_X7_147 (c_X7_failed l D _ L (upd s (7 + r) ((s (7 + r)) - ((1 : Int32) <<< ((nI k) &&& 31)))) ((pushR s pa P).1) (nI (pushR s pa P).2) 0 o4 o5 o6 o7 o8 o9 o10 o11 o12 o13 o14 o15 o16 o17 o18 hbad) Foc.all (m_at 0 rfl) rfl hl.1 (Nat.le_of_ble_eq_true rfl) ⟨Nat.le_of_ble_eq_true rfl, Nat.le_of_ble_eq_true rfl⟩ rfl dX7_heal_59 ⟨Nat.le_refl _, Nat.le_refl _⟩ (fun H locs hw => ?_)
  exact r_ret X hw hk hret rfl (rfl) (rfl) dX7_heal_62

set_option maxRecDepth 100000 in
set_option maxHeartbeats 4000000 in
theorem c_X7_heal_np (l : Launch) (D : va_G) (sz : Nat) (L : Nat → Nat) (s : Row) (o1 : Row) (o2 : Int32) (o3 : Int32) (o4 : Row) (o5 : Row) (o6 : Row) (o7 : Int32) (o8 : Row) (o9 : Int32) (o10 : Row) (o11 : Int32) (o12 : Int32) (o13 : Int32) (o14 : Int32) (o15 : Int32) (o16 : Int32) (o17 : Row) (o18 : Row) (r k : Nat) (hr : r < 7) (hk : k < 8) (hc : (s (7 + r) >>> (nI k &&& 31)) &&& 1 = 0) : MI l yX7_heal cX7_heal 3 (some .int) 2 42 D sz [.ref (L 0), .int (nI r), .int (nI k)] (mW D L s o1 o2 o3 o4 o5 o6 o7 o8 o9 o10 o11 o12 o13 o14 o15 o16 o17 o18) (-1000002) (mW D L s o1 o2 o3 o4 o5 o6 o7 o8 o9 o10 o11 o12 o13 o14 o15 o16 o17 o18) := by
  refine r_enterI (by decide) (Nat.le_of_ble_eq_true rfl) ?_
  intro p e st m args below meth c ls A X hret hk hw hl
  have X : CX D p m c cX7_heal 3 st args RX7 A := X
  have hx := X.1.1
  have hb := X.1.2.1
  have hown := X.1.2.2.2.1
  have hts := X.1.2.2.2.2
  have hl : lv_has ls 3 [(0, .ref (L 0)), (1, .int (nI r)), (2, .int (nI k))] := hl
  refine lv_iload_n hx hb dX7_heal_0 rfl (lv_at hl 1 rfl) ?_
  refine r_callS X hw (ws' := mW D L s o1 o2 o3 o4 o5 o6 o7 o8 o9 o10 o11 o12 o13 o14 o15 o16 o17 o18) (As := [.int (nI r)]) (rest := []) lk_X7_103 (c_X7_isRegister l D _ (nI r)) Foc.nil rfl hl.1 (Nat.le_of_ble_eq_true rfl) ⟨Nat.le_of_ble_eq_true rfl, Nat.le_of_ble_eq_true rfl⟩ rfl dX7_heal_1 ⟨Nat.le_refl _, Nat.le_refl _⟩ (fun H locs hw => ?_)
  refine lv_if_eq (tgt := 17) hx hb dX7_heal_4 (by decide) (fun h => absurd h (isReg_ok (by omega))) (fun _ => ?_)
  refine lv_iload_n hx hb dX7_heal_7 rfl (lv_at hl 2 rfl) ?_
  refine lv_iconst (v := 0) hx hb dX7_heal_8 (by decide) ?_
  refine lv_bipush (v := 7) hx hb dX7_heal_9 (by decide) ?_
  refine r_callS X hw (ws' := mW D L s o1 o2 o3 o4 o5 o6 o7 o8 o9 o10 o11 o12 o13 o14 o15 o16 o17 o18) (As := [.int (nI k), .int 0, .int 7]) (rest := []) lk_X7_45 (c_X7_in l D _ (nI k) 0 7) Foc.nil rfl hl.1 (Nat.le_of_ble_eq_true rfl) ⟨Nat.le_of_ble_eq_true rfl, Nat.le_of_ble_eq_true rfl⟩ rfl dX7_heal_11 ⟨Nat.le_refl _, Nat.le_refl _⟩ (fun H locs hw => ?_)
  refine lv_if_ne (tgt := 20) hx hb dX7_heal_14 (by decide) (fun _ => ?_) (fun h => absurd h (in_ok k 7 (by omega) (by decide)))
  refine lv_aload_n hx hb dX7_heal_20 rfl (lv_at hl 0 rfl) ?_
  refine r_get X hw (v := .ref (L 1)) fl_X7_7 (m_at 0 rfl) rfl dX7_heal_21 ?_
  refine lv_bipush (v := 7) hx hb dX7_heal_24 (by decide) ?_
  refine lv_iload_n hx hb dX7_heal_26 rfl (lv_at hl 1 rfl) ?_
  refine r_addN hx hb 7 r rfl rfl dX7_heal_27 ?_
  refine r_iald X hw (f := s) (7 + r) (m_at 1 rfl) rfl (by omega) (by decide) dX7_heal_28 ?_
  refine lv_iload_n hx hb dX7_heal_29 rfl (lv_at hl 2 rfl) ?_
  refine lv_ishr hx hb dX7_heal_30 ?_
  refine lv_iconst (v := 1) hx hb dX7_heal_31 (by decide) ?_
  refine lv_iand hx hb dX7_heal_32 ?_
  refine lv_if_ne (tgt := 39) hx hb dX7_heal_33 (by decide) (fun h => absurd hc h) (fun _ => ?_)
  refine lv_ldc (v := (-1000002)) hx hb hown (hts _ kc_X7_146) dX7_heal_36 ?_
  exact r_ret X hw hk hret rfl rfl rfl dX7_heal_38

set_option maxRecDepth 100000 in
set_option maxHeartbeats 4000000 in
theorem c_X7_heal_bad (l : Launch) (D : va_G) (sz : Nat) (L : Nat → Nat) (o0 : Row) (o1 : Row) (o2 : Int32) (o3 : Int32) (o4 : Row) (o5 : Row) (o6 : Row) (o7 : Int32) (o8 : Row) (o9 : Int32) (o10 : Row) (o11 : Int32) (o12 : Int32) (o13 : Int32) (o14 : Int32) (o15 : Int32) (o16 : Int32) (o17 : Row) (o18 : Row) (a1 a2 : Int32) (hbad : ¬ ((¬ sp_X7_isRegister a1 = 0) ∧ ¬ sp_X7_in a2 0 7 = 0)) : MI l yX7_heal cX7_heal 3 (some .int) 2 42 D sz [.ref (L 0), .int a1, .int a2] (mW D L o0 o1 o2 o3 o4 o5 o6 o7 o8 o9 o10 o11 o12 o13 o14 o15 o16 o17 o18) (-1000001) (mW D L o0 o1 o2 o3 o4 o5 o6 o7 o8 o9 o10 o11 o12 o13 o14 o15 o16 o17 o18) := by
  refine r_enterI (by decide) (Nat.le_of_ble_eq_true rfl) ?_
  intro p e st m args below meth c ls A X hret hk hw hl
  have X : CX D p m c cX7_heal 3 st args RX7 A := X
  have hx := X.1.1
  have hb := X.1.2.1
  have hown := X.1.2.2.2.1
  have hts := X.1.2.2.2.2
  have hl : lv_has ls 3 [(0, .ref (L 0)), (1, .int a1), (2, .int a2)] := hl
  refine lv_iload_n hx hb dX7_heal_0 rfl (lv_at hl 1 rfl) ?_
  refine r_callS X hw (ws' := mW D L o0 o1 o2 o3 o4 o5 o6 o7 o8 o9 o10 o11 o12 o13 o14 o15 o16 o17 o18) (As := [.int a1]) (rest := []) lk_X7_103 (c_X7_isRegister l D _ a1) Foc.nil rfl hl.1 (Nat.le_of_ble_eq_true rfl) ⟨Nat.le_of_ble_eq_true rfl, Nat.le_of_ble_eq_true rfl⟩ rfl dX7_heal_1 ⟨Nat.le_refl _, Nat.le_refl _⟩ (fun H locs hw => ?_)
  refine lv_if_eq (tgt := 17) hx hb dX7_heal_4 (by decide) (fun c1 => ?_) (fun c1 => ?_)
  · skip
    refine lv_ldc (v := (-1000001)) hx hb hown (hts _ kc_X7_106) dX7_heal_17 ?_
    exact r_ret X hw hk hret rfl rfl rfl dX7_heal_19
  · skip
    refine lv_iload_n hx hb dX7_heal_7 rfl (lv_at hl 2 rfl) ?_
    refine lv_iconst (v := 0) hx hb dX7_heal_8 (by decide) ?_
    refine lv_bipush (v := 7) hx hb dX7_heal_9 (by decide) ?_
    refine r_callS X hw (ws' := mW D L o0 o1 o2 o3 o4 o5 o6 o7 o8 o9 o10 o11 o12 o13 o14 o15 o16 o17 o18) (As := [.int a2, .int 0, .int 7]) (rest := []) lk_X7_45 (c_X7_in l D _ a2 0 7) Foc.nil rfl hl.1 (Nat.le_of_ble_eq_true rfl) ⟨Nat.le_of_ble_eq_true rfl, Nat.le_of_ble_eq_true rfl⟩ rfl dX7_heal_11 ⟨Nat.le_refl _, Nat.le_refl _⟩ (fun H locs hw => ?_)
    refine lv_if_ne (tgt := 20) hx hb dX7_heal_14 (by decide) (fun c2 => ?_) (fun c2 => ?_)
    · skip
      exact absurd ⟨c1, c2⟩ hbad
    · skip
      refine lv_ldc (v := (-1000001)) hx hb hown (hts _ kc_X7_106) dX7_heal_17 ?_
      exact r_ret X hw hk hret rfl rfl rfl dX7_heal_19
