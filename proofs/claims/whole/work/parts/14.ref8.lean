/-! the public calls of the reference -/
abbrev MT4 : Type := Row × Row × Row × Int32 × MT8

noncomputable def sp_X7_write (s : Row) (r : Nat) (v : Nat) : Int32 × Row := ((upd (sp_X7_puts s r (nI v)) 34 (((sp_X7_puts s r (nI v)) 34) + 1)) (0 + r), upd (sp_X7_puts s r (nI v)) 34 (((sp_X7_puts s r (nI v)) 34) + 1))
set_option maxRecDepth 100000 in
set_option maxHeartbeats 4000000 in
theorem c_X7_write_1 (l : Launch) (D : va_G) (sz : Nat) (L : Nat → Nat) (s pa : Row) (P : Nat) (o4 : Row) (o5 : Row) (o6 : Row) (o7 : Int32) (o8 : Row) (o9 : Int32) (o10 : Row) (o11 : Int32) (o12 : Int32) (o13 : Int32) (o14 : Int32) (o15 : Int32) (o16 : Int32) (o17 : Row) (o18 : Row) (r : Nat) (v : Nat) (hr : r < 7) (hv : v < 256) (hP : P ≤ 4) : MI l yX7_write cX7_write 3 (some .int) 2 42 D sz [.ref (L 0), .int (nI r), .int (nI v)] (mW D L s pa (nI P) 1 o4 o5 o6 o7 o8 o9 o10 o11 o12 o13 o14 o15 o16 o17 o18) ((sp_X7_write s r v).1) (mW D L ((sp_X7_write s r v).2) pa (nI P) 1 o4 o5 o6 o7 o8 o9 o10 o11 o12 o13 o14 o15 o16 o17 o18) := by
  refine r_enterI (by decide) (Nat.le_of_ble_eq_true rfl) ?_
  intro p e st m args below meth c ls A X hret hk hw hl
  have X : CX D p m c cX7_write 3 st args RX7 A := X
  have hx := X.1.1
  have hb := X.1.2.1
  have hown := X.1.2.2.2.1
  have hts := X.1.2.2.2.2
  have hl : lv_has ls 3 [(0, .ref (L 0)), (1, .int (nI r)), (2, .int (nI v))] := hl
  refine lv_iload_n hx hb dX7_write_0 rfl (lv_at hl 1 rfl) ?_
  refine r_callS X hw (ws' := mW D L s pa (nI P) 1 o4 o5 o6 o7 o8 o9 o10 o11 o12 o13 o14 o15 o16 o17 o18) (As := [.int (nI r)]) (rest := []) lk_X7_103 (c_X7_isRegister l D _ (nI r)) Foc.nil rfl hl.1 (Nat.le_of_ble_eq_true rfl) ⟨Nat.le_of_ble_eq_true rfl, Nat.le_of_ble_eq_true rfl⟩ rfl dX7_write_1 ⟨Nat.le_refl _, Nat.le_refl _⟩ (fun H locs hw => ?_)
  refine lv_if_eq (tgt := 18) hx hb dX7_write_4 (by decide) (fun h => absurd h (isReg_ok (by omega))) (fun _ => ?_)
  refine lv_iload_n hx hb dX7_write_7 rfl (lv_at hl 2 rfl) ?_
  refine lv_iconst (v := 0) hx hb dX7_write_8 (by decide) ?_
  refine lv_sipush (v := 255) hx hb dX7_write_9 (by decide) ?_
  refine r_callS X hw (ws' := mW D L s pa (nI P) 1 o4 o5 o6 o7 o8 o9 o10 o11 o12 o13 o14 o15 o16 o17 o18) (As := [.int (nI v), .int 0, .int 255]) (rest := []) lk_X7_45 (c_X7_in l D _ (nI v) 0 255) Foc.nil rfl hl.1 (Nat.le_of_ble_eq_true rfl) ⟨Nat.le_of_ble_eq_true rfl, Nat.le_of_ble_eq_true rfl⟩ rfl dX7_write_12 ⟨Nat.le_refl _, Nat.le_refl _⟩ (fun H locs hw => ?_)
  refine lv_if_ne (tgt := 21) hx hb dX7_write_15 (by decide) (fun _ => ?_) (fun h => absurd h (in_ok v 255 (by omega) (by decide)))
  refine lv_aload_n hx hb dX7_write_21 rfl (lv_at hl 0 rfl) ?_
  refine r_callVv X hw (ws' := mW D L s pa (nI P) 1 o4 o5 o6 o7 o8 o9 o10 o11 o12 o13 o14 o15 o16 o17 o18) (As := []) (rest := []) lk_X7_107 (c_X7_changesR l D _ L s pa P 1 o4 o5 o6 o7 o8 o9 o10 o11 o12 o13 o14 o15 o16 o17 o18 (by omega) (by decide)) Foc.all (m_at 0 rfl) rfl hl.1 (Nat.le_of_ble_eq_true rfl) ⟨Nat.le_of_ble_eq_true rfl, Nat.le_of_ble_eq_true rfl⟩ rfl dX7_write_22 ⟨Nat.le_refl _, Nat.le_refl _⟩ (fun H locs hw => ?_)
  refine lv_aload_n hx hb dX7_write_25 rfl (lv_at hl 0 rfl) ?_
  refine lv_iload_n hx hb dX7_write_26 rfl (lv_at hl 1 rfl) ?_
  refine lv_iload_n hx hb dX7_write_27 rfl (lv_at hl 2 rfl) ?_
  refine r_callVv X hw (ws' := mW D L (sp_X7_puts s r (nI v)) pa (nI P) 1 o4 o5 o6 o7 o8 o9 o10 o11 o12 o13 o14 o15 o16 o17 o18) (As := [.int (nI r), .int (nI v)]) (rest := []) lk_X7_84 (c_X7_puts l D _ L s pa (nI P) 1 o4 o5 o6 o7 o8 o9 o10 o11 o12 o13 o14 o15 o16 o17 o18 r (nI v) (by omega)) Foc.all (m_at 0 rfl) rfl hl.1 (Nat.le_of_ble_eq_true rfl) ⟨Nat.le_of_ble_eq_true rfl, Nat.le_of_ble_eq_true rfl⟩ rfl dX7_write_28 ⟨Nat.le_refl _, Nat.le_refl _⟩ (fun H locs hw => ?_)
  refine lv_aload_n hx hb dX7_write_31 rfl (lv_at hl 0 rfl) ?_
  refine r_get X hw (v := .ref (L 1)) fl_X7_7 (m_at 0 rfl) rfl dX7_write_32 ?_
  refine lv_bipush (v := 34) hx hb dX7_write_35 (by decide) ?_
  refine lv_dup2_11 hx hb dX7_write_37 rfl rfl ?_
  refine r_iald X hw (f := sp_X7_puts s r (nI v)) 34 (m_at 1 rfl) rfl (by decide) (by decide) dX7_write_38 ?_
  refine lv_iconst (v := 1) hx hb dX7_write_39 (by decide) ?_
  refine lv_iadd hx hb dX7_write_40 ?_
  refine r_iast X hw (ws' := mW D L (upd (sp_X7_puts s r (nI v)) 34 (((sp_X7_puts s r (nI v)) 34) + 1)) pa (nI P) 1 o4 o5 o6 o7 o8 o9 o10 o11 o12 o13 o14 o15 o16 o17 o18) 34 rfl (by decide) (by decide) (Foc.cell 1 rfl rfl (ce rfl (ce rfl (ce rfl (ce rfl (ce rfl (ce rfl (ce rfl (ce rfl (ce rfl rfl)))))))))) dX7_write_41 (fun H locs hw => ?_)
  refine lv_aload_n hx hb dX7_write_42 rfl (lv_at hl 0 rfl) ?_
  refine r_get X hw (v := .ref (L 1)) fl_X7_7 (m_at 0 rfl) rfl dX7_write_43 ?_
  refine lv_iconst (v := 0) hx hb dX7_write_46 (by decide) ?_
  refine lv_iload_n hx hb dX7_write_47 rfl (lv_at hl 1 rfl) ?_
  refine r_addN hx hb 0 r rfl rfl dX7_write_48 ?_
  refine r_iald X hw (f := upd (sp_X7_puts s r (nI v)) 34 (((sp_X7_puts s r (nI v)) 34) + 1)) (0 + r) (m_at 1 rfl) rfl (by omega) (by decide) dX7_write_49 ?_
  exact r_ret X hw hk hret rfl (rfl) (rfl) dX7_write_50

set_option maxRecDepth 100000 in
set_option maxHeartbeats 4000000 in
theorem c_X7_write_0 (l : Launch) (D : va_G) (sz : Nat) (L : Nat → Nat) (s pa : Row) (P : Nat) (o4 : Row) (o5 : Row) (o6 : Row) (o7 : Int32) (o8 : Row) (o9 : Int32) (o10 : Row) (o11 : Int32) (o12 : Int32) (o13 : Int32) (o14 : Int32) (o15 : Int32) (o16 : Int32) (o17 : Row) (o18 : Row) (r : Nat) (v : Nat) (hr : r < 7) (hv : v < 256) (hP : P ≤ 4) : MI l yX7_write cX7_write 3 (some .int) 2 42 D sz [.ref (L 0), .int (nI r), .int (nI v)] (mW D L s pa (nI P) 0 o4 o5 o6 o7 o8 o9 o10 o11 o12 o13 o14 o15 o16 o17 o18) ((sp_X7_write s r v).1) (mW D L ((sp_X7_write s r v).2) ((pushR s pa P).1) (nI (pushR s pa P).2) 0 o4 o5 o6 o7 o8 o9 o10 o11 o12 o13 o14 o15 o16 o17 o18) := by
  refine r_enterI (by decide) (Nat.le_of_ble_eq_true rfl) ?_
  intro p e st m args below meth c ls A X hret hk hw hl
  have X : CX D p m c cX7_write 3 st args RX7 A := X
  have hx := X.1.1
  have hb := X.1.2.1
  have hown := X.1.2.2.2.1
  have hts := X.1.2.2.2.2
  have hl : lv_has ls 3 [(0, .ref (L 0)), (1, .int (nI r)), (2, .int (nI v))] := hl
  refine lv_iload_n hx hb dX7_write_0 rfl (lv_at hl 1 rfl) ?_
  refine r_callS X hw (ws' := mW D L s pa (nI P) 0 o4 o5 o6 o7 o8 o9 o10 o11 o12 o13 o14 o15 o16 o17 o18) (As := [.int (nI r)]) (rest := []) lk_X7_103 (c_X7_isRegister l D _ (nI r)) Foc.nil rfl hl.1 (Nat.le_of_ble_eq_true rfl) ⟨Nat.le_of_ble_eq_true rfl, Nat.le_of_ble_eq_true rfl⟩ rfl dX7_write_1 ⟨Nat.le_refl _, Nat.le_refl _⟩ (fun H locs hw => ?_)
  refine lv_if_eq (tgt := 18) hx hb dX7_write_4 (by decide) (fun h => absurd h (isReg_ok (by omega))) (fun _ => ?_)
  refine lv_iload_n hx hb dX7_write_7 rfl (lv_at hl 2 rfl) ?_
  refine lv_iconst (v := 0) hx hb dX7_write_8 (by decide) ?_
  refine lv_sipush (v := 255) hx hb dX7_write_9 (by decide) ?_
  refine r_callS X hw (ws' := mW D L s pa (nI P) 0 o4 o5 o6 o7 o8 o9 o10 o11 o12 o13 o14 o15 o16 o17 o18) (As := [.int (nI v), .int 0, .int 255]) (rest := []) lk_X7_45 (c_X7_in l D _ (nI v) 0 255) Foc.nil rfl hl.1 (Nat.le_of_ble_eq_true rfl) ⟨Nat.le_of_ble_eq_true rfl, Nat.le_of_ble_eq_true rfl⟩ rfl dX7_write_12 ⟨Nat.le_refl _, Nat.le_refl _⟩ (fun H locs hw => ?_)
  refine lv_if_ne (tgt := 21) hx hb dX7_write_15 (by decide) (fun _ => ?_) (fun h => absurd h (in_ok v 255 (by omega) (by decide)))
  refine lv_aload_n hx hb dX7_write_21 rfl (lv_at hl 0 rfl) ?_
  refine r_callVv X hw (ws' := mW D L s ((pushR s pa P).1) (nI (pushR s pa P).2) 0 o4 o5 o6 o7 o8 o9 o10 o11 o12 o13 o14 o15 o16 o17 o18) (As := []) (rest := []) lk_X7_107 (c_X7_changes0 l D _ L s pa P 0 o4 o5 o6 o7 o8 o9 o10 o11 o12 o13 o14 o15 o16 o17 o18 (by omega)) Foc.all (m_at 0 rfl) rfl hl.1 (Nat.le_of_ble_eq_true rfl) ⟨Nat.le_of_ble_eq_true rfl, Nat.le_of_ble_eq_true rfl⟩ rfl dX7_write_22 ⟨Nat.le_refl _, Nat.le_refl _⟩ (fun H locs hw => ?_)
  refine lv_aload_n hx hb dX7_write_25 rfl (lv_at hl 0 rfl) ?_
  refine lv_iload_n hx hb dX7_write_26 rfl (lv_at hl 1 rfl) ?_
  refine lv_iload_n hx hb dX7_write_27 rfl (lv_at hl 2 rfl) ?_
  refine r_callVv X hw (ws' := mW D L (sp_X7_puts s r (nI v)) ((pushR s pa P).1) (nI (pushR s pa P).2) 0 o4 o5 o6 o7 o8 o9 o10 o11 o12 o13 o14 o15 o16 o17 o18) (As := [.int (nI r), .int (nI v)]) (rest := []) lk_X7_84 (c_X7_puts l D _ L s ((pushR s pa P).1) (nI (pushR s pa P).2) 0 o4 o5 o6 o7 o8 o9 o10 o11 o12 o13 o14 o15 o16 o17 o18 r (nI v) (by omega)) Foc.all (m_at 0 rfl) rfl hl.1 (Nat.le_of_ble_eq_true rfl) ⟨Nat.le_of_ble_eq_true rfl, Nat.le_of_ble_eq_true rfl⟩ rfl dX7_write_28 ⟨Nat.le_refl _, Nat.le_refl _⟩ (fun H locs hw => ?_)
  refine lv_aload_n hx hb dX7_write_31 rfl (lv_at hl 0 rfl) ?_
  refine r_get X hw (v := .ref (L 1)) fl_X7_7 (m_at 0 rfl) rfl dX7_write_32 ?_
  refine lv_bipush (v := 34) hx hb dX7_write_35 (by decide) ?_
  refine lv_dup2_11 hx hb dX7_write_37 rfl rfl ?_
  refine r_iald X hw (f := sp_X7_puts s r (nI v)) 34 (m_at 1 rfl) rfl (by decide) (by decide) dX7_write_38 ?_
  refine lv_iconst (v := 1) hx hb dX7_write_39 (by decide) ?_
  refine lv_iadd hx hb dX7_write_40 ?_
  refine r_iast X hw (ws' := mW D L (upd (sp_X7_puts s r (nI v)) 34 (((sp_X7_puts s r (nI v)) 34) + 1)) ((pushR s pa P).1) (nI (pushR s pa P).2) 0 o4 o5 o6 o7 o8 o9 o10 o11 o12 o13 o14 o15 o16 o17 o18) 34 rfl (by decide) (by decide) (Foc.cell 1 rfl rfl (ce rfl (ce rfl (ce rfl (ce rfl (ce rfl (ce rfl (ce rfl (ce rfl (ce rfl rfl)))))))))) dX7_write_41 (fun H locs hw => ?_)
  refine lv_aload_n hx hb dX7_write_42 rfl (lv_at hl 0 rfl) ?_
  refine r_get X hw (v := .ref (L 1)) fl_X7_7 (m_at 0 rfl) rfl dX7_write_43 ?_
  refine lv_iconst (v := 0) hx hb dX7_write_46 (by decide) ?_
  refine lv_iload_n hx hb dX7_write_47 rfl (lv_at hl 1 rfl) ?_
  refine r_addN hx hb 0 r rfl rfl dX7_write_48 ?_
  refine r_iald X hw (f := upd (sp_X7_puts s r (nI v)) 34 (((sp_X7_puts s r (nI v)) 34) + 1)) (0 + r) (m_at 1 rfl) rfl (by omega) (by decide) dX7_write_49 ?_
  exact r_ret X hw hk hret rfl (rfl) (rfl) dX7_write_50

set_option maxRecDepth 100000 in
set_option maxHeartbeats 4000000 in
theorem c_X7_write_bad (l : Launch) (D : va_G) (sz : Nat) (L : Nat → Nat) (o0 : Row) (o1 : Row) (o2 : Int32) (o3 : Int32) (o4 : Row) (o5 : Row) (o6 : Row) (o7 : Int32) (o8 : Row) (o9 : Int32) (o10 : Row) (o11 : Int32) (o12 : Int32) (o13 : Int32) (o14 : Int32) (o15 : Int32) (o16 : Int32) (o17 : Row) (o18 : Row) (a1 a2 : Int32) (hbad : ¬ ((¬ sp_X7_isRegister a1 = 0) ∧ ¬ sp_X7_in a2 0 255 = 0)) : MI l yX7_write cX7_write 3 (some .int) 2 42 D sz [.ref (L 0), .int a1, .int a2] (mW D L o0 o1 o2 o3 o4 o5 o6 o7 o8 o9 o10 o11 o12 o13 o14 o15 o16 o17 o18) (-1000001) (mW D L o0 o1 o2 o3 o4 o5 o6 o7 o8 o9 o10 o11 o12 o13 o14 o15 o16 o17 o18) := by
  refine r_enterI (by decide) (Nat.le_of_ble_eq_true rfl) ?_
  intro p e st m args below meth c ls A X hret hk hw hl
  have X : CX D p m c cX7_write 3 st args RX7 A := X
  have hx := X.1.1
  have hb := X.1.2.1
  have hown := X.1.2.2.2.1
  have hts := X.1.2.2.2.2
  have hl : lv_has ls 3 [(0, .ref (L 0)), (1, .int a1), (2, .int a2)] := hl
  refine lv_iload_n hx hb dX7_write_0 rfl (lv_at hl 1 rfl) ?_
  refine r_callS X hw (ws' := mW D L o0 o1 o2 o3 o4 o5 o6 o7 o8 o9 o10 o11 o12 o13 o14 o15 o16 o17 o18) (As := [.int a1]) (rest := []) lk_X7_103 (c_X7_isRegister l D _ a1) Foc.nil rfl hl.1 (Nat.le_of_ble_eq_true rfl) ⟨Nat.le_of_ble_eq_true rfl, Nat.le_of_ble_eq_true rfl⟩ rfl dX7_write_1 ⟨Nat.le_refl _, Nat.le_refl _⟩ (fun H locs hw => ?_)
  refine lv_if_eq (tgt := 18) hx hb dX7_write_4 (by decide) (fun c1 => ?_) (fun c1 => ?_)
  · skip
    refine lv_ldc (v := (-1000001)) hx hb hown (hts _ kc_X7_106) dX7_write_18 ?_
    exact r_ret X hw hk hret rfl rfl rfl dX7_write_20
  · skip
    refine lv_iload_n hx hb dX7_write_7 rfl (lv_at hl 2 rfl) ?_
    refine lv_iconst (v := 0) hx hb dX7_write_8 (by decide) ?_
    refine lv_sipush (v := 255) hx hb dX7_write_9 (by decide) ?_
    refine r_callS X hw (ws' := mW D L o0 o1 o2 o3 o4 o5 o6 o7 o8 o9 o10 o11 o12 o13 o14 o15 o16 o17 o18) (As := [.int a2, .int 0, .int 255]) (rest := []) lk_X7_45 (c_X7_in l D _ a2 0 255) Foc.nil rfl hl.1 (Nat.le_of_ble_eq_true rfl) ⟨Nat.le_of_ble_eq_true rfl, Nat.le_of_ble_eq_true rfl⟩ rfl dX7_write_12 ⟨Nat.le_refl _, Nat.le_refl _⟩ (fun H locs hw => ?_)
    refine lv_if_ne (tgt := 21) hx hb dX7_write_15 (by decide) (fun c2 => ?_) (fun c2 => ?_)
    · skip
      exact absurd ⟨c1, c2⟩ hbad
    · skip
      refine lv_ldc (v := (-1000001)) hx hb hown (hts _ kc_X7_106) dX7_write_18 ?_
      exact r_ret X hw hk hret rfl rfl rfl dX7_write_20

noncomputable def sp_X7_read (s : Row) (r : Nat) (q : Nat) : Int32 × Row := ((upd s 33 ((s 33) + 1)) (0 + r), phF (upd s 33 ((s 33) + 1)) q)
set_option maxRecDepth 100000 in
set_option maxHeartbeats 4000000 in
theorem c_X7_read_1 (l : Launch) (D : va_G) (sz : Nat) (L : Nat → Nat) (s pa : Row) (P : Nat) (o4 : Row) (o5 : Row) (o6 : Row) (o7 : Int32) (o8 : Row) (o9 : Int32) (o10 : Row) (o11 : Int32) (o12 : Int32) (o13 : Int32) (o14 : Int32) (o15 : Int32) (o16 : Int32) (o17 : Row) (o18 : Row) (r : Nat) (hr : r < 7) (hP : P ≤ 4) (q : Nat) (hq8 : q ≤ 8) (hq : s 37 = nI q) : MI l yX7_read cX7_read 3 (some .int) 12 261 D sz [.ref (L 0), .int (nI r)] (mW D L s pa (nI P) 1 o4 o5 o6 o7 o8 o9 o10 o11 o12 o13 o14 o15 o16 o17 o18) ((sp_X7_read s r q).1) (mW D L ((sp_X7_read s r q).2) pa (nI P) 1 o4 o5 o6 o7 o8 o9 o10 o11 o12 o13 o14 o15 o16 o17 o18) := by
  refine r_enterI (by decide) (Nat.le_of_ble_eq_true rfl) ?_
  intro p e st m args below meth c ls A X hret hk hw hl
  have X : CX D p m c cX7_read 3 st args RX7 A := X
  have hx := X.1.1
  have hb := X.1.2.1
  have hown := X.1.2.2.2.1
  have hts := X.1.2.2.2.2
  have hl : lv_has ls 3 [(0, .ref (L 0)), (1, .int (nI r))] := hl
  refine lv_iload_n hx hb dX7_read_0 rfl (lv_at hl 1 rfl) ?_
  refine r_callS X hw (ws' := mW D L s pa (nI P) 1 o4 o5 o6 o7 o8 o9 o10 o11 o12 o13 o14 o15 o16 o17 o18) (As := [.int (nI r)]) (rest := []) lk_X7_103 (c_X7_isRegister l D _ (nI r)) Foc.nil rfl hl.1 (Nat.le_of_ble_eq_true rfl) ⟨Nat.le_of_ble_eq_true rfl, Nat.le_of_ble_eq_true rfl⟩ rfl dX7_read_1 ⟨Nat.le_refl _, Nat.le_refl _⟩ (fun H locs hw => ?_)
  refine lv_if_ne (tgt := 10) hx hb dX7_read_4 (by decide) (fun _ => ?_) (fun h => absurd h (isReg_ok (by omega)))
  refine lv_aload_n hx hb dX7_read_10 rfl (lv_at hl 0 rfl) ?_
  refine r_callVv X hw (ws' := mW D L s pa (nI P) 1 o4 o5 o6 o7 o8 o9 o10 o11 o12 o13 o14 o15 o16 o17 o18) (As := []) (rest := []) lk_X7_107 (c_X7_changesR l D _ L s pa P 1 o4 o5 o6 o7 o8 o9 o10 o11 o12 o13 o14 o15 o16 o17 o18 (by omega) (by decide)) Foc.all (m_at 0 rfl) rfl hl.1 (Nat.le_of_ble_eq_true rfl) ⟨Nat.le_of_ble_eq_true rfl, Nat.le_of_ble_eq_true rfl⟩ rfl dX7_read_11 ⟨Nat.le_refl _, Nat.le_refl _⟩ (fun H locs hw => ?_)
  refine lv_aload_n hx hb dX7_read_14 rfl (lv_at hl 0 rfl) ?_
  refine r_get X hw (v := .ref (L 1)) fl_X7_7 (m_at 0 rfl) rfl dX7_read_15 ?_
  refine lv_bipush (v := 33) hx hb dX7_read_18 (by decide) ?_
  refine lv_dup2_11 hx hb dX7_read_20 rfl rfl ?_
  refine r_iald X hw (f := s) 33 (m_at 1 rfl) rfl (by decide) (by decide) dX7_read_21 ?_
  refine lv_iconst (v := 1) hx hb dX7_read_22 (by decide) ?_
  refine lv_iadd hx hb dX7_read_23 ?_
  refine r_iast X hw (ws' := mW D L (upd s 33 ((s 33) + 1)) pa (nI P) 1 o4 o5 o6 o7 o8 o9 o10 o11 o12 o13 o14 o15 o16 o17 o18) 33 rfl (by decide) (by decide) (Foc.cell 1 rfl rfl (ce rfl (ce rfl (ce rfl (ce rfl (ce rfl (ce rfl (ce rfl (ce rfl (ce rfl rfl)))))))))) dX7_read_24 (fun H locs hw => ?_)
  refine lv_aload_n hx hb dX7_read_25 rfl (lv_at hl 0 rfl) ?_
  refine r_get X hw (v := .ref (L 1)) fl_X7_7 (m_at 0 rfl) rfl dX7_read_26 ?_
  refine lv_iconst (v := 0) hx hb dX7_read_29 (by decide) ?_
  refine lv_iload_n hx hb dX7_read_30 rfl (lv_at hl 1 rfl) ?_
  refine r_addN hx hb 0 r rfl rfl dX7_read_31 ?_
  refine r_iald X hw (f := upd s 33 ((s 33) + 1)) (0 + r) (m_at 1 rfl) rfl (by omega) (by decide) dX7_read_32 ?_
  refine lv_istore_n (lv' := [(2, .int ((upd s 33 ((s 33) + 1)) (0 + r))), (0, .ref (L 0)), (1, .int (nI r))]) hx hb dX7_read_33 rfl hl (by decide) rfl (fun ls hl => ?_)
  refine lv_aload_n hx hb dX7_read_34 rfl (lv_at hl 1 rfl) ?_
  refine lv_aload_n hx hb dX7_read_35 rfl (lv_at hl 1 rfl) ?_
  refine r_get X hw (v := .ref (L 1)) fl_X7_7 (m_at 0 rfl) rfl dX7_read_36 ?_
  refine lv_bipush (v := 37) hx hb dX7_read_39 (by decide) ?_
  refine r_iald X hw (f := upd s 33 ((s 33) + 1)) 37 (m_at 1 rfl) rfl (by decide) (by decide) dX7_read_41 ?_
  rw [show ((upd s 33 ((s 33) + 1)) 37) = nI q from (upd_ne _ _ (by decide)).trans hq]
  refine r_callV X hw (ws' := mW D L (phF (upd s 33 ((s 33) + 1)) q) pa (nI P) 1 o4 o5 o6 o7 o8 o9 o10 o11 o12 o13 o14 o15 o16 o17 o18) (As := [.int (nI q)]) (rest := []) lk_X7_110 (c_X7_passes l D _ L (upd s 33 ((s 33) + 1)) pa (nI P) 1 o4 o5 o6 o7 o8 o9 o10 o11 o12 o13 o14 o15 o16 o17 o18 q (by omega)) Foc.all (m_at 0 rfl) rfl hl.1 (Nat.le_of_ble_eq_true rfl) ⟨Nat.le_of_ble_eq_true rfl, Nat.le_of_ble_eq_true rfl⟩ rfl dX7_read_42 ⟨Nat.le_refl _, Nat.le_refl _⟩ (fun H locs hw => ?_)
  refine lv_if_ge (tgt := 53) hx hb dX7_read_45 (by decide) (fun _ => ?_) (fun h => absurd (phN_ge (upd s 33 ((s 33) + 1)) q (by omega)) h)
  refine lv_iload_n hx hb dX7_read_53 rfl (lv_at hl 0 rfl) ?_
  exact r_ret X hw hk hret rfl (rfl) (rfl) dX7_read_54

set_option maxRecDepth 100000 in
set_option maxHeartbeats 4000000 in
theorem c_X7_read_0 (l : Launch) (D : va_G) (sz : Nat) (L : Nat → Nat) (s pa : Row) (P : Nat) (o4 : Row) (o5 : Row) (o6 : Row) (o7 : Int32) (o8 : Row) (o9 : Int32) (o10 : Row) (o11 : Int32) (o12 : Int32) (o13 : Int32) (o14 : Int32) (o15 : Int32) (o16 : Int32) (o17 : Row) (o18 : Row) (r : Nat) (hr : r < 7) (hP : P ≤ 4) (q : Nat) (hq8 : q ≤ 8) (hq : s 37 = nI q) : MI l yX7_read cX7_read 3 (some .int) 12 261 D sz [.ref (L 0), .int (nI r)] (mW D L s pa (nI P) 0 o4 o5 o6 o7 o8 o9 o10 o11 o12 o13 o14 o15 o16 o17 o18) ((sp_X7_read s r q).1) (mW D L ((sp_X7_read s r q).2) ((pushR s pa P).1) (nI (pushR s pa P).2) 0 o4 o5 o6 o7 o8 o9 o10 o11 o12 o13 o14 o15 o16 o17 o18) := by
  refine r_enterI (by decide) (Nat.le_of_ble_eq_true rfl) ?_
  intro p e st m args below meth c ls A X hret hk hw hl
  have X : CX D p m c cX7_read 3 st args RX7 A := X
  have hx := X.1.1
  have hb := X.1.2.1
  have hown := X.1.2.2.2.1
  have hts := X.1.2.2.2.2
  have hl : lv_has ls 3 [(0, .ref (L 0)), (1, .int (nI r))] := hl
  refine lv_iload_n hx hb dX7_read_0 rfl (lv_at hl 1 rfl) ?_
  refine r_callS X hw (ws' := mW D L s pa (nI P) 0 o4 o5 o6 o7 o8 o9 o10 o11 o12 o13 o14 o15 o16 o17 o18) (As := [.int (nI r)]) (rest := []) lk_X7_103 (c_X7_isRegister l D _ (nI r)) Foc.nil rfl hl.1 (Nat.le_of_ble_eq_true rfl) ⟨Nat.le_of_ble_eq_true rfl, Nat.le_of_ble_eq_true rfl⟩ rfl dX7_read_1 ⟨Nat.le_refl _, Nat.le_refl _⟩ (fun H locs hw => ?_)
  refine lv_if_ne (tgt := 10) hx hb dX7_read_4 (by decide) (fun _ => ?_) (fun h => absurd h (isReg_ok (by omega)))
  refine lv_aload_n hx hb dX7_read_10 rfl (lv_at hl 0 rfl) ?_
  refine r_callVv X hw (ws' := mW D L s ((pushR s pa P).1) (nI (pushR s pa P).2) 0 o4 o5 o6 o7 o8 o9 o10 o11 o12 o13 o14 o15 o16 o17 o18) (As := []) (rest := []) lk_X7_107 (c_X7_changes0 l D _ L s pa P 0 o4 o5 o6 o7 o8 o9 o10 o11 o12 o13 o14 o15 o16 o17 o18 (by omega)) Foc.all (m_at 0 rfl) rfl hl.1 (Nat.le_of_ble_eq_true rfl) ⟨Nat.le_of_ble_eq_true rfl, Nat.le_of_ble_eq_true rfl⟩ rfl dX7_read_11 ⟨Nat.le_refl _, Nat.le_refl _⟩ (fun H locs hw => ?_)
  refine lv_aload_n hx hb dX7_read_14 rfl (lv_at hl 0 rfl) ?_
  refine r_get X hw (v := .ref (L 1)) fl_X7_7 (m_at 0 rfl) rfl dX7_read_15 ?_
  refine lv_bipush (v := 33) hx hb dX7_read_18 (by decide) ?_
  refine lv_dup2_11 hx hb dX7_read_20 rfl rfl ?_
  refine r_iald X hw (f := s) 33 (m_at 1 rfl) rfl (by decide) (by decide) dX7_read_21 ?_
  refine lv_iconst (v := 1) hx hb dX7_read_22 (by decide) ?_
  refine lv_iadd hx hb dX7_read_23 ?_
  refine r_iast X hw (ws' := mW D L (upd s 33 ((s 33) + 1)) ((pushR s pa P).1) (nI (pushR s pa P).2) 0 o4 o5 o6 o7 o8 o9 o10 o11 o12 o13 o14 o15 o16 o17 o18) 33 rfl (by decide) (by decide) (Foc.cell 1 rfl rfl (ce rfl (ce rfl (ce rfl (ce rfl (ce rfl (ce rfl (ce rfl (ce rfl (ce rfl rfl)))))))))) dX7_read_24 (fun H locs hw => ?_)
  refine lv_aload_n hx hb dX7_read_25 rfl (lv_at hl 0 rfl) ?_
  refine r_get X hw (v := .ref (L 1)) fl_X7_7 (m_at 0 rfl) rfl dX7_read_26 ?_
  refine lv_iconst (v := 0) hx hb dX7_read_29 (by decide) ?_
  refine lv_iload_n hx hb dX7_read_30 rfl (lv_at hl 1 rfl) ?_
  refine r_addN hx hb 0 r rfl rfl dX7_read_31 ?_
  refine r_iald X hw (f := upd s 33 ((s 33) + 1)) (0 + r) (m_at 1 rfl) rfl (by omega) (by decide) dX7_read_32 ?_
  refine lv_istore_n (lv' := [(2, .int ((upd s 33 ((s 33) + 1)) (0 + r))), (0, .ref (L 0)), (1, .int (nI r))]) hx hb dX7_read_33 rfl hl (by decide) rfl (fun ls hl => ?_)
  refine lv_aload_n hx hb dX7_read_34 rfl (lv_at hl 1 rfl) ?_
  refine lv_aload_n hx hb dX7_read_35 rfl (lv_at hl 1 rfl) ?_
  refine r_get X hw (v := .ref (L 1)) fl_X7_7 (m_at 0 rfl) rfl dX7_read_36 ?_
  refine lv_bipush (v := 37) hx hb dX7_read_39 (by decide) ?_
  refine r_iald X hw (f := upd s 33 ((s 33) + 1)) 37 (m_at 1 rfl) rfl (by decide) (by decide) dX7_read_41 ?_
  rw [show ((upd s 33 ((s 33) + 1)) 37) = nI q from (upd_ne _ _ (by decide)).trans hq]
  refine r_callV X hw (ws' := mW D L (phF (upd s 33 ((s 33) + 1)) q) ((pushR s pa P).1) (nI (pushR s pa P).2) 0 o4 o5 o6 o7 o8 o9 o10 o11 o12 o13 o14 o15 o16 o17 o18) (As := [.int (nI q)]) (rest := []) lk_X7_110 (c_X7_passes l D _ L (upd s 33 ((s 33) + 1)) ((pushR s pa P).1) (nI (pushR s pa P).2) 0 o4 o5 o6 o7 o8 o9 o10 o11 o12 o13 o14 o15 o16 o17 o18 q (by omega)) Foc.all (m_at 0 rfl) rfl hl.1 (Nat.le_of_ble_eq_true rfl) ⟨Nat.le_of_ble_eq_true rfl, Nat.le_of_ble_eq_true rfl⟩ rfl dX7_read_42 ⟨Nat.le_refl _, Nat.le_refl _⟩ (fun H locs hw => ?_)
  refine lv_if_ge (tgt := 53) hx hb dX7_read_45 (by decide) (fun _ => ?_) (fun h => absurd (phN_ge (upd s 33 ((s 33) + 1)) q (by omega)) h)
  refine lv_iload_n hx hb dX7_read_53 rfl (lv_at hl 0 rfl) ?_
  exact r_ret X hw hk hret rfl (rfl) (rfl) dX7_read_54

set_option maxRecDepth 100000 in
set_option maxHeartbeats 4000000 in
theorem c_X7_read_bad (l : Launch) (D : va_G) (sz : Nat) (L : Nat → Nat) (o0 : Row) (o1 : Row) (o2 : Int32) (o3 : Int32) (o4 : Row) (o5 : Row) (o6 : Row) (o7 : Int32) (o8 : Row) (o9 : Int32) (o10 : Row) (o11 : Int32) (o12 : Int32) (o13 : Int32) (o14 : Int32) (o15 : Int32) (o16 : Int32) (o17 : Row) (o18 : Row) (a1 : Int32) (hbad : ¬ (¬ sp_X7_isRegister a1 = 0)) : MI l yX7_read cX7_read 3 (some .int) 2 42 D sz [.ref (L 0), .int a1] (mW D L o0 o1 o2 o3 o4 o5 o6 o7 o8 o9 o10 o11 o12 o13 o14 o15 o16 o17 o18) (-1000001) (mW D L o0 o1 o2 o3 o4 o5 o6 o7 o8 o9 o10 o11 o12 o13 o14 o15 o16 o17 o18) := by
  refine r_enterI (by decide) (Nat.le_of_ble_eq_true rfl) ?_
  intro p e st m args below meth c ls A X hret hk hw hl
  have X : CX D p m c cX7_read 3 st args RX7 A := X
  have hx := X.1.1
  have hb := X.1.2.1
  have hown := X.1.2.2.2.1
  have hts := X.1.2.2.2.2
  have hl : lv_has ls 3 [(0, .ref (L 0)), (1, .int a1)] := hl
  refine lv_iload_n hx hb dX7_read_0 rfl (lv_at hl 1 rfl) ?_
  refine r_callS X hw (ws' := mW D L o0 o1 o2 o3 o4 o5 o6 o7 o8 o9 o10 o11 o12 o13 o14 o15 o16 o17 o18) (As := [.int a1]) (rest := []) lk_X7_103 (c_X7_isRegister l D _ a1) Foc.nil rfl hl.1 (Nat.le_of_ble_eq_true rfl) ⟨Nat.le_of_ble_eq_true rfl, Nat.le_of_ble_eq_true rfl⟩ rfl dX7_read_1 ⟨Nat.le_refl _, Nat.le_refl _⟩ (fun H locs hw => ?_)
  refine lv_if_ne (tgt := 10) hx hb dX7_read_4 (by decide) (fun c1 => ?_) (fun c1 => ?_)
  · skip
    exact absurd c1 hbad
  · skip
    refine lv_ldc (v := (-1000001)) hx hb hown (hts _ kc_X7_106) dX7_read_7 ?_
    exact r_ret X hw hk hret rfl rfl rfl dX7_read_9

set_option maxRecDepth 100000 in
set_option maxHeartbeats 4000000 in
theorem c_X7_pass_1 (l : Launch) (D : va_G) (sz : Nat) (L : Nat → Nat) (s pa : Row) (P : Nat) (o4 : Row) (o5 : Row) (o6 : Row) (o7 : Int32) (o8 : Row) (o9 : Int32) (o10 : Row) (o11 : Int32) (o12 : Int32) (o13 : Int32) (o14 : Int32) (o15 : Int32) (o16 : Int32) (o17 : Row) (o18 : Row) (n : Nat) (hn : n < 10000) (hP : P ≤ 4) (hn1 : 1 ≤ n) : MI l yX7_pass cX7_pass 2 (some .int) 12 261 D sz [.ref (L 0), .int (nI n)] (mW D L s pa (nI P) 1 o4 o5 o6 o7 o8 o9 o10 o11 o12 o13 o14 o15 o16 o17 o18) (phN s n) (mW D L (phF s n) pa (nI P) 1 o4 o5 o6 o7 o8 o9 o10 o11 o12 o13 o14 o15 o16 o17 o18) := by
  refine r_enterI (by decide) (Nat.le_of_ble_eq_true rfl) ?_
  intro p e st m args below meth c ls A X hret hk hw hl
  have X : CX D p m c cX7_pass 2 st args RX7 A := X
  have hx := X.1.1
  have hb := X.1.2.1
  have hown := X.1.2.2.2.1
  have hts := X.1.2.2.2.2
  have hl : lv_has ls 2 [(0, .ref (L 0)), (1, .int (nI n))] := hl
  refine lv_iload_n hx hb dX7_pass_0 rfl (lv_at hl 1 rfl) ?_
  refine lv_iconst (v := 1) hx hb dX7_pass_1 (by decide) ?_
  refine lv_sipush (v := 9999) hx hb dX7_pass_2 (by decide) ?_
  refine r_callS X hw (ws' := mW D L s pa (nI P) 1 o4 o5 o6 o7 o8 o9 o10 o11 o12 o13 o14 o15 o16 o17 o18) (As := [.int (nI n), .int 1, .int 9999]) (rest := []) lk_X7_45 (c_X7_in l D _ (nI n) 1 9999) Foc.nil rfl hl.1 (Nat.le_of_ble_eq_true rfl) ⟨Nat.le_of_ble_eq_true rfl, Nat.le_of_ble_eq_true rfl⟩ rfl dX7_pass_5 ⟨Nat.le_refl _, Nat.le_refl _⟩ (fun H locs hw => ?_)
  refine lv_if_ne (tgt := 14) hx hb dX7_pass_8 (by decide) (fun _ => ?_) (fun h => absurd h (in_okL n 1 9999 (by omega) (by omega) (by decide)))
  refine lv_aload_n hx hb dX7_pass_14 rfl (lv_at hl 0 rfl) ?_
  refine r_callVv X hw (ws' := mW D L s pa (nI P) 1 o4 o5 o6 o7 o8 o9 o10 o11 o12 o13 o14 o15 o16 o17 o18) (As := []) (rest := []) lk_X7_107 (c_X7_changesR l D _ L s pa P 1 o4 o5 o6 o7 o8 o9 o10 o11 o12 o13 o14 o15 o16 o17 o18 (by omega) (by decide)) Foc.all (m_at 0 rfl) rfl hl.1 (Nat.le_of_ble_eq_true rfl) ⟨Nat.le_of_ble_eq_true rfl, Nat.le_of_ble_eq_true rfl⟩ rfl dX7_pass_15 ⟨Nat.le_refl _, Nat.le_refl _⟩ (fun H locs hw => ?_)
  refine lv_aload_n hx hb dX7_pass_18 rfl (lv_at hl 0 rfl) ?_
  refine lv_iload_n hx hb dX7_pass_19 rfl (lv_at hl 1 rfl) ?_
  refine r_callV X hw (ws' := mW D L (phF s n) pa (nI P) 1 o4 o5 o6 o7 o8 o9 o10 o11 o12 o13 o14 o15 o16 o17 o18) (As := [.int (nI n)]) (rest := []) lk_X7_110 (c_X7_passes l D _ L s pa (nI P) 1 o4 o5 o6 o7 o8 o9 o10 o11 o12 o13 o14 o15 o16 o17 o18 n (by omega)) Foc.all (m_at 0 rfl) rfl hl.1 (Nat.le_of_ble_eq_true rfl) ⟨Nat.le_of_ble_eq_true rfl, Nat.le_of_ble_eq_true rfl⟩ rfl dX7_pass_20 ⟨Nat.le_refl _, Nat.le_refl _⟩ (fun H locs hw => ?_)
  exact r_ret X hw hk hret rfl rfl rfl dX7_pass_23

set_option maxRecDepth 100000 in
set_option maxHeartbeats 4000000 in
theorem c_X7_pass_0 (l : Launch) (D : va_G) (sz : Nat) (L : Nat → Nat) (s pa : Row) (P : Nat) (o4 : Row) (o5 : Row) (o6 : Row) (o7 : Int32) (o8 : Row) (o9 : Int32) (o10 : Row) (o11 : Int32) (o12 : Int32) (o13 : Int32) (o14 : Int32) (o15 : Int32) (o16 : Int32) (o17 : Row) (o18 : Row) (n : Nat) (hn : n < 10000) (hP : P ≤ 4) (hn1 : 1 ≤ n) : MI l yX7_pass cX7_pass 2 (some .int) 12 261 D sz [.ref (L 0), .int (nI n)] (mW D L s pa (nI P) 0 o4 o5 o6 o7 o8 o9 o10 o11 o12 o13 o14 o15 o16 o17 o18) (phN s n) (mW D L (phF s n) ((pushR s pa P).1) (nI (pushR s pa P).2) 0 o4 o5 o6 o7 o8 o9 o10 o11 o12 o13 o14 o15 o16 o17 o18) := by
  refine r_enterI (by decide) (Nat.le_of_ble_eq_true rfl) ?_
  intro p e st m args below meth c ls A X hret hk hw hl
  have X : CX D p m c cX7_pass 2 st args RX7 A := X
  have hx := X.1.1
  have hb := X.1.2.1
  have hown := X.1.2.2.2.1
  have hts := X.1.2.2.2.2
  have hl : lv_has ls 2 [(0, .ref (L 0)), (1, .int (nI n))] := hl
  refine lv_iload_n hx hb dX7_pass_0 rfl (lv_at hl 1 rfl) ?_
  refine lv_iconst (v := 1) hx hb dX7_pass_1 (by decide) ?_
  refine lv_sipush (v := 9999) hx hb dX7_pass_2 (by decide) ?_
  refine r_callS X hw (ws' := mW D L s pa (nI P) 0 o4 o5 o6 o7 o8 o9 o10 o11 o12 o13 o14 o15 o16 o17 o18) (As := [.int (nI n), .int 1, .int 9999]) (rest := []) lk_X7_45 (c_X7_in l D _ (nI n) 1 9999) Foc.nil rfl hl.1 (Nat.le_of_ble_eq_true rfl) ⟨Nat.le_of_ble_eq_true rfl, Nat.le_of_ble_eq_true rfl⟩ rfl dX7_pass_5 ⟨Nat.le_refl _, Nat.le_refl _⟩ (fun H locs hw => ?_)
  refine lv_if_ne (tgt := 14) hx hb dX7_pass_8 (by decide) (fun _ => ?_) (fun h => absurd h (in_okL n 1 9999 (by omega) (by omega) (by decide)))
  refine lv_aload_n hx hb dX7_pass_14 rfl (lv_at hl 0 rfl) ?_
  refine r_callVv X hw (ws' := mW D L s ((pushR s pa P).1) (nI (pushR s pa P).2) 0 o4 o5 o6 o7 o8 o9 o10 o11 o12 o13 o14 o15 o16 o17 o18) (As := []) (rest := []) lk_X7_107 (c_X7_changes0 l D _ L s pa P 0 o4 o5 o6 o7 o8 o9 o10 o11 o12 o13 o14 o15 o16 o17 o18 (by omega)) Foc.all (m_at 0 rfl) rfl hl.1 (Nat.le_of_ble_eq_true rfl) ⟨Nat.le_of_ble_eq_true rfl, Nat.le_of_ble_eq_true rfl⟩ rfl dX7_pass_15 ⟨Nat.le_refl _, Nat.le_refl _⟩ (fun H locs hw => ?_)
  refine lv_aload_n hx hb dX7_pass_18 rfl (lv_at hl 0 rfl) ?_
  refine lv_iload_n hx hb dX7_pass_19 rfl (lv_at hl 1 rfl) ?_
  refine r_callV X hw (ws' := mW D L (phF s n) ((pushR s pa P).1) (nI (pushR s pa P).2) 0 o4 o5 o6 o7 o8 o9 o10 o11 o12 o13 o14 o15 o16 o17 o18) (As := [.int (nI n)]) (rest := []) lk_X7_110 (c_X7_passes l D _ L s ((pushR s pa P).1) (nI (pushR s pa P).2) 0 o4 o5 o6 o7 o8 o9 o10 o11 o12 o13 o14 o15 o16 o17 o18 n (by omega)) Foc.all (m_at 0 rfl) rfl hl.1 (Nat.le_of_ble_eq_true rfl) ⟨Nat.le_of_ble_eq_true rfl, Nat.le_of_ble_eq_true rfl⟩ rfl dX7_pass_20 ⟨Nat.le_refl _, Nat.le_refl _⟩ (fun H locs hw => ?_)
  exact r_ret X hw hk hret rfl rfl rfl dX7_pass_23

set_option maxRecDepth 100000 in
set_option maxHeartbeats 4000000 in
theorem c_X7_pass_bad (l : Launch) (D : va_G) (sz : Nat) (L : Nat → Nat) (o0 : Row) (o1 : Row) (o2 : Int32) (o3 : Int32) (o4 : Row) (o5 : Row) (o6 : Row) (o7 : Int32) (o8 : Row) (o9 : Int32) (o10 : Row) (o11 : Int32) (o12 : Int32) (o13 : Int32) (o14 : Int32) (o15 : Int32) (o16 : Int32) (o17 : Row) (o18 : Row) (a1 : Int32) (hbad : ¬ (¬ sp_X7_in a1 1 9999 = 0)) : MI l yX7_pass cX7_pass 2 (some .int) 1 22 D sz [.ref (L 0), .int a1] (mW D L o0 o1 o2 o3 o4 o5 o6 o7 o8 o9 o10 o11 o12 o13 o14 o15 o16 o17 o18) (-1000001) (mW D L o0 o1 o2 o3 o4 o5 o6 o7 o8 o9 o10 o11 o12 o13 o14 o15 o16 o17 o18) := by
  refine r_enterI (by decide) (Nat.le_of_ble_eq_true rfl) ?_
  intro p e st m args below meth c ls A X hret hk hw hl
  have X : CX D p m c cX7_pass 2 st args RX7 A := X
  have hx := X.1.1
  have hb := X.1.2.1
  have hown := X.1.2.2.2.1
  have hts := X.1.2.2.2.2
  have hl : lv_has ls 2 [(0, .ref (L 0)), (1, .int a1)] := hl
  refine lv_iload_n hx hb dX7_pass_0 rfl (lv_at hl 1 rfl) ?_
  refine lv_iconst (v := 1) hx hb dX7_pass_1 (by decide) ?_
  refine lv_sipush (v := 9999) hx hb dX7_pass_2 (by decide) ?_
  refine r_callS X hw (ws' := mW D L o0 o1 o2 o3 o4 o5 o6 o7 o8 o9 o10 o11 o12 o13 o14 o15 o16 o17 o18) (As := [.int a1, .int 1, .int 9999]) (rest := []) lk_X7_45 (c_X7_in l D _ a1 1 9999) Foc.nil rfl hl.1 (Nat.le_of_ble_eq_true rfl) ⟨Nat.le_of_ble_eq_true rfl, Nat.le_of_ble_eq_true rfl⟩ rfl dX7_pass_5 ⟨Nat.le_refl _, Nat.le_refl _⟩ (fun H locs hw => ?_)
  refine lv_if_ne (tgt := 14) hx hb dX7_pass_8 (by decide) (fun c1 => ?_) (fun c1 => ?_)
  · skip
    exact absurd c1 hbad
  · skip
    refine lv_ldc (v := (-1000001)) hx hb hown (hts _ kc_X7_106) dX7_pass_11 ?_
    exact r_ret X hw hk hret rfl rfl rfl dX7_pass_13

set_option maxRecDepth 100000 in
set_option maxHeartbeats 4000000 in
theorem c_X7_burst_1 (l : Launch) (D : va_G) (sz : Nat) (L : Nat → Nat) (s pa : Row) (P : Nat) (td ah sh : Row) (n0 : Int32) (o8 : Row) (o9 : Int32) (o10 : Row) (o11 : Int32) (o12 : Int32) (o13 : Int32) (o14 : Int32) (o15 : Int32) (o16 : Int32) (o17 : Row) (o18 : Row) (pp z q md : Nat) (hP : P ≤ 4) (hok : rOK s pp z q) (hmd : md < 3) : MI l yX7_burst cX7_burst 2 (some .int) 14 308 D sz [.ref (L 0), .int (nI md)] (mW D L s pa (nI P) 1 td ah sh n0 o8 o9 o10 o11 o12 o13 o14 o15 o16 o17 o18) (bTorn (buR s td ah sh q md).1) (mW D L (buS s td ah sh q md) pa (nI P) 1 ((buR s td ah sh q md).1.2.1) ((buR s td ah sh q md).1.2.2.1) ((buR s td ah sh q md).1.2.2.2.1) (nI (buR s td ah sh q md).1.2.2.2.2) o8 o9 o10 o11 o12 o13 o14 o15 o16 o17 o18) := by
  refine r_enterI (by decide) (Nat.le_of_ble_eq_true rfl) ?_
  intro p e st m args below meth c ls A X hret hk hw hl
  have X : CX D p m c cX7_burst 2 st args RX7 A := X
  have hx := X.1.1
  have hb := X.1.2.1
  have hown := X.1.2.2.2.1
  have hts := X.1.2.2.2.2
  have hl : lv_has ls 2 [(0, .ref (L 0)), (1, .int (nI md))] := hl
  refine lv_iload_n hx hb dX7_burst_0 rfl (lv_at hl 1 rfl) ?_
  refine lv_iconst (v := 0) hx hb dX7_burst_1 (by decide) ?_
  refine lv_iconst (v := 2) hx hb dX7_burst_2 (by decide) ?_
  refine r_callS X hw (ws' := mW D L s pa (nI P) 1 td ah sh n0 o8 o9 o10 o11 o12 o13 o14 o15 o16 o17 o18) (As := [.int (nI md), .int 0, .int 2]) (rest := []) lk_X7_45 (c_X7_in l D _ (nI md) 0 2) Foc.nil rfl hl.1 (Nat.le_of_ble_eq_true rfl) ⟨Nat.le_of_ble_eq_true rfl, Nat.le_of_ble_eq_true rfl⟩ rfl dX7_burst_3 ⟨Nat.le_refl _, Nat.le_refl _⟩ (fun H locs hw => ?_)
  refine lv_if_ne (tgt := 12) hx hb dX7_burst_6 (by decide) (fun _ => ?_) (fun h => absurd h (in_ok md 2 (by omega) (by decide)))
  refine lv_aload_n hx hb dX7_burst_12 rfl (lv_at hl 0 rfl) ?_
  refine r_callVv X hw (ws' := mW D L s pa (nI P) 1 td ah sh n0 o8 o9 o10 o11 o12 o13 o14 o15 o16 o17 o18) (As := []) (rest := []) lk_X7_107 (c_X7_changesR l D _ L s pa P 1 td ah sh n0 o8 o9 o10 o11 o12 o13 o14 o15 o16 o17 o18 (by omega) (by decide)) Foc.all (m_at 0 rfl) rfl hl.1 (Nat.le_of_ble_eq_true rfl) ⟨Nat.le_of_ble_eq_true rfl, Nat.le_of_ble_eq_true rfl⟩ rfl dX7_burst_13 ⟨Nat.le_refl _, Nat.le_refl _⟩ (fun H locs hw => ?_)
  refine lv_aload_n hx hb dX7_burst_16 rfl (lv_at hl 0 rfl) ?_
  refine lv_iload_n hx hb dX7_burst_17 rfl (lv_at hl 1 rfl) ?_
  refine r_callV X hw (ws' := mW D L (buS s td ah sh q md) pa (nI P) 1 ((buR s td ah sh q md).1.2.1) ((buR s td ah sh q md).1.2.2.1) ((buR s td ah sh q md).1.2.2.2.1) (nI (buR s td ah sh q md).1.2.2.2.2) o8 o9 o10 o11 o12 o13 o14 o15 o16 o17 o18) (As := [.int (nI md)]) (rest := []) lk_X7_134 (c_X7_bursts l D _ L s pa (nI P) 1 td ah sh n0 o8 o9 o10 o11 o12 o13 o14 o15 o16 o17 o18 pp z q md hok (by omega)) Foc.all (m_at 0 rfl) rfl hl.1 (Nat.le_of_ble_eq_true rfl) ⟨Nat.le_of_ble_eq_true rfl, Nat.le_of_ble_eq_true rfl⟩ rfl dX7_burst_18 ⟨Nat.le_refl _, Nat.le_refl _⟩ (fun H locs hw => ?_)
  exact r_ret X hw hk hret rfl rfl rfl dX7_burst_21

set_option maxRecDepth 100000 in
set_option maxHeartbeats 4000000 in
theorem c_X7_burst_0 (l : Launch) (D : va_G) (sz : Nat) (L : Nat → Nat) (s pa : Row) (P : Nat) (td ah sh : Row) (n0 : Int32) (o8 : Row) (o9 : Int32) (o10 : Row) (o11 : Int32) (o12 : Int32) (o13 : Int32) (o14 : Int32) (o15 : Int32) (o16 : Int32) (o17 : Row) (o18 : Row) (pp z q md : Nat) (hP : P ≤ 4) (hok : rOK s pp z q) (hmd : md < 3) : MI l yX7_burst cX7_burst 2 (some .int) 14 308 D sz [.ref (L 0), .int (nI md)] (mW D L s pa (nI P) 0 td ah sh n0 o8 o9 o10 o11 o12 o13 o14 o15 o16 o17 o18) (bTorn (buR s td ah sh q md).1) (mW D L (buS s td ah sh q md) ((pushR s pa P).1) (nI (pushR s pa P).2) 0 ((buR s td ah sh q md).1.2.1) ((buR s td ah sh q md).1.2.2.1) ((buR s td ah sh q md).1.2.2.2.1) (nI (buR s td ah sh q md).1.2.2.2.2) o8 o9 o10 o11 o12 o13 o14 o15 o16 o17 o18) := by
  refine r_enterI (by decide) (Nat.le_of_ble_eq_true rfl) ?_
  intro p e st m args below meth c ls A X hret hk hw hl
  have X : CX D p m c cX7_burst 2 st args RX7 A := X
  have hx := X.1.1
  have hb := X.1.2.1
  have hown := X.1.2.2.2.1
  have hts := X.1.2.2.2.2
  have hl : lv_has ls 2 [(0, .ref (L 0)), (1, .int (nI md))] := hl
  refine lv_iload_n hx hb dX7_burst_0 rfl (lv_at hl 1 rfl) ?_
  refine lv_iconst (v := 0) hx hb dX7_burst_1 (by decide) ?_
  refine lv_iconst (v := 2) hx hb dX7_burst_2 (by decide) ?_
  refine r_callS X hw (ws' := mW D L s pa (nI P) 0 td ah sh n0 o8 o9 o10 o11 o12 o13 o14 o15 o16 o17 o18) (As := [.int (nI md), .int 0, .int 2]) (rest := []) lk_X7_45 (c_X7_in l D _ (nI md) 0 2) Foc.nil rfl hl.1 (Nat.le_of_ble_eq_true rfl) ⟨Nat.le_of_ble_eq_true rfl, Nat.le_of_ble_eq_true rfl⟩ rfl dX7_burst_3 ⟨Nat.le_refl _, Nat.le_refl _⟩ (fun H locs hw => ?_)
  refine lv_if_ne (tgt := 12) hx hb dX7_burst_6 (by decide) (fun _ => ?_) (fun h => absurd h (in_ok md 2 (by omega) (by decide)))
  refine lv_aload_n hx hb dX7_burst_12 rfl (lv_at hl 0 rfl) ?_
  refine r_callVv X hw (ws' := mW D L s ((pushR s pa P).1) (nI (pushR s pa P).2) 0 td ah sh n0 o8 o9 o10 o11 o12 o13 o14 o15 o16 o17 o18) (As := []) (rest := []) lk_X7_107 (c_X7_changes0 l D _ L s pa P 0 td ah sh n0 o8 o9 o10 o11 o12 o13 o14 o15 o16 o17 o18 (by omega)) Foc.all (m_at 0 rfl) rfl hl.1 (Nat.le_of_ble_eq_true rfl) ⟨Nat.le_of_ble_eq_true rfl, Nat.le_of_ble_eq_true rfl⟩ rfl dX7_burst_13 ⟨Nat.le_refl _, Nat.le_refl _⟩ (fun H locs hw => ?_)
  refine lv_aload_n hx hb dX7_burst_16 rfl (lv_at hl 0 rfl) ?_
  refine lv_iload_n hx hb dX7_burst_17 rfl (lv_at hl 1 rfl) ?_
  refine r_callV X hw (ws' := mW D L (buS s td ah sh q md) ((pushR s pa P).1) (nI (pushR s pa P).2) 0 ((buR s td ah sh q md).1.2.1) ((buR s td ah sh q md).1.2.2.1) ((buR s td ah sh q md).1.2.2.2.1) (nI (buR s td ah sh q md).1.2.2.2.2) o8 o9 o10 o11 o12 o13 o14 o15 o16 o17 o18) (As := [.int (nI md)]) (rest := []) lk_X7_134 (c_X7_bursts l D _ L s ((pushR s pa P).1) (nI (pushR s pa P).2) 0 td ah sh n0 o8 o9 o10 o11 o12 o13 o14 o15 o16 o17 o18 pp z q md hok (by omega)) Foc.all (m_at 0 rfl) rfl hl.1 (Nat.le_of_ble_eq_true rfl) ⟨Nat.le_of_ble_eq_true rfl, Nat.le_of_ble_eq_true rfl⟩ rfl dX7_burst_18 ⟨Nat.le_refl _, Nat.le_refl _⟩ (fun H locs hw => ?_)
  exact r_ret X hw hk hret rfl rfl rfl dX7_burst_21

set_option maxRecDepth 100000 in
set_option maxHeartbeats 4000000 in
theorem c_X7_burst_bad (l : Launch) (D : va_G) (sz : Nat) (L : Nat → Nat) (o0 : Row) (o1 : Row) (o2 : Int32) (o3 : Int32) (o4 : Row) (o5 : Row) (o6 : Row) (o7 : Int32) (o8 : Row) (o9 : Int32) (o10 : Row) (o11 : Int32) (o12 : Int32) (o13 : Int32) (o14 : Int32) (o15 : Int32) (o16 : Int32) (o17 : Row) (o18 : Row) (a1 : Int32) (hbad : ¬ (¬ sp_X7_in a1 0 2 = 0)) : MI l yX7_burst cX7_burst 2 (some .int) 1 22 D sz [.ref (L 0), .int a1] (mW D L o0 o1 o2 o3 o4 o5 o6 o7 o8 o9 o10 o11 o12 o13 o14 o15 o16 o17 o18) (-1000001) (mW D L o0 o1 o2 o3 o4 o5 o6 o7 o8 o9 o10 o11 o12 o13 o14 o15 o16 o17 o18) := by
  refine r_enterI (by decide) (Nat.le_of_ble_eq_true rfl) ?_
  intro p e st m args below meth c ls A X hret hk hw hl
  have X : CX D p m c cX7_burst 2 st args RX7 A := X
  have hx := X.1.1
  have hb := X.1.2.1
  have hown := X.1.2.2.2.1
  have hts := X.1.2.2.2.2
  have hl : lv_has ls 2 [(0, .ref (L 0)), (1, .int a1)] := hl
  refine lv_iload_n hx hb dX7_burst_0 rfl (lv_at hl 1 rfl) ?_
  refine lv_iconst (v := 0) hx hb dX7_burst_1 (by decide) ?_
  refine lv_iconst (v := 2) hx hb dX7_burst_2 (by decide) ?_
  refine r_callS X hw (ws' := mW D L o0 o1 o2 o3 o4 o5 o6 o7 o8 o9 o10 o11 o12 o13 o14 o15 o16 o17 o18) (As := [.int a1, .int 0, .int 2]) (rest := []) lk_X7_45 (c_X7_in l D _ a1 0 2) Foc.nil rfl hl.1 (Nat.le_of_ble_eq_true rfl) ⟨Nat.le_of_ble_eq_true rfl, Nat.le_of_ble_eq_true rfl⟩ rfl dX7_burst_3 ⟨Nat.le_refl _, Nat.le_refl _⟩ (fun H locs hw => ?_)
  refine lv_if_ne (tgt := 12) hx hb dX7_burst_6 (by decide) (fun c1 => ?_) (fun c1 => ?_)
  · skip
    exact absurd c1 hbad
  · skip
    refine lv_ldc (v := (-1000001)) hx hb hown (hts _ kc_X7_106) dX7_burst_9 ?_
    exact r_ret X hw hk hret rfl rfl rfl dX7_burst_11

noncomputable def sp_X7_alarm (s : Row) (a : Nat) (r : Nat) (v : Nat) : Int32 × Row := (s (40 + 9 * a + r), upd s (40 + 9 * a + r) (nI v))
set_option maxRecDepth 100000 in
set_option maxHeartbeats 4000000 in
theorem c_X7_alarm_1 (l : Launch) (D : va_G) (sz : Nat) (L : Nat → Nat) (s pa : Row) (P : Nat) (o4 : Row) (o5 : Row) (o6 : Row) (o7 : Int32) (o8 : Row) (o9 : Int32) (o10 : Row) (o11 : Int32) (o12 : Int32) (o13 : Int32) (o14 : Int32) (o15 : Int32) (o16 : Int32) (o17 : Row) (o18 : Row) (a : Nat) (r : Nat) (v : Nat) (ha : a < 3) (hr : r < 5) (hv : v < 256) (hP : P ≤ 4) : MI l yX7_alarm cX7_alarm 5 (some .int) 2 42 D sz [.ref (L 0), .int (nI a), .int (nI r), .int (nI v)] (mW D L s pa (nI P) 1 o4 o5 o6 o7 o8 o9 o10 o11 o12 o13 o14 o15 o16 o17 o18) ((sp_X7_alarm s a r v).1) (mW D L ((sp_X7_alarm s a r v).2) pa (nI P) 1 o4 o5 o6 o7 o8 o9 o10 o11 o12 o13 o14 o15 o16 o17 o18) := by
  refine r_enterI (by decide) (Nat.le_of_ble_eq_true rfl) ?_
  intro p e st m args below meth c ls A X hret hk hw hl
  have X : CX D p m c cX7_alarm 5 st args RX7 A := X
  have hx := X.1.1
  have hb := X.1.2.1
  have hown := X.1.2.2.2.1
  have hts := X.1.2.2.2.2
  have hl : lv_has ls 5 [(0, .ref (L 0)), (1, .int (nI a)), (2, .int (nI r)), (3, .int (nI v))] := hl
  refine lv_iload_n hx hb dX7_alarm_0 rfl (lv_at hl 1 rfl) ?_
  refine r_callS X hw (ws' := mW D L s pa (nI P) 1 o4 o5 o6 o7 o8 o9 o10 o11 o12 o13 o14 o15 o16 o17 o18) (As := [.int (nI a)]) (rest := []) lk_X7_137 (c_X7_isAlarm l D _ (nI a)) Foc.nil rfl hl.1 (Nat.le_of_ble_eq_true rfl) ⟨Nat.le_of_ble_eq_true rfl, Nat.le_of_ble_eq_true rfl⟩ rfl dX7_alarm_1 ⟨Nat.le_refl _, Nat.le_refl _⟩ (fun H locs hw => ?_)
  refine lv_if_eq (tgt := 27) hx hb dX7_alarm_4 (by decide) (fun h => absurd h (isAl_ok (by omega))) (fun _ => ?_)
  refine lv_iload_n hx hb dX7_alarm_7 rfl (lv_at hl 2 rfl) ?_
  refine lv_iconst (v := 0) hx hb dX7_alarm_8 (by decide) ?_
  refine lv_iconst (v := 4) hx hb dX7_alarm_9 (by decide) ?_
  refine r_callS X hw (ws' := mW D L s pa (nI P) 1 o4 o5 o6 o7 o8 o9 o10 o11 o12 o13 o14 o15 o16 o17 o18) (As := [.int (nI r), .int 0, .int 4]) (rest := []) lk_X7_45 (c_X7_in l D _ (nI r) 0 4) Foc.nil rfl hl.1 (Nat.le_of_ble_eq_true rfl) ⟨Nat.le_of_ble_eq_true rfl, Nat.le_of_ble_eq_true rfl⟩ rfl dX7_alarm_10 ⟨Nat.le_refl _, Nat.le_refl _⟩ (fun H locs hw => ?_)
  refine lv_if_eq (tgt := 27) hx hb dX7_alarm_13 (by decide) (fun h => absurd h (in_ok r 4 (by omega) (by decide))) (fun _ => ?_)
  refine lv_iload_n hx hb dX7_alarm_16 rfl (lv_at hl 3 rfl) ?_
  refine lv_iconst (v := 0) hx hb dX7_alarm_17 (by decide) ?_
  refine lv_sipush (v := 255) hx hb dX7_alarm_18 (by decide) ?_
  refine r_callS X hw (ws' := mW D L s pa (nI P) 1 o4 o5 o6 o7 o8 o9 o10 o11 o12 o13 o14 o15 o16 o17 o18) (As := [.int (nI v), .int 0, .int 255]) (rest := []) lk_X7_45 (c_X7_in l D _ (nI v) 0 255) Foc.nil rfl hl.1 (Nat.le_of_ble_eq_true rfl) ⟨Nat.le_of_ble_eq_true rfl, Nat.le_of_ble_eq_true rfl⟩ rfl dX7_alarm_21 ⟨Nat.le_refl _, Nat.le_refl _⟩ (fun H locs hw => ?_)
  refine lv_if_ne (tgt := 30) hx hb dX7_alarm_24 (by decide) (fun _ => ?_) (fun h => absurd h (in_ok v 255 (by omega) (by decide)))
  refine lv_aload_n hx hb dX7_alarm_30 rfl (lv_at hl 0 rfl) ?_
  refine r_callVv X hw (ws' := mW D L s pa (nI P) 1 o4 o5 o6 o7 o8 o9 o10 o11 o12 o13 o14 o15 o16 o17 o18) (As := []) (rest := []) lk_X7_107 (c_X7_changesR l D _ L s pa P 1 o4 o5 o6 o7 o8 o9 o10 o11 o12 o13 o14 o15 o16 o17 o18 (by omega) (by decide)) Foc.all (m_at 0 rfl) rfl hl.1 (Nat.le_of_ble_eq_true rfl) ⟨Nat.le_of_ble_eq_true rfl, Nat.le_of_ble_eq_true rfl⟩ rfl dX7_alarm_31 ⟨Nat.le_refl _, Nat.le_refl _⟩ (fun H locs hw => ?_)
  refine lv_aload_n hx hb dX7_alarm_34 rfl (lv_at hl 0 rfl) ?_
  refine r_get X hw (v := .ref (L 1)) fl_X7_7 (m_at 0 rfl) rfl dX7_alarm_35 ?_
  refine lv_iload_n hx hb dX7_alarm_38 rfl (lv_at hl 1 rfl) ?_
  refine r_callS X hw (ws' := mW D L s pa (nI P) 1 o4 o5 o6 o7 o8 o9 o10 o11 o12 o13 o14 o15 o16 o17 o18) (As := [.int (nI a)]) (rest := [.ref (L 1)]) lk_X7_88 (c_X7_alarmAtN l D _ a (by omega)) Foc.nil rfl hl.1 (Nat.le_of_ble_eq_true rfl) ⟨Nat.le_of_ble_eq_true rfl, Nat.le_of_ble_eq_true rfl⟩ rfl dX7_alarm_39 ⟨Nat.le_refl _, Nat.le_refl _⟩ (fun H locs hw => ?_)
  refine lv_iload_n hx hb dX7_alarm_42 rfl (lv_at hl 2 rfl) ?_
  refine r_addN hx hb (40 + 9 * a) r rfl rfl dX7_alarm_43 ?_
  refine r_iald X hw (f := s) (40 + 9 * a + r) (m_at 1 rfl) rfl (by omega) (by decide) dX7_alarm_44 ?_
  refine lv_istore (lv' := [(4, .int (s (40 + 9 * a + r))), (0, .ref (L 0)), (1, .int (nI a)), (2, .int (nI r)), (3, .int (nI v))]) hx hb dX7_alarm_45 hl (by decide) rfl (fun ls hl => ?_)
  refine lv_aload_n hx hb dX7_alarm_47 rfl (lv_at hl 1 rfl) ?_
  refine r_get X hw (v := .ref (L 1)) fl_X7_7 (m_at 0 rfl) rfl dX7_alarm_48 ?_
  refine lv_iload_n hx hb dX7_alarm_51 rfl (lv_at hl 2 rfl) ?_
  refine r_callS X hw (ws' := mW D L s pa (nI P) 1 o4 o5 o6 o7 o8 o9 o10 o11 o12 o13 o14 o15 o16 o17 o18) (As := [.int (nI a)]) (rest := [.ref (L 1)]) lk_X7_88 (c_X7_alarmAtN l D _ a (by omega)) Foc.nil rfl hl.1 (Nat.le_of_ble_eq_true rfl) ⟨Nat.le_of_ble_eq_true rfl, Nat.le_of_ble_eq_true rfl⟩ rfl dX7_alarm_52 ⟨Nat.le_refl _, Nat.le_refl _⟩ (fun H locs hw => ?_)
  refine lv_iload_n hx hb dX7_alarm_55 rfl (lv_at hl 3 rfl) ?_
  refine r_addN hx hb (40 + 9 * a) r rfl rfl dX7_alarm_56 ?_
  refine lv_iload_n hx hb dX7_alarm_57 rfl (lv_at hl 4 rfl) ?_
  refine r_iast X hw (ws' := mW D L (upd s (40 + 9 * a + r) (nI v)) pa (nI P) 1 o4 o5 o6 o7 o8 o9 o10 o11 o12 o13 o14 o15 o16 o17 o18) (40 + 9 * a + r) rfl (by omega) (by decide) (Foc.cell 1 rfl rfl (ce rfl (ce rfl (ce rfl (ce rfl (ce rfl (ce rfl (ce rfl (ce rfl (ce rfl rfl)))))))))) dX7_alarm_58 (fun H locs hw => ?_)
  refine lv_iload hx hb dX7_alarm_59 (lv_at hl 0 rfl) ?_
  exact r_ret X hw hk hret rfl (rfl) (rfl) dX7_alarm_61

set_option maxRecDepth 100000 in
set_option maxHeartbeats 4000000 in
theorem c_X7_alarm_0 (l : Launch) (D : va_G) (sz : Nat) (L : Nat → Nat) (s pa : Row) (P : Nat) (o4 : Row) (o5 : Row) (o6 : Row) (o7 : Int32) (o8 : Row) (o9 : Int32) (o10 : Row) (o11 : Int32) (o12 : Int32) (o13 : Int32) (o14 : Int32) (o15 : Int32) (o16 : Int32) (o17 : Row) (o18 : Row) (a : Nat) (r : Nat) (v : Nat) (ha : a < 3) (hr : r < 5) (hv : v < 256) (hP : P ≤ 4) : MI l yX7_alarm cX7_alarm 5 (some .int) 2 42 D sz [.ref (L 0), .int (nI a), .int (nI r), .int (nI v)] (mW D L s pa (nI P) 0 o4 o5 o6 o7 o8 o9 o10 o11 o12 o13 o14 o15 o16 o17 o18) ((sp_X7_alarm s a r v).1) (mW D L ((sp_X7_alarm s a r v).2) ((pushR s pa P).1) (nI (pushR s pa P).2) 0 o4 o5 o6 o7 o8 o9 o10 o11 o12 o13 o14 o15 o16 o17 o18) := by
  refine r_enterI (by decide) (Nat.le_of_ble_eq_true rfl) ?_
  intro p e st m args below meth c ls A X hret hk hw hl
  have X : CX D p m c cX7_alarm 5 st args RX7 A := X
  have hx := X.1.1
  have hb := X.1.2.1
  have hown := X.1.2.2.2.1
  have hts := X.1.2.2.2.2
  have hl : lv_has ls 5 [(0, .ref (L 0)), (1, .int (nI a)), (2, .int (nI r)), (3, .int (nI v))] := hl
  refine lv_iload_n hx hb dX7_alarm_0 rfl (lv_at hl 1 rfl) ?_
  refine r_callS X hw (ws' := mW D L s pa (nI P) 0 o4 o5 o6 o7 o8 o9 o10 o11 o12 o13 o14 o15 o16 o17 o18) (As := [.int (nI a)]) (rest := []) lk_X7_137 (c_X7_isAlarm l D _ (nI a)) Foc.nil rfl hl.1 (Nat.le_of_ble_eq_true rfl) ⟨Nat.le_of_ble_eq_true rfl, Nat.le_of_ble_eq_true rfl⟩ rfl dX7_alarm_1 ⟨Nat.le_refl _, Nat.le_refl _⟩ (fun H locs hw => ?_)
  refine lv_if_eq (tgt := 27) hx hb dX7_alarm_4 (by decide) (fun h => absurd h (isAl_ok (by omega))) (fun _ => ?_)
  refine lv_iload_n hx hb dX7_alarm_7 rfl (lv_at hl 2 rfl) ?_
  refine lv_iconst (v := 0) hx hb dX7_alarm_8 (by decide) ?_
  refine lv_iconst (v := 4) hx hb dX7_alarm_9 (by decide) ?_
  refine r_callS X hw (ws' := mW D L s pa (nI P) 0 o4 o5 o6 o7 o8 o9 o10 o11 o12 o13 o14 o15 o16 o17 o18) (As := [.int (nI r), .int 0, .int 4]) (rest := []) lk_X7_45 (c_X7_in l D _ (nI r) 0 4) Foc.nil rfl hl.1 (Nat.le_of_ble_eq_true rfl) ⟨Nat.le_of_ble_eq_true rfl, Nat.le_of_ble_eq_true rfl⟩ rfl dX7_alarm_10 ⟨Nat.le_refl _, Nat.le_refl _⟩ (fun H locs hw => ?_)
  refine lv_if_eq (tgt := 27) hx hb dX7_alarm_13 (by decide) (fun h => absurd h (in_ok r 4 (by omega) (by decide))) (fun _ => ?_)
  refine lv_iload_n hx hb dX7_alarm_16 rfl (lv_at hl 3 rfl) ?_
  refine lv_iconst (v := 0) hx hb dX7_alarm_17 (by decide) ?_
  refine lv_sipush (v := 255) hx hb dX7_alarm_18 (by decide) ?_
  refine r_callS X hw (ws' := mW D L s pa (nI P) 0 o4 o5 o6 o7 o8 o9 o10 o11 o12 o13 o14 o15 o16 o17 o18) (As := [.int (nI v), .int 0, .int 255]) (rest := []) lk_X7_45 (c_X7_in l D _ (nI v) 0 255) Foc.nil rfl hl.1 (Nat.le_of_ble_eq_true rfl) ⟨Nat.le_of_ble_eq_true rfl, Nat.le_of_ble_eq_true rfl⟩ rfl dX7_alarm_21 ⟨Nat.le_refl _, Nat.le_refl _⟩ (fun H locs hw => ?_)
  refine lv_if_ne (tgt := 30) hx hb dX7_alarm_24 (by decide) (fun _ => ?_) (fun h => absurd h (in_ok v 255 (by omega) (by decide)))
  refine lv_aload_n hx hb dX7_alarm_30 rfl (lv_at hl 0 rfl) ?_
  refine r_callVv X hw (ws' := mW D L s ((pushR s pa P).1) (nI (pushR s pa P).2) 0 o4 o5 o6 o7 o8 o9 o10 o11 o12 o13 o14 o15 o16 o17 o18) (As := []) (rest := []) lk_X7_107 (c_X7_changes0 l D _ L s pa P 0 o4 o5 o6 o7 o8 o9 o10 o11 o12 o13 o14 o15 o16 o17 o18 (by omega)) Foc.all (m_at 0 rfl) rfl hl.1 (Nat.le_of_ble_eq_true rfl) ⟨Nat.le_of_ble_eq_true rfl, Nat.le_of_ble_eq_true rfl⟩ rfl dX7_alarm_31 ⟨Nat.le_refl _, Nat.le_refl _⟩ (fun H locs hw => ?_)
  refine lv_aload_n hx hb dX7_alarm_34 rfl (lv_at hl 0 rfl) ?_
  refine r_get X hw (v := .ref (L 1)) fl_X7_7 (m_at 0 rfl) rfl dX7_alarm_35 ?_
  refine lv_iload_n hx hb dX7_alarm_38 rfl (lv_at hl 1 rfl) ?_
  refine r_callS X hw (ws' := mW D L s ((pushR s pa P).1) (nI (pushR s pa P).2) 0 o4 o5 o6 o7 o8 o9 o10 o11 o12 o13 o14 o15 o16 o17 o18) (As := [.int (nI a)]) (rest := [.ref (L 1)]) lk_X7_88 (c_X7_alarmAtN l D _ a (by omega)) Foc.nil rfl hl.1 (Nat.le_of_ble_eq_true rfl) ⟨Nat.le_of_ble_eq_true rfl, Nat.le_of_ble_eq_true rfl⟩ rfl dX7_alarm_39 ⟨Nat.le_refl _, Nat.le_refl _⟩ (fun H locs hw => ?_)
  refine lv_iload_n hx hb dX7_alarm_42 rfl (lv_at hl 2 rfl) ?_
  refine r_addN hx hb (40 + 9 * a) r rfl rfl dX7_alarm_43 ?_
  refine r_iald X hw (f := s) (40 + 9 * a + r) (m_at 1 rfl) rfl (by omega) (by decide) dX7_alarm_44 ?_
  refine lv_istore (lv' := [(4, .int (s (40 + 9 * a + r))), (0, .ref (L 0)), (1, .int (nI a)), (2, .int (nI r)), (3, .int (nI v))]) hx hb dX7_alarm_45 hl (by decide) rfl (fun ls hl => ?_)
  refine lv_aload_n hx hb dX7_alarm_47 rfl (lv_at hl 1 rfl) ?_
  refine r_get X hw (v := .ref (L 1)) fl_X7_7 (m_at 0 rfl) rfl dX7_alarm_48 ?_
  refine lv_iload_n hx hb dX7_alarm_51 rfl (lv_at hl 2 rfl) ?_
  refine r_callS X hw (ws' := mW D L s ((pushR s pa P).1) (nI (pushR s pa P).2) 0 o4 o5 o6 o7 o8 o9 o10 o11 o12 o13 o14 o15 o16 o17 o18) (As := [.int (nI a)]) (rest := [.ref (L 1)]) lk_X7_88 (c_X7_alarmAtN l D _ a (by omega)) Foc.nil rfl hl.1 (Nat.le_of_ble_eq_true rfl) ⟨Nat.le_of_ble_eq_true rfl, Nat.le_of_ble_eq_true rfl⟩ rfl dX7_alarm_52 ⟨Nat.le_refl _, Nat.le_refl _⟩ (fun H locs hw => ?_)
  refine lv_iload_n hx hb dX7_alarm_55 rfl (lv_at hl 3 rfl) ?_
  refine r_addN hx hb (40 + 9 * a) r rfl rfl dX7_alarm_56 ?_
  refine lv_iload_n hx hb dX7_alarm_57 rfl (lv_at hl 4 rfl) ?_
  refine r_iast X hw (ws' := mW D L (upd s (40 + 9 * a + r) (nI v)) ((pushR s pa P).1) (nI (pushR s pa P).2) 0 o4 o5 o6 o7 o8 o9 o10 o11 o12 o13 o14 o15 o16 o17 o18) (40 + 9 * a + r) rfl (by omega) (by decide) (Foc.cell 1 rfl rfl (ce rfl (ce rfl (ce rfl (ce rfl (ce rfl (ce rfl (ce rfl (ce rfl (ce rfl rfl)))))))))) dX7_alarm_58 (fun H locs hw => ?_)
  refine lv_iload hx hb dX7_alarm_59 (lv_at hl 0 rfl) ?_
  exact r_ret X hw hk hret rfl (rfl) (rfl) dX7_alarm_61

set_option maxRecDepth 100000 in
set_option maxHeartbeats 4000000 in
theorem c_X7_alarm_bad (l : Launch) (D : va_G) (sz : Nat) (L : Nat → Nat) (o0 : Row) (o1 : Row) (o2 : Int32) (o3 : Int32) (o4 : Row) (o5 : Row) (o6 : Row) (o7 : Int32) (o8 : Row) (o9 : Int32) (o10 : Row) (o11 : Int32) (o12 : Int32) (o13 : Int32) (o14 : Int32) (o15 : Int32) (o16 : Int32) (o17 : Row) (o18 : Row) (a1 a2 a3 : Int32) (hbad : ¬ ((¬ sp_X7_isAlarm a1 = 0) ∧ (¬ sp_X7_in a2 0 4 = 0) ∧ ¬ sp_X7_in a3 0 255 = 0)) : MI l yX7_alarm cX7_alarm 5 (some .int) 2 42 D sz [.ref (L 0), .int a1, .int a2, .int a3] (mW D L o0 o1 o2 o3 o4 o5 o6 o7 o8 o9 o10 o11 o12 o13 o14 o15 o16 o17 o18) (-1000001) (mW D L o0 o1 o2 o3 o4 o5 o6 o7 o8 o9 o10 o11 o12 o13 o14 o15 o16 o17 o18) := by
  refine r_enterI (by decide) (Nat.le_of_ble_eq_true rfl) ?_
  intro p e st m args below meth c ls A X hret hk hw hl
  have X : CX D p m c cX7_alarm 5 st args RX7 A := X
  have hx := X.1.1
  have hb := X.1.2.1
  have hown := X.1.2.2.2.1
  have hts := X.1.2.2.2.2
  have hl : lv_has ls 5 [(0, .ref (L 0)), (1, .int a1), (2, .int a2), (3, .int a3)] := hl
  refine lv_iload_n hx hb dX7_alarm_0 rfl (lv_at hl 1 rfl) ?_
  refine r_callS X hw (ws' := mW D L o0 o1 o2 o3 o4 o5 o6 o7 o8 o9 o10 o11 o12 o13 o14 o15 o16 o17 o18) (As := [.int a1]) (rest := []) lk_X7_137 (c_X7_isAlarm l D _ a1) Foc.nil rfl hl.1 (Nat.le_of_ble_eq_true rfl) ⟨Nat.le_of_ble_eq_true rfl, Nat.le_of_ble_eq_true rfl⟩ rfl dX7_alarm_1 ⟨Nat.le_refl _, Nat.le_refl _⟩ (fun H locs hw => ?_)
  refine lv_if_eq (tgt := 27) hx hb dX7_alarm_4 (by decide) (fun c1 => ?_) (fun c1 => ?_)
  · skip
    refine lv_ldc (v := (-1000001)) hx hb hown (hts _ kc_X7_106) dX7_alarm_27 ?_
    exact r_ret X hw hk hret rfl rfl rfl dX7_alarm_29
  · skip
    refine lv_iload_n hx hb dX7_alarm_7 rfl (lv_at hl 2 rfl) ?_
    refine lv_iconst (v := 0) hx hb dX7_alarm_8 (by decide) ?_
    refine lv_iconst (v := 4) hx hb dX7_alarm_9 (by decide) ?_
    refine r_callS X hw (ws' := mW D L o0 o1 o2 o3 o4 o5 o6 o7 o8 o9 o10 o11 o12 o13 o14 o15 o16 o17 o18) (As := [.int a2, .int 0, .int 4]) (rest := []) lk_X7_45 (c_X7_in l D _ a2 0 4) Foc.nil rfl hl.1 (Nat.le_of_ble_eq_true rfl) ⟨Nat.le_of_ble_eq_true rfl, Nat.le_of_ble_eq_true rfl⟩ rfl dX7_alarm_10 ⟨Nat.le_refl _, Nat.le_refl _⟩ (fun H locs hw => ?_)
    refine lv_if_eq (tgt := 27) hx hb dX7_alarm_13 (by decide) (fun c2 => ?_) (fun c2 => ?_)
    · skip
      refine lv_ldc (v := (-1000001)) hx hb hown (hts _ kc_X7_106) dX7_alarm_27 ?_
      exact r_ret X hw hk hret rfl rfl rfl dX7_alarm_29
    · skip
      refine lv_iload_n hx hb dX7_alarm_16 rfl (lv_at hl 3 rfl) ?_
      refine lv_iconst (v := 0) hx hb dX7_alarm_17 (by decide) ?_
      refine lv_sipush (v := 255) hx hb dX7_alarm_18 (by decide) ?_
      refine r_callS X hw (ws' := mW D L o0 o1 o2 o3 o4 o5 o6 o7 o8 o9 o10 o11 o12 o13 o14 o15 o16 o17 o18) (As := [.int a3, .int 0, .int 255]) (rest := []) lk_X7_45 (c_X7_in l D _ a3 0 255) Foc.nil rfl hl.1 (Nat.le_of_ble_eq_true rfl) ⟨Nat.le_of_ble_eq_true rfl, Nat.le_of_ble_eq_true rfl⟩ rfl dX7_alarm_21 ⟨Nat.le_refl _, Nat.le_refl _⟩ (fun H locs hw => ?_)
      refine lv_if_ne (tgt := 30) hx hb dX7_alarm_24 (by decide) (fun c3 => ?_) (fun c3 => ?_)
      · skip
        exact absurd ⟨c1, c2, c3⟩ hbad
      · skip
        refine lv_ldc (v := (-1000001)) hx hb hown (hts _ kc_X7_106) dX7_alarm_27 ?_
        exact r_ret X hw hk hret rfl rfl rfl dX7_alarm_29
