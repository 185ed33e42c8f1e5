set_option maxRecDepth 100000 in
set_option maxHeartbeats 4000000 in
theorem c_X7_changesR (l : Launch) (D : va_G) (sz : Nat) (L : Nat → Nat) (s pa : Row) (P : Nat) (ru : Int32) (o4 : Row) (o5 : Row) (o6 : Row) (o7 : Int32) (o8 : Row) (o9 : Int32) (o10 : Row) (o11 : Int32) (o12 : Int32) (o13 : Int32) (o14 : Int32) (o15 : Int32) (o16 : Int32) (o17 : Row) (o18 : Row) (hP : P ≤ 4) (hru : ¬ ru = 0) : MV l yX7_changes cX7_changes 2 0 0 D sz [.ref (L 0)] (mW D L s pa (nI P) ru o4 o5 o6 o7 o8 o9 o10 o11 o12 o13 o14 o15 o16 o17 o18) (mW D L s pa (nI P) ru o4 o5 o6 o7 o8 o9 o10 o11 o12 o13 o14 o15 o16 o17 o18) := by
  refine r_enterV (by decide) (Nat.le_of_ble_eq_true rfl) ?_
  intro p e st m args below meth c ls A X hret hk hw hl
  have X : CX D p m c cX7_changes 2 st args RX7 A := X
  have hx := X.1.1
  have hb := X.1.2.1
  have hown := X.1.2.2.2.1
  have hts := X.1.2.2.2.2
  have hl : lv_has ls 2 [(0, .ref (L 0))] := hl
  refine lv_aload_n hx hb dX7_changes_0 rfl (lv_at hl 0 rfl) ?_
  refine r_get X hw (v := .int ru) fl_X7_37 (m_at 0 rfl) rfl dX7_changes_1 ?_
  refine lv_if_eq (tgt := 8) hx hb dX7_changes_4 (by decide) (fun h => absurd h hru) (fun _ => ?_)
  exact r_retV X hw hk hret rfl dX7_changes_7

set_option maxRecDepth 100000 in
set_option maxHeartbeats 4000000 in
theorem c_X7_changes0 (l : Launch) (D : va_G) (sz : Nat) (L : Nat → Nat) (s pa : Row) (P : Nat) (ru : Int32) (o4 : Row) (o5 : Row) (o6 : Row) (o7 : Int32) (o8 : Row) (o9 : Int32) (o10 : Row) (o11 : Int32) (o12 : Int32) (o13 : Int32) (o14 : Int32) (o15 : Int32) (o16 : Int32) (o17 : Row) (o18 : Row) (hP : P ≤ 4) : MV l yX7_changes cX7_changes 2 0 0 D sz [.ref (L 0)] (mW D L s pa (nI P) 0 o4 o5 o6 o7 o8 o9 o10 o11 o12 o13 o14 o15 o16 o17 o18) (mW D L s ((pushR s pa P).1) (nI (pushR s pa P).2) 0 o4 o5 o6 o7 o8 o9 o10 o11 o12 o13 o14 o15 o16 o17 o18) := by
  refine r_enterV (by decide) (Nat.le_of_ble_eq_true rfl) ?_
  intro p e st m args below meth c ls A X hret hk hw hl
  have X : CX D p m c cX7_changes 2 st args RX7 A := X
  have hx := X.1.1
  have hb := X.1.2.1
  have hown := X.1.2.2.2.1
  have hts := X.1.2.2.2.2
  have hl : lv_has ls 2 [(0, .ref (L 0))] := hl
  have key58 : ∀ (n58 : Nat) (pa1 : Row) (P1 i : Nat), (P1 ≤ 3) → (pushR s pa P = (va_cpy s pa1 0 (127 * P1) 127, P1 + 1)) → (i ≤ 127) → (127 - i < n58) → ∀ (H : Heap) (locs : List Loc) (ls : Array Slot), Wd D A st.heap H locs (mW D L s (va_cpy s pa1 0 (127 * P1) i) (nI P1) 0 o4 o5 o6 o7 o8 o9 o10 o11 o12 o13 o14 o15 o16 o17 o18) → lv_has ls 2 [(0, .ref (L 0)), (1, .int (nI i))] → W p l e (rmOf 0 0 0 0) st m args below meth c H locs 0 0 (QV below args st D A (mW D L s ((pushR s pa P).1) (nI (pushR s pa P).2) 0 o4 o5 o6 o7 o8 o9 o10 o11 o12 o13 o14 o15 o16 o17 o18)) (F0 m 58 ls []) := by
    intro n58
    induction n58 with
    | zero => intro pa1 P1 i hP1 hq hi hn; omega
    | succ n58 ih58 =>
      intro pa1 P1 i hP1 hq hi hn H locs ls hw hl
      refine lv_iload_n hx hb dX7_changes_58 rfl (lv_at hl 1 rfl) ?_
      refine lv_bipush (v := 127) hx hb dX7_changes_59 (by decide) ?_
      refine r_geN (tgt := 90) hx hb i 127 rfl rfl (by omega) (by omega) dX7_changes_61 (by decide) (fun c1 => ?_) (fun c1 => ?_)
      · skip
        refine lv_aload_n hx hb dX7_changes_90 rfl (lv_at hl 0 rfl) ?_
        refine lv_dup hx hb dX7_changes_91 rfl ?_
        refine r_get X hw (v := .int (nI P1)) fl_X7_41 (m_at 0 rfl) rfl dX7_changes_92 ?_
        refine lv_iconst (v := 1) hx hb dX7_changes_95 (by decide) ?_
        refine r_addN hx hb P1 1 rfl rfl dX7_changes_96 ?_
        refine r_puti X hw (ws' := mW D L s (va_cpy s pa1 0 (127 * P1) i) (nI (P1 + 1)) 0 o4 o5 o6 o7 o8 o9 o10 o11 o12 o13 o14 o15 o16 o17 o18) fp_X7_41 (Nat.le_of_ble_eq_true rfl) (Foc.cell 0 rfl rfl (ce rfl (ce rfl (ce rfl (ce rfl (ce rfl (ce rfl (ce rfl (ce rfl (ce rfl rfl)))))))))) dX7_changes_97 (fun H locs hw => ?_)
        exact r_retV X hw hk hret (by rw [hq, show i = 127 from by omega]) dX7_changes_100
      · skip
        refine lv_aload_n hx hb dX7_changes_64 rfl (lv_at hl 0 rfl) ?_
        refine r_get X hw (v := .ref (L 2)) fl_X7_13 (m_at 0 rfl) rfl dX7_changes_65 ?_
        refine lv_bipush (v := 127) hx hb dX7_changes_68 (by decide) ?_
        refine lv_aload_n hx hb dX7_changes_70 rfl (lv_at hl 0 rfl) ?_
        refine r_get X hw (v := .int (nI P1)) fl_X7_41 (m_at 0 rfl) rfl dX7_changes_71 ?_
        refine r_mulN hx hb 127 P1 rfl rfl dX7_changes_74 ?_
        refine lv_iload_n hx hb dX7_changes_75 rfl (lv_at hl 1 rfl) ?_
        refine r_addN hx hb (127 * P1) i rfl rfl dX7_changes_76 ?_
        refine lv_aload_n hx hb dX7_changes_77 rfl (lv_at hl 0 rfl) ?_
        refine r_get X hw (v := .ref (L 1)) fl_X7_7 (m_at 0 rfl) rfl dX7_changes_78 ?_
        refine lv_iload_n hx hb dX7_changes_81 rfl (lv_at hl 1 rfl) ?_
        refine r_iald X hw (f := s) i (m_at 1 rfl) rfl (by omega) (by decide) dX7_changes_82 ?_
        refine r_iast X hw (ws' := mW D L s (upd (va_cpy s pa1 0 (127 * P1) i) (127 * P1 + i) (s i)) (nI P1) 0 o4 o5 o6 o7 o8 o9 o10 o11 o12 o13 o14 o15 o16 o17 o18) (127 * P1 + i) rfl (by omega) (by decide) (Foc.cell 2 rfl rfl (ce rfl (ce rfl (ce rfl (ce rfl (ce rfl (ce rfl (ce rfl (ce rfl (ce rfl rfl)))))))))) dX7_changes_83 (fun H locs hw => ?_)
        refine r_iincN (lv' := [(1, .int (nI (i + 1))), (0, .ref (L 0))]) hx hb i 1 rfl dX7_changes_84 hl (k := 1) rfl rfl (by decide) rfl (fun ls hl => ?_)
        refine lv_goto (tgt := 58) hx hb dX7_changes_87 (by decide) ?_
        exact ih58 pa1 P1 (i + 1) hP1 hq (by omega) (by omega) _ _ _ (by rw [← cpy_step0]; exact hw) (lv_sub hl [1, 0] rfl)
  refine lv_aload_n hx hb dX7_changes_0 rfl (lv_at hl 0 rfl) ?_
  refine r_get X hw (v := .int 0) fl_X7_37 (m_at 0 rfl) rfl dX7_changes_1 ?_
  refine lv_if_eq (tgt := 8) hx hb dX7_changes_4 (by decide) (fun _ => ?_) (fun h => absurd (by decide) h)
  refine lv_aload_n hx hb dX7_changes_8 rfl (lv_at hl 0 rfl) ?_
  refine r_get X hw (v := .int (nI P)) fl_X7_41 (m_at 0 rfl) rfl dX7_changes_9 ?_
  refine lv_iconst (v := 4) hx hb dX7_changes_12 (by decide) ?_
  refine r_neN (tgt := 56) hx hb P 4 rfl rfl (by omega) (by omega) dX7_changes_13 (by decide) (fun c2 => ?_) (fun c2 => ?_)
  · skip
    refine lv_iconst (v := 0) hx hb dX7_changes_56 (by decide) ?_
    refine lv_istore_n (lv' := [(1, .int 0), (0, .ref (L 0))]) hx hb dX7_changes_57 rfl hl (by decide) rfl (fun ls hl => ?_)
    exact key58 128 pa P 0 (by omega) (by unfold pushR; rw [if_neg c2]) (by omega) (by omega) _ _ _ (by rw [cpy_0]; exact hw) (lv_sub hl [1, 0] rfl)
  · skip
    refine lv_iconst (v := 0) hx hb dX7_changes_16 (by decide) ?_
    refine lv_istore_n (lv' := [(1, .int 0), (0, .ref (L 0))]) hx hb dX7_changes_17 rfl hl (by decide) rfl (fun ls hl => ?_)
    have key18 : ∀ (n18 : Nat) (i : Nat), (i ≤ 381) → (381 - i < n18) → ∀ (H : Heap) (locs : List Loc) (ls : Array Slot), Wd D A st.heap H locs (mW D L s (va_cpy pa pa 127 0 i) (nI P) 0 o4 o5 o6 o7 o8 o9 o10 o11 o12 o13 o14 o15 o16 o17 o18) → lv_has ls 2 [(0, .ref (L 0)), (1, .int (nI i))] → W p l e (rmOf 0 0 0 0) st m args below meth c H locs 0 0 (QV below args st D A (mW D L s ((pushR s pa P).1) (nI (pushR s pa P).2) 0 o4 o5 o6 o7 o8 o9 o10 o11 o12 o13 o14 o15 o16 o17 o18)) (F0 m 18 ls []) := by
      intro n18
      induction n18 with
      | zero => intro i hi hn; omega
      | succ n18 ih18 =>
        intro i hi hn H locs ls hw hl
        refine lv_iload_n hx hb dX7_changes_18 rfl (lv_at hl 1 rfl) ?_
        refine lv_sipush (v := 381) hx hb dX7_changes_19 (by decide) ?_
        refine r_geN (tgt := 46) hx hb i 381 rfl rfl (by omega) (by omega) dX7_changes_22 (by decide) (fun c3 => ?_) (fun c3 => ?_)
        · skip
          refine lv_aload_n hx hb dX7_changes_46 rfl (lv_at hl 0 rfl) ?_
          refine lv_dup hx hb dX7_changes_47 rfl ?_
          refine r_get X hw (v := .int (nI P)) fl_X7_41 (m_at 0 rfl) rfl dX7_changes_48 ?_
          refine lv_iconst (v := 1) hx hb dX7_changes_51 (by decide) ?_
          refine r_subN hx hb P 1 rfl rfl (by omega) dX7_changes_52 ?_
          refine r_puti X hw (ws' := mW D L s (va_cpy pa pa 127 0 i) (nI (P - 1)) 0 o4 o5 o6 o7 o8 o9 o10 o11 o12 o13 o14 o15 o16 o17 o18) fp_X7_41 (Nat.le_of_ble_eq_true rfl) (Foc.cell 0 rfl rfl (ce rfl (ce rfl (ce rfl (ce rfl (ce rfl (ce rfl (ce rfl (ce rfl (ce rfl rfl)))))))))) dX7_changes_53 (fun H locs hw => ?_)
          refine lv_iconst (v := 0) hx hb dX7_changes_56 (by decide) ?_
          refine lv_istore_n (lv' := [(1, .int 0), (0, .ref (L 0))]) hx hb dX7_changes_57 rfl hl (by decide) rfl (fun ls hl => ?_)
          exact key58 128 (va_cpy pa pa 127 0 i) (P - 1) 0 (by omega) (by unfold pushR; rw [if_pos c2]; rw [show i = 381 from by omega, show P - 1 = 3 from by omega]) (by omega) (by omega) _ _ _ (by rw [cpy_0]; exact hw) (lv_sub hl [1, 0] rfl)
        · skip
          refine lv_aload_n hx hb dX7_changes_25 rfl (lv_at hl 0 rfl) ?_
          refine r_get X hw (v := .ref (L 2)) fl_X7_13 (m_at 0 rfl) rfl dX7_changes_26 ?_
          refine lv_iload_n hx hb dX7_changes_29 rfl (lv_at hl 1 rfl) ?_
          refine lv_aload_n hx hb dX7_changes_30 rfl (lv_at hl 0 rfl) ?_
          refine r_get X hw (v := .ref (L 2)) fl_X7_13 (m_at 0 rfl) rfl dX7_changes_31 ?_
          refine lv_iload_n hx hb dX7_changes_34 rfl (lv_at hl 1 rfl) ?_
          refine lv_bipush (v := 127) hx hb dX7_changes_35 (by decide) ?_
          refine r_addN hx hb i 127 rfl rfl dX7_changes_37 ?_
          refine r_iald X hw (f := va_cpy pa pa 127 0 i) (i + 127) (m_at 2 rfl) rfl (by omega) (by decide) dX7_changes_38 ?_
          refine r_iast X hw (ws' := mW D L s (upd (va_cpy pa pa 127 0 i) i ((va_cpy pa pa 127 0 i) (i + 127))) (nI P) 0 o4 o5 o6 o7 o8 o9 o10 o11 o12 o13 o14 o15 o16 o17 o18) i rfl (by omega) (by decide) (Foc.cell 2 rfl rfl (ce rfl (ce rfl (ce rfl (ce rfl (ce rfl (ce rfl (ce rfl (ce rfl (ce rfl rfl)))))))))) dX7_changes_39 (fun H locs hw => ?_)
          refine r_iincN (lv' := [(1, .int (nI (i + 1))), (0, .ref (L 0))]) hx hb i 1 rfl dX7_changes_40 hl (k := 1) rfl rfl (by decide) rfl (fun ls hl => ?_)
          refine lv_goto (tgt := 18) hx hb dX7_changes_43 (by decide) ?_
          exact ih18 (i + 1) (by omega) (by omega) _ _ _ (by rw [← shift_step]; exact hw) (lv_sub hl [1, 0] rfl)
    exact key18 382 0 (by omega) (by omega) _ _ _ (by rw [cpy_0]; exact hw) (lv_sub hl [1, 0] rfl)
