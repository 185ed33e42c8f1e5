set_option maxRecDepth 100000 in
set_option maxHeartbeats 4000000 in
theorem c_X7_copies (l : Launch) (D : va_G) (sz : Nat) (x y : Nat) (f g : Row) : MV l yX7_copies cX7_copies 3 0 0 D sz [.ref x, .ref y] ([(x, .inl (D.1 100, 127, .inl f)), (y, .inl (D.1 100, 127, .inl g))]) ([(x, .inl (D.1 100, 127, .inl f)), (y, .inl (D.1 100, 127, .inl (va_cpy f g 0 0 127)))]) := by
  refine r_enterV (by decide) (Nat.le_of_ble_eq_true rfl) ?_
  intro p e st m args below meth c ls A X hret hk hw hl
  have X : CX D p m c cX7_copies 3 st args RX7 A := X
  have hx := X.1.1
  have hb := X.1.2.1
  have hown := X.1.2.2.2.1
  have hts := X.1.2.2.2.2
  have hl : lv_has ls 3 [(0, .ref x), (1, .ref y)] := hl
  refine lv_iconst (v := 0) hx hb dX7_copies_0 (by decide) ?_
  refine lv_istore_n (lv' := [(2, .int 0), (0, .ref x), (1, .ref y)]) hx hb dX7_copies_1 rfl hl (by decide) rfl (fun ls hl => ?_)
  have key2 : ∀ (n2 : Nat) (i : Nat), (i ≤ 127) → (127 - i < n2) → ∀ (H : Heap) (locs : List Loc) (ls : Array Slot), Wd D A st.heap H locs ([(x, .inl (D.1 100, 127, .inl f)), (y, .inl (D.1 100, 127, .inl (va_cpy f g 0 0 i)))]) → lv_has ls 3 [(0, .ref x), (1, .ref y), (2, .int (nI i))] → W p l e (rmOf 0 0 0 0) st m args below meth c H locs 0 0 (QV below args st D A ([(x, .inl (D.1 100, 127, .inl f)), (y, .inl (D.1 100, 127, .inl (va_cpy f g 0 0 127)))])) (F0 m 2 ls []) := by
    intro n2
    induction n2 with
    | zero => intro i hi hm; omega
    | succ n2 ih2 =>
      intro i hi hm H locs ls hw hl
      refine lv_iload_n hx hb dX7_copies_2 rfl (lv_at hl 2 rfl) ?_
      refine lv_bipush (v := 127) hx hb dX7_copies_3 (by decide) ?_
      refine r_geN (tgt := 20) hx hb i 127 rfl rfl (by omega) (by omega) dX7_copies_5 (by decide) (fun c1 => ?_) (fun c1 => ?_)
      · skip
        exact r_retV X hw hk hret (by rw [show i = 127 from by omega]) dX7_copies_20
      · skip
        refine lv_aload_n hx hb dX7_copies_8 rfl (lv_at hl 1 rfl) ?_
        refine lv_iload_n hx hb dX7_copies_9 rfl (lv_at hl 2 rfl) ?_
        refine lv_aload_n hx hb dX7_copies_10 rfl (lv_at hl 0 rfl) ?_
        refine lv_iload_n hx hb dX7_copies_11 rfl (lv_at hl 2 rfl) ?_
        refine r_iald X hw (f := f) i (m_at 0 rfl) rfl (by omega) (by decide) dX7_copies_12 ?_
        refine r_iast X hw (ws' := [(x, .inl (D.1 100, 127, .inl f)), (y, .inl (D.1 100, 127, .inl (upd (va_cpy f g 0 0 i) i (f i))))]) i rfl (by omega) (by decide) (Foc.cell 1 rfl rfl (ce rfl rfl)) dX7_copies_13 (fun H locs hw => ?_)
        refine r_iincN (lv' := [(2, .int (nI (i + 1))), (0, .ref x), (1, .ref y)]) hx hb i 1 rfl dX7_copies_14 hl (k := 2) rfl rfl (by decide) rfl (fun ls hl => ?_)
        refine lv_goto (tgt := 2) hx hb dX7_copies_17 (by decide) ?_
        exact ih2 (i + 1) (by omega) (by omega) _ _ _ (by rw [← cpy_step00]; exact hw) (lv_sub hl [1, 2, 0] rfl)
  exact key2 128 0 (by omega) (by omega) _ _ _ (by rw [cpy_0]; exact hw) (lv_sub hl [1, 2, 0] rfl)

abbrev c127 (D : va_G) (a : Nat) (f : Row) : Nat × va_E := (a, .inl (D.1 100, 127, .inl f))
theorem cp13 (D : va_G) (L : Nat → Nat) (o0 : Row) (o1 : Row) (o2 : Int32) (o3 : Int32) (o4 : Row) (o5 : Row) (o6 : Row) (o7 : Int32) (o8 : Row) (o9 : Int32) (o10 : Row) (o11 : Int32) (o12 : Int32) (o13 : Int32) (o14 : Int32) (o15 : Int32) (o16 : Int32) (o17 : Row) (o18 : Row) (x : Row) : Foc (mW D L o0 o1 o2 o3 o4 o5 o6 o7 o8 o9 o10 o11 o12 o13 o14 o15 o16 o17 o18) [c127 D (L 1) o0, c127 D (L 3) o17] (mW D L o0 o1 o2 o3 o4 o5 o6 o7 o8 o9 o10 o11 o12 o13 o14 o15 o16 x o18) [c127 D (L 1) o0, c127 D (L 3) x] := Foc.cell2 1 2 rfl rfl rfl rfl (ce rfl (ce rfl (ce rfl (ce rfl (ce rfl (ce rfl (ce rfl (ce rfl rfl))))))))
theorem cp31 (D : va_G) (L : Nat → Nat) (o0 : Row) (o1 : Row) (o2 : Int32) (o3 : Int32) (o4 : Row) (o5 : Row) (o6 : Row) (o7 : Int32) (o8 : Row) (o9 : Int32) (o10 : Row) (o11 : Int32) (o12 : Int32) (o13 : Int32) (o14 : Int32) (o15 : Int32) (o16 : Int32) (o17 : Row) (o18 : Row) (x : Row) : Foc (mW D L o0 o1 o2 o3 o4 o5 o6 o7 o8 o9 o10 o11 o12 o13 o14 o15 o16 o17 o18) [c127 D (L 3) o17, c127 D (L 1) o0] (mW D L x o1 o2 o3 o4 o5 o6 o7 o8 o9 o10 o11 o12 o13 o14 o15 o16 o17 o18) [c127 D (L 3) o17, c127 D (L 1) x] := Foc.cell2 3 1 rfl rfl rfl rfl (ce rfl (ce rfl (ce rfl (ce rfl (ce rfl (ce rfl (ce rfl (ce rfl rfl))))))))
theorem cp14 (D : va_G) (L : Nat → Nat) (o0 : Row) (o1 : Row) (o2 : Int32) (o3 : Int32) (o4 : Row) (o5 : Row) (o6 : Row) (o7 : Int32) (o8 : Row) (o9 : Int32) (o10 : Row) (o11 : Int32) (o12 : Int32) (o13 : Int32) (o14 : Int32) (o15 : Int32) (o16 : Int32) (o17 : Row) (o18 : Row) (x : Row) : Foc (mW D L o0 o1 o2 o3 o4 o5 o6 o7 o8 o9 o10 o11 o12 o13 o14 o15 o16 o17 o18) [c127 D (L 1) o0, c127 D (L 4) o18] (mW D L o0 o1 o2 o3 o4 o5 o6 o7 o8 o9 o10 o11 o12 o13 o14 o15 o16 o17 x) [c127 D (L 1) o0, c127 D (L 4) x] := Foc.cell2 1 3 rfl rfl rfl rfl (ce rfl (ce rfl (ce rfl (ce rfl (ce rfl (ce rfl (ce rfl (ce rfl rfl))))))))
theorem cp41 (D : va_G) (L : Nat → Nat) (o0 : Row) (o1 : Row) (o2 : Int32) (o3 : Int32) (o4 : Row) (o5 : Row) (o6 : Row) (o7 : Int32) (o8 : Row) (o9 : Int32) (o10 : Row) (o11 : Int32) (o12 : Int32) (o13 : Int32) (o14 : Int32) (o15 : Int32) (o16 : Int32) (o17 : Row) (o18 : Row) (x : Row) : Foc (mW D L o0 o1 o2 o3 o4 o5 o6 o7 o8 o9 o10 o11 o12 o13 o14 o15 o16 o17 o18) [c127 D (L 4) o18, c127 D (L 1) o0] (mW D L x o1 o2 o3 o4 o5 o6 o7 o8 o9 o10 o11 o12 o13 o14 o15 o16 o17 o18) [c127 D (L 4) o18, c127 D (L 1) x] := Foc.cell2 4 1 rfl rfl rfl rfl (ce rfl (ce rfl (ce rfl (ce rfl (ce rfl (ce rfl (ce rfl (ce rfl rfl))))))))
theorem bTorn_b (x : BS) : bTorn x = 0 ∨ bTorn x = 1 := by
  unfold bTorn
  split
  · exact Or.inr rfl
  · exact Or.inl rfl
theorem bTorn_ge (x : BS) : 0 ≤ bTorn x := by
  rcases bTorn_b x with h | h <;> rw [h] <;> decide

set_option maxRecDepth 100000 in
set_option maxHeartbeats 4000000 in
theorem c_X7_ifBurst (l : Launch) (D : va_G) (sz : Nat) (L : Nat → Nat) (s pa : Row) (P ru : Int32) (td ah sh : Row) (n0 : Int32) (tx : Row) (ty : Int32) (nu : Row) (sp fo re ca os od : Int32) (spa he : Row) (pp z q md w : Nat) (hok : rOK s pp z q) (hmd : md < 3) (hw10 : w < 10) : MI l yX7_ifBurst cX7_ifBurst 5 (some .int) 14 308 D sz [.ref (L 0), .int (nI md), .int (nI w)] (mW D L s pa P ru td ah sh n0 tx ty nu sp fo re ca os od spa he) (buS s td ah sh q md (67 + w)) (mW D L (va_cpy (va_cpy s spa 0 0 127) (buS s td ah sh q md) 0 0 127) pa P ru ((buR s td ah sh q md).1.2.1) ((buR s td ah sh q md).1.2.2.1) ((buR s td ah sh q md).1.2.2.2.1) (nI (buR s td ah sh q md).1.2.2.2.2) tx ty nu sp fo re ca os od (va_cpy s spa 0 0 127) he) := by
  refine r_enterI (by decide) (Nat.le_of_ble_eq_true rfl) ?_
  intro p e st m args below meth c ls A X hret hk hw hl
  have X : CX D p m c cX7_ifBurst 5 st args RX7 A := X
  have hx := X.1.1
  have hb := X.1.2.1
  have hown := X.1.2.2.2.1
  have hts := X.1.2.2.2.2
  have hl : lv_has ls 5 [(0, .ref (L 0)), (1, .int (nI md)), (2, .int (nI w))] := hl
  refine lv_iload_n hx hb dX7_ifBurst_0 rfl (lv_at hl 1 rfl) ?_
  refine lv_iconst (v := 0) hx hb dX7_ifBurst_1 (by decide) ?_
  refine lv_iconst (v := 2) hx hb dX7_ifBurst_2 (by decide) ?_
  refine r_callS X hw (ws' := mW D L s pa P ru td ah sh n0 tx ty nu sp fo re ca os od spa he) (As := [.int (nI md), .int 0, .int 2]) (rest := []) lk_X7_45 (c_X7_in l D _ (nI md) 0 2) Foc.nil rfl hl.1 (Nat.le_of_ble_eq_true rfl) ⟨Nat.le_of_ble_eq_true rfl, Nat.le_of_ble_eq_true rfl⟩ rfl dX7_ifBurst_3 ⟨Nat.le_refl _, Nat.le_refl _⟩ (fun H locs hw => ?_)
  refine lv_if_eq (tgt := 19) hx hb dX7_ifBurst_6 (by decide) (fun h => absurd h (in_ok md 2 (by omega) (by decide))) (fun _ => ?_)
  refine lv_iload_n hx hb dX7_ifBurst_9 rfl (lv_at hl 2 rfl) ?_
  refine lv_iconst (v := 0) hx hb dX7_ifBurst_10 (by decide) ?_
  refine lv_bipush (v := 9) hx hb dX7_ifBurst_11 (by decide) ?_
  refine r_callS X hw (ws' := mW D L s pa P ru td ah sh n0 tx ty nu sp fo re ca os od spa he) (As := [.int (nI w), .int 0, .int 9]) (rest := []) lk_X7_45 (c_X7_in l D _ (nI w) 0 9) Foc.nil rfl hl.1 (Nat.le_of_ble_eq_true rfl) ⟨Nat.le_of_ble_eq_true rfl, Nat.le_of_ble_eq_true rfl⟩ rfl dX7_ifBurst_13 ⟨Nat.le_refl _, Nat.le_refl _⟩ (fun H locs hw => ?_)
  refine lv_if_ne (tgt := 22) hx hb dX7_ifBurst_16 (by decide) (fun _ => ?_) (fun h => absurd h (in_ok w 9 (by omega) (by decide)))
  refine lv_aload_n hx hb dX7_ifBurst_22 rfl (lv_at hl 0 rfl) ?_
  refine r_get X hw (v := .ref (L 1)) fl_X7_7 (m_at 0 rfl) rfl dX7_ifBurst_23 ?_
  refine lv_aload_n hx hb dX7_ifBurst_26 rfl (lv_at hl 0 rfl) ?_
  refine r_get X hw (v := .ref (L 3)) fl_X7_16 (m_at 0 rfl) rfl dX7_ifBurst_27 ?_
  refine r_callSv X hw (ws' := mW D L s pa P ru td ah sh n0 tx ty nu sp fo re ca os od (va_cpy s spa 0 0 127) he) (As := [.ref (L 1), .ref (L 3)]) (rest := []) lk_X7_160 (c_X7_copies l D _ (L 1) (L 3) s spa) (cp13 D L s pa P ru td ah sh n0 tx ty nu sp fo re ca os od spa he (va_cpy s spa 0 0 127)) rfl hl.1 (Nat.le_of_ble_eq_true rfl) ⟨Nat.le_of_ble_eq_true rfl, Nat.le_of_ble_eq_true rfl⟩ rfl dX7_ifBurst_30 ⟨Nat.le_refl _, Nat.le_refl _⟩ (fun H locs hw => ?_)
  refine lv_aload_n hx hb dX7_ifBurst_33 rfl (lv_at hl 0 rfl) ?_
  refine lv_iload_n hx hb dX7_ifBurst_34 rfl (lv_at hl 1 rfl) ?_
  refine r_callV X hw (ws' := mW D L (buS s td ah sh q md) pa P ru ((buR s td ah sh q md).1.2.1) ((buR s td ah sh q md).1.2.2.1) ((buR s td ah sh q md).1.2.2.2.1) (nI (buR s td ah sh q md).1.2.2.2.2) tx ty nu sp fo re ca os od (va_cpy s spa 0 0 127) he) (As := [.int (nI md)]) (rest := []) lk_X7_134 (c_X7_bursts l D _ L s pa P ru td ah sh n0 tx ty nu sp fo re ca os od (va_cpy s spa 0 0 127) he pp z q md hok (by omega)) Foc.all (m_at 0 rfl) rfl hl.1 (Nat.le_of_ble_eq_true rfl) ⟨Nat.le_of_ble_eq_true rfl, Nat.le_of_ble_eq_true rfl⟩ rfl dX7_ifBurst_35 ⟨Nat.le_refl _, Nat.le_refl _⟩ (fun H locs hw => ?_)
  obtain ⟨bq, hbq⟩ : ∃ y, y = buR s td ah sh q md := ⟨_, rfl⟩
  obtain ⟨s9, hs9⟩ : ∃ y, y = buS s td ah sh q md := ⟨_, rfl⟩
  rw [← hbq, ← hs9] at hw
  rw [← hbq]
  rw [← hs9]
  refine lv_istore_n (lv' := [(3, .int (bTorn bq.1)), (0, .ref (L 0)), (1, .int (nI md)), (2, .int (nI w))]) hx hb dX7_ifBurst_38 rfl hl (by decide) rfl (fun ls hl => ?_)
  refine lv_iload_n hx hb dX7_ifBurst_39 rfl (lv_at hl 0 rfl) ?_
  refine lv_if_ge (tgt := 48) hx hb dX7_ifBurst_40 (by decide) (fun _ => ?_) (fun h => absurd (bTorn_ge bq.1) h)
  refine lv_aload_n hx hb dX7_ifBurst_48 rfl (lv_at hl 1 rfl) ?_
  refine r_get X hw (v := .ref (L 1)) fl_X7_7 (m_at 0 rfl) rfl dX7_ifBurst_49 ?_
  refine lv_bipush (v := 67) hx hb dX7_ifBurst_52 (by decide) ?_
  refine lv_iload_n hx hb dX7_ifBurst_54 rfl (lv_at hl 3 rfl) ?_
  refine r_addN hx hb 67 w rfl rfl dX7_ifBurst_55 ?_
  refine r_iald X hw (f := s9) (67 + w) (m_at 1 rfl) rfl (by omega) (by decide) dX7_ifBurst_56 ?_
  refine lv_istore (lv' := [(4, .int (s9 (67 + w))), (3, .int (bTorn bq.1)), (0, .ref (L 0)), (1, .int (nI md)), (2, .int (nI w))]) hx hb dX7_ifBurst_57 hl (by decide) rfl (fun ls hl => ?_)
  refine lv_aload_n hx hb dX7_ifBurst_59 rfl (lv_at hl 2 rfl) ?_
  refine r_get X hw (v := .ref (L 3)) fl_X7_16 (m_at 0 rfl) rfl dX7_ifBurst_60 ?_
  refine lv_aload_n hx hb dX7_ifBurst_63 rfl (lv_at hl 2 rfl) ?_
  refine r_get X hw (v := .ref (L 1)) fl_X7_7 (m_at 0 rfl) rfl dX7_ifBurst_64 ?_
  refine r_callSv X hw (ws' := mW D L (va_cpy (va_cpy s spa 0 0 127) s9 0 0 127) pa P ru bq.1.2.1 bq.1.2.2.1 bq.1.2.2.2.1 (nI bq.1.2.2.2.2) tx ty nu sp fo re ca os od (va_cpy s spa 0 0 127) he) (As := [.ref (L 3), .ref (L 1)]) (rest := []) lk_X7_160 (c_X7_copies l D _ (L 3) (L 1) (va_cpy s spa 0 0 127) s9) (cp31 D L s9 pa P ru bq.1.2.1 bq.1.2.2.1 bq.1.2.2.2.1 (nI bq.1.2.2.2.2) tx ty nu sp fo re ca os od (va_cpy s spa 0 0 127) he (va_cpy (va_cpy s spa 0 0 127) s9 0 0 127)) rfl hl.1 (Nat.le_of_ble_eq_true rfl) ⟨Nat.le_of_ble_eq_true rfl, Nat.le_of_ble_eq_true rfl⟩ rfl dX7_ifBurst_67 ⟨Nat.le_refl _, Nat.le_refl _⟩ (fun H locs hw => ?_)
  refine lv_iload hx hb dX7_ifBurst_70 (lv_at hl 0 rfl) ?_
  exact r_ret X hw hk hret rfl rfl rfl dX7_ifBurst_72

set_option maxRecDepth 100000 in
set_option maxHeartbeats 4000000 in
theorem c_X7_ifBurst_bad (l : Launch) (D : va_G) (sz : Nat) (L : Nat → Nat) (o0 : Row) (o1 : Row) (o2 : Int32) (o3 : Int32) (o4 : Row) (o5 : Row) (o6 : Row) (o7 : Int32) (o8 : Row) (o9 : Int32) (o10 : Row) (o11 : Int32) (o12 : Int32) (o13 : Int32) (o14 : Int32) (o15 : Int32) (o16 : Int32) (o17 : Row) (o18 : Row) (a1 a2 : Int32) (hbad : ¬ ((¬ sp_X7_in a1 0 2 = 0) ∧ ¬ sp_X7_in a2 0 9 = 0)) : MI l yX7_ifBurst cX7_ifBurst 5 (some .int) 1 22 D sz [.ref (L 0), .int a1, .int a2] (mW D L o0 o1 o2 o3 o4 o5 o6 o7 o8 o9 o10 o11 o12 o13 o14 o15 o16 o17 o18) (-1000001) (mW D L o0 o1 o2 o3 o4 o5 o6 o7 o8 o9 o10 o11 o12 o13 o14 o15 o16 o17 o18) := by
  refine r_enterI (by decide) (Nat.le_of_ble_eq_true rfl) ?_
  intro p e st m args below meth c ls A X hret hk hw hl
  have X : CX D p m c cX7_ifBurst 5 st args RX7 A := X
  have hx := X.1.1
  have hb := X.1.2.1
  have hown := X.1.2.2.2.1
  have hts := X.1.2.2.2.2
  have hl : lv_has ls 5 [(0, .ref (L 0)), (1, .int a1), (2, .int a2)] := hl
  refine lv_iload_n hx hb dX7_ifBurst_0 rfl (lv_at hl 1 rfl) ?_
  refine lv_iconst (v := 0) hx hb dX7_ifBurst_1 (by decide) ?_
  refine lv_iconst (v := 2) hx hb dX7_ifBurst_2 (by decide) ?_
  refine r_callS X hw (ws' := mW D L o0 o1 o2 o3 o4 o5 o6 o7 o8 o9 o10 o11 o12 o13 o14 o15 o16 o17 o18) (As := [.int a1, .int 0, .int 2]) (rest := []) lk_X7_45 (c_X7_in l D _ a1 0 2) Foc.nil rfl hl.1 (Nat.le_of_ble_eq_true rfl) ⟨Nat.le_of_ble_eq_true rfl, Nat.le_of_ble_eq_true rfl⟩ rfl dX7_ifBurst_3 ⟨Nat.le_refl _, Nat.le_refl _⟩ (fun H locs hw => ?_)
  refine lv_if_eq (tgt := 19) hx hb dX7_ifBurst_6 (by decide) (fun c1 => ?_) (fun c1 => ?_)
  · skip
    refine lv_ldc (v := (-1000001)) hx hb hown (hts _ kc_X7_106) dX7_ifBurst_19 ?_
    exact r_ret X hw hk hret rfl rfl rfl dX7_ifBurst_21
  · skip
    refine lv_iload_n hx hb dX7_ifBurst_9 rfl (lv_at hl 2 rfl) ?_
    refine lv_iconst (v := 0) hx hb dX7_ifBurst_10 (by decide) ?_
    refine lv_bipush (v := 9) hx hb dX7_ifBurst_11 (by decide) ?_
    refine r_callS X hw (ws' := mW D L o0 o1 o2 o3 o4 o5 o6 o7 o8 o9 o10 o11 o12 o13 o14 o15 o16 o17 o18) (As := [.int a2, .int 0, .int 9]) (rest := []) lk_X7_45 (c_X7_in l D _ a2 0 9) Foc.nil rfl hl.1 (Nat.le_of_ble_eq_true rfl) ⟨Nat.le_of_ble_eq_true rfl, Nat.le_of_ble_eq_true rfl⟩ rfl dX7_ifBurst_13 ⟨Nat.le_refl _, Nat.le_refl _⟩ (fun H locs hw => ?_)
    refine lv_if_ne (tgt := 22) hx hb dX7_ifBurst_16 (by decide) (fun c2 => ?_) (fun c2 => ?_)
    · skip
      exact absurd ⟨c1, c2⟩ hbad
    · skip
      refine lv_ldc (v := (-1000001)) hx hb hown (hts _ kc_X7_106) dX7_ifBurst_19 ?_
      exact r_ret X hw hk hret rfl rfl rfl dX7_ifBurst_21

/-- ticks until an alarm has come once more, at most f of them: how many, and what they leave -/
noncomputable def cmR (a : Nat) (cm : Int32) : Nat → Nat → Row → Nat × Row
  | 0, n, s => (n, s)
  | f + 1, n, s => if s (40 + 9 * a + 8) = cm then cmR a cm f (n + 1) (sp_X7_tick s) else (n, s)

noncomputable def sp_X7_comesIn (s : Row) (a : Nat) : Int32 := if (cmR a (s (40 + 9 * a + 8)) 4000 0 s).2 (40 + 9 * a + 8) = s (40 + 9 * a + 8) then -1000004 else nI (cmR a (s (40 + 9 * a + 8)) 4000 0 s).1
set_option maxRecDepth 100000 in
set_option maxHeartbeats 4000000 in
theorem c_X7_comesIn (l : Launch) (D : va_G) (sz : Nat) (L : Nat → Nat) (s : Row) (o1 : Row) (o2 : Int32) (o3 : Int32) (o4 : Row) (o5 : Row) (o6 : Row) (o7 : Int32) (o8 : Row) (o9 : Int32) (o10 : Row) (o11 : Int32) (o12 : Int32) (o13 : Int32) (o14 : Int32) (o15 : Int32) (o16 : Int32) (o17 : Row) (o18 : Row) (a : Nat) (ha : a < 3) (har : ¬ s (40 + 9 * a + 6) = 0) : MI l yX7_comesIn cX7_comesIn 4 (some .int) 10 217 D sz [.ref (L 0), .int (nI a)] (mW D L s o1 o2 o3 o4 o5 o6 o7 o8 o9 o10 o11 o12 o13 o14 o15 o16 o17 o18) (sp_X7_comesIn s a) (mW D L (va_cpy (va_cpy s o17 0 0 127) (cmR a (s (40 + 9 * a + 8)) 4000 0 s).2 0 0 127) o1 o2 o3 o4 o5 o6 o7 o8 o9 o10 o11 o12 o13 o14 o15 o16 (va_cpy s o17 0 0 127) o18) := by
  refine r_enterI (by decide) (Nat.le_of_ble_eq_true rfl) ?_
  intro p e st m args below meth c ls A X hret hk hw hl
  have X : CX D p m c cX7_comesIn 4 st args RX7 A := X
  have hx := X.1.1
  have hb := X.1.2.1
  have hown := X.1.2.2.2.1
  have hts := X.1.2.2.2.2
  have hl : lv_has ls 4 [(0, .ref (L 0)), (1, .int (nI a))] := hl
  obtain ⟨fin, hfin⟩ : ∃ y, y = (cmR a (s (40 + 9 * a + 8)) 4000 0 s) := ⟨_, rfl⟩
  refine lv_iload_n hx hb dX7_comesIn_0 rfl (lv_at hl 1 rfl) ?_
  refine r_callS X hw (ws' := mW D L s o1 o2 o3 o4 o5 o6 o7 o8 o9 o10 o11 o12 o13 o14 o15 o16 o17 o18) (As := [.int (nI a)]) (rest := []) lk_X7_137 (c_X7_isAlarm l D _ (nI a)) Foc.nil rfl hl.1 (Nat.le_of_ble_eq_true rfl) ⟨Nat.le_of_ble_eq_true rfl, Nat.le_of_ble_eq_true rfl⟩ rfl dX7_comesIn_1 ⟨Nat.le_refl _, Nat.le_refl _⟩ (fun H locs hw => ?_)
  refine lv_if_ne (tgt := 10) hx hb dX7_comesIn_4 (by decide) (fun _ => ?_) (fun h => absurd h (isAl_ok (by omega)))
  refine lv_aload_n hx hb dX7_comesIn_10 rfl (lv_at hl 0 rfl) ?_
  refine r_get X hw (v := .ref (L 1)) fl_X7_7 (m_at 0 rfl) rfl dX7_comesIn_11 ?_
  refine lv_iload_n hx hb dX7_comesIn_14 rfl (lv_at hl 1 rfl) ?_
  refine r_callS X hw (ws' := mW D L s o1 o2 o3 o4 o5 o6 o7 o8 o9 o10 o11 o12 o13 o14 o15 o16 o17 o18) (As := [.int (nI a)]) (rest := [.ref (L 1)]) lk_X7_88 (c_X7_alarmAtN l D _ a (by omega)) Foc.nil rfl hl.1 (Nat.le_of_ble_eq_true rfl) ⟨Nat.le_of_ble_eq_true rfl, Nat.le_of_ble_eq_true rfl⟩ rfl dX7_comesIn_15 ⟨Nat.le_refl _, Nat.le_refl _⟩ (fun H locs hw => ?_)
  refine lv_bipush (v := 6) hx hb dX7_comesIn_18 (by decide) ?_
  refine r_addN hx hb (40 + 9 * a) 6 rfl rfl dX7_comesIn_20 ?_
  refine r_iald X hw (f := s) (40 + 9 * a + 6) (m_at 1 rfl) rfl (by omega) (by decide) dX7_comesIn_21 ?_
  refine lv_if_ne (tgt := 28) hx hb dX7_comesIn_22 (by decide) (fun _ => ?_) (fun h => absurd h har)
  refine lv_aload_n hx hb dX7_comesIn_28 rfl (lv_at hl 0 rfl) ?_
  refine r_get X hw (v := .ref (L 1)) fl_X7_7 (m_at 0 rfl) rfl dX7_comesIn_29 ?_
  refine lv_aload_n hx hb dX7_comesIn_32 rfl (lv_at hl 0 rfl) ?_
  refine r_get X hw (v := .ref (L 3)) fl_X7_16 (m_at 0 rfl) rfl dX7_comesIn_33 ?_
  refine r_callSv X hw (ws' := mW D L s o1 o2 o3 o4 o5 o6 o7 o8 o9 o10 o11 o12 o13 o14 o15 o16 (va_cpy s o17 0 0 127) o18) (As := [.ref (L 1), .ref (L 3)]) (rest := []) lk_X7_160 (c_X7_copies l D _ (L 1) (L 3) s o17) (cp13 D L s o1 o2 o3 o4 o5 o6 o7 o8 o9 o10 o11 o12 o13 o14 o15 o16 o17 o18 (va_cpy s o17 0 0 127)) rfl hl.1 (Nat.le_of_ble_eq_true rfl) ⟨Nat.le_of_ble_eq_true rfl, Nat.le_of_ble_eq_true rfl⟩ rfl dX7_comesIn_36 ⟨Nat.le_refl _, Nat.le_refl _⟩ (fun H locs hw => ?_)
  refine lv_iconst (v := 0) hx hb dX7_comesIn_39 (by decide) ?_
  refine lv_istore_n (lv' := [(2, .int 0), (0, .ref (L 0)), (1, .int (nI a))]) hx hb dX7_comesIn_40 rfl hl (by decide) rfl (fun ls hl => ?_)
  refine lv_aload_n hx hb dX7_comesIn_41 rfl (lv_at hl 1 rfl) ?_
  refine r_get X hw (v := .ref (L 1)) fl_X7_7 (m_at 0 rfl) rfl dX7_comesIn_42 ?_
  refine lv_iload_n hx hb dX7_comesIn_45 rfl (lv_at hl 2 rfl) ?_
  refine r_callS X hw (ws' := mW D L s o1 o2 o3 o4 o5 o6 o7 o8 o9 o10 o11 o12 o13 o14 o15 o16 (va_cpy s o17 0 0 127) o18) (As := [.int (nI a)]) (rest := [.ref (L 1)]) lk_X7_88 (c_X7_alarmAtN l D _ a (by omega)) Foc.nil rfl hl.1 (Nat.le_of_ble_eq_true rfl) ⟨Nat.le_of_ble_eq_true rfl, Nat.le_of_ble_eq_true rfl⟩ rfl dX7_comesIn_46 ⟨Nat.le_refl _, Nat.le_refl _⟩ (fun H locs hw => ?_)
  refine lv_bipush (v := 8) hx hb dX7_comesIn_49 (by decide) ?_
  refine r_addN hx hb (40 + 9 * a) 8 rfl rfl dX7_comesIn_51 ?_
  refine r_iald X hw (f := s) (40 + 9 * a + 8) (m_at 1 rfl) rfl (by omega) (by decide) dX7_comesIn_52 ?_
  refine lv_istore_n (lv' := [(3, .int (s (40 + 9 * a + 8))), (2, .int 0), (0, .ref (L 0)), (1, .int (nI a))]) hx hb dX7_comesIn_53 rfl hl (by decide) rfl (fun ls hl => ?_)
  have key54 : ∀ (n54 : Nat) (n : Nat) (y : Row), (n ≤ 4000) → (4000 - n < n54) → (cmR a (s (40 + 9 * a + 8)) (4000 - n) n y = fin) → ∀ (H : Heap) (locs : List Loc) (ls : Array Slot), Wd D A st.heap H locs (mW D L y o1 o2 o3 o4 o5 o6 o7 o8 o9 o10 o11 o12 o13 o14 o15 o16 (va_cpy s o17 0 0 127) o18) → lv_has ls 4 [(0, .ref (L 0)), (1, .int (nI a)), (2, .int (nI n)), (3, .int (s (40 + 9 * a + 8)))] → W p l e (rmOf 10 0 0 217) st m args below meth c H locs 0 0 (QI below args st D A (sp_X7_comesIn s a) (mW D L (va_cpy (va_cpy s o17 0 0 127) (cmR a (s (40 + 9 * a + 8)) 4000 0 s).2 0 0 127) o1 o2 o3 o4 o5 o6 o7 o8 o9 o10 o11 o12 o13 o14 o15 o16 (va_cpy s o17 0 0 127) o18)) (F0 m 54 ls []) := by
    intro n54
    induction n54 with
    | zero => intro n y hn hm hq; omega
    | succ n54 ih54 =>
      intro n y hn hm hq H locs ls hw hl
      refine lv_iload_n hx hb dX7_comesIn_54 rfl (lv_at hl 2 rfl) ?_
      refine lv_sipush (v := 4000) hx hb dX7_comesIn_55 (by decide) ?_
      refine r_geN (tgt := 87) hx hb n 4000 rfl rfl (by omega) (by omega) dX7_comesIn_58 (by decide) (fun c1 => ?_) (fun c1 => ?_)
      · skip
        refine lv_aload_n hx hb dX7_comesIn_87 rfl (lv_at hl 0 rfl) ?_
        refine r_get X hw (v := .ref (L 1)) fl_X7_7 (m_at 0 rfl) rfl dX7_comesIn_88 ?_
        refine lv_iload_n hx hb dX7_comesIn_91 rfl (lv_at hl 1 rfl) ?_
        refine r_callS X hw (ws' := mW D L y o1 o2 o3 o4 o5 o6 o7 o8 o9 o10 o11 o12 o13 o14 o15 o16 (va_cpy s o17 0 0 127) o18) (As := [.int (nI a)]) (rest := [.ref (L 1)]) lk_X7_88 (c_X7_alarmAtN l D _ a (by omega)) Foc.nil rfl hl.1 (Nat.le_of_ble_eq_true rfl) ⟨Nat.le_of_ble_eq_true rfl, Nat.le_of_ble_eq_true rfl⟩ rfl dX7_comesIn_92 ⟨Nat.le_refl _, Nat.le_refl _⟩ (fun H locs hw => ?_)
        refine lv_bipush (v := 8) hx hb dX7_comesIn_95 (by decide) ?_
        refine r_addN hx hb (40 + 9 * a) 8 rfl rfl dX7_comesIn_97 ?_
        refine r_iald X hw (f := y) (40 + 9 * a + 8) (m_at 1 rfl) rfl (by omega) (by decide) dX7_comesIn_98 ?_
        refine lv_iload_n hx hb dX7_comesIn_99 rfl (lv_at hl 3 rfl) ?_
        refine lv_icmp_ne (tgt := 108) hx hb dX7_comesIn_100 (by decide) (fun c2 => ?_) (fun c2 => ?_)
        · skip
          refine lv_iload_n hx hb dX7_comesIn_108 rfl (lv_at hl 2 rfl) ?_
          refine lv_istore_n (lv' := [(2, .int (nI n)), (0, .ref (L 0)), (1, .int (nI a)), (3, .int (s (40 + 9 * a + 8)))]) hx hb dX7_comesIn_109 rfl hl (by decide) rfl (fun ls hl => ?_)
          refine lv_aload_n hx hb dX7_comesIn_110 rfl (lv_at hl 1 rfl) ?_
          refine r_get X hw (v := .ref (L 3)) fl_X7_16 (m_at 0 rfl) rfl dX7_comesIn_111 ?_
          refine lv_aload_n hx hb dX7_comesIn_114 rfl (lv_at hl 1 rfl) ?_
          refine r_get X hw (v := .ref (L 1)) fl_X7_7 (m_at 0 rfl) rfl dX7_comesIn_115 ?_
          refine r_callSv X hw (ws' := mW D L (va_cpy (va_cpy s o17 0 0 127) y 0 0 127) o1 o2 o3 o4 o5 o6 o7 o8 o9 o10 o11 o12 o13 o14 o15 o16 (va_cpy s o17 0 0 127) o18) (As := [.ref (L 3), .ref (L 1)]) (rest := []) lk_X7_160 (c_X7_copies l D _ (L 3) (L 1) (va_cpy s o17 0 0 127) y) (cp31 D L y o1 o2 o3 o4 o5 o6 o7 o8 o9 o10 o11 o12 o13 o14 o15 o16 (va_cpy s o17 0 0 127) o18 (va_cpy (va_cpy s o17 0 0 127) y 0 0 127)) rfl hl.1 (Nat.le_of_ble_eq_true rfl) ⟨Nat.le_of_ble_eq_true rfl, Nat.le_of_ble_eq_true rfl⟩ rfl dX7_comesIn_118 ⟨Nat.le_refl _, Nat.le_refl _⟩ (fun H locs hw => ?_)
          refine lv_iload_n hx hb dX7_comesIn_121 rfl (lv_at hl 0 rfl) ?_
          exact r_ret X hw hk hret rfl (by rw [show 4000 - n = 0 from by omega] at hq; unfold cmR at hq; unfold sp_X7_comesIn; rw [← hfin, ← hq]; dsimp only; rw [if_neg c2]) (by rw [show 4000 - n = 0 from by omega] at hq; unfold cmR at hq; rw [← hfin, ← hq]) dX7_comesIn_122
        · skip
          refine lv_ldc (v := (-1000004)) hx hb hown (hts _ kc_X7_113) dX7_comesIn_103 ?_
          refine lv_goto (tgt := 109) hx hb dX7_comesIn_105 (by decide) ?_
          refine lv_istore_n (lv' := [(2, .int (-1000004)), (0, .ref (L 0)), (1, .int (nI a)), (3, .int (s (40 + 9 * a + 8)))]) hx hb dX7_comesIn_109 rfl hl (by decide) rfl (fun ls hl => ?_)
          refine lv_aload_n hx hb dX7_comesIn_110 rfl (lv_at hl 1 rfl) ?_
          refine r_get X hw (v := .ref (L 3)) fl_X7_16 (m_at 0 rfl) rfl dX7_comesIn_111 ?_
          refine lv_aload_n hx hb dX7_comesIn_114 rfl (lv_at hl 1 rfl) ?_
          refine r_get X hw (v := .ref (L 1)) fl_X7_7 (m_at 0 rfl) rfl dX7_comesIn_115 ?_
          refine r_callSv X hw (ws' := mW D L (va_cpy (va_cpy s o17 0 0 127) y 0 0 127) o1 o2 o3 o4 o5 o6 o7 o8 o9 o10 o11 o12 o13 o14 o15 o16 (va_cpy s o17 0 0 127) o18) (As := [.ref (L 3), .ref (L 1)]) (rest := []) lk_X7_160 (c_X7_copies l D _ (L 3) (L 1) (va_cpy s o17 0 0 127) y) (cp31 D L y o1 o2 o3 o4 o5 o6 o7 o8 o9 o10 o11 o12 o13 o14 o15 o16 (va_cpy s o17 0 0 127) o18 (va_cpy (va_cpy s o17 0 0 127) y 0 0 127)) rfl hl.1 (Nat.le_of_ble_eq_true rfl) ⟨Nat.le_of_ble_eq_true rfl, Nat.le_of_ble_eq_true rfl⟩ rfl dX7_comesIn_118 ⟨Nat.le_refl _, Nat.le_refl _⟩ (fun H locs hw => ?_)
          refine lv_iload_n hx hb dX7_comesIn_121 rfl (lv_at hl 0 rfl) ?_
          exact r_ret X hw hk hret rfl (by rw [show 4000 - n = 0 from by omega] at hq; unfold cmR at hq; unfold sp_X7_comesIn; rw [← hfin, ← hq]; dsimp only; rw [if_pos c2]) (by rw [show 4000 - n = 0 from by omega] at hq; unfold cmR at hq; rw [← hfin, ← hq]) dX7_comesIn_122
      · skip
        refine lv_aload_n hx hb dX7_comesIn_61 rfl (lv_at hl 0 rfl) ?_
        refine r_get X hw (v := .ref (L 1)) fl_X7_7 (m_at 0 rfl) rfl dX7_comesIn_62 ?_
        refine lv_iload_n hx hb dX7_comesIn_65 rfl (lv_at hl 1 rfl) ?_
        refine r_callS X hw (ws' := mW D L y o1 o2 o3 o4 o5 o6 o7 o8 o9 o10 o11 o12 o13 o14 o15 o16 (va_cpy s o17 0 0 127) o18) (As := [.int (nI a)]) (rest := [.ref (L 1)]) lk_X7_88 (c_X7_alarmAtN l D _ a (by omega)) Foc.nil rfl hl.1 (Nat.le_of_ble_eq_true rfl) ⟨Nat.le_of_ble_eq_true rfl, Nat.le_of_ble_eq_true rfl⟩ rfl dX7_comesIn_66 ⟨Nat.le_refl _, Nat.le_refl _⟩ (fun H locs hw => ?_)
        refine lv_bipush (v := 8) hx hb dX7_comesIn_69 (by decide) ?_
        refine r_addN hx hb (40 + 9 * a) 8 rfl rfl dX7_comesIn_71 ?_
        refine r_iald X hw (f := y) (40 + 9 * a + 8) (m_at 1 rfl) rfl (by omega) (by decide) dX7_comesIn_72 ?_
        refine lv_iload_n hx hb dX7_comesIn_73 rfl (lv_at hl 3 rfl) ?_
        refine lv_icmp_ne (tgt := 87) hx hb dX7_comesIn_74 (by decide) (fun c3 => ?_) (fun c3 => ?_)
        · skip
          refine lv_aload_n hx hb dX7_comesIn_87 rfl (lv_at hl 0 rfl) ?_
          refine r_get X hw (v := .ref (L 1)) fl_X7_7 (m_at 0 rfl) rfl dX7_comesIn_88 ?_
          refine lv_iload_n hx hb dX7_comesIn_91 rfl (lv_at hl 1 rfl) ?_
          refine r_callS X hw (ws' := mW D L y o1 o2 o3 o4 o5 o6 o7 o8 o9 o10 o11 o12 o13 o14 o15 o16 (va_cpy s o17 0 0 127) o18) (As := [.int (nI a)]) (rest := [.ref (L 1)]) lk_X7_88 (c_X7_alarmAtN l D _ a (by omega)) Foc.nil rfl hl.1 (Nat.le_of_ble_eq_true rfl) ⟨Nat.le_of_ble_eq_true rfl, Nat.le_of_ble_eq_true rfl⟩ rfl dX7_comesIn_92 ⟨Nat.le_refl _, Nat.le_refl _⟩ (fun H locs hw => ?_)
          refine lv_bipush (v := 8) hx hb dX7_comesIn_95 (by decide) ?_
          refine r_addN hx hb (40 + 9 * a) 8 rfl rfl dX7_comesIn_97 ?_
          refine r_iald X hw (f := y) (40 + 9 * a + 8) (m_at 1 rfl) rfl (by omega) (by decide) dX7_comesIn_98 ?_
          refine lv_iload_n hx hb dX7_comesIn_99 rfl (lv_at hl 3 rfl) ?_
          refine lv_icmp_ne (tgt := 108) hx hb dX7_comesIn_100 (by decide) (fun _ => ?_) (fun h => absurd h c3)
          refine lv_iload_n hx hb dX7_comesIn_108 rfl (lv_at hl 2 rfl) ?_
          refine lv_istore_n (lv' := [(2, .int (nI n)), (0, .ref (L 0)), (1, .int (nI a)), (3, .int (s (40 + 9 * a + 8)))]) hx hb dX7_comesIn_109 rfl hl (by decide) rfl (fun ls hl => ?_)
          refine lv_aload_n hx hb dX7_comesIn_110 rfl (lv_at hl 1 rfl) ?_
          refine r_get X hw (v := .ref (L 3)) fl_X7_16 (m_at 0 rfl) rfl dX7_comesIn_111 ?_
          refine lv_aload_n hx hb dX7_comesIn_114 rfl (lv_at hl 1 rfl) ?_
          refine r_get X hw (v := .ref (L 1)) fl_X7_7 (m_at 0 rfl) rfl dX7_comesIn_115 ?_
          refine r_callSv X hw (ws' := mW D L (va_cpy (va_cpy s o17 0 0 127) y 0 0 127) o1 o2 o3 o4 o5 o6 o7 o8 o9 o10 o11 o12 o13 o14 o15 o16 (va_cpy s o17 0 0 127) o18) (As := [.ref (L 3), .ref (L 1)]) (rest := []) lk_X7_160 (c_X7_copies l D _ (L 3) (L 1) (va_cpy s o17 0 0 127) y) (cp31 D L y o1 o2 o3 o4 o5 o6 o7 o8 o9 o10 o11 o12 o13 o14 o15 o16 (va_cpy s o17 0 0 127) o18 (va_cpy (va_cpy s o17 0 0 127) y 0 0 127)) rfl hl.1 (Nat.le_of_ble_eq_true rfl) ⟨Nat.le_of_ble_eq_true rfl, Nat.le_of_ble_eq_true rfl⟩ rfl dX7_comesIn_118 ⟨Nat.le_refl _, Nat.le_refl _⟩ (fun H locs hw => ?_)
          refine lv_iload_n hx hb dX7_comesIn_121 rfl (lv_at hl 0 rfl) ?_
          exact r_ret X hw hk hret rfl (by rw [show 4000 - n = (4000 - (n + 1)) + 1 from by omega] at hq; unfold cmR at hq; rw [if_neg c3] at hq; unfold sp_X7_comesIn; rw [← hfin, ← hq]; dsimp only; rw [if_neg c3]) (by rw [show 4000 - n = (4000 - (n + 1)) + 1 from by omega] at hq; unfold cmR at hq; rw [if_neg c3] at hq; rw [← hfin, ← hq]) dX7_comesIn_122
        · skip
          refine lv_aload_n hx hb dX7_comesIn_77 rfl (lv_at hl 0 rfl) ?_
          refine r_callVv X hw (ws' := mW D L (sp_X7_tick y) o1 o2 o3 o4 o5 o6 o7 o8 o9 o10 o11 o12 o13 o14 o15 o16 (va_cpy s o17 0 0 127) o18) (As := []) (rest := []) lk_X7_97 (c_X7_tick l D _ L y o1 o2 o3 o4 o5 o6 o7 o8 o9 o10 o11 o12 o13 o14 o15 o16 (va_cpy s o17 0 0 127) o18) Foc.all (m_at 0 rfl) rfl hl.1 (Nat.le_of_ble_eq_true rfl) ⟨Nat.le_of_ble_eq_true rfl, Nat.le_of_ble_eq_true rfl⟩ rfl dX7_comesIn_78 ⟨Nat.le_refl _, Nat.le_refl _⟩ (fun H locs hw => ?_)
          refine r_iincN (lv' := [(2, .int (nI (n + 1))), (0, .ref (L 0)), (1, .int (nI a)), (3, .int (s (40 + 9 * a + 8)))]) hx hb n 1 rfl dX7_comesIn_81 hl (k := 2) rfl rfl (by decide) rfl (fun ls hl => ?_)
          refine lv_goto (tgt := 54) hx hb dX7_comesIn_84 (by decide) ?_
          exact ih54 (n + 1) (sp_X7_tick y) (by omega) (by omega) (by rw [show 4000 - n = (4000 - (n + 1)) + 1 from by omega] at hq; unfold cmR at hq; rw [if_pos c3] at hq; exact hq) _ _ _ hw (lv_sub hl [1, 2, 0, 3] rfl)
  exact key54 4001 0 s (by omega) (by omega) hfin.symm _ _ _ hw (lv_sub hl [2, 3, 1, 0] rfl)

set_option maxRecDepth 100000 in
set_option maxHeartbeats 4000000 in
theorem c_X7_comesIn_np (l : Launch) (D : va_G) (sz : Nat) (L : Nat → Nat) (s : Row) (o1 : Row) (o2 : Int32) (o3 : Int32) (o4 : Row) (o5 : Row) (o6 : Row) (o7 : Int32) (o8 : Row) (o9 : Int32) (o10 : Row) (o11 : Int32) (o12 : Int32) (o13 : Int32) (o14 : Int32) (o15 : Int32) (o16 : Int32) (o17 : Row) (o18 : Row) (a : Nat) (ha : a < 3) (har : s (40 + 9 * a + 6) = 0) : MI l yX7_comesIn cX7_comesIn 4 (some .int) 2 42 D sz [.ref (L 0), .int (nI a)] (mW D L s o1 o2 o3 o4 o5 o6 o7 o8 o9 o10 o11 o12 o13 o14 o15 o16 o17 o18) (-1000002) (mW D L s o1 o2 o3 o4 o5 o6 o7 o8 o9 o10 o11 o12 o13 o14 o15 o16 o17 o18) := by
  refine r_enterI (by decide) (Nat.le_of_ble_eq_true rfl) ?_
  intro p e st m args below meth c ls A X hret hk hw hl
  have X : CX D p m c cX7_comesIn 4 st args RX7 A := X
  have hx := X.1.1
  have hb := X.1.2.1
  have hown := X.1.2.2.2.1
  have hts := X.1.2.2.2.2
  have hl : lv_has ls 4 [(0, .ref (L 0)), (1, .int (nI a))] := hl
  refine lv_iload_n hx hb dX7_comesIn_0 rfl (lv_at hl 1 rfl) ?_
  refine r_callS X hw (ws' := mW D L s o1 o2 o3 o4 o5 o6 o7 o8 o9 o10 o11 o12 o13 o14 o15 o16 o17 o18) (As := [.int (nI a)]) (rest := []) lk_X7_137 (c_X7_isAlarm l D _ (nI a)) Foc.nil rfl hl.1 (Nat.le_of_ble_eq_true rfl) ⟨Nat.le_of_ble_eq_true rfl, Nat.le_of_ble_eq_true rfl⟩ rfl dX7_comesIn_1 ⟨Nat.le_refl _, Nat.le_refl _⟩ (fun H locs hw => ?_)
  refine lv_if_ne (tgt := 10) hx hb dX7_comesIn_4 (by decide) (fun _ => ?_) (fun h => absurd h (isAl_ok (by omega)))
  refine lv_aload_n hx hb dX7_comesIn_10 rfl (lv_at hl 0 rfl) ?_
  refine r_get X hw (v := .ref (L 1)) fl_X7_7 (m_at 0 rfl) rfl dX7_comesIn_11 ?_
  refine lv_iload_n hx hb dX7_comesIn_14 rfl (lv_at hl 1 rfl) ?_
  refine r_callS X hw (ws' := mW D L s o1 o2 o3 o4 o5 o6 o7 o8 o9 o10 o11 o12 o13 o14 o15 o16 o17 o18) (As := [.int (nI a)]) (rest := [.ref (L 1)]) lk_X7_88 (c_X7_alarmAtN l D _ a (by omega)) Foc.nil rfl hl.1 (Nat.le_of_ble_eq_true rfl) ⟨Nat.le_of_ble_eq_true rfl, Nat.le_of_ble_eq_true rfl⟩ rfl dX7_comesIn_15 ⟨Nat.le_refl _, Nat.le_refl _⟩ (fun H locs hw => ?_)
  refine lv_bipush (v := 6) hx hb dX7_comesIn_18 (by decide) ?_
  refine r_addN hx hb (40 + 9 * a) 6 rfl rfl dX7_comesIn_20 ?_
  refine r_iald X hw (f := s) (40 + 9 * a + 6) (m_at 1 rfl) rfl (by omega) (by decide) dX7_comesIn_21 ?_
  refine lv_if_ne (tgt := 28) hx hb dX7_comesIn_22 (by decide) (fun h => absurd har h) (fun _ => ?_)
  refine lv_ldc (v := (-1000002)) hx hb hown (hts _ kc_X7_146) dX7_comesIn_25 ?_
  exact r_ret X hw hk hret rfl rfl rfl dX7_comesIn_27

set_option maxRecDepth 100000 in
set_option maxHeartbeats 4000000 in
theorem c_X7_comesIn_bad (l : Launch) (D : va_G) (sz : Nat) (L : Nat → Nat) (o0 : Row) (o1 : Row) (o2 : Int32) (o3 : Int32) (o4 : Row) (o5 : Row) (o6 : Row) (o7 : Int32) (o8 : Row) (o9 : Int32) (o10 : Row) (o11 : Int32) (o12 : Int32) (o13 : Int32) (o14 : Int32) (o15 : Int32) (o16 : Int32) (o17 : Row) (o18 : Row) (a1 : Int32) (hbad : ¬ (¬ sp_X7_isAlarm a1 = 0)) : MI l yX7_comesIn cX7_comesIn 4 (some .int) 2 42 D sz [.ref (L 0), .int a1] (mW D L o0 o1 o2 o3 o4 o5 o6 o7 o8 o9 o10 o11 o12 o13 o14 o15 o16 o17 o18) (-1000001) (mW D L o0 o1 o2 o3 o4 o5 o6 o7 o8 o9 o10 o11 o12 o13 o14 o15 o16 o17 o18) := by
  refine r_enterI (by decide) (Nat.le_of_ble_eq_true rfl) ?_
  intro p e st m args below meth c ls A X hret hk hw hl
  have X : CX D p m c cX7_comesIn 4 st args RX7 A := X
  have hx := X.1.1
  have hb := X.1.2.1
  have hown := X.1.2.2.2.1
  have hts := X.1.2.2.2.2
  have hl : lv_has ls 4 [(0, .ref (L 0)), (1, .int a1)] := hl
  refine lv_iload_n hx hb dX7_comesIn_0 rfl (lv_at hl 1 rfl) ?_
  refine r_callS X hw (ws' := mW D L o0 o1 o2 o3 o4 o5 o6 o7 o8 o9 o10 o11 o12 o13 o14 o15 o16 o17 o18) (As := [.int a1]) (rest := []) lk_X7_137 (c_X7_isAlarm l D _ a1) Foc.nil rfl hl.1 (Nat.le_of_ble_eq_true rfl) ⟨Nat.le_of_ble_eq_true rfl, Nat.le_of_ble_eq_true rfl⟩ rfl dX7_comesIn_1 ⟨Nat.le_refl _, Nat.le_refl _⟩ (fun H locs hw => ?_)
  refine lv_if_ne (tgt := 10) hx hb dX7_comesIn_4 (by decide) (fun c1 => ?_) (fun c1 => ?_)
  · skip
    exact absurd c1 hbad
  · skip
    refine lv_ldc (v := (-1000001)) hx hb hown (hts _ kc_X7_106) dX7_comesIn_7 ?_
    exact r_ret X hw hk hret rfl rfl rfl dX7_comesIn_9

set_option maxRecDepth 100000 in
set_option maxHeartbeats 4000000 in
theorem c_X7_undo (l : Launch) (D : va_G) (sz : Nat) (L : Nat → Nat) (s pa : Row) (P : Nat) (ru : Int32) (o4 : Row) (o5 : Row) (o6 : Row) (o7 : Int32) (o8 : Row) (o9 : Int32) (o10 : Row) (o11 : Int32) (o12 : Int32) (o13 : Int32) (o14 : Int32) (o15 : Int32) (o16 : Int32) (o17 : Row) (o18 : Row) (hP1 : 1 ≤ P) (hP : P ≤ 4) : MI l yX7_undo cX7_undo 2 (some .int) 0 0 D sz [.ref (L 0)] (mW D L s pa (nI P) ru o4 o5 o6 o7 o8 o9 o10 o11 o12 o13 o14 o15 o16 o17 o18) (nI (P - 1)) (mW D L (va_cpy (fun k => pa (127 * (P - 1) + k)) s 0 0 127) pa (nI (P - 1)) ru o4 o5 o6 o7 o8 o9 o10 o11 o12 o13 o14 o15 o16 o17 o18) := by
  refine r_enterI (by decide) (Nat.le_of_ble_eq_true rfl) ?_
  intro p e st m args below meth c ls A X hret hk hw hl
  have X : CX D p m c cX7_undo 2 st args RX7 A := X
  have hx := X.1.1
  have hb := X.1.2.1
  have hown := X.1.2.2.2.1
  have hts := X.1.2.2.2.2
  have hl : lv_has ls 2 [(0, .ref (L 0))] := hl
  refine lv_aload_n hx hb dX7_undo_0 rfl (lv_at hl 0 rfl) ?_
  refine r_get X hw (v := .int (nI P)) fl_X7_41 (m_at 0 rfl) rfl dX7_undo_1 ?_
  refine r_ifn0N (tgt := 10) hx hb P rfl (by omega) dX7_undo_4 (by decide) (fun c1 => ?_) (fun c1 => absurd c1 (by omega))
  refine lv_aload_n hx hb dX7_undo_10 rfl (lv_at hl 0 rfl) ?_
  refine lv_dup hx hb dX7_undo_11 rfl ?_
  refine r_get X hw (v := .int (nI P)) fl_X7_41 (m_at 0 rfl) rfl dX7_undo_12 ?_
  refine lv_iconst (v := 1) hx hb dX7_undo_15 (by decide) ?_
  refine r_subN hx hb P 1 rfl rfl hP1 dX7_undo_16 ?_
  refine r_puti X hw (ws' := mW D L s pa (nI (P - 1)) ru o4 o5 o6 o7 o8 o9 o10 o11 o12 o13 o14 o15 o16 o17 o18) fp_X7_41 (Nat.le_of_ble_eq_true rfl) (Foc.cell 0 rfl rfl (ce rfl (ce rfl (ce rfl (ce rfl (ce rfl (ce rfl (ce rfl (ce rfl (ce rfl rfl)))))))))) dX7_undo_17 (fun H locs hw => ?_)
  refine lv_iconst (v := 0) hx hb dX7_undo_20 (by decide) ?_
  refine lv_istore_n (lv' := [(1, .int 0), (0, .ref (L 0))]) hx hb dX7_undo_21 rfl hl (by decide) rfl (fun ls hl => ?_)
  have key22 : ∀ (n22 : Nat) (i : Nat), (i ≤ 127) → (127 - i < n22) → ∀ (H : Heap) (locs : List Loc) (ls : Array Slot), Wd D A st.heap H locs (mW D L (va_cpy (fun k => pa (127 * (P - 1) + k)) s 0 0 i) pa (nI (P - 1)) ru o4 o5 o6 o7 o8 o9 o10 o11 o12 o13 o14 o15 o16 o17 o18) → lv_has ls 2 [(0, .ref (L 0)), (1, .int (nI i))] → W p l e (rmOf 0 0 0 0) st m args below meth c H locs 0 0 (QI below args st D A (nI (P - 1)) (mW D L (va_cpy (fun k => pa (127 * (P - 1) + k)) s 0 0 127) pa (nI (P - 1)) ru o4 o5 o6 o7 o8 o9 o10 o11 o12 o13 o14 o15 o16 o17 o18)) (F0 m 22 ls []) := by
    intro n22
    induction n22 with
    | zero => intro i hi hm; omega
    | succ n22 ih22 =>
      intro i hi hm H locs ls hw hl
      refine lv_iload_n hx hb dX7_undo_22 rfl (lv_at hl 1 rfl) ?_
      refine lv_bipush (v := 127) hx hb dX7_undo_23 (by decide) ?_
      refine r_geN (tgt := 54) hx hb i 127 rfl rfl (by omega) (by omega) dX7_undo_25 (by decide) (fun c2 => ?_) (fun c2 => ?_)
      · skip
        refine lv_aload_n hx hb dX7_undo_54 rfl (lv_at hl 0 rfl) ?_
        refine r_get X hw (v := .int (nI (P - 1))) fl_X7_41 (m_at 0 rfl) rfl dX7_undo_55 ?_
        exact r_ret X hw hk hret rfl rfl (by rw [show i = 127 from by omega]) dX7_undo_58
      · skip
        refine lv_aload_n hx hb dX7_undo_28 rfl (lv_at hl 0 rfl) ?_
        refine r_get X hw (v := .ref (L 1)) fl_X7_7 (m_at 0 rfl) rfl dX7_undo_29 ?_
        refine lv_iload_n hx hb dX7_undo_32 rfl (lv_at hl 1 rfl) ?_
        refine lv_aload_n hx hb dX7_undo_33 rfl (lv_at hl 0 rfl) ?_
        refine r_get X hw (v := .ref (L 2)) fl_X7_13 (m_at 0 rfl) rfl dX7_undo_34 ?_
        refine lv_bipush (v := 127) hx hb dX7_undo_37 (by decide) ?_
        refine lv_aload_n hx hb dX7_undo_39 rfl (lv_at hl 0 rfl) ?_
        refine r_get X hw (v := .int (nI (P - 1))) fl_X7_41 (m_at 0 rfl) rfl dX7_undo_40 ?_
        refine r_mulN hx hb 127 (P - 1) rfl rfl dX7_undo_43 ?_
        refine lv_iload_n hx hb dX7_undo_44 rfl (lv_at hl 1 rfl) ?_
        refine r_addN hx hb (127 * (P - 1)) i rfl rfl dX7_undo_45 ?_
        refine r_iald X hw (f := pa) (127 * (P - 1) + i) (m_at 2 rfl) rfl (by omega) (by decide) dX7_undo_46 ?_
        refine r_iast X hw (ws' := mW D L (upd (va_cpy (fun k => pa (127 * (P - 1) + k)) s 0 0 i) i (pa (127 * (P - 1) + i))) pa (nI (P - 1)) ru o4 o5 o6 o7 o8 o9 o10 o11 o12 o13 o14 o15 o16 o17 o18) i rfl (by omega) (by decide) (Foc.cell 1 rfl rfl (ce rfl (ce rfl (ce rfl (ce rfl (ce rfl (ce rfl (ce rfl (ce rfl (ce rfl rfl)))))))))) dX7_undo_47 (fun H locs hw => ?_)
        refine r_iincN (lv' := [(1, .int (nI (i + 1))), (0, .ref (L 0))]) hx hb i 1 rfl dX7_undo_48 hl (k := 1) rfl rfl (by decide) rfl (fun ls hl => ?_)
        refine lv_goto (tgt := 22) hx hb dX7_undo_51 (by decide) ?_
        exact ih22 (i + 1) (by omega) (by omega) _ _ _ (by rw [← cpy_step00]; exact hw) (lv_sub hl [1, 0] rfl)
  exact key22 128 0 (by omega) (by omega) _ _ _ (by rw [cpy_0]; exact hw) (lv_sub hl [1, 0] rfl)

set_option maxRecDepth 100000 in
set_option maxHeartbeats 4000000 in
theorem c_X7_undo_np (l : Launch) (D : va_G) (sz : Nat) (L : Nat → Nat) (s pa : Row) (ru : Int32) (o4 : Row) (o5 : Row) (o6 : Row) (o7 : Int32) (o8 : Row) (o9 : Int32) (o10 : Row) (o11 : Int32) (o12 : Int32) (o13 : Int32) (o14 : Int32) (o15 : Int32) (o16 : Int32) (o17 : Row) (o18 : Row) : MI l yX7_undo cX7_undo 2 (some .int) 0 0 D sz [.ref (L 0)] (mW D L s pa 0 ru o4 o5 o6 o7 o8 o9 o10 o11 o12 o13 o14 o15 o16 o17 o18) (-1000002) (mW D L s pa 0 ru o4 o5 o6 o7 o8 o9 o10 o11 o12 o13 o14 o15 o16 o17 o18) := by
  refine r_enterI (by decide) (Nat.le_of_ble_eq_true rfl) ?_
  intro p e st m args below meth c ls A X hret hk hw hl
  have X : CX D p m c cX7_undo 2 st args RX7 A := X
  have hx := X.1.1
  have hb := X.1.2.1
  have hown := X.1.2.2.2.1
  have hts := X.1.2.2.2.2
  have hl : lv_has ls 2 [(0, .ref (L 0))] := hl
  refine lv_aload_n hx hb dX7_undo_0 rfl (lv_at hl 0 rfl) ?_
  refine r_get X hw (v := .int 0) fl_X7_41 (m_at 0 rfl) rfl dX7_undo_1 ?_
  refine lv_if_ne (tgt := 10) hx hb dX7_undo_4 (by decide) (fun h => absurd (by decide) h) (fun _ => ?_)
  refine lv_ldc (v := (-1000002)) hx hb hown (hts _ kc_X7_146) dX7_undo_7 ?_
  exact r_ret X hw hk hret rfl rfl rfl dX7_undo_9

set_option maxRecDepth 100000 in
set_option maxHeartbeats 4000000 in
theorem c_X7_type (l : Launch) (D : va_G) (sz : Nat) (L : Nat → Nat) (s pa : Row) (P ru : Int32) (td ah sh : Row) (n0 : Int32) (tx : Row) (T : Nat) (o10 : Row) (o11 : Int32) (o12 : Int32) (o13 : Int32) (o14 : Int32) (o15 : Int32) (o16 : Int32) (o17 : Row) (o18 : Row) (c9 : Nat) (hc1 : 32 ≤ c9) (hc2 : c9 ≤ 126) (hT : T < 60) : MI l yX7_type cX7_type 2 (some .int) 1 22 D sz [.ref (L 0), .int (nI c9)] (mW D L s pa P ru td ah sh n0 tx (nI T) o10 o11 o12 o13 o14 o15 o16 o17 o18) (nI (T + 1)) (mW D L s pa P ru td ah sh n0 (upd tx T (nI c9)) (nI (T + 1)) o10 o11 o12 o13 o14 o15 o16 o17 o18) := by
  refine r_enterI (by decide) (Nat.le_of_ble_eq_true rfl) ?_
  intro p e st m args below meth c ls A X hret hk hw hl
  have X : CX D p m c cX7_type 2 st args RX7 A := X
  have hx := X.1.1
  have hb := X.1.2.1
  have hown := X.1.2.2.2.1
  have hts := X.1.2.2.2.2
  have hl : lv_has ls 2 [(0, .ref (L 0)), (1, .int (nI c9))] := hl
  refine lv_iload_n hx hb dX7_type_0 rfl (lv_at hl 1 rfl) ?_
  refine lv_bipush (v := 32) hx hb dX7_type_1 (by decide) ?_
  refine lv_bipush (v := 126) hx hb dX7_type_3 (by decide) ?_
  refine r_callS X hw (ws' := mW D L s pa P ru td ah sh n0 tx (nI T) o10 o11 o12 o13 o14 o15 o16 o17 o18) (As := [.int (nI c9), .int 32, .int 126]) (rest := []) lk_X7_45 (c_X7_in l D _ (nI c9) 32 126) Foc.nil rfl hl.1 (Nat.le_of_ble_eq_true rfl) ⟨Nat.le_of_ble_eq_true rfl, Nat.le_of_ble_eq_true rfl⟩ rfl dX7_type_5 ⟨Nat.le_refl _, Nat.le_refl _⟩ (fun H locs hw => ?_)
  refine lv_if_ne (tgt := 14) hx hb dX7_type_8 (by decide) (fun _ => ?_) (fun h => absurd h (in_okL c9 32 126 (by omega) (by omega) (by decide)))
  refine lv_aload_n hx hb dX7_type_14 rfl (lv_at hl 0 rfl) ?_
  refine r_get X hw (v := .int (nI T)) fl_X7_173 (m_at 0 rfl) rfl dX7_type_15 ?_
  refine lv_bipush (v := 60) hx hb dX7_type_18 (by decide) ?_
  refine r_neN (tgt := 26) hx hb T 60 rfl rfl (by omega) (by omega) dX7_type_20 (by decide) (fun c1 => ?_) (fun c1 => absurd c1 (by omega))
  refine lv_aload_n hx hb dX7_type_26 rfl (lv_at hl 0 rfl) ?_
  refine r_get X hw (v := .ref (L 5)) fl_X7_22 (m_at 0 rfl) rfl dX7_type_27 ?_
  refine lv_aload_n hx hb dX7_type_30 rfl (lv_at hl 0 rfl) ?_
  refine r_get X hw (v := .int (nI T)) fl_X7_173 (m_at 0 rfl) rfl dX7_type_31 ?_
  refine lv_iload_n hx hb dX7_type_34 rfl (lv_at hl 1 rfl) ?_
  refine r_iast X hw (ws' := mW D L s pa P ru td ah sh n0 (upd tx T (nI c9)) (nI T) o10 o11 o12 o13 o14 o15 o16 o17 o18) T rfl (by omega) (by decide) (Foc.cell 5 rfl rfl (ce rfl (ce rfl (ce rfl (ce rfl (ce rfl (ce rfl (ce rfl (ce rfl (ce rfl rfl)))))))))) dX7_type_35 (fun H locs hw => ?_)
  refine lv_aload_n hx hb dX7_type_36 rfl (lv_at hl 0 rfl) ?_
  refine lv_dup hx hb dX7_type_37 rfl ?_
  refine r_get X hw (v := .int (nI T)) fl_X7_173 (m_at 0 rfl) rfl dX7_type_38 ?_
  refine lv_iconst (v := 1) hx hb dX7_type_41 (by decide) ?_
  refine r_addN hx hb T 1 rfl rfl dX7_type_42 ?_
  refine r_puti X hw (ws' := mW D L s pa P ru td ah sh n0 (upd tx T (nI c9)) (nI (T + 1)) o10 o11 o12 o13 o14 o15 o16 o17 o18) fp_X7_173 (Nat.le_of_ble_eq_true rfl) (Foc.cell 0 rfl rfl (ce rfl (ce rfl (ce rfl (ce rfl (ce rfl (ce rfl (ce rfl (ce rfl (ce rfl rfl)))))))))) dX7_type_43 (fun H locs hw => ?_)
  refine lv_aload_n hx hb dX7_type_46 rfl (lv_at hl 0 rfl) ?_
  refine r_get X hw (v := .int (nI (T + 1))) fl_X7_173 (m_at 0 rfl) rfl dX7_type_47 ?_
  exact r_ret X hw hk hret rfl rfl rfl dX7_type_50

set_option maxRecDepth 100000 in
set_option maxHeartbeats 4000000 in
theorem c_X7_type_lr (l : Launch) (D : va_G) (sz : Nat) (L : Nat → Nat) (s pa : Row) (P ru : Int32) (td ah sh : Row) (n0 : Int32) (tx : Row) (T : Nat) (o10 : Row) (o11 : Int32) (o12 : Int32) (o13 : Int32) (o14 : Int32) (o15 : Int32) (o16 : Int32) (o17 : Row) (o18 : Row) (c9 : Nat) (hc1 : 32 ≤ c9) (hc2 : c9 ≤ 126) (hT : T = 60) : MI l yX7_type cX7_type 2 (some .int) 1 22 D sz [.ref (L 0), .int (nI c9)] (mW D L s pa P ru td ah sh n0 tx (nI T) o10 o11 o12 o13 o14 o15 o16 o17 o18) (-1000003) (mW D L s pa P ru td ah sh n0 tx (nI T) o10 o11 o12 o13 o14 o15 o16 o17 o18) := by
  refine r_enterI (by decide) (Nat.le_of_ble_eq_true rfl) ?_
  intro p e st m args below meth c ls A X hret hk hw hl
  have X : CX D p m c cX7_type 2 st args RX7 A := X
  have hx := X.1.1
  have hb := X.1.2.1
  have hown := X.1.2.2.2.1
  have hts := X.1.2.2.2.2
  have hl : lv_has ls 2 [(0, .ref (L 0)), (1, .int (nI c9))] := hl
  refine lv_iload_n hx hb dX7_type_0 rfl (lv_at hl 1 rfl) ?_
  refine lv_bipush (v := 32) hx hb dX7_type_1 (by decide) ?_
  refine lv_bipush (v := 126) hx hb dX7_type_3 (by decide) ?_
  refine r_callS X hw (ws' := mW D L s pa P ru td ah sh n0 tx (nI T) o10 o11 o12 o13 o14 o15 o16 o17 o18) (As := [.int (nI c9), .int 32, .int 126]) (rest := []) lk_X7_45 (c_X7_in l D _ (nI c9) 32 126) Foc.nil rfl hl.1 (Nat.le_of_ble_eq_true rfl) ⟨Nat.le_of_ble_eq_true rfl, Nat.le_of_ble_eq_true rfl⟩ rfl dX7_type_5 ⟨Nat.le_refl _, Nat.le_refl _⟩ (fun H locs hw => ?_)
  refine lv_if_ne (tgt := 14) hx hb dX7_type_8 (by decide) (fun _ => ?_) (fun h => absurd h (in_okL c9 32 126 (by omega) (by omega) (by decide)))
  refine lv_aload_n hx hb dX7_type_14 rfl (lv_at hl 0 rfl) ?_
  refine r_get X hw (v := .int (nI T)) fl_X7_173 (m_at 0 rfl) rfl dX7_type_15 ?_
  refine lv_bipush (v := 60) hx hb dX7_type_18 (by decide) ?_
  refine r_neN (tgt := 26) hx hb T 60 rfl rfl (by omega) (by omega) dX7_type_20 (by decide) (fun c1 => absurd c1 (by omega)) (fun c1 => ?_)
  refine lv_ldc (v := (-1000003)) hx hb hown (hts _ kc_X7_176) dX7_type_23 ?_
  exact r_ret X hw hk hret rfl rfl rfl dX7_type_25

set_option maxRecDepth 100000 in
set_option maxHeartbeats 4000000 in
theorem c_X7_type_bad (l : Launch) (D : va_G) (sz : Nat) (L : Nat → Nat) (o0 : Row) (o1 : Row) (o2 : Int32) (o3 : Int32) (o4 : Row) (o5 : Row) (o6 : Row) (o7 : Int32) (o8 : Row) (o9 : Int32) (o10 : Row) (o11 : Int32) (o12 : Int32) (o13 : Int32) (o14 : Int32) (o15 : Int32) (o16 : Int32) (o17 : Row) (o18 : Row) (a1 : Int32) (hbad : ¬ (¬ sp_X7_in a1 32 126 = 0)) : MI l yX7_type cX7_type 2 (some .int) 1 22 D sz [.ref (L 0), .int a1] (mW D L o0 o1 o2 o3 o4 o5 o6 o7 o8 o9 o10 o11 o12 o13 o14 o15 o16 o17 o18) (-1000001) (mW D L o0 o1 o2 o3 o4 o5 o6 o7 o8 o9 o10 o11 o12 o13 o14 o15 o16 o17 o18) := by
  refine r_enterI (by decide) (Nat.le_of_ble_eq_true rfl) ?_
  intro p e st m args below meth c ls A X hret hk hw hl
  have X : CX D p m c cX7_type 2 st args RX7 A := X
  have hx := X.1.1
  have hb := X.1.2.1
  have hown := X.1.2.2.2.1
  have hts := X.1.2.2.2.2
  have hl : lv_has ls 2 [(0, .ref (L 0)), (1, .int a1)] := hl
  refine lv_iload_n hx hb dX7_type_0 rfl (lv_at hl 1 rfl) ?_
  refine lv_bipush (v := 32) hx hb dX7_type_1 (by decide) ?_
  refine lv_bipush (v := 126) hx hb dX7_type_3 (by decide) ?_
  refine r_callS X hw (ws' := mW D L o0 o1 o2 o3 o4 o5 o6 o7 o8 o9 o10 o11 o12 o13 o14 o15 o16 o17 o18) (As := [.int a1, .int 32, .int 126]) (rest := []) lk_X7_45 (c_X7_in l D _ a1 32 126) Foc.nil rfl hl.1 (Nat.le_of_ble_eq_true rfl) ⟨Nat.le_of_ble_eq_true rfl, Nat.le_of_ble_eq_true rfl⟩ rfl dX7_type_5 ⟨Nat.le_refl _, Nat.le_refl _⟩ (fun H locs hw => ?_)
  refine lv_if_ne (tgt := 14) hx hb dX7_type_8 (by decide) (fun c1 => ?_) (fun c1 => ?_)
  · skip
    exact absurd c1 hbad
  · skip
    refine lv_ldc (v := (-1000001)) hx hb hown (hts _ kc_X7_106) dX7_type_11 ?_
    exact r_ret X hw hk hret rfl rfl rfl dX7_type_13

set_option maxRecDepth 100000 in
set_option maxHeartbeats 4000000 in
theorem c_X7_clearText (l : Launch) (D : va_G) (sz : Nat) (L : Nat → Nat) (s pa : Row) (P ru : Int32) (td ah sh : Row) (n0 : Int32) (tx : Row) (T : Nat) (o10 : Row) (o11 : Int32) (o12 : Int32) (o13 : Int32) (o14 : Int32) (o15 : Int32) (o16 : Int32) (o17 : Row) (o18 : Row) : MI l yX7_clearText cX7_clearText 2 (some .int) 0 0 D sz [.ref (L 0)] (mW D L s pa P ru td ah sh n0 tx (nI T) o10 o11 o12 o13 o14 o15 o16 o17 o18) (nI T) (mW D L s pa P ru td ah sh n0 tx 0 o10 o11 o12 o13 o14 o15 o16 o17 o18) := by
  refine r_enterI (by decide) (Nat.le_of_ble_eq_true rfl) ?_
  intro p e st m args below meth c ls A X hret hk hw hl
  have X : CX D p m c cX7_clearText 2 st args RX7 A := X
  have hx := X.1.1
  have hb := X.1.2.1
  have hown := X.1.2.2.2.1
  have hts := X.1.2.2.2.2
  have hl : lv_has ls 2 [(0, .ref (L 0))] := hl
  refine lv_aload_n hx hb dX7_clearText_0 rfl (lv_at hl 0 rfl) ?_
  refine r_get X hw (v := .int (nI T)) fl_X7_173 (m_at 0 rfl) rfl dX7_clearText_1 ?_
  refine lv_istore_n (lv' := [(1, .int (nI T)), (0, .ref (L 0))]) hx hb dX7_clearText_4 rfl hl (by decide) rfl (fun ls hl => ?_)
  refine lv_aload_n hx hb dX7_clearText_5 rfl (lv_at hl 1 rfl) ?_
  refine lv_iconst (v := 0) hx hb dX7_clearText_6 (by decide) ?_
  refine r_puti X hw (ws' := mW D L s pa P ru td ah sh n0 tx 0 o10 o11 o12 o13 o14 o15 o16 o17 o18) fp_X7_173 (Nat.le_of_ble_eq_true rfl) (Foc.cell 0 rfl rfl (ce rfl (ce rfl (ce rfl (ce rfl (ce rfl (ce rfl (ce rfl (ce rfl (ce rfl rfl)))))))))) dX7_clearText_7 (fun H locs hw => ?_)
  refine lv_iload_n hx hb dX7_clearText_10 rfl (lv_at hl 0 rfl) ?_
  exact r_ret X hw hk hret rfl rfl rfl dX7_clearText_11

noncomputable def sp_X7_count (s : Row) (P ty a1 : Int32) : Int32 := (if a1 = 0 then s 28 else (if a1 = 1 then s 29 else (if a1 = 2 then wrN s 7 else (if a1 = 3 then sp_X7_flags s else (if a1 = 4 then s 30 else (if a1 = 5 then failN s 7 else (if a1 = 6 then s 31 else (if a1 = 7 then s 32 else (if a1 = 8 then s 33 else (if a1 = 9 then s 34 else (if a1 = 10 then s 35 else (if a1 = 11 then s 36 else (if a1 = 12 then P else (if a1 = 13 then ty else (if a1 = 14 then (-1000001) else (if a1 = 15 then (-1000001) else (if a1 = 16 then (-1000001) else (if a1 = 17 then (-1000001) else (if a1 = 18 then (-1000001) else (if a1 = 19 then (-1000001) else (if a1 = 20 then s 37 else (if a1 = 21 then s 38 else (if a1 = 22 then s 39 else (-1000001))))))))))))))))))))))))
set_option maxRecDepth 100000 in
set_option maxHeartbeats 4000000 in
theorem c_X7_count (l : Launch) (D : va_G) (sz : Nat) (L : Nat → Nat) (s pa : Row) (P ru : Int32) (td ah sh : Row) (n0 : Int32) (tx : Row) (ty : Int32) (o10 : Row) (o11 : Int32) (o12 : Int32) (o13 : Int32) (o14 : Int32) (o15 : Int32) (o16 : Int32) (o17 : Row) (o18 : Row) (hbad : byteR s 7) (a1 : Int32) : MI l yX7_count cX7_count 2 (some .int) 7 151 D sz [.ref (L 0), .int a1] (mW D L s pa P ru td ah sh n0 tx ty o10 o11 o12 o13 o14 o15 o16 o17 o18) (sp_X7_count s P ty a1) (mW D L s pa P ru td ah sh n0 tx ty o10 o11 o12 o13 o14 o15 o16 o17 o18) := by
  refine r_enterI (by decide) (Nat.le_of_ble_eq_true rfl) ?_
  intro p e st m args below meth c ls A X hret hk hw hl
  have X : CX D p m c cX7_count 2 st args RX7 A := X
  have hx := X.1.1
  have hb := X.1.2.1
  have hown := X.1.2.2.2.1
  have hts := X.1.2.2.2.2
  have hl : lv_has ls 2 [(0, .ref (L 0)), (1, .int a1)] := hl
  refine lv_iload_n hx hb dX7_count_0 rfl (lv_at hl 1 rfl) ?_
  by_cases w1 : a1 = 0
  · skip
    refine r_tabIn (tgt := 108) hx hb 0 w1 dX7_count_1 (by decide) (by decide) rfl (by decide) ?_
    subst w1
    refine lv_aload_n hx hb dX7_count_108 rfl (lv_at hl 0 rfl) ?_
    refine r_get X hw (v := .ref (L 1)) fl_X7_7 (m_at 0 rfl) rfl dX7_count_109 ?_
    refine lv_bipush (v := 28) hx hb dX7_count_112 (by decide) ?_
    refine r_iald X hw (f := s) 28 (m_at 1 rfl) rfl (by decide) (by decide) dX7_count_114 ?_
    exact r_ret X hw hk hret rfl (by unfold sp_X7_count; rw [if_pos rfl]) rfl dX7_count_115
  · skip
    by_cases w2 : a1 = 1
    · skip
      refine r_tabIn (tgt := 116) hx hb 1 w2 dX7_count_1 (by decide) (by decide) rfl (by decide) ?_
      subst w2
      refine lv_aload_n hx hb dX7_count_116 rfl (lv_at hl 0 rfl) ?_
      refine r_get X hw (v := .ref (L 1)) fl_X7_7 (m_at 0 rfl) rfl dX7_count_117 ?_
      refine lv_bipush (v := 29) hx hb dX7_count_120 (by decide) ?_
      refine r_iald X hw (f := s) 29 (m_at 1 rfl) rfl (by decide) (by decide) dX7_count_122 ?_
      exact r_ret X hw hk hret rfl (by unfold sp_X7_count; rw [if_neg w1]; rw [if_pos rfl]) rfl dX7_count_123
    · skip
      by_cases w3 : a1 = 2
      · skip
        refine r_tabIn (tgt := 124) hx hb 2 w3 dX7_count_1 (by decide) (by decide) rfl (by decide) ?_
        subst w3
        refine lv_aload_n hx hb dX7_count_124 rfl (lv_at hl 0 rfl) ?_
        refine r_callV X hw (ws' := mW D L s pa P ru td ah sh n0 tx ty o10 o11 o12 o13 o14 o15 o16 o17 o18) (As := []) (rest := []) lk_X7_170 (c_X7_wrongOnes l D _ L s pa P ru td ah sh n0 tx ty o10 o11 o12 o13 o14 o15 o16 o17 o18) Foc.all (m_at 0 rfl) rfl hl.1 (Nat.le_of_ble_eq_true rfl) ⟨Nat.le_of_ble_eq_true rfl, Nat.le_of_ble_eq_true rfl⟩ rfl dX7_count_125 ⟨Nat.le_refl _, Nat.le_refl _⟩ (fun H locs hw => ?_)
        exact r_ret X hw hk hret rfl (by unfold sp_X7_count; rw [if_neg w1]; rw [if_neg w2]; rw [if_pos rfl]) rfl dX7_count_128
      · skip
        by_cases w4 : a1 = 3
        · skip
          refine r_tabIn (tgt := 129) hx hb 3 w4 dX7_count_1 (by decide) (by decide) rfl (by decide) ?_
          subst w4
          refine lv_aload_n hx hb dX7_count_129 rfl (lv_at hl 0 rfl) ?_
          refine r_callV X hw (ws' := mW D L s pa P ru td ah sh n0 tx ty o10 o11 o12 o13 o14 o15 o16 o17 o18) (As := []) (rest := []) lk_X7_140 (c_X7_flags l D _ L s pa P ru td ah sh n0 tx ty o10 o11 o12 o13 o14 o15 o16 o17 o18) Foc.all (m_at 0 rfl) rfl hl.1 (Nat.le_of_ble_eq_true rfl) ⟨Nat.le_of_ble_eq_true rfl, Nat.le_of_ble_eq_true rfl⟩ rfl dX7_count_130 ⟨Nat.le_refl _, Nat.le_refl _⟩ (fun H locs hw => ?_)
          exact r_ret X hw hk hret rfl (by unfold sp_X7_count; rw [if_neg w1]; rw [if_neg w2]; rw [if_neg w3]; rw [if_pos rfl]) rfl dX7_count_133
        · skip
          by_cases w5 : a1 = 4
          · skip
            refine r_tabIn (tgt := 134) hx hb 4 w5 dX7_count_1 (by decide) (by decide) rfl (by decide) ?_
            subst w5
            refine lv_aload_n hx hb dX7_count_134 rfl (lv_at hl 0 rfl) ?_
            refine r_get X hw (v := .ref (L 1)) fl_X7_7 (m_at 0 rfl) rfl dX7_count_135 ?_
            refine lv_bipush (v := 30) hx hb dX7_count_138 (by decide) ?_
            refine r_iald X hw (f := s) 30 (m_at 1 rfl) rfl (by decide) (by decide) dX7_count_140 ?_
            exact r_ret X hw hk hret rfl (by unfold sp_X7_count; rw [if_neg w1]; rw [if_neg w2]; rw [if_neg w3]; rw [if_neg w4]; rw [if_pos rfl]) rfl dX7_count_141
          · skip
            by_cases w6 : a1 = 5
            · skip
              refine r_tabIn (tgt := 142) hx hb 5 w6 dX7_count_1 (by decide) (by decide) rfl (by decide) ?_
              subst w6
              refine lv_aload_n hx hb dX7_count_142 rfl (lv_at hl 0 rfl) ?_
              refine r_callV X hw (ws' := mW D L s pa P ru td ah sh n0 tx ty o10 o11 o12 o13 o14 o15 o16 o17 o18) (As := []) (rest := []) lk_X7_147 (c_X7_failed l D _ L s pa P ru td ah sh n0 tx ty o10 o11 o12 o13 o14 o15 o16 o17 o18 hbad) Foc.all (m_at 0 rfl) rfl hl.1 (Nat.le_of_ble_eq_true rfl) ⟨Nat.le_of_ble_eq_true rfl, Nat.le_of_ble_eq_true rfl⟩ rfl dX7_count_143 ⟨Nat.le_refl _, Nat.le_refl _⟩ (fun H locs hw => ?_)
              exact r_ret X hw hk hret rfl (by unfold sp_X7_count; rw [if_neg w1]; rw [if_neg w2]; rw [if_neg w3]; rw [if_neg w4]; rw [if_neg w5]; rw [if_pos rfl]) rfl dX7_count_146
            · skip
              by_cases w7 : a1 = 6
              · skip
                refine r_tabIn (tgt := 147) hx hb 6 w7 dX7_count_1 (by decide) (by decide) rfl (by decide) ?_
                subst w7
                refine lv_aload_n hx hb dX7_count_147 rfl (lv_at hl 0 rfl) ?_
                refine r_get X hw (v := .ref (L 1)) fl_X7_7 (m_at 0 rfl) rfl dX7_count_148 ?_
                refine lv_bipush (v := 31) hx hb dX7_count_151 (by decide) ?_
                refine r_iald X hw (f := s) 31 (m_at 1 rfl) rfl (by decide) (by decide) dX7_count_153 ?_
                exact r_ret X hw hk hret rfl (by unfold sp_X7_count; rw [if_neg w1]; rw [if_neg w2]; rw [if_neg w3]; rw [if_neg w4]; rw [if_neg w5]; rw [if_neg w6]; rw [if_pos rfl]) rfl dX7_count_154
              · skip
                by_cases w8 : a1 = 7
                · skip
                  refine r_tabIn (tgt := 155) hx hb 7 w8 dX7_count_1 (by decide) (by decide) rfl (by decide) ?_
                  subst w8
                  refine lv_aload_n hx hb dX7_count_155 rfl (lv_at hl 0 rfl) ?_
                  refine r_get X hw (v := .ref (L 1)) fl_X7_7 (m_at 0 rfl) rfl dX7_count_156 ?_
                  refine lv_bipush (v := 32) hx hb dX7_count_159 (by decide) ?_
                  refine r_iald X hw (f := s) 32 (m_at 1 rfl) rfl (by decide) (by decide) dX7_count_161 ?_
                  exact r_ret X hw hk hret rfl (by unfold sp_X7_count; rw [if_neg w1]; rw [if_neg w2]; rw [if_neg w3]; rw [if_neg w4]; rw [if_neg w5]; rw [if_neg w6]; rw [if_neg w7]; rw [if_pos rfl]) rfl dX7_count_162
                · skip
                  by_cases w9 : a1 = 8
                  · skip
                    refine r_tabIn (tgt := 163) hx hb 8 w9 dX7_count_1 (by decide) (by decide) rfl (by decide) ?_
                    subst w9
                    refine lv_aload_n hx hb dX7_count_163 rfl (lv_at hl 0 rfl) ?_
                    refine r_get X hw (v := .ref (L 1)) fl_X7_7 (m_at 0 rfl) rfl dX7_count_164 ?_
                    refine lv_bipush (v := 33) hx hb dX7_count_167 (by decide) ?_
                    refine r_iald X hw (f := s) 33 (m_at 1 rfl) rfl (by decide) (by decide) dX7_count_169 ?_
                    exact r_ret X hw hk hret rfl (by unfold sp_X7_count; rw [if_neg w1]; rw [if_neg w2]; rw [if_neg w3]; rw [if_neg w4]; rw [if_neg w5]; rw [if_neg w6]; rw [if_neg w7]; rw [if_neg w8]; rw [if_pos rfl]) rfl dX7_count_170
                  · skip
                    by_cases w10 : a1 = 9
                    · skip
                      refine r_tabIn (tgt := 171) hx hb 9 w10 dX7_count_1 (by decide) (by decide) rfl (by decide) ?_
                      subst w10
                      refine lv_aload_n hx hb dX7_count_171 rfl (lv_at hl 0 rfl) ?_
                      refine r_get X hw (v := .ref (L 1)) fl_X7_7 (m_at 0 rfl) rfl dX7_count_172 ?_
                      refine lv_bipush (v := 34) hx hb dX7_count_175 (by decide) ?_
                      refine r_iald X hw (f := s) 34 (m_at 1 rfl) rfl (by decide) (by decide) dX7_count_177 ?_
                      exact r_ret X hw hk hret rfl (by unfold sp_X7_count; rw [if_neg w1]; rw [if_neg w2]; rw [if_neg w3]; rw [if_neg w4]; rw [if_neg w5]; rw [if_neg w6]; rw [if_neg w7]; rw [if_neg w8]; rw [if_neg w9]; rw [if_pos rfl]) rfl dX7_count_178
                    · skip
                      by_cases w11 : a1 = 10
                      · skip
                        refine r_tabIn (tgt := 179) hx hb 10 w11 dX7_count_1 (by decide) (by decide) rfl (by decide) ?_
                        subst w11
                        refine lv_aload_n hx hb dX7_count_179 rfl (lv_at hl 0 rfl) ?_
                        refine r_get X hw (v := .ref (L 1)) fl_X7_7 (m_at 0 rfl) rfl dX7_count_180 ?_
                        refine lv_bipush (v := 35) hx hb dX7_count_183 (by decide) ?_
                        refine r_iald X hw (f := s) 35 (m_at 1 rfl) rfl (by decide) (by decide) dX7_count_185 ?_
                        exact r_ret X hw hk hret rfl (by unfold sp_X7_count; rw [if_neg w1]; rw [if_neg w2]; rw [if_neg w3]; rw [if_neg w4]; rw [if_neg w5]; rw [if_neg w6]; rw [if_neg w7]; rw [if_neg w8]; rw [if_neg w9]; rw [if_neg w10]; rw [if_pos rfl]) rfl dX7_count_186
                      · skip
                        by_cases w12 : a1 = 11
                        · skip
                          refine r_tabIn (tgt := 187) hx hb 11 w12 dX7_count_1 (by decide) (by decide) rfl (by decide) ?_
                          subst w12
                          refine lv_aload_n hx hb dX7_count_187 rfl (lv_at hl 0 rfl) ?_
                          refine r_get X hw (v := .ref (L 1)) fl_X7_7 (m_at 0 rfl) rfl dX7_count_188 ?_
                          refine lv_bipush (v := 36) hx hb dX7_count_191 (by decide) ?_
                          refine r_iald X hw (f := s) 36 (m_at 1 rfl) rfl (by decide) (by decide) dX7_count_193 ?_
                          exact r_ret X hw hk hret rfl (by unfold sp_X7_count; rw [if_neg w1]; rw [if_neg w2]; rw [if_neg w3]; rw [if_neg w4]; rw [if_neg w5]; rw [if_neg w6]; rw [if_neg w7]; rw [if_neg w8]; rw [if_neg w9]; rw [if_neg w10]; rw [if_neg w11]; rw [if_pos rfl]) rfl dX7_count_194
                        · skip
                          by_cases w13 : a1 = 12
                          · skip
                            refine r_tabIn (tgt := 195) hx hb 12 w13 dX7_count_1 (by decide) (by decide) rfl (by decide) ?_
                            subst w13
                            refine lv_aload_n hx hb dX7_count_195 rfl (lv_at hl 0 rfl) ?_
                            refine r_get X hw (v := .int P) fl_X7_41 (m_at 0 rfl) rfl dX7_count_196 ?_
                            exact r_ret X hw hk hret rfl (by unfold sp_X7_count; rw [if_neg w1]; rw [if_neg w2]; rw [if_neg w3]; rw [if_neg w4]; rw [if_neg w5]; rw [if_neg w6]; rw [if_neg w7]; rw [if_neg w8]; rw [if_neg w9]; rw [if_neg w10]; rw [if_neg w11]; rw [if_neg w12]; rw [if_pos rfl]) rfl dX7_count_199
                          · skip
                            by_cases w14 : a1 = 13
                            · skip
                              refine r_tabIn (tgt := 200) hx hb 13 w14 dX7_count_1 (by decide) (by decide) rfl (by decide) ?_
                              subst w14
                              refine lv_aload_n hx hb dX7_count_200 rfl (lv_at hl 0 rfl) ?_
                              refine r_get X hw (v := .int ty) fl_X7_173 (m_at 0 rfl) rfl dX7_count_201 ?_
                              exact r_ret X hw hk hret rfl (by unfold sp_X7_count; rw [if_neg w1]; rw [if_neg w2]; rw [if_neg w3]; rw [if_neg w4]; rw [if_neg w5]; rw [if_neg w6]; rw [if_neg w7]; rw [if_neg w8]; rw [if_neg w9]; rw [if_neg w10]; rw [if_neg w11]; rw [if_neg w12]; rw [if_neg w13]; rw [if_pos rfl]) rfl dX7_count_204
                            · skip
                              by_cases w15 : a1 = 14
                              · skip
                                refine r_tabIn (tgt := 218) hx hb 14 w15 dX7_count_1 (by decide) (by decide) rfl (by decide) ?_
                                subst w15
                                refine lv_ldc (v := (-1000001)) hx hb hown (hts _ kc_X7_106) dX7_count_218 ?_
                                exact r_ret X hw hk hret rfl (by unfold sp_X7_count; rw [if_neg w1]; rw [if_neg w2]; rw [if_neg w3]; rw [if_neg w4]; rw [if_neg w5]; rw [if_neg w6]; rw [if_neg w7]; rw [if_neg w8]; rw [if_neg w9]; rw [if_neg w10]; rw [if_neg w11]; rw [if_neg w12]; rw [if_neg w13]; rw [if_neg w14]; rw [if_pos rfl]) rfl dX7_count_220
                              · skip
                                by_cases w16 : a1 = 15
                                · skip
                                  refine r_tabIn (tgt := 218) hx hb 15 w16 dX7_count_1 (by decide) (by decide) rfl (by decide) ?_
                                  subst w16
                                  refine lv_ldc (v := (-1000001)) hx hb hown (hts _ kc_X7_106) dX7_count_218 ?_
                                  exact r_ret X hw hk hret rfl (by unfold sp_X7_count; rw [if_neg w1]; rw [if_neg w2]; rw [if_neg w3]; rw [if_neg w4]; rw [if_neg w5]; rw [if_neg w6]; rw [if_neg w7]; rw [if_neg w8]; rw [if_neg w9]; rw [if_neg w10]; rw [if_neg w11]; rw [if_neg w12]; rw [if_neg w13]; rw [if_neg w14]; rw [if_neg w15]; rw [if_pos rfl]) rfl dX7_count_220
                                · skip
                                  by_cases w17 : a1 = 16
                                  · skip
                                    refine r_tabIn (tgt := 218) hx hb 16 w17 dX7_count_1 (by decide) (by decide) rfl (by decide) ?_
                                    subst w17
                                    refine lv_ldc (v := (-1000001)) hx hb hown (hts _ kc_X7_106) dX7_count_218 ?_
                                    exact r_ret X hw hk hret rfl (by unfold sp_X7_count; rw [if_neg w1]; rw [if_neg w2]; rw [if_neg w3]; rw [if_neg w4]; rw [if_neg w5]; rw [if_neg w6]; rw [if_neg w7]; rw [if_neg w8]; rw [if_neg w9]; rw [if_neg w10]; rw [if_neg w11]; rw [if_neg w12]; rw [if_neg w13]; rw [if_neg w14]; rw [if_neg w15]; rw [if_neg w16]; rw [if_pos rfl]) rfl dX7_count_220
                                  · skip
                                    by_cases w18 : a1 = 17
                                    · skip
                                      refine r_tabIn (tgt := 218) hx hb 17 w18 dX7_count_1 (by decide) (by decide) rfl (by decide) ?_
                                      subst w18
                                      refine lv_ldc (v := (-1000001)) hx hb hown (hts _ kc_X7_106) dX7_count_218 ?_
                                      exact r_ret X hw hk hret rfl (by unfold sp_X7_count; rw [if_neg w1]; rw [if_neg w2]; rw [if_neg w3]; rw [if_neg w4]; rw [if_neg w5]; rw [if_neg w6]; rw [if_neg w7]; rw [if_neg w8]; rw [if_neg w9]; rw [if_neg w10]; rw [if_neg w11]; rw [if_neg w12]; rw [if_neg w13]; rw [if_neg w14]; rw [if_neg w15]; rw [if_neg w16]; rw [if_neg w17]; rw [if_pos rfl]) rfl dX7_count_220
                                    · skip
                                      by_cases w19 : a1 = 18
                                      · skip
                                        refine r_tabIn (tgt := 218) hx hb 18 w19 dX7_count_1 (by decide) (by decide) rfl (by decide) ?_
                                        subst w19
                                        refine lv_ldc (v := (-1000001)) hx hb hown (hts _ kc_X7_106) dX7_count_218 ?_
                                        exact r_ret X hw hk hret rfl (by unfold sp_X7_count; rw [if_neg w1]; rw [if_neg w2]; rw [if_neg w3]; rw [if_neg w4]; rw [if_neg w5]; rw [if_neg w6]; rw [if_neg w7]; rw [if_neg w8]; rw [if_neg w9]; rw [if_neg w10]; rw [if_neg w11]; rw [if_neg w12]; rw [if_neg w13]; rw [if_neg w14]; rw [if_neg w15]; rw [if_neg w16]; rw [if_neg w17]; rw [if_neg w18]; rw [if_pos rfl]) rfl dX7_count_220
                                      · skip
                                        by_cases w20 : a1 = 19
                                        · skip
                                          refine r_tabIn (tgt := 218) hx hb 19 w20 dX7_count_1 (by decide) (by decide) rfl (by decide) ?_
                                          subst w20
                                          refine lv_ldc (v := (-1000001)) hx hb hown (hts _ kc_X7_106) dX7_count_218 ?_
                                          exact r_ret X hw hk hret rfl (by unfold sp_X7_count; rw [if_neg w1]; rw [if_neg w2]; rw [if_neg w3]; rw [if_neg w4]; rw [if_neg w5]; rw [if_neg w6]; rw [if_neg w7]; rw [if_neg w8]; rw [if_neg w9]; rw [if_neg w10]; rw [if_neg w11]; rw [if_neg w12]; rw [if_neg w13]; rw [if_neg w14]; rw [if_neg w15]; rw [if_neg w16]; rw [if_neg w17]; rw [if_neg w18]; rw [if_neg w19]; rw [if_pos rfl]) rfl dX7_count_220
                                        · skip
                                          by_cases w21 : a1 = 20
                                          · skip
                                            refine r_tabIn (tgt := 205) hx hb 20 w21 dX7_count_1 (by decide) (by decide) rfl (by decide) ?_
                                            subst w21
                                            refine lv_aload_n hx hb dX7_count_205 rfl (lv_at hl 0 rfl) ?_
                                            refine r_get X hw (v := .ref (L 1)) fl_X7_7 (m_at 0 rfl) rfl dX7_count_206 ?_
                                            refine lv_bipush (v := 37) hx hb dX7_count_209 (by decide) ?_
                                            refine lv_iload_n hx hb dX7_count_211 rfl (lv_at hl 1 rfl) ?_
                                            refine r_addN hx hb 37 20 rfl rfl dX7_count_212 ?_
                                            refine lv_bipush (v := 20) hx hb dX7_count_213 (by decide) ?_
                                            refine r_subN hx hb 57 20 rfl rfl (by decide) dX7_count_215 ?_
                                            refine r_iald X hw (f := s) 37 (m_at 1 rfl) rfl (by decide) (by decide) dX7_count_216 ?_
                                            exact r_ret X hw hk hret rfl (by unfold sp_X7_count; rw [if_neg w1]; rw [if_neg w2]; rw [if_neg w3]; rw [if_neg w4]; rw [if_neg w5]; rw [if_neg w6]; rw [if_neg w7]; rw [if_neg w8]; rw [if_neg w9]; rw [if_neg w10]; rw [if_neg w11]; rw [if_neg w12]; rw [if_neg w13]; rw [if_neg w14]; rw [if_neg w15]; rw [if_neg w16]; rw [if_neg w17]; rw [if_neg w18]; rw [if_neg w19]; rw [if_neg w20]; rw [if_pos rfl]) rfl dX7_count_217
                                          · skip
                                            by_cases w22 : a1 = 21
                                            · skip
                                              refine r_tabIn (tgt := 205) hx hb 21 w22 dX7_count_1 (by decide) (by decide) rfl (by decide) ?_
                                              subst w22
                                              refine lv_aload_n hx hb dX7_count_205 rfl (lv_at hl 0 rfl) ?_
                                              refine r_get X hw (v := .ref (L 1)) fl_X7_7 (m_at 0 rfl) rfl dX7_count_206 ?_
                                              refine lv_bipush (v := 37) hx hb dX7_count_209 (by decide) ?_
                                              refine lv_iload_n hx hb dX7_count_211 rfl (lv_at hl 1 rfl) ?_
                                              refine r_addN hx hb 37 21 rfl rfl dX7_count_212 ?_
                                              refine lv_bipush (v := 20) hx hb dX7_count_213 (by decide) ?_
                                              refine r_subN hx hb 58 20 rfl rfl (by decide) dX7_count_215 ?_
                                              refine r_iald X hw (f := s) 38 (m_at 1 rfl) rfl (by decide) (by decide) dX7_count_216 ?_
                                              exact r_ret X hw hk hret rfl (by unfold sp_X7_count; rw [if_neg w1]; rw [if_neg w2]; rw [if_neg w3]; rw [if_neg w4]; rw [if_neg w5]; rw [if_neg w6]; rw [if_neg w7]; rw [if_neg w8]; rw [if_neg w9]; rw [if_neg w10]; rw [if_neg w11]; rw [if_neg w12]; rw [if_neg w13]; rw [if_neg w14]; rw [if_neg w15]; rw [if_neg w16]; rw [if_neg w17]; rw [if_neg w18]; rw [if_neg w19]; rw [if_neg w20]; rw [if_neg w21]; rw [if_pos rfl]) rfl dX7_count_217
                                            · skip
                                              by_cases w23 : a1 = 22
                                              · skip
                                                refine r_tabIn (tgt := 205) hx hb 22 w23 dX7_count_1 (by decide) (by decide) rfl (by decide) ?_
                                                subst w23
                                                refine lv_aload_n hx hb dX7_count_205 rfl (lv_at hl 0 rfl) ?_
                                                refine r_get X hw (v := .ref (L 1)) fl_X7_7 (m_at 0 rfl) rfl dX7_count_206 ?_
                                                refine lv_bipush (v := 37) hx hb dX7_count_209 (by decide) ?_
                                                refine lv_iload_n hx hb dX7_count_211 rfl (lv_at hl 1 rfl) ?_
                                                refine r_addN hx hb 37 22 rfl rfl dX7_count_212 ?_
                                                refine lv_bipush (v := 20) hx hb dX7_count_213 (by decide) ?_
                                                refine r_subN hx hb 59 20 rfl rfl (by decide) dX7_count_215 ?_
                                                refine r_iald X hw (f := s) 39 (m_at 1 rfl) rfl (by decide) (by decide) dX7_count_216 ?_
                                                exact r_ret X hw hk hret rfl (by unfold sp_X7_count; rw [if_neg w1]; rw [if_neg w2]; rw [if_neg w3]; rw [if_neg w4]; rw [if_neg w5]; rw [if_neg w6]; rw [if_neg w7]; rw [if_neg w8]; rw [if_neg w9]; rw [if_neg w10]; rw [if_neg w11]; rw [if_neg w12]; rw [if_neg w13]; rw [if_neg w14]; rw [if_neg w15]; rw [if_neg w16]; rw [if_neg w17]; rw [if_neg w18]; rw [if_neg w19]; rw [if_neg w20]; rw [if_neg w21]; rw [if_neg w22]; rw [if_pos rfl]) rfl dX7_count_217
                                              · skip
                                                refine lv_tableOut (tgt := 218) hx hb dX7_count_1 (by have g0 := i_ne w1; have g1 := i_ne w2; have g2 := i_ne w3; have g3 := i_ne w4; have g4 := i_ne w5; have g5 := i_ne w6; have g6 := i_ne w7; have g7 := i_ne w8; have g8 := i_ne w9; have g9 := i_ne w10; have g10 := i_ne w11; have g11 := i_ne w12; have g12 := i_ne w13; have g13 := i_ne w14; have g14 := i_ne w15; have g15 := i_ne w16; have g16 := i_ne w17; have g17 := i_ne w18; have g18 := i_ne w19; have g19 := i_ne w20; have g20 := i_ne w21; have g21 := i_ne w22; have g22 := i_ne w23; rw [show (0 : Int32).toInt = 0 from rfl] at g0; rw [show (1 : Int32).toInt = 1 from rfl] at g1; rw [show (2 : Int32).toInt = 2 from rfl] at g2; rw [show (3 : Int32).toInt = 3 from rfl] at g3; rw [show (4 : Int32).toInt = 4 from rfl] at g4; rw [show (5 : Int32).toInt = 5 from rfl] at g5; rw [show (6 : Int32).toInt = 6 from rfl] at g6; rw [show (7 : Int32).toInt = 7 from rfl] at g7; rw [show (8 : Int32).toInt = 8 from rfl] at g8; rw [show (9 : Int32).toInt = 9 from rfl] at g9; rw [show (10 : Int32).toInt = 10 from rfl] at g10; rw [show (11 : Int32).toInt = 11 from rfl] at g11; rw [show (12 : Int32).toInt = 12 from rfl] at g12; rw [show (13 : Int32).toInt = 13 from rfl] at g13; rw [show (14 : Int32).toInt = 14 from rfl] at g14; rw [show (15 : Int32).toInt = 15 from rfl] at g15; rw [show (16 : Int32).toInt = 16 from rfl] at g16; rw [show (17 : Int32).toInt = 17 from rfl] at g17; rw [show (18 : Int32).toInt = 18 from rfl] at g18; rw [show (19 : Int32).toInt = 19 from rfl] at g19; rw [show (20 : Int32).toInt = 20 from rfl] at g20; rw [show (21 : Int32).toInt = 21 from rfl] at g21; rw [show (22 : Int32).toInt = 22 from rfl] at g22; omega) (by decide) ?_
                                                refine lv_ldc (v := (-1000001)) hx hb hown (hts _ kc_X7_106) dX7_count_218 ?_
                                                exact r_ret X hw hk hret rfl (by unfold sp_X7_count; rw [if_neg w1]; rw [if_neg w2]; rw [if_neg w3]; rw [if_neg w4]; rw [if_neg w5]; rw [if_neg w6]; rw [if_neg w7]; rw [if_neg w8]; rw [if_neg w9]; rw [if_neg w10]; rw [if_neg w11]; rw [if_neg w12]; rw [if_neg w13]; rw [if_neg w14]; rw [if_neg w15]; rw [if_neg w16]; rw [if_neg w17]; rw [if_neg w18]; rw [if_neg w19]; rw [if_neg w20]; rw [if_neg w21]; rw [if_neg w22]; rw [if_neg w23]) rfl dX7_count_220
