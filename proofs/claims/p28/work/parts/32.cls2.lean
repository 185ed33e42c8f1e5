noncomputable def sp_J6_bitCount_0f7a4 (a0 : Int32) : Int32 := (((((((a0 - (((a0.toUInt32 >>> ((1 : Int32).toUInt32 &&& Int32.toUInt32 31)).toInt32) &&& 1431655765)) &&& 858993459) + ((((a0 - (((a0.toUInt32 >>> ((1 : Int32).toUInt32 &&& Int32.toUInt32 31)).toInt32) &&& 1431655765)).toUInt32 >>> ((2 : Int32).toUInt32 &&& Int32.toUInt32 31)).toInt32) &&& 858993459)) + (((((a0 - (((a0.toUInt32 >>> ((1 : Int32).toUInt32 &&& Int32.toUInt32 31)).toInt32) &&& 1431655765)) &&& 858993459) + ((((a0 - (((a0.toUInt32 >>> ((1 : Int32).toUInt32 &&& Int32.toUInt32 31)).toInt32) &&& 1431655765)).toUInt32 >>> ((2 : Int32).toUInt32 &&& Int32.toUInt32 31)).toInt32) &&& 858993459)).toUInt32 >>> ((4 : Int32).toUInt32 &&& Int32.toUInt32 31)).toInt32)) &&& 252645135) + (((((((a0 - (((a0.toUInt32 >>> ((1 : Int32).toUInt32 &&& Int32.toUInt32 31)).toInt32) &&& 1431655765)) &&& 858993459) + ((((a0 - (((a0.toUInt32 >>> ((1 : Int32).toUInt32 &&& Int32.toUInt32 31)).toInt32) &&& 1431655765)).toUInt32 >>> ((2 : Int32).toUInt32 &&& Int32.toUInt32 31)).toInt32) &&& 858993459)) + (((((a0 - (((a0.toUInt32 >>> ((1 : Int32).toUInt32 &&& Int32.toUInt32 31)).toInt32) &&& 1431655765)) &&& 858993459) + ((((a0 - (((a0.toUInt32 >>> ((1 : Int32).toUInt32 &&& Int32.toUInt32 31)).toInt32) &&& 1431655765)).toUInt32 >>> ((2 : Int32).toUInt32 &&& Int32.toUInt32 31)).toInt32) &&& 858993459)).toUInt32 >>> ((4 : Int32).toUInt32 &&& Int32.toUInt32 31)).toInt32)) &&& 252645135).toUInt32 >>> ((8 : Int32).toUInt32 &&& Int32.toUInt32 31)).toInt32)) + ((((((((a0 - (((a0.toUInt32 >>> ((1 : Int32).toUInt32 &&& Int32.toUInt32 31)).toInt32) &&& 1431655765)) &&& 858993459) + ((((a0 - (((a0.toUInt32 >>> ((1 : Int32).toUInt32 &&& Int32.toUInt32 31)).toInt32) &&& 1431655765)).toUInt32 >>> ((2 : Int32).toUInt32 &&& Int32.toUInt32 31)).toInt32) &&& 858993459)) + (((((a0 - (((a0.toUInt32 >>> ((1 : Int32).toUInt32 &&& Int32.toUInt32 31)).toInt32) &&& 1431655765)) &&& 858993459) + ((((a0 - (((a0.toUInt32 >>> ((1 : Int32).toUInt32 &&& Int32.toUInt32 31)).toInt32) &&& 1431655765)).toUInt32 >>> ((2 : Int32).toUInt32 &&& Int32.toUInt32 31)).toInt32) &&& 858993459)).toUInt32 >>> ((4 : Int32).toUInt32 &&& Int32.toUInt32 31)).toInt32)) &&& 252645135) + (((((((a0 - (((a0.toUInt32 >>> ((1 : Int32).toUInt32 &&& Int32.toUInt32 31)).toInt32) &&& 1431655765)) &&& 858993459) + ((((a0 - (((a0.toUInt32 >>> ((1 : Int32).toUInt32 &&& Int32.toUInt32 31)).toInt32) &&& 1431655765)).toUInt32 >>> ((2 : Int32).toUInt32 &&& Int32.toUInt32 31)).toInt32) &&& 858993459)) + (((((a0 - (((a0.toUInt32 >>> ((1 : Int32).toUInt32 &&& Int32.toUInt32 31)).toInt32) &&& 1431655765)) &&& 858993459) + ((((a0 - (((a0.toUInt32 >>> ((1 : Int32).toUInt32 &&& Int32.toUInt32 31)).toInt32) &&& 1431655765)).toUInt32 >>> ((2 : Int32).toUInt32 &&& Int32.toUInt32 31)).toInt32) &&& 858993459)).toUInt32 >>> ((4 : Int32).toUInt32 &&& Int32.toUInt32 31)).toInt32)) &&& 252645135).toUInt32 >>> ((8 : Int32).toUInt32 &&& Int32.toUInt32 31)).toInt32)).toUInt32 >>> ((16 : Int32).toUInt32 &&& Int32.toUInt32 31)).toInt32)) &&& 63
set_option maxRecDepth 100000 in
set_option maxHeartbeats 4000000 in
theorem c_J6_bitCount_0f7a4 (l : Launch) (D : va_G) (sz : Nat) (a0 : Int32) : MI l yJ6_bitCount_0f7a4 cJ6_bitCount_0f7a4 1 (some .int) 0 0 D sz [.int a0] [] (sp_J6_bitCount_0f7a4 a0) ([]) := by
  refine r_enterI (by decide) (Nat.le_of_ble_eq_true rfl) ?_
  intro p e st m args below meth c ls A X hret hk hw hl
  have X : CX D p m c cJ6_bitCount_0f7a4 1 st args RJ6 A := X
  have hx := X.1.1
  have hb := X.1.2.1
  have hown := X.1.2.2.2.1
  have hts := X.1.2.2.2.2
  have hl : lv_has ls 1 [(0, .int a0)] := hl
  refine lv_iload_n hx hb dJ6_bitCount_0f7a4_0 rfl (lv_at hl 0 rfl) ?_
  refine lv_iload_n hx hb dJ6_bitCount_0f7a4_1 rfl (lv_at hl 0 rfl) ?_
  refine lv_iconst (v := 1) hx hb dJ6_bitCount_0f7a4_2 (by decide) ?_
  refine lv_iushr hx hb dJ6_bitCount_0f7a4_3 rfl ?_
  refine lv_ldcw (v := 1431655765) hx hb hown (hts _ kc_J6_265) dJ6_bitCount_0f7a4_4 ?_
  refine lv_iand hx hb dJ6_bitCount_0f7a4_7 ?_
  refine lv_isub hx hb dJ6_bitCount_0f7a4_8 ?_
  refine lv_istore_n (lv' := [(0, .int (a0 - (((a0.toUInt32 >>> ((1 : Int32).toUInt32 &&& Int32.toUInt32 31)).toInt32) &&& 1431655765)))]) hx hb dJ6_bitCount_0f7a4_9 rfl hl (by decide) rfl (fun ls hl => ?_)
  refine lv_iload_n hx hb dJ6_bitCount_0f7a4_10 rfl (lv_at hl 0 rfl) ?_
  refine lv_ldcw (v := 858993459) hx hb hown (hts _ kc_J6_266) dJ6_bitCount_0f7a4_11 ?_
  refine lv_iand hx hb dJ6_bitCount_0f7a4_14 ?_
  refine lv_iload_n hx hb dJ6_bitCount_0f7a4_15 rfl (lv_at hl 0 rfl) ?_
  refine lv_iconst (v := 2) hx hb dJ6_bitCount_0f7a4_16 (by decide) ?_
  refine lv_iushr hx hb dJ6_bitCount_0f7a4_17 rfl ?_
  refine lv_ldcw (v := 858993459) hx hb hown (hts _ kc_J6_266) dJ6_bitCount_0f7a4_18 ?_
  refine lv_iand hx hb dJ6_bitCount_0f7a4_21 ?_
  refine lv_iadd hx hb dJ6_bitCount_0f7a4_22 ?_
  refine lv_istore_n (lv' := [(0, .int (((a0 - (((a0.toUInt32 >>> ((1 : Int32).toUInt32 &&& Int32.toUInt32 31)).toInt32) &&& 1431655765)) &&& 858993459) + ((((a0 - (((a0.toUInt32 >>> ((1 : Int32).toUInt32 &&& Int32.toUInt32 31)).toInt32) &&& 1431655765)).toUInt32 >>> ((2 : Int32).toUInt32 &&& Int32.toUInt32 31)).toInt32) &&& 858993459)))]) hx hb dJ6_bitCount_0f7a4_23 rfl hl (by decide) rfl (fun ls hl => ?_)
  refine lv_iload_n hx hb dJ6_bitCount_0f7a4_24 rfl (lv_at hl 0 rfl) ?_
  refine lv_iload_n hx hb dJ6_bitCount_0f7a4_25 rfl (lv_at hl 0 rfl) ?_
  refine lv_iconst (v := 4) hx hb dJ6_bitCount_0f7a4_26 (by decide) ?_
  refine lv_iushr hx hb dJ6_bitCount_0f7a4_27 rfl ?_
  refine lv_iadd hx hb dJ6_bitCount_0f7a4_28 ?_
  refine lv_ldcw (v := 252645135) hx hb hown (hts _ kc_J6_267) dJ6_bitCount_0f7a4_29 ?_
  refine lv_iand hx hb dJ6_bitCount_0f7a4_32 ?_
  refine lv_istore_n (lv' := [(0, .int (((((a0 - (((a0.toUInt32 >>> ((1 : Int32).toUInt32 &&& Int32.toUInt32 31)).toInt32) &&& 1431655765)) &&& 858993459) + ((((a0 - (((a0.toUInt32 >>> ((1 : Int32).toUInt32 &&& Int32.toUInt32 31)).toInt32) &&& 1431655765)).toUInt32 >>> ((2 : Int32).toUInt32 &&& Int32.toUInt32 31)).toInt32) &&& 858993459)) + (((((a0 - (((a0.toUInt32 >>> ((1 : Int32).toUInt32 &&& Int32.toUInt32 31)).toInt32) &&& 1431655765)) &&& 858993459) + ((((a0 - (((a0.toUInt32 >>> ((1 : Int32).toUInt32 &&& Int32.toUInt32 31)).toInt32) &&& 1431655765)).toUInt32 >>> ((2 : Int32).toUInt32 &&& Int32.toUInt32 31)).toInt32) &&& 858993459)).toUInt32 >>> ((4 : Int32).toUInt32 &&& Int32.toUInt32 31)).toInt32)) &&& 252645135))]) hx hb dJ6_bitCount_0f7a4_33 rfl hl (by decide) rfl (fun ls hl => ?_)
  refine lv_iload_n hx hb dJ6_bitCount_0f7a4_34 rfl (lv_at hl 0 rfl) ?_
  refine lv_iload_n hx hb dJ6_bitCount_0f7a4_35 rfl (lv_at hl 0 rfl) ?_
  refine lv_bipush (v := 8) hx hb dJ6_bitCount_0f7a4_36 (by decide) ?_
  refine lv_iushr hx hb dJ6_bitCount_0f7a4_38 rfl ?_
  refine lv_iadd hx hb dJ6_bitCount_0f7a4_39 ?_
  refine lv_istore_n (lv' := [(0, .int ((((((a0 - (((a0.toUInt32 >>> ((1 : Int32).toUInt32 &&& Int32.toUInt32 31)).toInt32) &&& 1431655765)) &&& 858993459) + ((((a0 - (((a0.toUInt32 >>> ((1 : Int32).toUInt32 &&& Int32.toUInt32 31)).toInt32) &&& 1431655765)).toUInt32 >>> ((2 : Int32).toUInt32 &&& Int32.toUInt32 31)).toInt32) &&& 858993459)) + (((((a0 - (((a0.toUInt32 >>> ((1 : Int32).toUInt32 &&& Int32.toUInt32 31)).toInt32) &&& 1431655765)) &&& 858993459) + ((((a0 - (((a0.toUInt32 >>> ((1 : Int32).toUInt32 &&& Int32.toUInt32 31)).toInt32) &&& 1431655765)).toUInt32 >>> ((2 : Int32).toUInt32 &&& Int32.toUInt32 31)).toInt32) &&& 858993459)).toUInt32 >>> ((4 : Int32).toUInt32 &&& Int32.toUInt32 31)).toInt32)) &&& 252645135) + (((((((a0 - (((a0.toUInt32 >>> ((1 : Int32).toUInt32 &&& Int32.toUInt32 31)).toInt32) &&& 1431655765)) &&& 858993459) + ((((a0 - (((a0.toUInt32 >>> ((1 : Int32).toUInt32 &&& Int32.toUInt32 31)).toInt32) &&& 1431655765)).toUInt32 >>> ((2 : Int32).toUInt32 &&& Int32.toUInt32 31)).toInt32) &&& 858993459)) + (((((a0 - (((a0.toUInt32 >>> ((1 : Int32).toUInt32 &&& Int32.toUInt32 31)).toInt32) &&& 1431655765)) &&& 858993459) + ((((a0 - (((a0.toUInt32 >>> ((1 : Int32).toUInt32 &&& Int32.toUInt32 31)).toInt32) &&& 1431655765)).toUInt32 >>> ((2 : Int32).toUInt32 &&& Int32.toUInt32 31)).toInt32) &&& 858993459)).toUInt32 >>> ((4 : Int32).toUInt32 &&& Int32.toUInt32 31)).toInt32)) &&& 252645135).toUInt32 >>> ((8 : Int32).toUInt32 &&& Int32.toUInt32 31)).toInt32)))]) hx hb dJ6_bitCount_0f7a4_40 rfl hl (by decide) rfl (fun ls hl => ?_)
  refine lv_iload_n hx hb dJ6_bitCount_0f7a4_41 rfl (lv_at hl 0 rfl) ?_
  refine lv_iload_n hx hb dJ6_bitCount_0f7a4_42 rfl (lv_at hl 0 rfl) ?_
  refine lv_bipush (v := 16) hx hb dJ6_bitCount_0f7a4_43 (by decide) ?_
  refine lv_iushr hx hb dJ6_bitCount_0f7a4_45 rfl ?_
  refine lv_iadd hx hb dJ6_bitCount_0f7a4_46 ?_
  refine lv_istore_n (lv' := [(0, .int (((((((a0 - (((a0.toUInt32 >>> ((1 : Int32).toUInt32 &&& Int32.toUInt32 31)).toInt32) &&& 1431655765)) &&& 858993459) + ((((a0 - (((a0.toUInt32 >>> ((1 : Int32).toUInt32 &&& Int32.toUInt32 31)).toInt32) &&& 1431655765)).toUInt32 >>> ((2 : Int32).toUInt32 &&& Int32.toUInt32 31)).toInt32) &&& 858993459)) + (((((a0 - (((a0.toUInt32 >>> ((1 : Int32).toUInt32 &&& Int32.toUInt32 31)).toInt32) &&& 1431655765)) &&& 858993459) + ((((a0 - (((a0.toUInt32 >>> ((1 : Int32).toUInt32 &&& Int32.toUInt32 31)).toInt32) &&& 1431655765)).toUInt32 >>> ((2 : Int32).toUInt32 &&& Int32.toUInt32 31)).toInt32) &&& 858993459)).toUInt32 >>> ((4 : Int32).toUInt32 &&& Int32.toUInt32 31)).toInt32)) &&& 252645135) + (((((((a0 - (((a0.toUInt32 >>> ((1 : Int32).toUInt32 &&& Int32.toUInt32 31)).toInt32) &&& 1431655765)) &&& 858993459) + ((((a0 - (((a0.toUInt32 >>> ((1 : Int32).toUInt32 &&& Int32.toUInt32 31)).toInt32) &&& 1431655765)).toUInt32 >>> ((2 : Int32).toUInt32 &&& Int32.toUInt32 31)).toInt32) &&& 858993459)) + (((((a0 - (((a0.toUInt32 >>> ((1 : Int32).toUInt32 &&& Int32.toUInt32 31)).toInt32) &&& 1431655765)) &&& 858993459) + ((((a0 - (((a0.toUInt32 >>> ((1 : Int32).toUInt32 &&& Int32.toUInt32 31)).toInt32) &&& 1431655765)).toUInt32 >>> ((2 : Int32).toUInt32 &&& Int32.toUInt32 31)).toInt32) &&& 858993459)).toUInt32 >>> ((4 : Int32).toUInt32 &&& Int32.toUInt32 31)).toInt32)) &&& 252645135).toUInt32 >>> ((8 : Int32).toUInt32 &&& Int32.toUInt32 31)).toInt32)) + ((((((((a0 - (((a0.toUInt32 >>> ((1 : Int32).toUInt32 &&& Int32.toUInt32 31)).toInt32) &&& 1431655765)) &&& 858993459) + ((((a0 - (((a0.toUInt32 >>> ((1 : Int32).toUInt32 &&& Int32.toUInt32 31)).toInt32) &&& 1431655765)).toUInt32 >>> ((2 : Int32).toUInt32 &&& Int32.toUInt32 31)).toInt32) &&& 858993459)) + (((((a0 - (((a0.toUInt32 >>> ((1 : Int32).toUInt32 &&& Int32.toUInt32 31)).toInt32) &&& 1431655765)) &&& 858993459) + ((((a0 - (((a0.toUInt32 >>> ((1 : Int32).toUInt32 &&& Int32.toUInt32 31)).toInt32) &&& 1431655765)).toUInt32 >>> ((2 : Int32).toUInt32 &&& Int32.toUInt32 31)).toInt32) &&& 858993459)).toUInt32 >>> ((4 : Int32).toUInt32 &&& Int32.toUInt32 31)).toInt32)) &&& 252645135) + (((((((a0 - (((a0.toUInt32 >>> ((1 : Int32).toUInt32 &&& Int32.toUInt32 31)).toInt32) &&& 1431655765)) &&& 858993459) + ((((a0 - (((a0.toUInt32 >>> ((1 : Int32).toUInt32 &&& Int32.toUInt32 31)).toInt32) &&& 1431655765)).toUInt32 >>> ((2 : Int32).toUInt32 &&& Int32.toUInt32 31)).toInt32) &&& 858993459)) + (((((a0 - (((a0.toUInt32 >>> ((1 : Int32).toUInt32 &&& Int32.toUInt32 31)).toInt32) &&& 1431655765)) &&& 858993459) + ((((a0 - (((a0.toUInt32 >>> ((1 : Int32).toUInt32 &&& Int32.toUInt32 31)).toInt32) &&& 1431655765)).toUInt32 >>> ((2 : Int32).toUInt32 &&& Int32.toUInt32 31)).toInt32) &&& 858993459)).toUInt32 >>> ((4 : Int32).toUInt32 &&& Int32.toUInt32 31)).toInt32)) &&& 252645135).toUInt32 >>> ((8 : Int32).toUInt32 &&& Int32.toUInt32 31)).toInt32)).toUInt32 >>> ((16 : Int32).toUInt32 &&& Int32.toUInt32 31)).toInt32)))]) hx hb dJ6_bitCount_0f7a4_47 rfl hl (by decide) rfl (fun ls hl => ?_)
  refine lv_iload_n hx hb dJ6_bitCount_0f7a4_48 rfl (lv_at hl 0 rfl) ?_
  refine lv_bipush (v := 63) hx hb dJ6_bitCount_0f7a4_49 (by decide) ?_
  refine lv_iand hx hb dJ6_bitCount_0f7a4_51 ?_
  exact r_ret X hw hk hret rfl (rfl) rfl dJ6_bitCount_0f7a4_52

/-- a register steps on, by its last value -/
noncomputable def stR (f g : Row) (x : Row × Row) (i : Nat) : Int32 × Row × Row := sp_X5_stepOn x.1 f g x.2 i (sp_X5_lastValue x.1 i)
/-- the registers behind a tick -/
noncomputable def sp_X5_tick (v f g r : Row) : Row × Row := if (stR f g (v, r) 0).1 = 0 then (stR f g (v, r) 0).2 else (if (stR f g (stR f g (v, r) 0).2 1).1 = 0 then (stR f g (stR f g (v, r) 0).2 1).2 else (if (stR f g (stR f g (stR f g (v, r) 0).2 1).2 2).1 = 0 then (stR f g (stR f g (stR f g (v, r) 0).2 1).2 2).2 else
  (if (stR f g (stR f g (stR f g (stR f g (stR f g (v, r) 0).2 1).2 2).2 3).2 4).1 = 0 then (stR f g (stR f g (stR f g (stR f g (stR f g (v, r) 0).2 1).2 2).2 3).2 4).2 else
  (if (stR f g (stR f g (stR f g (stR f g (stR f g (stR f g (v, r) 0).2 1).2 2).2 3).2 4).2 5).1 = 0 then (stR f g (stR f g (stR f g (stR f g (stR f g (stR f g (v, r) 0).2 1).2 2).2 3).2 4).2 5).2 else (stR f g (stR f g (stR f g (stR f g (stR f g (stR f g (stR f g (v, r) 0).2 1).2 2).2 3).2 4).2 5).2 6).2))))

set_option maxRecDepth 100000 in
set_option maxHeartbeats 4000000 in
theorem c_X5_tick (l : Launch) (D : va_G) (sz : Nat) (x0 : Nat) (x1 : Nat) (x2 : Nat) (x3 : Nat) (x4 : Nat) (v : Row) (f : Row) (g : Row) (r : Row) : MV l yX5_tick cX5_tick 1 2 46 D sz [.ref x0] (regsB D x0 x1 x2 x3 x4 v f g r) (regsB D x0 x1 x2 x3 x4 ((sp_X5_tick v f g r).1) f g ((sp_X5_tick v f g r).2)) := by
  refine r_enterV (by decide) (Nat.le_of_ble_eq_true rfl) ?_
  intro p e st m args below meth c ls A X hret hk hw hl
  have X : CX D p m c cX5_tick 1 st args RX5 A := X
  have hx := X.1.1
  have hb := X.1.2.1
  have hown := X.1.2.2.2.1
  have hts := X.1.2.2.2.2
  have hl : lv_has ls 1 [(0, .ref x0)] := hl
  refine lv_aload_n hx hb dX5_tick_0 rfl (lv_at hl 0 rfl) ?_
  refine lv_iconst (v := 0) hx hb dX5_tick_1 (by decide) ?_
  refine lv_aload_n hx hb dX5_tick_2 rfl (lv_at hl 0 rfl) ?_
  refine lv_iconst (v := 0) hx hb dX5_tick_3 (by decide) ?_
  refine r_callV X hw (ws' := regsB D x0 x1 x2 x3 x4 v f g r) (As := [.int 0]) (rest := [.int 0, .ref x0]) lk_X5_40 (c_X5_lastValue l D _ x0 x1 x2 x3 x4 v f g r 0 (by omega)) Foc.all (m_at 0 rfl) rfl hl.1 (Nat.le_of_ble_eq_true rfl) ⟨Nat.le_of_ble_eq_true rfl, Nat.le_of_ble_eq_true rfl⟩ rfl dX5_tick_4 ⟨Nat.le_refl _, Nat.le_refl _⟩ (fun H locs hw => ?_)
  refine r_callV X hw (ws' := regsB D x0 x1 x2 x3 x4 ((sp_X5_stepOn v f g r 0 (sp_X5_lastValue v 0)).2.1) f g ((sp_X5_stepOn v f g r 0 (sp_X5_lastValue v 0)).2.2)) (As := [.int 0, .int (sp_X5_lastValue v 0)]) (rest := []) lk_X5_62 (c_X5_stepOn l D _ x0 x1 x2 x3 x4 v f g r 0 (sp_X5_lastValue v 0) (by omega)) Foc.all (m_at 0 rfl) rfl hl.1 (Nat.le_of_ble_eq_true rfl) ⟨Nat.le_of_ble_eq_true rfl, Nat.le_of_ble_eq_true rfl⟩ rfl dX5_tick_7 ⟨Nat.le_refl _, Nat.le_refl _⟩ (fun H locs hw => ?_)
  obtain ⟨y1, hy1⟩ : ∃ y, y = (sp_X5_stepOn v f g r 0 (sp_X5_lastValue v 0)) := ⟨_, rfl⟩
  rw [← hy1] at hw
  rw [← hy1]
  have hz1 : stR f g (v, r) 0 = y1 := hy1.symm
  refine lv_if_eq (tgt := 89) hx hb dX5_tick_10 (by decide) (fun c1 => ?_) (fun c1 => ?_)
  · skip
    exact r_retV X hw hk hret (by unfold sp_X5_tick; rw [hz1]; rw [if_pos c1]) dX5_tick_89
  · skip
    refine lv_aload_n hx hb dX5_tick_13 rfl (lv_at hl 0 rfl) ?_
    refine lv_iconst (v := 1) hx hb dX5_tick_14 (by decide) ?_
    refine lv_aload_n hx hb dX5_tick_15 rfl (lv_at hl 0 rfl) ?_
    refine lv_iconst (v := 1) hx hb dX5_tick_16 (by decide) ?_
    refine r_callV X hw (ws' := regsB D x0 x1 x2 x3 x4 y1.2.1 f g y1.2.2) (As := [.int 1]) (rest := [.int 1, .ref x0]) lk_X5_40 (c_X5_lastValue l D _ x0 x1 x2 x3 x4 y1.2.1 f g y1.2.2 1 (by omega)) Foc.all (m_at 0 rfl) rfl hl.1 (Nat.le_of_ble_eq_true rfl) ⟨Nat.le_of_ble_eq_true rfl, Nat.le_of_ble_eq_true rfl⟩ rfl dX5_tick_17 ⟨Nat.le_refl _, Nat.le_refl _⟩ (fun H locs hw => ?_)
    refine r_callV X hw (ws' := regsB D x0 x1 x2 x3 x4 ((sp_X5_stepOn y1.2.1 f g y1.2.2 1 (sp_X5_lastValue y1.2.1 1)).2.1) f g ((sp_X5_stepOn y1.2.1 f g y1.2.2 1 (sp_X5_lastValue y1.2.1 1)).2.2)) (As := [.int 1, .int (sp_X5_lastValue y1.2.1 1)]) (rest := []) lk_X5_62 (c_X5_stepOn l D _ x0 x1 x2 x3 x4 y1.2.1 f g y1.2.2 1 (sp_X5_lastValue y1.2.1 1) (by omega)) Foc.all (m_at 0 rfl) rfl hl.1 (Nat.le_of_ble_eq_true rfl) ⟨Nat.le_of_ble_eq_true rfl, Nat.le_of_ble_eq_true rfl⟩ rfl dX5_tick_20 ⟨Nat.le_refl _, Nat.le_refl _⟩ (fun H locs hw => ?_)
    obtain ⟨y2, hy2⟩ : ∃ y, y = (sp_X5_stepOn y1.2.1 f g y1.2.2 1 (sp_X5_lastValue y1.2.1 1)) := ⟨_, rfl⟩
    rw [← hy2] at hw
    rw [← hy2]
    have hz2 : stR f g y1.2 1 = y2 := hy2.symm
    refine lv_if_eq (tgt := 89) hx hb dX5_tick_23 (by decide) (fun c2 => ?_) (fun c2 => ?_)
    · skip
      exact r_retV X hw hk hret (by unfold sp_X5_tick; rw [hz1]; rw [if_neg c1]; rw [hz2]; rw [if_pos c2]) dX5_tick_89
    · skip
      refine lv_aload_n hx hb dX5_tick_26 rfl (lv_at hl 0 rfl) ?_
      refine lv_iconst (v := 2) hx hb dX5_tick_27 (by decide) ?_
      refine lv_aload_n hx hb dX5_tick_28 rfl (lv_at hl 0 rfl) ?_
      refine lv_iconst (v := 2) hx hb dX5_tick_29 (by decide) ?_
      refine r_callV X hw (ws' := regsB D x0 x1 x2 x3 x4 y2.2.1 f g y2.2.2) (As := [.int 2]) (rest := [.int 2, .ref x0]) lk_X5_40 (c_X5_lastValue l D _ x0 x1 x2 x3 x4 y2.2.1 f g y2.2.2 2 (by omega)) Foc.all (m_at 0 rfl) rfl hl.1 (Nat.le_of_ble_eq_true rfl) ⟨Nat.le_of_ble_eq_true rfl, Nat.le_of_ble_eq_true rfl⟩ rfl dX5_tick_30 ⟨Nat.le_refl _, Nat.le_refl _⟩ (fun H locs hw => ?_)
      refine r_callV X hw (ws' := regsB D x0 x1 x2 x3 x4 ((sp_X5_stepOn y2.2.1 f g y2.2.2 2 (sp_X5_lastValue y2.2.1 2)).2.1) f g ((sp_X5_stepOn y2.2.1 f g y2.2.2 2 (sp_X5_lastValue y2.2.1 2)).2.2)) (As := [.int 2, .int (sp_X5_lastValue y2.2.1 2)]) (rest := []) lk_X5_62 (c_X5_stepOn l D _ x0 x1 x2 x3 x4 y2.2.1 f g y2.2.2 2 (sp_X5_lastValue y2.2.1 2) (by omega)) Foc.all (m_at 0 rfl) rfl hl.1 (Nat.le_of_ble_eq_true rfl) ⟨Nat.le_of_ble_eq_true rfl, Nat.le_of_ble_eq_true rfl⟩ rfl dX5_tick_33 ⟨Nat.le_refl _, Nat.le_refl _⟩ (fun H locs hw => ?_)
      obtain ⟨y3, hy3⟩ : ∃ y, y = (sp_X5_stepOn y2.2.1 f g y2.2.2 2 (sp_X5_lastValue y2.2.1 2)) := ⟨_, rfl⟩
      rw [← hy3] at hw
      rw [← hy3]
      have hz3 : stR f g y2.2 2 = y3 := hy3.symm
      refine lv_if_eq (tgt := 89) hx hb dX5_tick_36 (by decide) (fun c3 => ?_) (fun c3 => ?_)
      · skip
        exact r_retV X hw hk hret (by unfold sp_X5_tick; rw [hz1]; rw [if_neg c1]; rw [hz2]; rw [if_neg c2]; rw [hz3]; rw [if_pos c3]) dX5_tick_89
      · skip
        refine lv_aload_n hx hb dX5_tick_39 rfl (lv_at hl 0 rfl) ?_
        refine lv_iconst (v := 3) hx hb dX5_tick_40 (by decide) ?_
        refine lv_aload_n hx hb dX5_tick_41 rfl (lv_at hl 0 rfl) ?_
        refine lv_iconst (v := 3) hx hb dX5_tick_42 (by decide) ?_
        refine r_callV X hw (ws' := regsB D x0 x1 x2 x3 x4 y3.2.1 f g y3.2.2) (As := [.int 3]) (rest := [.int 3, .ref x0]) lk_X5_40 (c_X5_lastValue l D _ x0 x1 x2 x3 x4 y3.2.1 f g y3.2.2 3 (by omega)) Foc.all (m_at 0 rfl) rfl hl.1 (Nat.le_of_ble_eq_true rfl) ⟨Nat.le_of_ble_eq_true rfl, Nat.le_of_ble_eq_true rfl⟩ rfl dX5_tick_43 ⟨Nat.le_refl _, Nat.le_refl _⟩ (fun H locs hw => ?_)
        refine r_callV X hw (ws' := regsB D x0 x1 x2 x3 x4 ((sp_X5_stepOn y3.2.1 f g y3.2.2 3 (sp_X5_lastValue y3.2.1 3)).2.1) f g ((sp_X5_stepOn y3.2.1 f g y3.2.2 3 (sp_X5_lastValue y3.2.1 3)).2.2)) (As := [.int 3, .int (sp_X5_lastValue y3.2.1 3)]) (rest := []) lk_X5_62 (c_X5_stepOn l D _ x0 x1 x2 x3 x4 y3.2.1 f g y3.2.2 3 (sp_X5_lastValue y3.2.1 3) (by omega)) Foc.all (m_at 0 rfl) rfl hl.1 (Nat.le_of_ble_eq_true rfl) ⟨Nat.le_of_ble_eq_true rfl, Nat.le_of_ble_eq_true rfl⟩ rfl dX5_tick_46 ⟨Nat.le_refl _, Nat.le_refl _⟩ (fun H locs hw => ?_)
        obtain ⟨y4, hy4⟩ : ∃ y, y = (sp_X5_stepOn y3.2.1 f g y3.2.2 3 (sp_X5_lastValue y3.2.1 3)) := ⟨_, rfl⟩
        rw [← hy4] at hw
        rw [← hy4]
        have hz4 : stR f g y3.2 3 = y4 := hy4.symm
        refine lv_pop hx hb dX5_tick_49 rfl ?_
        refine lv_aload_n hx hb dX5_tick_50 rfl (lv_at hl 0 rfl) ?_
        refine lv_iconst (v := 4) hx hb dX5_tick_51 (by decide) ?_
        refine lv_aload_n hx hb dX5_tick_52 rfl (lv_at hl 0 rfl) ?_
        refine lv_iconst (v := 4) hx hb dX5_tick_53 (by decide) ?_
        refine r_callV X hw (ws' := regsB D x0 x1 x2 x3 x4 y4.2.1 f g y4.2.2) (As := [.int 4]) (rest := [.int 4, .ref x0]) lk_X5_40 (c_X5_lastValue l D _ x0 x1 x2 x3 x4 y4.2.1 f g y4.2.2 4 (by omega)) Foc.all (m_at 0 rfl) rfl hl.1 (Nat.le_of_ble_eq_true rfl) ⟨Nat.le_of_ble_eq_true rfl, Nat.le_of_ble_eq_true rfl⟩ rfl dX5_tick_54 ⟨Nat.le_refl _, Nat.le_refl _⟩ (fun H locs hw => ?_)
        refine r_callV X hw (ws' := regsB D x0 x1 x2 x3 x4 ((sp_X5_stepOn y4.2.1 f g y4.2.2 4 (sp_X5_lastValue y4.2.1 4)).2.1) f g ((sp_X5_stepOn y4.2.1 f g y4.2.2 4 (sp_X5_lastValue y4.2.1 4)).2.2)) (As := [.int 4, .int (sp_X5_lastValue y4.2.1 4)]) (rest := []) lk_X5_62 (c_X5_stepOn l D _ x0 x1 x2 x3 x4 y4.2.1 f g y4.2.2 4 (sp_X5_lastValue y4.2.1 4) (by omega)) Foc.all (m_at 0 rfl) rfl hl.1 (Nat.le_of_ble_eq_true rfl) ⟨Nat.le_of_ble_eq_true rfl, Nat.le_of_ble_eq_true rfl⟩ rfl dX5_tick_57 ⟨Nat.le_refl _, Nat.le_refl _⟩ (fun H locs hw => ?_)
        obtain ⟨y5, hy5⟩ : ∃ y, y = (sp_X5_stepOn y4.2.1 f g y4.2.2 4 (sp_X5_lastValue y4.2.1 4)) := ⟨_, rfl⟩
        rw [← hy5] at hw
        rw [← hy5]
        have hz5 : stR f g y4.2 4 = y5 := hy5.symm
        refine lv_if_eq (tgt := 89) hx hb dX5_tick_60 (by decide) (fun c4 => ?_) (fun c4 => ?_)
        · skip
          exact r_retV X hw hk hret (by unfold sp_X5_tick; rw [hz1]; rw [if_neg c1]; rw [hz2]; rw [if_neg c2]; rw [hz3]; rw [if_neg c3]; rw [hz4]; rw [hz5]; rw [if_pos c4]) dX5_tick_89
        · skip
          refine lv_aload_n hx hb dX5_tick_63 rfl (lv_at hl 0 rfl) ?_
          refine lv_iconst (v := 5) hx hb dX5_tick_64 (by decide) ?_
          refine lv_aload_n hx hb dX5_tick_65 rfl (lv_at hl 0 rfl) ?_
          refine lv_iconst (v := 5) hx hb dX5_tick_66 (by decide) ?_
          refine r_callV X hw (ws' := regsB D x0 x1 x2 x3 x4 y5.2.1 f g y5.2.2) (As := [.int 5]) (rest := [.int 5, .ref x0]) lk_X5_40 (c_X5_lastValue l D _ x0 x1 x2 x3 x4 y5.2.1 f g y5.2.2 5 (by omega)) Foc.all (m_at 0 rfl) rfl hl.1 (Nat.le_of_ble_eq_true rfl) ⟨Nat.le_of_ble_eq_true rfl, Nat.le_of_ble_eq_true rfl⟩ rfl dX5_tick_67 ⟨Nat.le_refl _, Nat.le_refl _⟩ (fun H locs hw => ?_)
          refine r_callV X hw (ws' := regsB D x0 x1 x2 x3 x4 ((sp_X5_stepOn y5.2.1 f g y5.2.2 5 (sp_X5_lastValue y5.2.1 5)).2.1) f g ((sp_X5_stepOn y5.2.1 f g y5.2.2 5 (sp_X5_lastValue y5.2.1 5)).2.2)) (As := [.int 5, .int (sp_X5_lastValue y5.2.1 5)]) (rest := []) lk_X5_62 (c_X5_stepOn l D _ x0 x1 x2 x3 x4 y5.2.1 f g y5.2.2 5 (sp_X5_lastValue y5.2.1 5) (by omega)) Foc.all (m_at 0 rfl) rfl hl.1 (Nat.le_of_ble_eq_true rfl) ⟨Nat.le_of_ble_eq_true rfl, Nat.le_of_ble_eq_true rfl⟩ rfl dX5_tick_70 ⟨Nat.le_refl _, Nat.le_refl _⟩ (fun H locs hw => ?_)
          obtain ⟨y6, hy6⟩ : ∃ y, y = (sp_X5_stepOn y5.2.1 f g y5.2.2 5 (sp_X5_lastValue y5.2.1 5)) := ⟨_, rfl⟩
          rw [← hy6] at hw
          rw [← hy6]
          have hz6 : stR f g y5.2 5 = y6 := hy6.symm
          refine lv_if_eq (tgt := 89) hx hb dX5_tick_73 (by decide) (fun c5 => ?_) (fun c5 => ?_)
          · skip
            exact r_retV X hw hk hret (by unfold sp_X5_tick; rw [hz1]; rw [if_neg c1]; rw [hz2]; rw [if_neg c2]; rw [hz3]; rw [if_neg c3]; rw [hz4]; rw [hz5]; rw [if_neg c4]; rw [hz6]; rw [if_pos c5]) dX5_tick_89
          · skip
            refine lv_aload_n hx hb dX5_tick_76 rfl (lv_at hl 0 rfl) ?_
            refine lv_bipush (v := 6) hx hb dX5_tick_77 (by decide) ?_
            refine lv_aload_n hx hb dX5_tick_79 rfl (lv_at hl 0 rfl) ?_
            refine lv_bipush (v := 6) hx hb dX5_tick_80 (by decide) ?_
            refine r_callV X hw (ws' := regsB D x0 x1 x2 x3 x4 y6.2.1 f g y6.2.2) (As := [.int 6]) (rest := [.int 6, .ref x0]) lk_X5_40 (c_X5_lastValue l D _ x0 x1 x2 x3 x4 y6.2.1 f g y6.2.2 6 (by omega)) Foc.all (m_at 0 rfl) rfl hl.1 (Nat.le_of_ble_eq_true rfl) ⟨Nat.le_of_ble_eq_true rfl, Nat.le_of_ble_eq_true rfl⟩ rfl dX5_tick_82 ⟨Nat.le_refl _, Nat.le_refl _⟩ (fun H locs hw => ?_)
            refine r_callV X hw (ws' := regsB D x0 x1 x2 x3 x4 ((sp_X5_stepOn y6.2.1 f g y6.2.2 6 (sp_X5_lastValue y6.2.1 6)).2.1) f g ((sp_X5_stepOn y6.2.1 f g y6.2.2 6 (sp_X5_lastValue y6.2.1 6)).2.2)) (As := [.int 6, .int (sp_X5_lastValue y6.2.1 6)]) (rest := []) lk_X5_62 (c_X5_stepOn l D _ x0 x1 x2 x3 x4 y6.2.1 f g y6.2.2 6 (sp_X5_lastValue y6.2.1 6) (by omega)) Foc.all (m_at 0 rfl) rfl hl.1 (Nat.le_of_ble_eq_true rfl) ⟨Nat.le_of_ble_eq_true rfl, Nat.le_of_ble_eq_true rfl⟩ rfl dX5_tick_85 ⟨Nat.le_refl _, Nat.le_refl _⟩ (fun H locs hw => ?_)
            obtain ⟨y7, hy7⟩ : ∃ y, y = (sp_X5_stepOn y6.2.1 f g y6.2.2 6 (sp_X5_lastValue y6.2.1 6)) := ⟨_, rfl⟩
            rw [← hy7] at hw
            rw [← hy7]
            have hz7 : stR f g y6.2 6 = y7 := hy7.symm
            refine lv_pop hx hb dX5_tick_88 rfl ?_
            exact r_retV X hw hk hret (by unfold sp_X5_tick; rw [hz1]; rw [if_neg c1]; rw [hz2]; rw [if_neg c2]; rw [hz3]; rw [if_neg c3]; rw [hz4]; rw [hz5]; rw [if_neg c4]; rw [hz6]; rw [if_neg c5]; rw [hz7]) dX5_tick_89

noncomputable def cwN (v : Row) : Nat → Int32
  | 0 => 0
  | i + 1 => if sp_X5_whyWrong v i = 0 then cwN v i else cwN v i ||| (1 : Int32) <<< (nI i &&& 31)

set_option maxRecDepth 100000 in
set_option maxHeartbeats 4000000 in
theorem c_X5_wrongOnes (l : Launch) (D : va_G) (sz : Nat) (x0 : Nat) (x1 : Nat) (x2 : Nat) (x3 : Nat) (x4 : Nat) (v : Row) (f : Row) (g : Row) (r : Row) : MI l yX5_wrongOnes cX5_wrongOnes 3 (some .int) 3 65 D sz [.ref x0] (regsB D x0 x1 x2 x3 x4 v f g r) (cwN v 7) (regsB D x0 x1 x2 x3 x4 v f g r) := by
  refine r_enterI (by decide) (Nat.le_of_ble_eq_true rfl) ?_
  intro p e st m args below meth c ls A X hret hk hw hl
  have X : CX D p m c cX5_wrongOnes 3 st args RX5 A := X
  have hx := X.1.1
  have hb := X.1.2.1
  have hown := X.1.2.2.2.1
  have hts := X.1.2.2.2.2
  have hl : lv_has ls 3 [(0, .ref x0)] := hl
  refine lv_iconst (v := 0) hx hb dX5_wrongOnes_0 (by decide) ?_
  refine lv_istore_n (lv' := [(1, .int 0), (0, .ref x0)]) hx hb dX5_wrongOnes_1 rfl hl (by decide) rfl (fun ls hl => ?_)
  refine lv_iconst (v := 0) hx hb dX5_wrongOnes_2 (by decide) ?_
  refine lv_istore_n (lv' := [(2, .int 0), (1, .int 0), (0, .ref x0)]) hx hb dX5_wrongOnes_3 rfl hl (by decide) rfl (fun ls hl => ?_)
  have key4 : ∀ (n4 : Nat) (i : Nat) (x : Int32), (i ≤ 7) → (7 - i < n4) → (x = cwN v i) → ∀ (H : Heap) (locs : List Loc) (ls : Array Slot), Wd D A st.heap H locs (regsB D x0 x1 x2 x3 x4 v f g r) → lv_has ls 3 [(0, .ref x0), (1, .int x), (2, .int (nI i))] → W p l e (rmOf 3 0 0 65) st m args below meth c H locs 0 0 (QI below args st D A (cwN v 7) (regsB D x0 x1 x2 x3 x4 v f g r)) (F0 m 4 ls []) := by
    intro n4
    induction n4 with
    | zero => intro i x hi hm hx0; omega
    | succ n4 ih4 =>
      intro i x hi hm hx0 H locs ls hw hl
      refine lv_iload_n hx hb dX5_wrongOnes_4 rfl (lv_at hl 2 rfl) ?_
      refine lv_bipush (v := 7) hx hb dX5_wrongOnes_5 (by decide) ?_
      refine r_geN (tgt := 30) hx hb i 7 rfl rfl (by omega) (by omega) dX5_wrongOnes_7 (by decide) (fun c1 => ?_) (fun c1 => ?_)
      · skip
        refine lv_iload_n hx hb dX5_wrongOnes_30 rfl (lv_at hl 1 rfl) ?_
        exact r_ret X hw hk hret rfl (by rw [hx0, show i = 7 from by omega]) rfl dX5_wrongOnes_31
      · skip
        refine lv_aload_n hx hb dX5_wrongOnes_10 rfl (lv_at hl 0 rfl) ?_
        refine lv_iload_n hx hb dX5_wrongOnes_11 rfl (lv_at hl 2 rfl) ?_
        refine r_callV X hw (ws' := regsB D x0 x1 x2 x3 x4 v f g r) (As := [.int (nI i)]) (rest := []) lk_X5_44 (c_X5_whyWrong l D _ x0 x1 x2 x3 x4 v f g r i (by omega)) Foc.all (m_at 0 rfl) rfl hl.1 (Nat.le_of_ble_eq_true rfl) ⟨Nat.le_of_ble_eq_true rfl, Nat.le_of_ble_eq_true rfl⟩ rfl dX5_wrongOnes_12 ⟨Nat.le_refl _, Nat.le_refl _⟩ (fun H locs hw => ?_)
        refine lv_if_eq (tgt := 24) hx hb dX5_wrongOnes_15 (by decide) (fun c2 => ?_) (fun c2 => ?_)
        · skip
          refine r_iincN (lv' := [(2, .int (nI (i + 1))), (0, .ref x0), (1, .int x)]) hx hb i 1 rfl dX5_wrongOnes_24 hl (k := 2) rfl rfl (by decide) rfl (fun ls hl => ?_)
          refine lv_goto (tgt := 4) hx hb dX5_wrongOnes_27 (by decide) ?_
          exact ih4 (i + 1) x (by omega) (by omega) (by unfold cwN; rw [if_pos c2]; rw [hx0]) _ _ _ hw (lv_sub hl [1, 2, 0] rfl)
        · skip
          refine lv_iload_n hx hb dX5_wrongOnes_18 rfl (lv_at hl 1 rfl) ?_
          refine lv_iconst (v := 1) hx hb dX5_wrongOnes_19 (by decide) ?_
          refine lv_iload_n hx hb dX5_wrongOnes_20 rfl (lv_at hl 2 rfl) ?_
          refine lv_ishl hx hb dX5_wrongOnes_21 ?_
          refine lv_ior hx hb dX5_wrongOnes_22 ?_
          refine lv_istore_n (lv' := [(1, .int (x ||| ((1 : Int32) <<< ((nI i) &&& 31)))), (0, .ref x0), (2, .int (nI i))]) hx hb dX5_wrongOnes_23 rfl hl (by decide) rfl (fun ls hl => ?_)
          refine r_iincN (lv' := [(2, .int (nI (i + 1))), (1, .int (x ||| ((1 : Int32) <<< ((nI i) &&& 31)))), (0, .ref x0)]) hx hb i 1 rfl dX5_wrongOnes_24 hl (k := 2) rfl rfl (by decide) rfl (fun ls hl => ?_)
          refine lv_goto (tgt := 4) hx hb dX5_wrongOnes_27 (by decide) ?_
          exact ih4 (i + 1) (x ||| ((1 : Int32) <<< ((nI i) &&& 31))) (by omega) (by omega) (by unfold cwN; rw [if_neg c2]; rw [hx0]) _ _ _ hw (lv_sub hl [2, 1, 0] rfl)
  exact key4 8 0 0 (by omega) (by omega) rfl _ _ _ hw (lv_sub hl [2, 1, 0] rfl)

noncomputable def cfN (f : Row) : Nat → Int32
  | 0 => 0
  | i + 1 => cfN f i + sp_J6_bitCount_0f7a4 (f i)

set_option maxRecDepth 100000 in
set_option maxHeartbeats 4000000 in
theorem c_X5_failedCells (l : Launch) (D : va_G) (sz : Nat) (x0 : Nat) (x1 : Nat) (x2 : Nat) (x3 : Nat) (x4 : Nat) (v : Row) (f : Row) (g : Row) (r : Row) : MI l yX5_failedCells cX5_failedCells 3 (some .int) 1 20 D sz [.ref x0] (regsB D x0 x1 x2 x3 x4 v f g r) (cfN f 7) (regsB D x0 x1 x2 x3 x4 v f g r) := by
  refine r_enterI (by decide) (Nat.le_of_ble_eq_true rfl) ?_
  intro p e st m args below meth c ls A X hret hk hw hl
  have X : CX D p m c cX5_failedCells 3 st args RX5 A := X
  have hx := X.1.1
  have hb := X.1.2.1
  have hown := X.1.2.2.2.1
  have hts := X.1.2.2.2.2
  have hl : lv_has ls 3 [(0, .ref x0)] := hl
  refine lv_iconst (v := 0) hx hb dX5_failedCells_0 (by decide) ?_
  refine lv_istore_n (lv' := [(1, .int 0), (0, .ref x0)]) hx hb dX5_failedCells_1 rfl hl (by decide) rfl (fun ls hl => ?_)
  refine lv_iconst (v := 0) hx hb dX5_failedCells_2 (by decide) ?_
  refine lv_istore_n (lv' := [(2, .int 0), (1, .int 0), (0, .ref x0)]) hx hb dX5_failedCells_3 rfl hl (by decide) rfl (fun ls hl => ?_)
  have key4 : ∀ (n4 : Nat) (i : Nat) (x : Int32), (i ≤ 7) → (7 - i < n4) → (x = cfN f i) → ∀ (H : Heap) (locs : List Loc) (ls : Array Slot), Wd D A st.heap H locs (regsB D x0 x1 x2 x3 x4 v f g r) → lv_has ls 3 [(0, .ref x0), (1, .int x), (2, .int (nI i))] → W p l e (rmOf 1 0 0 20) st m args below meth c H locs 0 0 (QI below args st D A (cfN f 7) (regsB D x0 x1 x2 x3 x4 v f g r)) (F0 m 4 ls []) := by
    intro n4
    induction n4 with
    | zero => intro i x hi hm hx0; omega
    | succ n4 ih4 =>
      intro i x hi hm hx0 H locs ls hw hl
      refine lv_iload_n hx hb dX5_failedCells_4 rfl (lv_at hl 2 rfl) ?_
      refine lv_bipush (v := 7) hx hb dX5_failedCells_5 (by decide) ?_
      refine r_geN (tgt := 28) hx hb i 7 rfl rfl (by omega) (by omega) dX5_failedCells_7 (by decide) (fun c1 => ?_) (fun c1 => ?_)
      · skip
        refine lv_iload_n hx hb dX5_failedCells_28 rfl (lv_at hl 1 rfl) ?_
        exact r_ret X hw hk hret rfl (by rw [hx0, show i = 7 from by omega]) rfl dX5_failedCells_29
      · skip
        refine lv_iload_n hx hb dX5_failedCells_10 rfl (lv_at hl 1 rfl) ?_
        refine lv_aload_n hx hb dX5_failedCells_11 rfl (lv_at hl 0 rfl) ?_
        refine r_get X hw (v := .ref x2) fl_X5_15 (m_at 0 rfl) rfl dX5_failedCells_12 ?_
        refine lv_iload_n hx hb dX5_failedCells_15 rfl (lv_at hl 2 rfl) ?_
        refine r_iald X hw (f := f) i (m_at 2 rfl) rfl (by omega) (by decide) dX5_failedCells_16 ?_
        refine r_callS X hw (ws' := regsB D x0 x1 x2 x3 x4 v f g r) (As := [.int (f i)]) (rest := [.int x]) lk_X5_54 (c_J6_bitCount_0f7a4 l D _ (f i)) Foc.nil rfl hl.1 (Nat.le_of_ble_eq_true rfl) ⟨Nat.le_of_ble_eq_true rfl, Nat.le_of_ble_eq_true rfl⟩ rfl dX5_failedCells_17 ⟨Nat.le_refl _, Nat.le_refl _⟩ (fun H locs hw => ?_)
        refine lv_iadd hx hb dX5_failedCells_20 ?_
        refine lv_istore_n (lv' := [(1, .int (x + (sp_J6_bitCount_0f7a4 (f i)))), (0, .ref x0), (2, .int (nI i))]) hx hb dX5_failedCells_21 rfl hl (by decide) rfl (fun ls hl => ?_)
        refine r_iincN (lv' := [(2, .int (nI (i + 1))), (1, .int (x + (sp_J6_bitCount_0f7a4 (f i)))), (0, .ref x0)]) hx hb i 1 rfl dX5_failedCells_22 hl (k := 2) rfl rfl (by decide) rfl (fun ls hl => ?_)
        refine lv_goto (tgt := 4) hx hb dX5_failedCells_25 (by decide) ?_
        exact ih4 (i + 1) (x + (sp_J6_bitCount_0f7a4 (f i))) (by omega) (by omega) (by rw [hx0]; rfl) _ _ _ hw (lv_sub hl [2, 1, 0] rfl)
  exact key4 8 0 0 (by omega) (by omega) rfl _ _ _ hw (lv_sub hl [2, 1, 0] rfl)

noncomputable def sp_X5_isDateRight (v : Row) : Int32 := (if (sp_X5_whyWrong v 4) = 0 then (if (sp_X5_whyWrong v 5) = 0 then (if (sp_X5_whyWrong v 6) = 0 then 1 else 0) else 0) else 0)
theorem bo_X5_isDateRight (v : Row) : sp_X5_isDateRight v = 0 ∨ sp_X5_isDateRight v = 1 := by
  unfold sp_X5_isDateRight
  (repeat' split) <;> first | exact Or.inl rfl | exact Or.inr rfl
set_option maxRecDepth 100000 in
set_option maxHeartbeats 4000000 in
theorem c_X5_isDateRight (l : Launch) (D : va_G) (sz : Nat) (x0 : Nat) (x1 : Nat) (x2 : Nat) (x3 : Nat) (x4 : Nat) (v : Row) (f : Row) (g : Row) (r : Row) : MI l yX5_isDateRight cX5_isDateRight 1 (some .boolean) 3 65 D sz [.ref x0] (regsB D x0 x1 x2 x3 x4 v f g r) (sp_X5_isDateRight v) (regsB D x0 x1 x2 x3 x4 v f g r) := by
  refine r_enterI (by decide) (Nat.le_of_ble_eq_true rfl) ?_
  intro p e st m args below meth c ls A X hret hk hw hl
  have X : CX D p m c cX5_isDateRight 1 st args RX5 A := X
  have hx := X.1.1
  have hb := X.1.2.1
  have hown := X.1.2.2.2.1
  have hts := X.1.2.2.2.2
  have hl : lv_has ls 1 [(0, .ref x0)] := hl
  refine lv_aload_n hx hb dX5_isDateRight_0 rfl (lv_at hl 0 rfl) ?_
  refine lv_iconst (v := 4) hx hb dX5_isDateRight_1 (by decide) ?_
  refine r_callV X hw (ws' := regsB D x0 x1 x2 x3 x4 v f g r) (As := [.int 4]) (rest := []) lk_X5_44 (c_X5_whyWrong l D _ x0 x1 x2 x3 x4 v f g r 4 (by omega)) Foc.all (m_at 0 rfl) rfl hl.1 (Nat.le_of_ble_eq_true rfl) ⟨Nat.le_of_ble_eq_true rfl, Nat.le_of_ble_eq_true rfl⟩ rfl dX5_isDateRight_2 ⟨Nat.le_refl _, Nat.le_refl _⟩ (fun H locs hw => ?_)
  refine lv_if_ne (tgt := 29) hx hb dX5_isDateRight_5 (by decide) (fun c1 => ?_) (fun c1 => ?_)
  · skip
    refine lv_iconst (v := 0) hx hb dX5_isDateRight_29 (by decide) ?_
    exact r_ret X hw hk hret rfl (by unfold sp_X5_isDateRight; rw [if_neg c1]) rfl dX5_isDateRight_30
  · skip
    refine lv_aload_n hx hb dX5_isDateRight_8 rfl (lv_at hl 0 rfl) ?_
    refine lv_iconst (v := 5) hx hb dX5_isDateRight_9 (by decide) ?_
    refine r_callV X hw (ws' := regsB D x0 x1 x2 x3 x4 v f g r) (As := [.int 5]) (rest := []) lk_X5_44 (c_X5_whyWrong l D _ x0 x1 x2 x3 x4 v f g r 5 (by omega)) Foc.all (m_at 0 rfl) rfl hl.1 (Nat.le_of_ble_eq_true rfl) ⟨Nat.le_of_ble_eq_true rfl, Nat.le_of_ble_eq_true rfl⟩ rfl dX5_isDateRight_10 ⟨Nat.le_refl _, Nat.le_refl _⟩ (fun H locs hw => ?_)
    refine lv_if_ne (tgt := 29) hx hb dX5_isDateRight_13 (by decide) (fun c2 => ?_) (fun c2 => ?_)
    · skip
      refine lv_iconst (v := 0) hx hb dX5_isDateRight_29 (by decide) ?_
      exact r_ret X hw hk hret rfl (by unfold sp_X5_isDateRight; rw [if_pos c1]; rw [if_neg c2]) rfl dX5_isDateRight_30
    · skip
      refine lv_aload_n hx hb dX5_isDateRight_16 rfl (lv_at hl 0 rfl) ?_
      refine lv_bipush (v := 6) hx hb dX5_isDateRight_17 (by decide) ?_
      refine r_callV X hw (ws' := regsB D x0 x1 x2 x3 x4 v f g r) (As := [.int 6]) (rest := []) lk_X5_44 (c_X5_whyWrong l D _ x0 x1 x2 x3 x4 v f g r 6 (by omega)) Foc.all (m_at 0 rfl) rfl hl.1 (Nat.le_of_ble_eq_true rfl) ⟨Nat.le_of_ble_eq_true rfl, Nat.le_of_ble_eq_true rfl⟩ rfl dX5_isDateRight_19 ⟨Nat.le_refl _, Nat.le_refl _⟩ (fun H locs hw => ?_)
      refine lv_if_ne (tgt := 29) hx hb dX5_isDateRight_22 (by decide) (fun c3 => ?_) (fun c3 => ?_)
      · skip
        refine lv_iconst (v := 0) hx hb dX5_isDateRight_29 (by decide) ?_
        exact r_ret X hw hk hret rfl (by unfold sp_X5_isDateRight; rw [if_pos c1]; rw [if_pos c2]; rw [if_neg c3]) rfl dX5_isDateRight_30
      · skip
        refine lv_iconst (v := 1) hx hb dX5_isDateRight_25 (by decide) ?_
        refine lv_goto (tgt := 30) hx hb dX5_isDateRight_26 (by decide) ?_
        exact r_ret X hw hk hret rfl (by unfold sp_X5_isDateRight; rw [if_pos c1]; rw [if_pos c2]; rw [if_pos c3]) rfl dX5_isDateRight_30

noncomputable def sp_X5_daysOfYear (v : Row) : Int32 := (if (sp_X5_isLeapYear v) = 0 then 365 else 366)
set_option maxRecDepth 100000 in
set_option maxHeartbeats 4000000 in
theorem c_X5_daysOfYear (l : Launch) (D : va_G) (sz : Nat) (x0 : Nat) (x1 : Nat) (x2 : Nat) (x3 : Nat) (x4 : Nat) (v : Row) (f : Row) (g : Row) (r : Row) : MI l yX5_daysOfYear cX5_daysOfYear 1 (some .int) 1 22 D sz [.ref x0] (regsB D x0 x1 x2 x3 x4 v f g r) (sp_X5_daysOfYear v) (regsB D x0 x1 x2 x3 x4 v f g r) := by
  refine r_enterI (by decide) (Nat.le_of_ble_eq_true rfl) ?_
  intro p e st m args below meth c ls A X hret hk hw hl
  have X : CX D p m c cX5_daysOfYear 1 st args RX5 A := X
  have hx := X.1.1
  have hb := X.1.2.1
  have hown := X.1.2.2.2.1
  have hts := X.1.2.2.2.2
  have hl : lv_has ls 1 [(0, .ref x0)] := hl
  refine lv_aload_n hx hb dX5_daysOfYear_0 rfl (lv_at hl 0 rfl) ?_
  refine r_callV X hw (ws' := regsB D x0 x1 x2 x3 x4 v f g r) (As := []) (rest := []) lk_X5_36 (c_X5_isLeapYear l D _ x0 x1 x2 x3 x4 v f g r) Foc.all (m_at 0 rfl) rfl hl.1 (Nat.le_of_ble_eq_true rfl) ⟨Nat.le_of_ble_eq_true rfl, Nat.le_of_ble_eq_true rfl⟩ rfl dX5_daysOfYear_1 ⟨Nat.le_refl _, Nat.le_refl _⟩ (fun H locs hw => ?_)
  refine lv_if_eq (tgt := 13) hx hb dX5_daysOfYear_4 (by decide) (fun c1 => ?_) (fun c1 => ?_)
  · skip
    refine lv_sipush (v := 365) hx hb dX5_daysOfYear_13 (by decide) ?_
    exact r_ret X hw hk hret rfl (by unfold sp_X5_daysOfYear; rw [if_pos c1]) rfl dX5_daysOfYear_16
  · skip
    refine lv_sipush (v := 366) hx hb dX5_daysOfYear_7 (by decide) ?_
    refine lv_goto (tgt := 16) hx hb dX5_daysOfYear_10 (by decide) ?_
    exact r_ret X hw hk hret rfl (by unfold sp_X5_daysOfYear; rw [if_neg c1]) rfl dX5_daysOfYear_16

noncomputable def sp_X5_dayOfYear (v : Row) (M : Nat) : Int32 := (if M ≤ 2 then (((kf k_days (M - 1)) + 0) + (sp_X6_numberOf (v 4))) - 1 else (if (sp_X5_isLeapYear v) = 0 then (((kf k_days (M - 1)) + 0) + (sp_X6_numberOf (v 4))) - 1 else (((kf k_days (M - 1)) + 1) + (sp_X6_numberOf (v 4))) - 1))
set_option maxRecDepth 100000 in
set_option maxHeartbeats 4000000 in
theorem c_X5_dayOfYear (l : Launch) (D : va_G) (sz : Nat) (x0 : Nat) (x1 : Nat) (x2 : Nat) (x3 : Nat) (x4 : Nat) (v : Row) (f : Row) (g : Row) (r : Row) (M : Nat) (hM : sp_X6_numberOf (v 5) = nI M) (hM1 : 1 ≤ M) (hM2 : M ≤ 12) : MI l yX5_dayOfYear cX5_dayOfYear 3 (some .int) 1 22 D sz [.ref x0] (regsB D x0 x1 x2 x3 x4 v f g r) (sp_X5_dayOfYear v M) (regsB D x0 x1 x2 x3 x4 v f g r) := by
  refine r_enterI (by decide) (Nat.le_of_ble_eq_true rfl) ?_
  intro p e st m args below meth c ls A X hret hk hw hl
  have X : CX D p m c cX5_dayOfYear 3 st args RX5 A := X
  have hx := X.1.1
  have hb := X.1.2.1
  have hown := X.1.2.2.2.1
  have hts := X.1.2.2.2.2
  have hl : lv_has ls 3 [(0, .ref x0)] := hl
  refine lv_aload_n hx hb dX5_dayOfYear_0 rfl (lv_at hl 0 rfl) ?_
  refine r_get X hw (v := .ref x1) fl_X5_9 (m_at 0 rfl) rfl dX5_dayOfYear_1 ?_
  refine lv_iconst (v := 5) hx hb dX5_dayOfYear_4 (by decide) ?_
  refine r_iald X hw (f := v) 5 (m_at 1 rfl) rfl (by decide) (by decide) dX5_dayOfYear_5 ?_
  refine r_callSN X hw (ws' := regsB D x0 x1 x2 x3 x4 v f g r) (As := [.int (v 5)]) (rest := []) lkN_X6_numberOf X.2.2.1.2.2.2.2.2.2.2.2.2.2 (c_X6_numberOf l D _ (v 5)) Foc.nil rfl hl.1 (Nat.le_of_ble_eq_true rfl) ⟨Nat.le_of_ble_eq_true rfl, Nat.le_of_ble_eq_true rfl⟩ rfl dX5_dayOfYear_6 ⟨Nat.le_refl _, Nat.le_refl _⟩ (fun H locs hw => ?_)
  rw [hM]
  refine lv_istore_n (lv' := [(1, .int (nI M)), (0, .ref x0)]) hx hb dX5_dayOfYear_9 rfl hl (by decide) rfl (fun ls hl => ?_)
  refine lv_iload_n hx hb dX5_dayOfYear_10 rfl (lv_at hl 0 rfl) ?_
  refine lv_iconst (v := 1) hx hb dX5_dayOfYear_11 (by decide) ?_
  refine r_ltN (tgt := 23) hx hb M 1 rfl rfl (by omega) (by omega) dX5_dayOfYear_12 (by decide) (fun c1 => absurd c1 (by omega)) (fun c1 => ?_)
  refine lv_iload_n hx hb dX5_dayOfYear_15 rfl (lv_at hl 0 rfl) ?_
  refine r_getsN X hw X.2.2.1.2.2.2.2.1 X.2.2.1.2.2.2.2.2.2.2.1 dX5_dayOfYear_16 (fun t2 ht2 => ?_)
  refine r_tlen X hw (v := 12) ht2 rfl dX5_dayOfYear_19 ?_
  refine r_leN (tgt := 25) hx hb M 12 rfl rfl (by omega) (by omega) dX5_dayOfYear_20 (by decide) (fun c3 => ?_) (fun c3 => absurd c3 (by omega))
  refine lv_iload_n hx hb dX5_dayOfYear_25 rfl (lv_at hl 0 rfl) ?_
  refine lv_iconst (v := 2) hx hb dX5_dayOfYear_26 (by decide) ?_
  refine r_leN (tgt := 41) hx hb M 2 rfl rfl (by omega) (by omega) dX5_dayOfYear_27 (by decide) (fun c4 => ?_) (fun c4 => ?_)
  · skip
    refine lv_iconst (v := 0) hx hb dX5_dayOfYear_41 (by decide) ?_
    refine lv_istore_n (lv' := [(2, .int 0), (1, .int (nI M)), (0, .ref x0)]) hx hb dX5_dayOfYear_42 rfl hl (by decide) rfl (fun ls hl => ?_)
    refine r_getsN X hw X.2.2.1.2.2.2.2.1 X.2.2.1.2.2.2.2.2.2.2.1 dX5_dayOfYear_43 (fun t5 ht5 => ?_)
    refine lv_iload_n hx hb dX5_dayOfYear_46 rfl (lv_at hl 1 rfl) ?_
    refine lv_iconst (v := 1) hx hb dX5_dayOfYear_47 (by decide) ?_
    refine r_subN hx hb M 1 rfl rfl (by omega) dX5_dayOfYear_48 ?_
    refine r_tiald X hw (M - 1) ht5 rfl (show M - 1 < 12 from by omega) (by decide) dX5_dayOfYear_49 ?_
    refine lv_iload_n hx hb dX5_dayOfYear_50 rfl (lv_at hl 0 rfl) ?_
    refine lv_iadd hx hb dX5_dayOfYear_51 ?_
    refine lv_aload_n hx hb dX5_dayOfYear_52 rfl (lv_at hl 2 rfl) ?_
    refine r_get X hw (v := .ref x1) fl_X5_9 (m_at 0 rfl) rfl dX5_dayOfYear_53 ?_
    refine lv_iconst (v := 4) hx hb dX5_dayOfYear_56 (by decide) ?_
    refine r_iald X hw (f := v) 4 (m_at 1 rfl) rfl (by decide) (by decide) dX5_dayOfYear_57 ?_
    refine r_callSN X hw (ws' := regsB D x0 x1 x2 x3 x4 v f g r) (As := [.int (v 4)]) (rest := [.int ((kf k_days (M - 1)) + 0)]) lkN_X6_numberOf X.2.2.1.2.2.2.2.2.2.2.2.2.2 (c_X6_numberOf l D _ (v 4)) Foc.nil rfl hl.1 (Nat.le_of_ble_eq_true rfl) ⟨Nat.le_of_ble_eq_true rfl, Nat.le_of_ble_eq_true rfl⟩ rfl dX5_dayOfYear_58 ⟨Nat.le_refl _, Nat.le_refl _⟩ (fun H locs hw => ?_)
    refine lv_iadd hx hb dX5_dayOfYear_61 ?_
    refine lv_iconst (v := 1) hx hb dX5_dayOfYear_62 (by decide) ?_
    refine lv_isub hx hb dX5_dayOfYear_63 ?_
    exact r_ret X hw hk hret rfl (by unfold sp_X5_dayOfYear; rw [if_pos c4]) rfl dX5_dayOfYear_64
  · skip
    refine lv_aload_n hx hb dX5_dayOfYear_30 rfl (lv_at hl 1 rfl) ?_
    refine r_callV X hw (ws' := regsB D x0 x1 x2 x3 x4 v f g r) (As := []) (rest := []) lk_X5_36 (c_X5_isLeapYear l D _ x0 x1 x2 x3 x4 v f g r) Foc.all (m_at 0 rfl) rfl hl.1 (Nat.le_of_ble_eq_true rfl) ⟨Nat.le_of_ble_eq_true rfl, Nat.le_of_ble_eq_true rfl⟩ rfl dX5_dayOfYear_31 ⟨Nat.le_refl _, Nat.le_refl _⟩ (fun H locs hw => ?_)
    refine lv_if_eq (tgt := 41) hx hb dX5_dayOfYear_34 (by decide) (fun c6 => ?_) (fun c6 => ?_)
    · skip
      refine lv_iconst (v := 0) hx hb dX5_dayOfYear_41 (by decide) ?_
      refine lv_istore_n (lv' := [(2, .int 0), (1, .int (nI M)), (0, .ref x0)]) hx hb dX5_dayOfYear_42 rfl hl (by decide) rfl (fun ls hl => ?_)
      refine r_getsN X hw X.2.2.1.2.2.2.2.1 X.2.2.1.2.2.2.2.2.2.2.1 dX5_dayOfYear_43 (fun t7 ht7 => ?_)
      refine lv_iload_n hx hb dX5_dayOfYear_46 rfl (lv_at hl 1 rfl) ?_
      refine lv_iconst (v := 1) hx hb dX5_dayOfYear_47 (by decide) ?_
      refine r_subN hx hb M 1 rfl rfl (by omega) dX5_dayOfYear_48 ?_
      refine r_tiald X hw (M - 1) ht7 rfl (show M - 1 < 12 from by omega) (by decide) dX5_dayOfYear_49 ?_
      refine lv_iload_n hx hb dX5_dayOfYear_50 rfl (lv_at hl 0 rfl) ?_
      refine lv_iadd hx hb dX5_dayOfYear_51 ?_
      refine lv_aload_n hx hb dX5_dayOfYear_52 rfl (lv_at hl 2 rfl) ?_
      refine r_get X hw (v := .ref x1) fl_X5_9 (m_at 0 rfl) rfl dX5_dayOfYear_53 ?_
      refine lv_iconst (v := 4) hx hb dX5_dayOfYear_56 (by decide) ?_
      refine r_iald X hw (f := v) 4 (m_at 1 rfl) rfl (by decide) (by decide) dX5_dayOfYear_57 ?_
      refine r_callSN X hw (ws' := regsB D x0 x1 x2 x3 x4 v f g r) (As := [.int (v 4)]) (rest := [.int ((kf k_days (M - 1)) + 0)]) lkN_X6_numberOf X.2.2.1.2.2.2.2.2.2.2.2.2.2 (c_X6_numberOf l D _ (v 4)) Foc.nil rfl hl.1 (Nat.le_of_ble_eq_true rfl) ⟨Nat.le_of_ble_eq_true rfl, Nat.le_of_ble_eq_true rfl⟩ rfl dX5_dayOfYear_58 ⟨Nat.le_refl _, Nat.le_refl _⟩ (fun H locs hw => ?_)
      refine lv_iadd hx hb dX5_dayOfYear_61 ?_
      refine lv_iconst (v := 1) hx hb dX5_dayOfYear_62 (by decide) ?_
      refine lv_isub hx hb dX5_dayOfYear_63 ?_
      exact r_ret X hw hk hret rfl (by unfold sp_X5_dayOfYear; rw [if_neg (Nat.not_le.mpr c4)]; rw [if_pos c6]) rfl dX5_dayOfYear_64
    · skip
      refine lv_iconst (v := 1) hx hb dX5_dayOfYear_37 (by decide) ?_
      refine lv_goto (tgt := 42) hx hb dX5_dayOfYear_38 (by decide) ?_
      refine lv_istore_n (lv' := [(2, .int 1), (1, .int (nI M)), (0, .ref x0)]) hx hb dX5_dayOfYear_42 rfl hl (by decide) rfl (fun ls hl => ?_)
      refine r_getsN X hw X.2.2.1.2.2.2.2.1 X.2.2.1.2.2.2.2.2.2.2.1 dX5_dayOfYear_43 (fun t8 ht8 => ?_)
      refine lv_iload_n hx hb dX5_dayOfYear_46 rfl (lv_at hl 1 rfl) ?_
      refine lv_iconst (v := 1) hx hb dX5_dayOfYear_47 (by decide) ?_
      refine r_subN hx hb M 1 rfl rfl (by omega) dX5_dayOfYear_48 ?_
      refine r_tiald X hw (M - 1) ht8 rfl (show M - 1 < 12 from by omega) (by decide) dX5_dayOfYear_49 ?_
      refine lv_iload_n hx hb dX5_dayOfYear_50 rfl (lv_at hl 0 rfl) ?_
      refine lv_iadd hx hb dX5_dayOfYear_51 ?_
      refine lv_aload_n hx hb dX5_dayOfYear_52 rfl (lv_at hl 2 rfl) ?_
      refine r_get X hw (v := .ref x1) fl_X5_9 (m_at 0 rfl) rfl dX5_dayOfYear_53 ?_
      refine lv_iconst (v := 4) hx hb dX5_dayOfYear_56 (by decide) ?_
      refine r_iald X hw (f := v) 4 (m_at 1 rfl) rfl (by decide) (by decide) dX5_dayOfYear_57 ?_
      refine r_callSN X hw (ws' := regsB D x0 x1 x2 x3 x4 v f g r) (As := [.int (v 4)]) (rest := [.int ((kf k_days (M - 1)) + 1)]) lkN_X6_numberOf X.2.2.1.2.2.2.2.2.2.2.2.2.2 (c_X6_numberOf l D _ (v 4)) Foc.nil rfl hl.1 (Nat.le_of_ble_eq_true rfl) ⟨Nat.le_of_ble_eq_true rfl, Nat.le_of_ble_eq_true rfl⟩ rfl dX5_dayOfYear_58 ⟨Nat.le_refl _, Nat.le_refl _⟩ (fun H locs hw => ?_)
      refine lv_iadd hx hb dX5_dayOfYear_61 ?_
      refine lv_iconst (v := 1) hx hb dX5_dayOfYear_62 (by decide) ?_
      refine lv_isub hx hb dX5_dayOfYear_63 ?_
      exact r_ret X hw hk hret rfl (by unfold sp_X5_dayOfYear; rw [if_neg (Nat.not_le.mpr c4)]; rw [if_neg c6]) rfl dX5_dayOfYear_64

noncomputable def sp_X5_daysFromStart (v : Row) (M : Nat) : Int32 := ((365 * (sp_X6_numberOf (v 6))) + (((sp_X6_numberOf (v 6)) + 3) / 4)) + (sp_X5_dayOfYear v M)
set_option maxRecDepth 100000 in
set_option maxHeartbeats 4000000 in
theorem c_X5_daysFromStart (l : Launch) (D : va_G) (sz : Nat) (x0 : Nat) (x1 : Nat) (x2 : Nat) (x3 : Nat) (x4 : Nat) (v : Row) (f : Row) (g : Row) (r : Row) (M : Nat) (hM : sp_X6_numberOf (v 5) = nI M) (hM1 : 1 ≤ M) (hM2 : M ≤ 12) : MI l yX5_daysFromStart cX5_daysFromStart 3 (some .int) 2 44 D sz [.ref x0] (regsB D x0 x1 x2 x3 x4 v f g r) (sp_X5_daysFromStart v M) (regsB D x0 x1 x2 x3 x4 v f g r) := by
  refine r_enterI (by decide) (Nat.le_of_ble_eq_true rfl) ?_
  intro p e st m args below meth c ls A X hret hk hw hl
  have X : CX D p m c cX5_daysFromStart 3 st args RX5 A := X
  have hx := X.1.1
  have hb := X.1.2.1
  have hown := X.1.2.2.2.1
  have hts := X.1.2.2.2.2
  have hl : lv_has ls 3 [(0, .ref x0)] := hl
  refine lv_aload_n hx hb dX5_daysFromStart_0 rfl (lv_at hl 0 rfl) ?_
  refine r_get X hw (v := .ref x1) fl_X5_9 (m_at 0 rfl) rfl dX5_daysFromStart_1 ?_
  refine lv_bipush (v := 6) hx hb dX5_daysFromStart_4 (by decide) ?_
  refine r_iald X hw (f := v) 6 (m_at 1 rfl) rfl (by decide) (by decide) dX5_daysFromStart_6 ?_
  refine r_callSN X hw (ws' := regsB D x0 x1 x2 x3 x4 v f g r) (As := [.int (v 6)]) (rest := []) lkN_X6_numberOf X.2.2.1.2.2.2.2.2.2.2.2.2.2 (c_X6_numberOf l D _ (v 6)) Foc.nil rfl hl.1 (Nat.le_of_ble_eq_true rfl) ⟨Nat.le_of_ble_eq_true rfl, Nat.le_of_ble_eq_true rfl⟩ rfl dX5_daysFromStart_7 ⟨Nat.le_refl _, Nat.le_refl _⟩ (fun H locs hw => ?_)
  refine lv_istore_n (lv' := [(1, .int (sp_X6_numberOf (v 6))), (0, .ref x0)]) hx hb dX5_daysFromStart_10 rfl hl (by decide) rfl (fun ls hl => ?_)
  refine lv_iload_n hx hb dX5_daysFromStart_11 rfl (lv_at hl 0 rfl) ?_
  refine lv_iconst (v := 3) hx hb dX5_daysFromStart_12 (by decide) ?_
  refine lv_iadd hx hb dX5_daysFromStart_13 ?_
  refine lv_iconst (v := 4) hx hb dX5_daysFromStart_14 (by decide) ?_
  refine lv_idiv hx hb dX5_daysFromStart_15 (by decide) ?_
  refine lv_istore_n (lv' := [(2, .int (((sp_X6_numberOf (v 6)) + 3) / 4)), (1, .int (sp_X6_numberOf (v 6))), (0, .ref x0)]) hx hb dX5_daysFromStart_16 rfl hl (by decide) rfl (fun ls hl => ?_)
  refine lv_sipush (v := 365) hx hb dX5_daysFromStart_17 (by decide) ?_
  refine lv_iload_n hx hb dX5_daysFromStart_20 rfl (lv_at hl 1 rfl) ?_
  refine lv_imul hx hb dX5_daysFromStart_21 ?_
  refine lv_iload_n hx hb dX5_daysFromStart_22 rfl (lv_at hl 0 rfl) ?_
  refine lv_iadd hx hb dX5_daysFromStart_23 ?_
  refine lv_aload_n hx hb dX5_daysFromStart_24 rfl (lv_at hl 2 rfl) ?_
  refine r_callV X hw (ws' := regsB D x0 x1 x2 x3 x4 v f g r) (As := []) (rest := [.int ((365 * (sp_X6_numberOf (v 6))) + (((sp_X6_numberOf (v 6)) + 3) / 4))]) lk_X5_72 (c_X5_dayOfYear l D _ x0 x1 x2 x3 x4 v f g r M hM hM1 hM2) Foc.all (m_at 0 rfl) rfl hl.1 (Nat.le_of_ble_eq_true rfl) ⟨Nat.le_of_ble_eq_true rfl, Nat.le_of_ble_eq_true rfl⟩ rfl dX5_daysFromStart_25 ⟨Nat.le_refl _, Nat.le_refl _⟩ (fun H locs hw => ?_)
  refine lv_iadd hx hb dX5_daysFromStart_28 ?_
  exact r_ret X hw hk hret rfl (rfl) rfl dX5_daysFromStart_29

noncomputable def sp_X5_weekdayByDate (v : Row) (M : Nat) : Int32 := ((((sp_X5_daysFromStart v M) + 6) - 1) - (((sp_X5_daysFromStart v M) + 6) - 1) / 7 * 7) + 1
set_option maxRecDepth 100000 in
set_option maxHeartbeats 4000000 in
theorem c_X5_weekdayByDate (l : Launch) (D : va_G) (sz : Nat) (x0 : Nat) (x1 : Nat) (x2 : Nat) (x3 : Nat) (x4 : Nat) (v : Row) (f : Row) (g : Row) (r : Row) (M : Nat) (hM : sp_X6_numberOf (v 5) = nI M) (hM1 : 1 ≤ M) (hM2 : M ≤ 12) : MI l yX5_weekdayByDate cX5_weekdayByDate 1 (some .int) 3 66 D sz [.ref x0] (regsB D x0 x1 x2 x3 x4 v f g r) (sp_X5_weekdayByDate v M) (regsB D x0 x1 x2 x3 x4 v f g r) := by
  refine r_enterI (by decide) (Nat.le_of_ble_eq_true rfl) ?_
  intro p e st m args below meth c ls A X hret hk hw hl
  have X : CX D p m c cX5_weekdayByDate 1 st args RX5 A := X
  have hx := X.1.1
  have hb := X.1.2.1
  have hown := X.1.2.2.2.1
  have hts := X.1.2.2.2.2
  have hl : lv_has ls 1 [(0, .ref x0)] := hl
  refine lv_aload_n hx hb dX5_weekdayByDate_0 rfl (lv_at hl 0 rfl) ?_
  refine r_callV X hw (ws' := regsB D x0 x1 x2 x3 x4 v f g r) (As := []) (rest := []) lk_X5_76 (c_X5_daysFromStart l D _ x0 x1 x2 x3 x4 v f g r M hM hM1 hM2) Foc.all (m_at 0 rfl) rfl hl.1 (Nat.le_of_ble_eq_true rfl) ⟨Nat.le_of_ble_eq_true rfl, Nat.le_of_ble_eq_true rfl⟩ rfl dX5_weekdayByDate_1 ⟨Nat.le_refl _, Nat.le_refl _⟩ (fun H locs hw => ?_)
  refine lv_bipush (v := 6) hx hb dX5_weekdayByDate_4 (by decide) ?_
  refine lv_iadd hx hb dX5_weekdayByDate_6 ?_
  refine lv_iconst (v := 1) hx hb dX5_weekdayByDate_7 (by decide) ?_
  refine lv_isub hx hb dX5_weekdayByDate_8 ?_
  refine lv_bipush (v := 7) hx hb dX5_weekdayByDate_9 (by decide) ?_
  refine lv_irem hx hb dX5_weekdayByDate_11 (by decide) ?_
  refine lv_iconst (v := 1) hx hb dX5_weekdayByDate_12 (by decide) ?_
  refine lv_iadd hx hb dX5_weekdayByDate_13 ?_
  exact r_ret X hw hk hret rfl (rfl) rfl dX5_weekdayByDate_14
