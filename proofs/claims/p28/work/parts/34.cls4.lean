/-- the next place of the log, the next size -/
def nxA (a : Nat) : Nat := if 6 ≤ a + 1 then 0 else a + 1
def nxZ (z : Nat) : Nat := if 6 ≤ z then z else z + 1
theorem nxA_lt (a : Nat) (h : a < 6) : nxA a < 6 := by
  unfold nxA
  split <;> omega
theorem nxZ_le (z : Nat) (h : z ≤ 6) : nxZ z ≤ 6 := by
  unfold nxZ
  split <;> omega
/-- the place of an entry of the log, so many ago -/
def agoA (a k : Nat) : Nat := if k ≤ a then a - k else a + 6 - k
theorem agoA_lt (a k : Nat) (h : a < 6) (hk : k < 6) : agoA a k < 6 := by
  unfold agoA
  split <;> omega
theorem sub6 (a k : Nat) (h : a < k) (hk : k < 6) : nI a - nI k + 6 = nI (a + 6 - k) := by
  have ha : a < 6 := by omega
  have h1 : ∀ a : Fin 6, ∀ k : Fin 6, a.1 < k.1 → nI a.1 - nI k.1 + 6 = nI (a.1 + 6 - k.1) := by decide
  exact h1 ⟨a, ha⟩ ⟨k, hk⟩ h
theorem sub_neg (a k : Nat) (h : a < k) (hk : k < 6) : ¬ (0 : Int32) ≤ nI a - nI k := by
  have ha : a < 6 := by omega
  have h1 : ∀ a : Fin 6, ∀ k : Fin 6, a.1 < k.1 → ¬ (0 : Int32) ≤ nI a.1 - nI k.1 := by decide
  exact h1 ⟨a, ha⟩ ⟨k, hk⟩ h

set_option maxRecDepth 100000 in
set_option maxHeartbeats 4000000 in
theorem c_X2_add (l : Launch) (D : va_G) (sz : Nat) (x0 : Nat) (x1 : Nat) (w : Nat → Nat) (en : Nat → Row) (la : Int32) (zs : Int32) (e0 : Nat) (x : Row) (a z : Nat) (hla : la = nI a) (hzs : zs = nI z) (ha : a < 6) (hz : z ≤ 6) : MV l yX2_add cX2_add 2 1 60 D sz [.ref x0, .ref e0] (([lgB D x0 x1 w en la zs, [(e0, .inl (D.1 100, 10, .inl x))]] : List va_W).flatten) (([lgB D x0 x1 w (upR en (nxA a) (va_cpy x (en (nxA a)) 0 0 10)) (nI (nxA a)) (nI (nxZ z)), [(e0, .inl (D.1 100, 10, .inl x))]] : List va_W).flatten) := by
  refine r_enterV (by decide) (Nat.le_of_ble_eq_true rfl) ?_
  intro p e st m args below meth c ls A X hret hk hw hl
  have X : CX D p m c cX2_add 2 st args RX2 A := X
  have hx := X.1.1
  have hb := X.1.2.1
  have hown := X.1.2.2.2.1
  have hts := X.1.2.2.2.2
  have hl : lv_has ls 2 [(0, .ref x0), (1, .ref e0)] := hl
  subst hla
  subst hzs
  refine lv_aload_n hx hb dX2_add_0 rfl (lv_at hl 0 rfl) ?_
  refine lv_aload_n hx hb dX2_add_1 rfl (lv_at hl 0 rfl) ?_
  refine r_get X hw (v := .int (nI a)) fl_X2_22 (m_fl 0 rfl (m_at 0 rfl)) rfl dX2_add_2 ?_
  refine lv_iconst (v := 1) hx hb dX2_add_5 (by decide) ?_
  refine r_addN hx hb a 1 rfl rfl dX2_add_6 ?_
  refine lv_bipush (v := 6) hx hb dX2_add_7 (by decide) ?_
  refine r_geN (tgt := 21) hx hb (a + 1) 6 rfl rfl (by omega) (by omega) dX2_add_9 (by decide) (fun c1 => ?_) (fun c1 => ?_)
  · skip
    refine lv_iconst (v := 0) hx hb dX2_add_21 (by decide) ?_
    refine r_puti X hw (ws' := ([lgB D x0 x1 w en 0 (nI z), [(e0, .inl (D.1 100, 10, .inl x))]] : List va_W).flatten) fp_X2_22 (Nat.le_of_ble_eq_true rfl) (Foc.trans (Foc.at1 0 rfl rfl (ce rfl rfl)) (Foc.cell 0 rfl rfl (ce rfl (ce rfl (ce rfl (ce rfl (ce rfl (ce rfl (ce rfl rfl))))))))) dX2_add_22 (fun H locs hw => ?_)
    refine lv_aload_n hx hb dX2_add_25 rfl (lv_at hl 1 rfl) ?_
    refine lv_iconst (v := 0) hx hb dX2_add_26 (by decide) ?_
    refine lv_aload_n hx hb dX2_add_27 rfl (lv_at hl 0 rfl) ?_
    refine r_get X hw (v := .ref x1) fl_X2_11 (m_fl 0 rfl (m_at 0 rfl)) rfl dX2_add_28 ?_
    refine lv_aload_n hx hb dX2_add_31 rfl (lv_at hl 0 rfl) ?_
    refine r_get X hw (v := .int 0) fl_X2_22 (m_fl 0 rfl (m_at 0 rfl)) rfl dX2_add_32 ?_
    refine r_ald2 X hw (q := w 0) 0 (m_fl 0 rfl (m_at 1 rfl)) rfl (by decide) (by decide) (if_pos (by decide)) dX2_add_35 ?_
    refine lv_iconst (v := 0) hx hb dX2_add_36 (by decide) ?_
    refine lv_bipush (v := 10) hx hb dX2_add_37 (by decide) ?_
    refine r_copy X hw (f := x) (ws' := ([lgB D x0 x1 w (upR en 0 (va_cpy x (en 0) 0 0 10)) 0 (nI z), [(e0, .inl (D.1 100, 10, .inl x))]] : List va_W).flatten) 0 0 10 ac_X2_16 (m_fl 1 rfl (m_at 0 rfl)) rfl rfl rfl (by decide) (by decide) (by decide) (by decide) (Foc.trans (Foc.at1 0 rfl rfl (ce rfl rfl)) (lg_row_f (by decide))) hl.1 ⟨Nat.le_of_ble_eq_true rfl, by decide⟩ dX2_add_39 (fun H locs hw => ?_)
    refine lv_aload_n hx hb dX2_add_42 rfl (lv_at hl 0 rfl) ?_
    refine r_get X hw (v := .int (nI z)) fl_X2_26 (m_fl 0 rfl (m_at 0 rfl)) rfl dX2_add_43 ?_
    refine lv_bipush (v := 6) hx hb dX2_add_46 (by decide) ?_
    refine r_geN (tgt := 61) hx hb z 6 rfl rfl (by omega) (by omega) dX2_add_48 (by decide) (fun c2 => ?_) (fun c2 => ?_)
    · skip
      exact r_retV X hw hk hret (by have e1 : nxA a = 0 := if_pos c1; have e2 : nxZ z = z := if_pos c2; rw [e1, e2]; first | done | rfl) dX2_add_61
    · skip
      refine lv_aload_n hx hb dX2_add_51 rfl (lv_at hl 0 rfl) ?_
      refine lv_dup hx hb dX2_add_52 rfl ?_
      refine r_get X hw (v := .int (nI z)) fl_X2_26 (m_fl 0 rfl (m_at 0 rfl)) rfl dX2_add_53 ?_
      refine lv_iconst (v := 1) hx hb dX2_add_56 (by decide) ?_
      refine r_addN hx hb z 1 rfl rfl dX2_add_57 ?_
      refine r_puti X hw (ws' := ([lgB D x0 x1 w (upR en 0 (va_cpy x (en 0) 0 0 10)) 0 (nI (z + 1)), [(e0, .inl (D.1 100, 10, .inl x))]] : List va_W).flatten) fp_X2_26 (Nat.le_of_ble_eq_true rfl) (Foc.trans (Foc.at1 0 rfl rfl (ce rfl rfl)) (Foc.cell 0 rfl rfl (ce rfl (ce rfl (ce rfl (ce rfl (ce rfl (ce rfl (ce rfl rfl))))))))) dX2_add_58 (fun H locs hw => ?_)
      exact r_retV X hw hk hret (by have e1 : nxA a = 0 := if_pos c1; have e2 : nxZ z = z + 1 := if_neg (Nat.not_le.mpr c2); rw [e1, e2]; first | done | rfl) dX2_add_61
  · skip
    refine lv_aload_n hx hb dX2_add_12 rfl (lv_at hl 0 rfl) ?_
    refine r_get X hw (v := .int (nI a)) fl_X2_22 (m_fl 0 rfl (m_at 0 rfl)) rfl dX2_add_13 ?_
    refine lv_iconst (v := 1) hx hb dX2_add_16 (by decide) ?_
    refine r_addN hx hb a 1 rfl rfl dX2_add_17 ?_
    refine lv_goto (tgt := 22) hx hb dX2_add_18 (by decide) ?_
    refine r_puti X hw (ws' := ([lgB D x0 x1 w en (nI (a + 1)) (nI z), [(e0, .inl (D.1 100, 10, .inl x))]] : List va_W).flatten) fp_X2_22 (Nat.le_of_ble_eq_true rfl) (Foc.trans (Foc.at1 0 rfl rfl (ce rfl rfl)) (Foc.cell 0 rfl rfl (ce rfl (ce rfl (ce rfl (ce rfl (ce rfl (ce rfl (ce rfl rfl))))))))) dX2_add_22 (fun H locs hw => ?_)
    refine lv_aload_n hx hb dX2_add_25 rfl (lv_at hl 1 rfl) ?_
    refine lv_iconst (v := 0) hx hb dX2_add_26 (by decide) ?_
    refine lv_aload_n hx hb dX2_add_27 rfl (lv_at hl 0 rfl) ?_
    refine r_get X hw (v := .ref x1) fl_X2_11 (m_fl 0 rfl (m_at 0 rfl)) rfl dX2_add_28 ?_
    refine lv_aload_n hx hb dX2_add_31 rfl (lv_at hl 0 rfl) ?_
    refine r_get X hw (v := .int (nI (a + 1))) fl_X2_22 (m_fl 0 rfl (m_at 0 rfl)) rfl dX2_add_32 ?_
    refine r_ald2 X hw (q := w (a + 1)) (a + 1) (m_fl 0 rfl (m_at 1 rfl)) rfl (by omega) (by decide) (if_pos (by omega)) dX2_add_35 ?_
    refine lv_iconst (v := 0) hx hb dX2_add_36 (by decide) ?_
    refine lv_bipush (v := 10) hx hb dX2_add_37 (by decide) ?_
    refine r_copy X hw (f := x) (ws' := ([lgB D x0 x1 w (upR en (a + 1) (va_cpy x (en (a + 1)) 0 0 10)) (nI (a + 1)) (nI z), [(e0, .inl (D.1 100, 10, .inl x))]] : List va_W).flatten) 0 0 10 ac_X2_16 (m_fl 1 rfl (m_at 0 rfl)) rfl rfl rfl (by decide) (by decide) (by decide) (by decide) (Foc.trans (Foc.at1 0 rfl rfl (ce rfl rfl)) (lg_row_f (by omega))) hl.1 ⟨Nat.le_of_ble_eq_true rfl, by decide⟩ dX2_add_39 (fun H locs hw => ?_)
    refine lv_aload_n hx hb dX2_add_42 rfl (lv_at hl 0 rfl) ?_
    refine r_get X hw (v := .int (nI z)) fl_X2_26 (m_fl 0 rfl (m_at 0 rfl)) rfl dX2_add_43 ?_
    refine lv_bipush (v := 6) hx hb dX2_add_46 (by decide) ?_
    refine r_geN (tgt := 61) hx hb z 6 rfl rfl (by omega) (by omega) dX2_add_48 (by decide) (fun c3 => ?_) (fun c3 => ?_)
    · skip
      exact r_retV X hw hk hret (by have e1 : nxA a = a + 1 := if_neg (Nat.not_le.mpr c1); have e2 : nxZ z = z := if_pos c3; rw [e1, e2]; first | done | rfl) dX2_add_61
    · skip
      refine lv_aload_n hx hb dX2_add_51 rfl (lv_at hl 0 rfl) ?_
      refine lv_dup hx hb dX2_add_52 rfl ?_
      refine r_get X hw (v := .int (nI z)) fl_X2_26 (m_fl 0 rfl (m_at 0 rfl)) rfl dX2_add_53 ?_
      refine lv_iconst (v := 1) hx hb dX2_add_56 (by decide) ?_
      refine r_addN hx hb z 1 rfl rfl dX2_add_57 ?_
      refine r_puti X hw (ws' := ([lgB D x0 x1 w (upR en (a + 1) (va_cpy x (en (a + 1)) 0 0 10)) (nI (a + 1)) (nI (z + 1)), [(e0, .inl (D.1 100, 10, .inl x))]] : List va_W).flatten) fp_X2_26 (Nat.le_of_ble_eq_true rfl) (Foc.trans (Foc.at1 0 rfl rfl (ce rfl rfl)) (Foc.cell 0 rfl rfl (ce rfl (ce rfl (ce rfl (ce rfl (ce rfl (ce rfl (ce rfl rfl))))))))) dX2_add_58 (fun H locs hw => ?_)
      exact r_retV X hw hk hret (by have e1 : nxA a = a + 1 := if_neg (Nat.not_le.mpr c1); have e2 : nxZ z = z + 1 := if_neg (Nat.not_le.mpr c3); rw [e1, e2]; first | done | rfl) dX2_add_61

set_option maxRecDepth 100000 in
set_option maxHeartbeats 4000000 in
theorem c_X2_told (l : Launch) (D : va_G) (sz : Nat) (x0 : Nat) (x1 : Nat) (w : Nat → Nat) (en : Nat → Row) (la : Int32) (zs : Int32) (a k y : Nat) (hla : la = nI a) (ha : a < 6) (hkq : k < 6) (hy : y < 10) : MI l yX2_told cX2_told 4 (some .int) 0 0 D sz [.ref x0, .int (nI k), .int (nI y)] (lgB D x0 x1 w en la zs) (en (agoA a k) y) (lgB D x0 x1 w en la zs) := by
  refine r_enterI (by decide) (Nat.le_of_ble_eq_true rfl) ?_
  intro p e st m args below meth c ls A X hret hk hw hl
  have X : CX D p m c cX2_told 4 st args RX2 A := X
  have hx := X.1.1
  have hb := X.1.2.1
  have hown := X.1.2.2.2.1
  have hts := X.1.2.2.2.2
  have hl : lv_has ls 4 [(0, .ref x0), (1, .int (nI k)), (2, .int (nI y))] := hl
  subst hla
  by_cases g1 : k ≤ a
  · skip
    skip
    refine lv_aload_n hx hb dX2_told_0 rfl (lv_at hl 0 rfl) ?_
    refine r_get X hw (v := .int (nI a)) fl_X2_22 (m_at 0 rfl) rfl dX2_told_1 ?_
    refine lv_iload_n hx hb dX2_told_4 rfl (lv_at hl 1 rfl) ?_
    refine r_subN hx hb a k rfl rfl (by omega) dX2_told_5 ?_
    refine lv_istore_n (lv' := [(3, .int (nI (a - k))), (0, .ref x0), (1, .int (nI k)), (2, .int (nI y))]) hx hb dX2_told_6 rfl hl (by decide) rfl (fun ls hl => ?_)
    refine lv_aload_n hx hb dX2_told_7 rfl (lv_at hl 1 rfl) ?_
    refine r_get X hw (v := .ref x1) fl_X2_11 (m_at 0 rfl) rfl dX2_told_8 ?_
    refine lv_iload_n hx hb dX2_told_11 rfl (lv_at hl 0 rfl) ?_
    refine lv_if_ge (tgt := 22) hx hb dX2_told_12 (by decide) (fun _ => ?_) (fun h => absurd (nI_pos' (by omega)) h)
    refine lv_iload_n hx hb dX2_told_22 rfl (lv_at hl 0 rfl) ?_
    refine r_ald2 X hw (q := w (a - k)) (a - k) (m_at 1 rfl) rfl (by omega) (by decide) (if_pos (by omega)) dX2_told_23 ?_
    refine lv_iload_n hx hb dX2_told_24 rfl (lv_at hl 3 rfl) ?_
    refine r_iald X hw (f := en (a - k)) y (lg_row_m (by omega)) rfl (by omega) (by decide) dX2_told_25 ?_
    exact r_ret X hw hk hret rfl (by have e1 : agoA a k = a - k := if_pos g1; rw [e1]) rfl dX2_told_26
  · skip
    skip
    refine lv_aload_n hx hb dX2_told_0 rfl (lv_at hl 0 rfl) ?_
    refine r_get X hw (v := .int (nI a)) fl_X2_22 (m_at 0 rfl) rfl dX2_told_1 ?_
    refine lv_iload_n hx hb dX2_told_4 rfl (lv_at hl 1 rfl) ?_
    refine lv_isub hx hb dX2_told_5 ?_
    refine lv_istore_n (lv' := [(3, .int ((nI a) - (nI k))), (0, .ref x0), (1, .int (nI k)), (2, .int (nI y))]) hx hb dX2_told_6 rfl hl (by decide) rfl (fun ls hl => ?_)
    refine lv_aload_n hx hb dX2_told_7 rfl (lv_at hl 1 rfl) ?_
    refine r_get X hw (v := .ref x1) fl_X2_11 (m_at 0 rfl) rfl dX2_told_8 ?_
    refine lv_iload_n hx hb dX2_told_11 rfl (lv_at hl 0 rfl) ?_
    refine lv_if_ge (tgt := 22) hx hb dX2_told_12 (by decide) (fun h => absurd h (sub_neg a k (Nat.lt_of_not_le g1) hkq)) (fun _ => ?_)
    refine lv_iload_n hx hb dX2_told_15 rfl (lv_at hl 0 rfl) ?_
    refine lv_bipush (v := 6) hx hb dX2_told_16 (by decide) ?_
    refine lv_iadd hx hb dX2_told_18 ?_
    refine lv_goto (tgt := 23) hx hb dX2_told_19 (by decide) ?_
    rw [sub6 a k (Nat.lt_of_not_le g1) hkq]
    refine r_ald2 X hw (q := w (a + 6 - k)) (a + 6 - k) (m_at 1 rfl) rfl (by omega) (by decide) (if_pos (by omega)) dX2_told_23 ?_
    refine lv_iload_n hx hb dX2_told_24 rfl (lv_at hl 3 rfl) ?_
    refine r_iald X hw (f := en (a + 6 - k)) y (lg_row_m (by omega)) rfl (by omega) (by decide) dX2_told_25 ?_
    exact r_ret X hw hk hret rfl (by have e1 : agoA a k = a + 6 - k := if_neg g1; rw [e1]) rfl dX2_told_26
