theorem upd_upd (f : Row) (k : Nat) (x y : Int32) : upd (upd f k x) k y = upd f k y := by
  funext j
  simp only [upd]
  by_cases h : j = k
  · rw [if_pos h, if_pos h]
  · rw [if_neg h, if_neg h, if_neg h]

noncomputable def sp_X7_numbersOf (a0 : Int32) : Int32 := (if a0 = 97 then 3 else (if a0 = 98 then 1 else (if a0 = 109 then 2 else (if a0 = 112 then 1 else (if a0 = 114 then 1 else (if a0 = 119 then 2 else 0))))))
set_option maxRecDepth 100000 in
set_option maxHeartbeats 4000000 in
theorem c_X7_numbersOf (l : Launch) (D : va_G) (sz : Nat) (a0 : Int32) : MI l yX7_numbersOf cX7_numbersOf 1 (some .int) 0 0 D sz [.int a0] [] (sp_X7_numbersOf a0) ([]) := by
  refine r_enterI (by decide) (Nat.le_of_ble_eq_true rfl) ?_
  intro p e st m args below meth c ls A X hret hk hw hl
  have X : CX D p m c cX7_numbersOf 1 st args RX7 A := X
  have hx := X.1.1
  have hb := X.1.2.1
  have hown := X.1.2.2.2.1
  have hts := X.1.2.2.2.2
  have hl : lv_has ls 1 [(0, .int a0)] := hl
  refine lv_iload_n hx hb dX7_numbersOf_0 rfl (lv_at hl 0 rfl) ?_
  by_cases w1 : a0 = 97
  · skip
    refine r_lookIn (tgt := 60) hx hb 97 w1 dX7_numbersOf_1 (by decide) rfl (by decide) ?_
    refine lv_iconst (v := 3) hx hb dX7_numbersOf_60 (by decide) ?_
    exact r_ret X hw hk hret rfl (by unfold sp_X7_numbersOf; rw [if_pos w1]) rfl dX7_numbersOf_61
  · skip
    by_cases w2 : a0 = 98
    · skip
      refine r_lookIn (tgt := 64) hx hb 98 w2 dX7_numbersOf_1 (by decide) rfl (by decide) ?_
      refine lv_iconst (v := 1) hx hb dX7_numbersOf_64 (by decide) ?_
      exact r_ret X hw hk hret rfl (by unfold sp_X7_numbersOf; rw [if_neg w1]; rw [if_pos w2]) rfl dX7_numbersOf_65
    · skip
      by_cases w3 : a0 = 109
      · skip
        refine r_lookIn (tgt := 62) hx hb 109 w3 dX7_numbersOf_1 (by decide) rfl (by decide) ?_
        refine lv_iconst (v := 2) hx hb dX7_numbersOf_62 (by decide) ?_
        exact r_ret X hw hk hret rfl (by unfold sp_X7_numbersOf; rw [if_neg w1]; rw [if_neg w2]; rw [if_pos w3]) rfl dX7_numbersOf_63
      · skip
        by_cases w4 : a0 = 112
        · skip
          refine r_lookIn (tgt := 64) hx hb 112 w4 dX7_numbersOf_1 (by decide) rfl (by decide) ?_
          refine lv_iconst (v := 1) hx hb dX7_numbersOf_64 (by decide) ?_
          exact r_ret X hw hk hret rfl (by unfold sp_X7_numbersOf; rw [if_neg w1]; rw [if_neg w2]; rw [if_neg w3]; rw [if_pos w4]) rfl dX7_numbersOf_65
        · skip
          by_cases w5 : a0 = 114
          · skip
            refine r_lookIn (tgt := 64) hx hb 114 w5 dX7_numbersOf_1 (by decide) rfl (by decide) ?_
            refine lv_iconst (v := 1) hx hb dX7_numbersOf_64 (by decide) ?_
            exact r_ret X hw hk hret rfl (by unfold sp_X7_numbersOf; rw [if_neg w1]; rw [if_neg w2]; rw [if_neg w3]; rw [if_neg w4]; rw [if_pos w5]) rfl dX7_numbersOf_65
          · skip
            by_cases w6 : a0 = 119
            · skip
              refine r_lookIn (tgt := 62) hx hb 119 w6 dX7_numbersOf_1 (by decide) rfl (by decide) ?_
              refine lv_iconst (v := 2) hx hb dX7_numbersOf_62 (by decide) ?_
              exact r_ret X hw hk hret rfl (by unfold sp_X7_numbersOf; rw [if_neg w1]; rw [if_neg w2]; rw [if_neg w3]; rw [if_neg w4]; rw [if_neg w5]; rw [if_pos w6]) rfl dX7_numbersOf_63
            · skip
              refine lv_lookup (tgt := 66) hx hb dX7_numbersOf_1 (by decide) (off := 65) (by have g0 := i_ne w1; have g1 := i_ne w2; have g2 := i_ne w3; have g3 := i_ne w4; have g4 := i_ne w5; have g5 := i_ne w6; rw [show (97 : Int32).toInt = 97 from rfl] at g0; rw [show (98 : Int32).toInt = 98 from rfl] at g1; rw [show (109 : Int32).toInt = 109 from rfl] at g2; rw [show (112 : Int32).toInt = 112 from rfl] at g3; rw [show (114 : Int32).toInt = 114 from rfl] at g4; rw [show (119 : Int32).toInt = 119 from rfl] at g5; simp [Op.lookupswitch.offset, g0, g1, g2, g3, g4, g5, Ne.symm g0, Ne.symm g1, Ne.symm g2, Ne.symm g3, Ne.symm g4, Ne.symm g5]) (by decide) ?_
              refine lv_iconst (v := 0) hx hb dX7_numbersOf_66 (by decide) ?_
              exact r_ret X hw hk hret rfl (by unfold sp_X7_numbersOf; rw [if_neg w1]; rw [if_neg w2]; rw [if_neg w3]; rw [if_neg w4]; rw [if_neg w5]; rw [if_neg w6]) rfl dX7_numbersOf_67

noncomputable def sp_X7_isAt (tx : Row) (T p9 : Nat) (a1 a2 : Int32) : Int32 := (if T ≤ p9 then 0 else (if (sp_X7_in (tx p9) a1 a2) = 0 then 0 else 1))
theorem bo_X7_isAt (tx : Row) (T p9 : Nat) (a1 a2 : Int32) : sp_X7_isAt tx T p9 a1 a2 = 0 ∨ sp_X7_isAt tx T p9 a1 a2 = 1 := by
  unfold sp_X7_isAt
  (repeat' split) <;> first | exact Or.inl rfl | exact Or.inr rfl
set_option maxRecDepth 100000 in
set_option maxHeartbeats 4000000 in
theorem c_X7_isAt (l : Launch) (D : va_G) (sz : Nat) (L : Nat → Nat) (s pa : Row) (P ru : Int32) (td ah sh : Row) (n0 : Int32) (tx : Row) (T : Nat) (nu : Row) (p9 : Nat) (fo re ca os od : Int32) (spa he : Row) (hT : T ≤ 60) (hp9 : p9 ≤ 60) (a1 a2 : Int32) : MI l yX7_isAt cX7_isAt 3 (some .boolean) 1 22 D sz [.ref (L 0), .int a1, .int a2] (mW D L s pa P ru td ah sh n0 tx (nI T) nu (nI p9) fo re ca os od spa he) (sp_X7_isAt tx T p9 a1 a2) (mW D L s pa P ru td ah sh n0 tx (nI T) nu (nI p9) fo re ca os od spa he) := by
  refine r_enterI (by decide) (Nat.le_of_ble_eq_true rfl) ?_
  intro p e st m args below meth c ls A X hret hk hw hl
  have X : CX D p m c cX7_isAt 3 st args RX7 A := X
  have hx := X.1.1
  have hb := X.1.2.1
  have hown := X.1.2.2.2.1
  have hts := X.1.2.2.2.2
  have hl : lv_has ls 3 [(0, .ref (L 0)), (1, .int a1), (2, .int a2)] := hl
  refine lv_aload_n hx hb dX7_isAt_0 rfl (lv_at hl 0 rfl) ?_
  refine r_get X hw (v := .int (nI p9)) fl_X7_177 (m_at 0 rfl) rfl dX7_isAt_1 ?_
  refine lv_aload_n hx hb dX7_isAt_4 rfl (lv_at hl 0 rfl) ?_
  refine r_get X hw (v := .int (nI T)) fl_X7_173 (m_at 0 rfl) rfl dX7_isAt_5 ?_
  refine r_geN (tgt := 32) hx hb p9 T rfl rfl (by omega) (by omega) dX7_isAt_8 (by decide) (fun c1 => ?_) (fun c1 => ?_)
  · skip
    refine lv_iconst (v := 0) hx hb dX7_isAt_32 (by decide) ?_
    exact r_ret X hw hk hret rfl (by unfold sp_X7_isAt; rw [if_pos c1]) rfl dX7_isAt_33
  · skip
    refine lv_aload_n hx hb dX7_isAt_11 rfl (lv_at hl 0 rfl) ?_
    refine r_get X hw (v := .ref (L 5)) fl_X7_22 (m_at 0 rfl) rfl dX7_isAt_12 ?_
    refine lv_aload_n hx hb dX7_isAt_15 rfl (lv_at hl 0 rfl) ?_
    refine r_get X hw (v := .int (nI p9)) fl_X7_177 (m_at 0 rfl) rfl dX7_isAt_16 ?_
    refine r_iald X hw (f := tx) p9 (m_at 5 rfl) rfl (by omega) (by decide) dX7_isAt_19 ?_
    refine lv_iload_n hx hb dX7_isAt_20 rfl (lv_at hl 1 rfl) ?_
    refine lv_iload_n hx hb dX7_isAt_21 rfl (lv_at hl 2 rfl) ?_
    refine r_callS X hw (ws' := mW D L s pa P ru td ah sh n0 tx (nI T) nu (nI p9) fo re ca os od spa he) (As := [.int (tx p9), .int a1, .int a2]) (rest := []) lk_X7_45 (c_X7_in l D _ (tx p9) a1 a2) Foc.nil rfl hl.1 (Nat.le_of_ble_eq_true rfl) ⟨Nat.le_of_ble_eq_true rfl, Nat.le_of_ble_eq_true rfl⟩ rfl dX7_isAt_22 ⟨Nat.le_refl _, Nat.le_refl _⟩ (fun H locs hw => ?_)
    refine lv_if_eq (tgt := 32) hx hb dX7_isAt_25 (by decide) (fun c2 => ?_) (fun c2 => ?_)
    · skip
      refine lv_iconst (v := 0) hx hb dX7_isAt_32 (by decide) ?_
      exact r_ret X hw hk hret rfl (by unfold sp_X7_isAt; rw [if_neg (Nat.not_le.mpr c1)]; rw [if_pos c2]) rfl dX7_isAt_33
    · skip
      refine lv_iconst (v := 1) hx hb dX7_isAt_28 (by decide) ?_
      refine lv_goto (tgt := 33) hx hb dX7_isAt_29 (by decide) ?_
      exact r_ret X hw hk hret rfl (by unfold sp_X7_isAt; rw [if_neg (Nat.not_le.mpr c1)]; rw [if_neg c2]) rfl dX7_isAt_33

theorem isAt_lt {tx : Row} {T p : Nat} {a b : Int32} (h : ¬ sp_X7_isAt tx T p a b = 0) : p < T := by
  rcases Nat.lt_or_ge p T with q | q
  · exact q
  · unfold sp_X7_isAt at h
    rw [if_pos q] at h
    exact absurd rfl h
theorem isAt_1 {tx : Row} {T p : Nat} {a b : Int32} (h : ¬ sp_X7_isAt tx T p a b = 0) : sp_X7_isAt tx T p a b = 1 := by
  rcases bo_X7_isAt tx T p a b with q | q
  · exact absurd q h
  · exact q
/-- digits from a place on, at most three: how many, and the number -/
noncomputable def dgR (tx : Row) (T p : Nat) : Nat → Nat → Int32 → Nat × Int32
  | 0, d, v => (d, v)
  | f + 1, d, v => if sp_X7_isAt tx T (p + d) 48 57 = 0 then (d, v) else (if 3 ≤ d then (d, v) else dgR tx T p f (d + 1) (10 * v + tx (p + d) - 48))
noncomputable def dg (tx : Row) (T p : Nat) : Nat × Int32 := dgR tx T p 4 0 0

set_option maxRecDepth 100000 in
set_option maxHeartbeats 4000000 in
theorem c_X7_sign0 (l : Launch) (D : va_G) (sz : Nat) (L : Nat → Nat) (s pa : Row) (P ru : Int32) (td ah sh : Row) (n0 : Int32) (tx : Row) (T : Nat) (nu : Row) (p9 : Nat) (fo re ca os od : Int32) (spa he : Row) (hT : T ≤ 60) (hp9 : p9 ≤ 60) (a1 : Int32) (hs : sp_X7_isAt tx T p9 a1 a1 = 0) : MI l yX7_sign cX7_sign 3 (some .boolean) 2 44 D sz [.ref (L 0), .int a1] (mW D L s pa P ru td ah sh n0 tx (nI T) nu (nI p9) fo re ca os od spa he) 0 (mW D L s pa P ru td ah sh n0 tx (nI T) nu (nI p9) fo re ca os od spa he) := by
  refine r_enterI (by decide) (Nat.le_of_ble_eq_true rfl) ?_
  intro p e st m args below meth c ls A X hret hk hw hl
  have X : CX D p m c cX7_sign 3 st args RX7 A := X
  have hx := X.1.1
  have hb := X.1.2.1
  have hown := X.1.2.2.2.1
  have hts := X.1.2.2.2.2
  have hl : lv_has ls 3 [(0, .ref (L 0)), (1, .int a1)] := hl
  refine lv_aload_n hx hb dX7_sign_0 rfl (lv_at hl 0 rfl) ?_
  refine lv_iload_n hx hb dX7_sign_1 rfl (lv_at hl 1 rfl) ?_
  refine lv_iload_n hx hb dX7_sign_2 rfl (lv_at hl 1 rfl) ?_
  refine r_callV X hw (ws' := mW D L s pa P ru td ah sh n0 tx (nI T) nu (nI p9) fo re ca os od spa he) (As := [.int a1, .int a1]) (rest := []) lk_X7_180 (c_X7_isAt l D _ L s pa P ru td ah sh n0 tx T nu p9 fo re ca os od spa he (by omega) (by omega) a1 a1) Foc.all (m_at 0 rfl) rfl hl.1 (Nat.le_of_ble_eq_true rfl) ⟨Nat.le_of_ble_eq_true rfl, Nat.le_of_ble_eq_true rfl⟩ rfl dX7_sign_3 ⟨Nat.le_refl _, Nat.le_refl _⟩ (fun H locs hw => ?_)
  refine lv_istore_n (lv' := [(2, .int (sp_X7_isAt tx T p9 a1 a1)), (0, .ref (L 0)), (1, .int a1)]) hx hb dX7_sign_6 rfl hl (by decide) rfl (fun ls hl => ?_)
  refine lv_aload_n hx hb dX7_sign_7 rfl (lv_at hl 1 rfl) ?_
  refine lv_dup hx hb dX7_sign_8 rfl ?_
  refine r_get X hw (v := .int (nI p9)) fl_X7_177 (m_at 0 rfl) rfl dX7_sign_9 ?_
  refine lv_iload_n hx hb dX7_sign_12 rfl (lv_at hl 0 rfl) ?_
  refine lv_if_eq (tgt := 20) hx hb dX7_sign_13 (by decide) (fun _ => ?_) (fun h => absurd hs h)
  refine lv_iconst (v := 0) hx hb dX7_sign_20 (by decide) ?_
  refine r_addN hx hb p9 0 rfl rfl dX7_sign_21 ?_
  refine r_puti X hw (ws' := mW D L s pa P ru td ah sh n0 tx (nI T) nu (nI (p9 + 0)) fo re ca os od spa he) fp_X7_177 (Nat.le_of_ble_eq_true rfl) (Foc.cell 0 rfl rfl (ce rfl (ce rfl (ce rfl (ce rfl (ce rfl (ce rfl (ce rfl (ce rfl (ce rfl rfl)))))))))) dX7_sign_22 (fun H locs hw => ?_)
  refine lv_iload_n hx hb dX7_sign_25 rfl (lv_at hl 0 rfl) ?_
  exact r_ret X hw hk hret (nar_b (bo_X7_isAt tx T p9 a1 a1)) hs rfl dX7_sign_26

set_option maxRecDepth 100000 in
set_option maxHeartbeats 4000000 in
theorem c_X7_sign1 (l : Launch) (D : va_G) (sz : Nat) (L : Nat → Nat) (s pa : Row) (P ru : Int32) (td ah sh : Row) (n0 : Int32) (tx : Row) (T : Nat) (nu : Row) (p9 : Nat) (fo re ca os od : Int32) (spa he : Row) (hT : T ≤ 60) (hp9 : p9 ≤ 60) (a1 : Int32) (hs : ¬ sp_X7_isAt tx T p9 a1 a1 = 0) : MI l yX7_sign cX7_sign 3 (some .boolean) 2 44 D sz [.ref (L 0), .int a1] (mW D L s pa P ru td ah sh n0 tx (nI T) nu (nI p9) fo re ca os od spa he) 1 (mW D L s pa P ru td ah sh n0 tx (nI T) nu (nI (p9 + 1)) fo re ca os od spa he) := by
  refine r_enterI (by decide) (Nat.le_of_ble_eq_true rfl) ?_
  intro p e st m args below meth c ls A X hret hk hw hl
  have X : CX D p m c cX7_sign 3 st args RX7 A := X
  have hx := X.1.1
  have hb := X.1.2.1
  have hown := X.1.2.2.2.1
  have hts := X.1.2.2.2.2
  have hl : lv_has ls 3 [(0, .ref (L 0)), (1, .int a1)] := hl
  refine lv_aload_n hx hb dX7_sign_0 rfl (lv_at hl 0 rfl) ?_
  refine lv_iload_n hx hb dX7_sign_1 rfl (lv_at hl 1 rfl) ?_
  refine lv_iload_n hx hb dX7_sign_2 rfl (lv_at hl 1 rfl) ?_
  refine r_callV X hw (ws' := mW D L s pa P ru td ah sh n0 tx (nI T) nu (nI p9) fo re ca os od spa he) (As := [.int a1, .int a1]) (rest := []) lk_X7_180 (c_X7_isAt l D _ L s pa P ru td ah sh n0 tx T nu p9 fo re ca os od spa he (by omega) (by omega) a1 a1) Foc.all (m_at 0 rfl) rfl hl.1 (Nat.le_of_ble_eq_true rfl) ⟨Nat.le_of_ble_eq_true rfl, Nat.le_of_ble_eq_true rfl⟩ rfl dX7_sign_3 ⟨Nat.le_refl _, Nat.le_refl _⟩ (fun H locs hw => ?_)
  refine lv_istore_n (lv' := [(2, .int (sp_X7_isAt tx T p9 a1 a1)), (0, .ref (L 0)), (1, .int a1)]) hx hb dX7_sign_6 rfl hl (by decide) rfl (fun ls hl => ?_)
  refine lv_aload_n hx hb dX7_sign_7 rfl (lv_at hl 1 rfl) ?_
  refine lv_dup hx hb dX7_sign_8 rfl ?_
  refine r_get X hw (v := .int (nI p9)) fl_X7_177 (m_at 0 rfl) rfl dX7_sign_9 ?_
  refine lv_iload_n hx hb dX7_sign_12 rfl (lv_at hl 0 rfl) ?_
  refine lv_if_eq (tgt := 20) hx hb dX7_sign_13 (by decide) (fun h => absurd h hs) (fun _ => ?_)
  refine lv_iconst (v := 1) hx hb dX7_sign_16 (by decide) ?_
  refine lv_goto (tgt := 21) hx hb dX7_sign_17 (by decide) ?_
  refine r_addN hx hb p9 1 rfl rfl dX7_sign_21 ?_
  refine r_puti X hw (ws' := mW D L s pa P ru td ah sh n0 tx (nI T) nu (nI (p9 + 1)) fo re ca os od spa he) fp_X7_177 (Nat.le_of_ble_eq_true rfl) (Foc.cell 0 rfl rfl (ce rfl (ce rfl (ce rfl (ce rfl (ce rfl (ce rfl (ce rfl (ce rfl (ce rfl rfl)))))))))) dX7_sign_22 (fun H locs hw => ?_)
  refine lv_iload_n hx hb dX7_sign_25 rfl (lv_at hl 0 rfl) ?_
  exact r_ret X hw hk hret (nar_b (bo_X7_isAt tx T p9 a1 a1)) (isAt_1 hs) rfl dX7_sign_26

set_option maxRecDepth 100000 in
set_option maxHeartbeats 4000000 in
theorem c_X7_numbered0 (l : Launch) (D : va_G) (sz : Nat) (L : Nat → Nat) (s pa : Row) (P ru : Int32) (td ah sh : Row) (n0 : Int32) (tx : Row) (T : Nat) (nu : Row) (p9 : Nat) (fo re ca os od : Int32) (spa he : Row) (hT : T ≤ 60) (hp9 : p9 ≤ 60) (k : Nat) (hk3 : k < 3) (hs : (dg tx T p9).1 = 0) : MI l yX7_numbered cX7_numbered 3 (some .boolean) 2 44 D sz [.ref (L 0), .int (nI k)] (mW D L s pa P ru td ah sh n0 tx (nI T) nu (nI p9) fo re ca os od spa he) 0 (mW D L s pa P ru td ah sh n0 tx (nI T) (upd nu k (dg tx T p9).2) (nI (p9 + (dg tx T p9).1)) fo re ca os od spa he) := by
  refine r_enterI (by decide) (Nat.le_of_ble_eq_true rfl) ?_
  intro p e st m args below meth c ls A X hret hk hw hl
  have X : CX D p m c cX7_numbered 3 st args RX7 A := X
  have hx := X.1.1
  have hb := X.1.2.1
  have hown := X.1.2.2.2.1
  have hts := X.1.2.2.2.2
  have hl : lv_has ls 3 [(0, .ref (L 0)), (1, .int (nI k))] := hl
  obtain ⟨fin, hfin⟩ : ∃ y, y = dg tx T p9 := ⟨_, rfl⟩
  refine lv_aload_n hx hb dX7_numbered_0 rfl (lv_at hl 0 rfl) ?_
  refine r_get X hw (v := .int (nI p9)) fl_X7_177 (m_at 0 rfl) rfl dX7_numbered_1 ?_
  refine lv_istore_n (lv' := [(2, .int (nI p9)), (0, .ref (L 0)), (1, .int (nI k))]) hx hb dX7_numbered_4 rfl hl (by decide) rfl (fun ls hl => ?_)
  refine lv_aload_n hx hb dX7_numbered_5 rfl (lv_at hl 1 rfl) ?_
  refine r_get X hw (v := .ref (L 9)) fl_X7_34 (m_at 0 rfl) rfl dX7_numbered_6 ?_
  refine lv_iload_n hx hb dX7_numbered_9 rfl (lv_at hl 2 rfl) ?_
  refine lv_iconst (v := 0) hx hb dX7_numbered_10 (by decide) ?_
  refine r_iast X hw (ws' := mW D L s pa P ru td ah sh n0 tx (nI T) (upd nu k 0) (nI p9) fo re ca os od spa he) k rfl (by omega) (by decide) (Foc.cell 9 rfl rfl (ce rfl (ce rfl (ce rfl (ce rfl (ce rfl (ce rfl (ce rfl (ce rfl (ce rfl rfl)))))))))) dX7_numbered_11 (fun H locs hw => ?_)
  have key12 : ∀ (n12 : Nat) (d : Nat) (v : Int32), (d ≤ 3) → (p9 + d ≤ 60) → (4 - d < n12) → (dgR tx T p9 (4 - d) d v = fin) → ∀ (H : Heap) (locs : List Loc) (ls : Array Slot), Wd D A st.heap H locs (mW D L s pa P ru td ah sh n0 tx (nI T) (upd nu k v) (nI (p9 + d)) fo re ca os od spa he) → lv_has ls 3 [(0, .ref (L 0)), (1, .int (nI k)), (2, .int (nI p9))] → W p l e (rmOf 2 0 0 44) st m args below meth c H locs 0 0 (QI below args st D A 0 (mW D L s pa P ru td ah sh n0 tx (nI T) (upd nu k (dg tx T p9).2) (nI (p9 + (dg tx T p9).1)) fo re ca os od spa he)) (F0 m 12 ls []) := by
    intro n12
    induction n12 with
    | zero => intro d v hd3 hpd hm hq; omega
    | succ n12 ih12 =>
      intro d v hd3 hpd hm hq H locs ls hw hl
      refine lv_aload_n hx hb dX7_numbered_12 rfl (lv_at hl 0 rfl) ?_
      refine lv_bipush (v := 48) hx hb dX7_numbered_13 (by decide) ?_
      refine lv_bipush (v := 57) hx hb dX7_numbered_15 (by decide) ?_
      refine r_callV X hw (ws' := mW D L s pa P ru td ah sh n0 tx (nI T) (upd nu k v) (nI (p9 + d)) fo re ca os od spa he) (As := [.int 48, .int 57]) (rest := []) lk_X7_180 (c_X7_isAt l D _ L s pa P ru td ah sh n0 tx T (upd nu k v) (p9 + d) fo re ca os od spa he (by omega) (by omega) 48 57) Foc.all (m_at 0 rfl) rfl hl.1 (Nat.le_of_ble_eq_true rfl) ⟨Nat.le_of_ble_eq_true rfl, Nat.le_of_ble_eq_true rfl⟩ rfl dX7_numbered_17 ⟨Nat.le_refl _, Nat.le_refl _⟩ (fun H locs hw => ?_)
      refine lv_if_eq (tgt := 74) hx hb dX7_numbered_20 (by decide) (fun c1 => ?_) (fun c1 => ?_)
      · skip
        refine lv_aload_n hx hb dX7_numbered_74 rfl (lv_at hl 0 rfl) ?_
        refine r_get X hw (v := .int (nI (p9 + d))) fl_X7_177 (m_at 0 rfl) rfl dX7_numbered_75 ?_
        refine lv_iload_n hx hb dX7_numbered_78 rfl (lv_at hl 2 rfl) ?_
        have hd0 : (dg tx T p9).1 = d := by rw [show 4 - d = (3 - d) + 1 from by omega] at hq; unfold dgR at hq; rw [if_pos c1] at hq; rw [← hfin, ← hq]
        refine r_leN (tgt := 86) hx hb (p9 + d) p9 rfl rfl (by omega) (by omega) dX7_numbered_79 (by decide) (fun c2 => ?_) (fun c2 => absurd c2 (by omega))
        refine lv_iconst (v := 0) hx hb dX7_numbered_86 (by decide) ?_
        exact r_ret X hw hk hret rfl rfl (by rw [show 4 - d = (3 - d) + 1 from by omega] at hq; unfold dgR at hq; rw [if_pos c1] at hq; rw [← hfin, ← hq]) dX7_numbered_87
      · skip
        have hlt := isAt_lt c1
        refine lv_aload_n hx hb dX7_numbered_23 rfl (lv_at hl 0 rfl) ?_
        refine r_get X hw (v := .int (nI (p9 + d))) fl_X7_177 (m_at 0 rfl) rfl dX7_numbered_24 ?_
        refine lv_iload_n hx hb dX7_numbered_27 rfl (lv_at hl 2 rfl) ?_
        refine r_subN hx hb (p9 + d) p9 rfl rfl (by omega) dX7_numbered_28 ?_
        refine lv_iconst (v := 3) hx hb dX7_numbered_29 (by decide) ?_
        refine r_geN (tgt := 74) hx hb ((p9 + d) - p9) 3 rfl rfl (by omega) (by omega) dX7_numbered_30 (by decide) (fun c3 => ?_) (fun c3 => ?_)
        · skip
          refine lv_aload_n hx hb dX7_numbered_74 rfl (lv_at hl 0 rfl) ?_
          refine r_get X hw (v := .int (nI (p9 + d))) fl_X7_177 (m_at 0 rfl) rfl dX7_numbered_75 ?_
          refine lv_iload_n hx hb dX7_numbered_78 rfl (lv_at hl 2 rfl) ?_
          have hd0 : (dg tx T p9).1 = d := by rw [show 4 - d = (3 - d) + 1 from by omega] at hq; unfold dgR at hq; rw [if_neg c1] at hq; rw [if_pos (show 3 ≤ d from by omega)] at hq; rw [← hfin, ← hq]
          refine r_leN (tgt := 86) hx hb (p9 + d) p9 rfl rfl (by omega) (by omega) dX7_numbered_79 (by decide) (fun c4 => ?_) (fun c4 => absurd c4 (by omega))
          refine lv_iconst (v := 0) hx hb dX7_numbered_86 (by decide) ?_
          exact r_ret X hw hk hret rfl rfl (by rw [show 4 - d = (3 - d) + 1 from by omega] at hq; unfold dgR at hq; rw [if_neg c1] at hq; rw [if_pos (show 3 ≤ d from by omega)] at hq; rw [← hfin, ← hq]) dX7_numbered_87
        · skip
          refine lv_aload_n hx hb dX7_numbered_33 rfl (lv_at hl 0 rfl) ?_
          refine r_get X hw (v := .ref (L 9)) fl_X7_34 (m_at 0 rfl) rfl dX7_numbered_34 ?_
          refine lv_iload_n hx hb dX7_numbered_37 rfl (lv_at hl 1 rfl) ?_
          refine lv_bipush (v := 10) hx hb dX7_numbered_38 (by decide) ?_
          refine lv_aload_n hx hb dX7_numbered_40 rfl (lv_at hl 0 rfl) ?_
          refine r_get X hw (v := .ref (L 9)) fl_X7_34 (m_at 0 rfl) rfl dX7_numbered_41 ?_
          refine lv_iload_n hx hb dX7_numbered_44 rfl (lv_at hl 1 rfl) ?_
          refine r_iald X hw (f := upd nu k v) k (m_at 9 rfl) rfl (by omega) (by decide) dX7_numbered_45 ?_
          refine lv_imul hx hb dX7_numbered_46 ?_
          refine lv_aload_n hx hb dX7_numbered_47 rfl (lv_at hl 0 rfl) ?_
          refine r_get X hw (v := .ref (L 5)) fl_X7_22 (m_at 0 rfl) rfl dX7_numbered_48 ?_
          refine lv_aload_n hx hb dX7_numbered_51 rfl (lv_at hl 0 rfl) ?_
          refine r_get X hw (v := .int (nI (p9 + d))) fl_X7_177 (m_at 0 rfl) rfl dX7_numbered_52 ?_
          refine r_iald X hw (f := tx) (p9 + d) (m_at 5 rfl) rfl (by omega) (by decide) dX7_numbered_55 ?_
          refine lv_iadd hx hb dX7_numbered_56 ?_
          refine lv_bipush (v := 48) hx hb dX7_numbered_57 (by decide) ?_
          refine lv_isub hx hb dX7_numbered_59 ?_
          refine r_iast X hw (ws' := mW D L s pa P ru td ah sh n0 tx (nI T) (upd (upd nu k v) k (((10 * ((upd nu k v) k)) + (tx (p9 + d))) - 48)) (nI (p9 + d)) fo re ca os od spa he) k rfl (by omega) (by decide) (Foc.cell 9 rfl rfl (ce rfl (ce rfl (ce rfl (ce rfl (ce rfl (ce rfl (ce rfl (ce rfl (ce rfl rfl)))))))))) dX7_numbered_60 (fun H locs hw => ?_)
          refine lv_aload_n hx hb dX7_numbered_61 rfl (lv_at hl 0 rfl) ?_
          refine lv_dup hx hb dX7_numbered_62 rfl ?_
          refine r_get X hw (v := .int (nI (p9 + d))) fl_X7_177 (m_at 0 rfl) rfl dX7_numbered_63 ?_
          refine lv_iconst (v := 1) hx hb dX7_numbered_66 (by decide) ?_
          refine r_addN hx hb (p9 + d) 1 rfl rfl dX7_numbered_67 ?_
          refine r_puti X hw (ws' := mW D L s pa P ru td ah sh n0 tx (nI T) (upd (upd nu k v) k (((10 * ((upd nu k v) k)) + (tx (p9 + d))) - 48)) (nI (p9 + d + 1)) fo re ca os od spa he) fp_X7_177 (Nat.le_of_ble_eq_true rfl) (Foc.cell 0 rfl rfl (ce rfl (ce rfl (ce rfl (ce rfl (ce rfl (ce rfl (ce rfl (ce rfl (ce rfl rfl)))))))))) dX7_numbered_68 (fun H locs hw => ?_)
          refine lv_goto (tgt := 12) hx hb dX7_numbered_71 (by decide) ?_
          exact ih12 (d + 1) _ (by omega) (by omega) (by omega) (by rw [show 4 - d = (3 - d) + 1 from by omega] at hq; unfold dgR at hq; rw [if_neg c1] at hq; rw [if_neg (show ¬ 3 ≤ d from by omega)] at hq; rw [show 3 - d = 4 - (d + 1) from by omega] at hq; exact hq) _ _ _ (by rw [upd_upd, upd_eq] at hw; exact hw) (lv_sub hl [0, 1, 2] rfl)
  exact key12 5 0 0 (by omega) (by omega) (by omega) hfin.symm _ _ _ hw (lv_sub hl [1, 2, 0] rfl)

set_option maxRecDepth 100000 in
set_option maxHeartbeats 4000000 in
theorem c_X7_numbered1 (l : Launch) (D : va_G) (sz : Nat) (L : Nat → Nat) (s pa : Row) (P ru : Int32) (td ah sh : Row) (n0 : Int32) (tx : Row) (T : Nat) (nu : Row) (p9 : Nat) (fo re ca os od : Int32) (spa he : Row) (hT : T ≤ 60) (hp9 : p9 ≤ 60) (k : Nat) (hk3 : k < 3) (hs : ¬ (dg tx T p9).1 = 0) : MI l yX7_numbered cX7_numbered 3 (some .boolean) 2 44 D sz [.ref (L 0), .int (nI k)] (mW D L s pa P ru td ah sh n0 tx (nI T) nu (nI p9) fo re ca os od spa he) 1 (mW D L s pa P ru td ah sh n0 tx (nI T) (upd nu k (dg tx T p9).2) (nI (p9 + (dg tx T p9).1)) fo re ca os od spa he) := by
  refine r_enterI (by decide) (Nat.le_of_ble_eq_true rfl) ?_
  intro p e st m args below meth c ls A X hret hk hw hl
  have X : CX D p m c cX7_numbered 3 st args RX7 A := X
  have hx := X.1.1
  have hb := X.1.2.1
  have hown := X.1.2.2.2.1
  have hts := X.1.2.2.2.2
  have hl : lv_has ls 3 [(0, .ref (L 0)), (1, .int (nI k))] := hl
  obtain ⟨fin, hfin⟩ : ∃ y, y = dg tx T p9 := ⟨_, rfl⟩
  refine lv_aload_n hx hb dX7_numbered_0 rfl (lv_at hl 0 rfl) ?_
  refine r_get X hw (v := .int (nI p9)) fl_X7_177 (m_at 0 rfl) rfl dX7_numbered_1 ?_
  refine lv_istore_n (lv' := [(2, .int (nI p9)), (0, .ref (L 0)), (1, .int (nI k))]) hx hb dX7_numbered_4 rfl hl (by decide) rfl (fun ls hl => ?_)
  refine lv_aload_n hx hb dX7_numbered_5 rfl (lv_at hl 1 rfl) ?_
  refine r_get X hw (v := .ref (L 9)) fl_X7_34 (m_at 0 rfl) rfl dX7_numbered_6 ?_
  refine lv_iload_n hx hb dX7_numbered_9 rfl (lv_at hl 2 rfl) ?_
  refine lv_iconst (v := 0) hx hb dX7_numbered_10 (by decide) ?_
  refine r_iast X hw (ws' := mW D L s pa P ru td ah sh n0 tx (nI T) (upd nu k 0) (nI p9) fo re ca os od spa he) k rfl (by omega) (by decide) (Foc.cell 9 rfl rfl (ce rfl (ce rfl (ce rfl (ce rfl (ce rfl (ce rfl (ce rfl (ce rfl (ce rfl rfl)))))))))) dX7_numbered_11 (fun H locs hw => ?_)
  have key12 : ∀ (n12 : Nat) (d : Nat) (v : Int32), (d ≤ 3) → (p9 + d ≤ 60) → (4 - d < n12) → (dgR tx T p9 (4 - d) d v = fin) → ∀ (H : Heap) (locs : List Loc) (ls : Array Slot), Wd D A st.heap H locs (mW D L s pa P ru td ah sh n0 tx (nI T) (upd nu k v) (nI (p9 + d)) fo re ca os od spa he) → lv_has ls 3 [(0, .ref (L 0)), (1, .int (nI k)), (2, .int (nI p9))] → W p l e (rmOf 2 0 0 44) st m args below meth c H locs 0 0 (QI below args st D A 1 (mW D L s pa P ru td ah sh n0 tx (nI T) (upd nu k (dg tx T p9).2) (nI (p9 + (dg tx T p9).1)) fo re ca os od spa he)) (F0 m 12 ls []) := by
    intro n12
    induction n12 with
    | zero => intro d v hd3 hpd hm hq; omega
    | succ n12 ih12 =>
      intro d v hd3 hpd hm hq H locs ls hw hl
      refine lv_aload_n hx hb dX7_numbered_12 rfl (lv_at hl 0 rfl) ?_
      refine lv_bipush (v := 48) hx hb dX7_numbered_13 (by decide) ?_
      refine lv_bipush (v := 57) hx hb dX7_numbered_15 (by decide) ?_
      refine r_callV X hw (ws' := mW D L s pa P ru td ah sh n0 tx (nI T) (upd nu k v) (nI (p9 + d)) fo re ca os od spa he) (As := [.int 48, .int 57]) (rest := []) lk_X7_180 (c_X7_isAt l D _ L s pa P ru td ah sh n0 tx T (upd nu k v) (p9 + d) fo re ca os od spa he (by omega) (by omega) 48 57) Foc.all (m_at 0 rfl) rfl hl.1 (Nat.le_of_ble_eq_true rfl) ⟨Nat.le_of_ble_eq_true rfl, Nat.le_of_ble_eq_true rfl⟩ rfl dX7_numbered_17 ⟨Nat.le_refl _, Nat.le_refl _⟩ (fun H locs hw => ?_)
      refine lv_if_eq (tgt := 74) hx hb dX7_numbered_20 (by decide) (fun c1 => ?_) (fun c1 => ?_)
      · skip
        refine lv_aload_n hx hb dX7_numbered_74 rfl (lv_at hl 0 rfl) ?_
        refine r_get X hw (v := .int (nI (p9 + d))) fl_X7_177 (m_at 0 rfl) rfl dX7_numbered_75 ?_
        refine lv_iload_n hx hb dX7_numbered_78 rfl (lv_at hl 2 rfl) ?_
        have hd0 : (dg tx T p9).1 = d := by rw [show 4 - d = (3 - d) + 1 from by omega] at hq; unfold dgR at hq; rw [if_pos c1] at hq; rw [← hfin, ← hq]
        refine r_leN (tgt := 86) hx hb (p9 + d) p9 rfl rfl (by omega) (by omega) dX7_numbered_79 (by decide) (fun c2 => absurd c2 (by omega)) (fun c2 => ?_)
        refine lv_iconst (v := 1) hx hb dX7_numbered_82 (by decide) ?_
        refine lv_goto (tgt := 87) hx hb dX7_numbered_83 (by decide) ?_
        exact r_ret X hw hk hret rfl rfl (by rw [show 4 - d = (3 - d) + 1 from by omega] at hq; unfold dgR at hq; rw [if_pos c1] at hq; rw [← hfin, ← hq]) dX7_numbered_87
      · skip
        have hlt := isAt_lt c1
        refine lv_aload_n hx hb dX7_numbered_23 rfl (lv_at hl 0 rfl) ?_
        refine r_get X hw (v := .int (nI (p9 + d))) fl_X7_177 (m_at 0 rfl) rfl dX7_numbered_24 ?_
        refine lv_iload_n hx hb dX7_numbered_27 rfl (lv_at hl 2 rfl) ?_
        refine r_subN hx hb (p9 + d) p9 rfl rfl (by omega) dX7_numbered_28 ?_
        refine lv_iconst (v := 3) hx hb dX7_numbered_29 (by decide) ?_
        refine r_geN (tgt := 74) hx hb ((p9 + d) - p9) 3 rfl rfl (by omega) (by omega) dX7_numbered_30 (by decide) (fun c3 => ?_) (fun c3 => ?_)
        · skip
          refine lv_aload_n hx hb dX7_numbered_74 rfl (lv_at hl 0 rfl) ?_
          refine r_get X hw (v := .int (nI (p9 + d))) fl_X7_177 (m_at 0 rfl) rfl dX7_numbered_75 ?_
          refine lv_iload_n hx hb dX7_numbered_78 rfl (lv_at hl 2 rfl) ?_
          have hd0 : (dg tx T p9).1 = d := by rw [show 4 - d = (3 - d) + 1 from by omega] at hq; unfold dgR at hq; rw [if_neg c1] at hq; rw [if_pos (show 3 ≤ d from by omega)] at hq; rw [← hfin, ← hq]
          refine r_leN (tgt := 86) hx hb (p9 + d) p9 rfl rfl (by omega) (by omega) dX7_numbered_79 (by decide) (fun c4 => absurd c4 (by omega)) (fun c4 => ?_)
          refine lv_iconst (v := 1) hx hb dX7_numbered_82 (by decide) ?_
          refine lv_goto (tgt := 87) hx hb dX7_numbered_83 (by decide) ?_
          exact r_ret X hw hk hret rfl rfl (by rw [show 4 - d = (3 - d) + 1 from by omega] at hq; unfold dgR at hq; rw [if_neg c1] at hq; rw [if_pos (show 3 ≤ d from by omega)] at hq; rw [← hfin, ← hq]) dX7_numbered_87
        · skip
          refine lv_aload_n hx hb dX7_numbered_33 rfl (lv_at hl 0 rfl) ?_
          refine r_get X hw (v := .ref (L 9)) fl_X7_34 (m_at 0 rfl) rfl dX7_numbered_34 ?_
          refine lv_iload_n hx hb dX7_numbered_37 rfl (lv_at hl 1 rfl) ?_
          refine lv_bipush (v := 10) hx hb dX7_numbered_38 (by decide) ?_
          refine lv_aload_n hx hb dX7_numbered_40 rfl (lv_at hl 0 rfl) ?_
          refine r_get X hw (v := .ref (L 9)) fl_X7_34 (m_at 0 rfl) rfl dX7_numbered_41 ?_
          refine lv_iload_n hx hb dX7_numbered_44 rfl (lv_at hl 1 rfl) ?_
          refine r_iald X hw (f := upd nu k v) k (m_at 9 rfl) rfl (by omega) (by decide) dX7_numbered_45 ?_
          refine lv_imul hx hb dX7_numbered_46 ?_
          refine lv_aload_n hx hb dX7_numbered_47 rfl (lv_at hl 0 rfl) ?_
          refine r_get X hw (v := .ref (L 5)) fl_X7_22 (m_at 0 rfl) rfl dX7_numbered_48 ?_
          refine lv_aload_n hx hb dX7_numbered_51 rfl (lv_at hl 0 rfl) ?_
          refine r_get X hw (v := .int (nI (p9 + d))) fl_X7_177 (m_at 0 rfl) rfl dX7_numbered_52 ?_
          refine r_iald X hw (f := tx) (p9 + d) (m_at 5 rfl) rfl (by omega) (by decide) dX7_numbered_55 ?_
          refine lv_iadd hx hb dX7_numbered_56 ?_
          refine lv_bipush (v := 48) hx hb dX7_numbered_57 (by decide) ?_
          refine lv_isub hx hb dX7_numbered_59 ?_
          refine r_iast X hw (ws' := mW D L s pa P ru td ah sh n0 tx (nI T) (upd (upd nu k v) k (((10 * ((upd nu k v) k)) + (tx (p9 + d))) - 48)) (nI (p9 + d)) fo re ca os od spa he) k rfl (by omega) (by decide) (Foc.cell 9 rfl rfl (ce rfl (ce rfl (ce rfl (ce rfl (ce rfl (ce rfl (ce rfl (ce rfl (ce rfl rfl)))))))))) dX7_numbered_60 (fun H locs hw => ?_)
          refine lv_aload_n hx hb dX7_numbered_61 rfl (lv_at hl 0 rfl) ?_
          refine lv_dup hx hb dX7_numbered_62 rfl ?_
          refine r_get X hw (v := .int (nI (p9 + d))) fl_X7_177 (m_at 0 rfl) rfl dX7_numbered_63 ?_
          refine lv_iconst (v := 1) hx hb dX7_numbered_66 (by decide) ?_
          refine r_addN hx hb (p9 + d) 1 rfl rfl dX7_numbered_67 ?_
          refine r_puti X hw (ws' := mW D L s pa P ru td ah sh n0 tx (nI T) (upd (upd nu k v) k (((10 * ((upd nu k v) k)) + (tx (p9 + d))) - 48)) (nI (p9 + d + 1)) fo re ca os od spa he) fp_X7_177 (Nat.le_of_ble_eq_true rfl) (Foc.cell 0 rfl rfl (ce rfl (ce rfl (ce rfl (ce rfl (ce rfl (ce rfl (ce rfl (ce rfl (ce rfl rfl)))))))))) dX7_numbered_68 (fun H locs hw => ?_)
          refine lv_goto (tgt := 12) hx hb dX7_numbered_71 (by decide) ?_
          exact ih12 (d + 1) _ (by omega) (by omega) (by omega) (by rw [show 4 - d = (3 - d) + 1 from by omega] at hq; unfold dgR at hq; rw [if_neg c1] at hq; rw [if_neg (show ¬ 3 ≤ d from by omega)] at hq; rw [show 3 - d = 4 - (d + 1) from by omega] at hq; exact hq) _ _ _ (by rw [upd_upd, upd_eq] at hw; exact hw) (lv_sub hl [0, 1, 2] rfl)
  exact key12 5 0 0 (by omega) (by omega) (by omega) hfin.symm _ _ _ hw (lv_sub hl [1, 2, 0] rfl)
