noncomputable def sp_X7_in (a0 a1 a2 : Int32) : Int32 := (if a0 < a1 then 0 else (if a2 < a0 then 0 else 1))
theorem bo_X7_in (a0 a1 a2 : Int32) : sp_X7_in a0 a1 a2 = 0 ∨ sp_X7_in a0 a1 a2 = 1 := by
  unfold sp_X7_in
  (repeat' split) <;> first | exact Or.inl rfl | exact Or.inr rfl
set_option maxRecDepth 100000 in
set_option maxHeartbeats 4000000 in
theorem c_X7_in (l : Launch) (D : va_G) (sz : Nat) (a0 a1 a2 : Int32) : MI l yX7_in cX7_in 3 (some .boolean) 0 0 D sz [.int a0, .int a1, .int a2] [] (sp_X7_in a0 a1 a2) ([]) := by
  refine r_enterI (by decide) (Nat.le_of_ble_eq_true rfl) ?_
  intro p e st m args below meth c ls A X hret hk hw hl
  have X : CX D p m c cX7_in 3 st args RX7 A := X
  have hx := X.1.1
  have hb := X.1.2.1
  have hown := X.1.2.2.2.1
  have hts := X.1.2.2.2.2
  have hl : lv_has ls 3 [(0, .int a0), (1, .int a1), (2, .int a2)] := hl
  refine lv_iload_n hx hb dX7_in_0 rfl (lv_at hl 0 rfl) ?_
  refine lv_iload_n hx hb dX7_in_1 rfl (lv_at hl 1 rfl) ?_
  refine lv_icmp_lt (tgt := 14) hx hb dX7_in_2 (by decide) (fun c1 => ?_) (fun c1 => ?_)
  · skip
    refine lv_iconst (v := 0) hx hb dX7_in_14 (by decide) ?_
    exact r_ret X hw hk hret rfl (by unfold sp_X7_in; rw [if_pos c1]) rfl dX7_in_15
  · skip
    refine lv_iload_n hx hb dX7_in_5 rfl (lv_at hl 0 rfl) ?_
    refine lv_iload_n hx hb dX7_in_6 rfl (lv_at hl 2 rfl) ?_
    refine lv_icmp_gt (tgt := 14) hx hb dX7_in_7 (by decide) (fun c2 => ?_) (fun c2 => ?_)
    · skip
      refine lv_iconst (v := 0) hx hb dX7_in_14 (by decide) ?_
      exact r_ret X hw hk hret rfl (by unfold sp_X7_in; rw [if_neg c1]; rw [if_pos c2]) rfl dX7_in_15
    · skip
      refine lv_iconst (v := 1) hx hb dX7_in_10 (by decide) ?_
      refine lv_goto (tgt := 15) hx hb dX7_in_11 (by decide) ?_
      exact r_ret X hw hk hret rfl (by unfold sp_X7_in; rw [if_neg c1]; rw [if_neg c2]) rfl dX7_in_15

noncomputable def sp_X7_first (a0 : Int32) : Int32 := (if a0 = 3 then 1 else (if a0 = 4 then 1 else (if a0 = 5 then 1 else 0)))
set_option maxRecDepth 100000 in
set_option maxHeartbeats 4000000 in
theorem c_X7_first (l : Launch) (D : va_G) (sz : Nat) (a0 : Int32) : MI l yX7_first cX7_first 1 (some .int) 0 0 D sz [.int a0] [] (sp_X7_first a0) ([]) := by
  refine r_enterI (by decide) (Nat.le_of_ble_eq_true rfl) ?_
  intro p e st m args below meth c ls A X hret hk hw hl
  have X : CX D p m c cX7_first 1 st args RX7 A := X
  have hx := X.1.1
  have hb := X.1.2.1
  have hown := X.1.2.2.2.1
  have hts := X.1.2.2.2.2
  have hl : lv_has ls 1 [(0, .int a0)] := hl
  refine lv_iload_n hx hb dX7_first_0 rfl (lv_at hl 0 rfl) ?_
  refine lv_iconst (v := 3) hx hb dX7_first_1 (by decide) ?_
  refine lv_icmp_eq (tgt := 15) hx hb dX7_first_2 (by decide) (fun c1 => ?_) (fun c1 => ?_)
  · skip
    refine lv_iconst (v := 1) hx hb dX7_first_15 (by decide) ?_
    refine lv_goto (tgt := 20) hx hb dX7_first_16 (by decide) ?_
    exact r_ret X hw hk hret rfl (by unfold sp_X7_first; rw [if_pos c1]) rfl dX7_first_20
  · skip
    refine lv_iload_n hx hb dX7_first_5 rfl (lv_at hl 0 rfl) ?_
    refine lv_iconst (v := 4) hx hb dX7_first_6 (by decide) ?_
    refine lv_icmp_eq (tgt := 15) hx hb dX7_first_7 (by decide) (fun c2 => ?_) (fun c2 => ?_)
    · skip
      refine lv_iconst (v := 1) hx hb dX7_first_15 (by decide) ?_
      refine lv_goto (tgt := 20) hx hb dX7_first_16 (by decide) ?_
      exact r_ret X hw hk hret rfl (by unfold sp_X7_first; rw [if_neg c1]; rw [if_pos c2]) rfl dX7_first_20
    · skip
      refine lv_iload_n hx hb dX7_first_10 rfl (lv_at hl 0 rfl) ?_
      refine lv_iconst (v := 5) hx hb dX7_first_11 (by decide) ?_
      refine lv_icmp_ne (tgt := 19) hx hb dX7_first_12 (by decide) (fun c3 => ?_) (fun c3 => ?_)
      · skip
        refine lv_iconst (v := 0) hx hb dX7_first_19 (by decide) ?_
        exact r_ret X hw hk hret rfl (by unfold sp_X7_first; rw [if_neg c1]; rw [if_neg c2]; rw [if_neg c3]) rfl dX7_first_20
      · skip
        refine lv_iconst (v := 1) hx hb dX7_first_15 (by decide) ?_
        refine lv_goto (tgt := 20) hx hb dX7_first_16 (by decide) ?_
        exact r_ret X hw hk hret rfl (by unfold sp_X7_first; rw [if_neg c1]; rw [if_neg c2]; rw [if_pos c3]) rfl dX7_first_20

noncomputable def sp_X7_lengthOf (a0 a1 : Int32) : Int32 := (if a0 = 2 then (if a1 = 0 then 28 else 29) else (if a0 = 4 then 30 else (if a0 = 6 then 30 else (if a0 = 9 then 30 else (if a0 = 11 then 30 else 31)))))
set_option maxRecDepth 100000 in
set_option maxHeartbeats 4000000 in
theorem c_X7_lengthOf (l : Launch) (D : va_G) (sz : Nat) (a0 a1 : Int32) : MI l yX7_lengthOf cX7_lengthOf 2 (some .int) 0 0 D sz [.int a0, .int a1] [] (sp_X7_lengthOf a0 a1) ([]) := by
  refine r_enterI (by decide) (Nat.le_of_ble_eq_true rfl) ?_
  intro p e st m args below meth c ls A X hret hk hw hl
  have X : CX D p m c cX7_lengthOf 2 st args RX7 A := X
  have hx := X.1.1
  have hb := X.1.2.1
  have hown := X.1.2.2.2.1
  have hts := X.1.2.2.2.2
  have hl : lv_has ls 2 [(0, .int a0), (1, .int a1)] := hl
  refine lv_iload_n hx hb dX7_lengthOf_0 rfl (lv_at hl 0 rfl) ?_
  refine lv_iconst (v := 2) hx hb dX7_lengthOf_1 (by decide) ?_
  refine lv_icmp_ne (tgt := 17) hx hb dX7_lengthOf_2 (by decide) (fun c1 => ?_) (fun c1 => ?_)
  · skip
    refine lv_iload_n hx hb dX7_lengthOf_17 rfl (lv_at hl 0 rfl) ?_
    refine lv_iconst (v := 4) hx hb dX7_lengthOf_18 (by decide) ?_
    refine lv_icmp_eq (tgt := 40) hx hb dX7_lengthOf_19 (by decide) (fun c2 => ?_) (fun c2 => ?_)
    · skip
      refine lv_bipush (v := 30) hx hb dX7_lengthOf_40 (by decide) ?_
      refine lv_goto (tgt := 47) hx hb dX7_lengthOf_42 (by decide) ?_
      exact r_ret X hw hk hret rfl (by unfold sp_X7_lengthOf; rw [if_neg c1]; rw [if_pos c2]) rfl dX7_lengthOf_47
    · skip
      refine lv_iload_n hx hb dX7_lengthOf_22 rfl (lv_at hl 0 rfl) ?_
      refine lv_bipush (v := 6) hx hb dX7_lengthOf_23 (by decide) ?_
      refine lv_icmp_eq (tgt := 40) hx hb dX7_lengthOf_25 (by decide) (fun c3 => ?_) (fun c3 => ?_)
      · skip
        refine lv_bipush (v := 30) hx hb dX7_lengthOf_40 (by decide) ?_
        refine lv_goto (tgt := 47) hx hb dX7_lengthOf_42 (by decide) ?_
        exact r_ret X hw hk hret rfl (by unfold sp_X7_lengthOf; rw [if_neg c1]; rw [if_neg c2]; rw [if_pos c3]) rfl dX7_lengthOf_47
      · skip
        refine lv_iload_n hx hb dX7_lengthOf_28 rfl (lv_at hl 0 rfl) ?_
        refine lv_bipush (v := 9) hx hb dX7_lengthOf_29 (by decide) ?_
        refine lv_icmp_eq (tgt := 40) hx hb dX7_lengthOf_31 (by decide) (fun c4 => ?_) (fun c4 => ?_)
        · skip
          refine lv_bipush (v := 30) hx hb dX7_lengthOf_40 (by decide) ?_
          refine lv_goto (tgt := 47) hx hb dX7_lengthOf_42 (by decide) ?_
          exact r_ret X hw hk hret rfl (by unfold sp_X7_lengthOf; rw [if_neg c1]; rw [if_neg c2]; rw [if_neg c3]; rw [if_pos c4]) rfl dX7_lengthOf_47
        · skip
          refine lv_iload_n hx hb dX7_lengthOf_34 rfl (lv_at hl 0 rfl) ?_
          refine lv_bipush (v := 11) hx hb dX7_lengthOf_35 (by decide) ?_
          refine lv_icmp_ne (tgt := 45) hx hb dX7_lengthOf_37 (by decide) (fun c5 => ?_) (fun c5 => ?_)
          · skip
            refine lv_bipush (v := 31) hx hb dX7_lengthOf_45 (by decide) ?_
            exact r_ret X hw hk hret rfl (by unfold sp_X7_lengthOf; rw [if_neg c1]; rw [if_neg c2]; rw [if_neg c3]; rw [if_neg c4]; rw [if_neg c5]) rfl dX7_lengthOf_47
          · skip
            refine lv_bipush (v := 30) hx hb dX7_lengthOf_40 (by decide) ?_
            refine lv_goto (tgt := 47) hx hb dX7_lengthOf_42 (by decide) ?_
            exact r_ret X hw hk hret rfl (by unfold sp_X7_lengthOf; rw [if_neg c1]; rw [if_neg c2]; rw [if_neg c3]; rw [if_neg c4]; rw [if_pos c5]) rfl dX7_lengthOf_47
  · skip
    refine lv_iload_n hx hb dX7_lengthOf_5 rfl (lv_at hl 1 rfl) ?_
    refine lv_if_eq (tgt := 14) hx hb dX7_lengthOf_6 (by decide) (fun c6 => ?_) (fun c6 => ?_)
    · skip
      refine lv_bipush (v := 28) hx hb dX7_lengthOf_14 (by decide) ?_
      exact r_ret X hw hk hret rfl (by unfold sp_X7_lengthOf; rw [if_pos c1]; rw [if_pos c6]) rfl dX7_lengthOf_16
    · skip
      refine lv_bipush (v := 29) hx hb dX7_lengthOf_9 (by decide) ?_
      refine lv_goto (tgt := 16) hx hb dX7_lengthOf_11 (by decide) ?_
      exact r_ret X hw hk hret rfl (by unfold sp_X7_lengthOf; rw [if_pos c1]; rw [if_neg c6]) rfl dX7_lengthOf_16

noncomputable def sp_X7_alarmAt (a0 : Int32) : Int32 := 40 + (9 * a0)
set_option maxRecDepth 100000 in
set_option maxHeartbeats 4000000 in
theorem c_X7_alarmAt (l : Launch) (D : va_G) (sz : Nat) (a0 : Int32) : MI l yX7_alarmAt cX7_alarmAt 1 (some .int) 0 0 D sz [.int a0] [] (sp_X7_alarmAt a0) ([]) := by
  refine r_enterI (by decide) (Nat.le_of_ble_eq_true rfl) ?_
  intro p e st m args below meth c ls A X hret hk hw hl
  have X : CX D p m c cX7_alarmAt 1 st args RX7 A := X
  have hx := X.1.1
  have hb := X.1.2.1
  have hown := X.1.2.2.2.1
  have hts := X.1.2.2.2.2
  have hl : lv_has ls 1 [(0, .int a0)] := hl
  refine lv_bipush (v := 40) hx hb dX7_alarmAt_0 (by decide) ?_
  refine lv_bipush (v := 9) hx hb dX7_alarmAt_2 (by decide) ?_
  refine lv_iload_n hx hb dX7_alarmAt_4 rfl (lv_at hl 0 rfl) ?_
  refine lv_imul hx hb dX7_alarmAt_5 ?_
  refine lv_iadd hx hb dX7_alarmAt_6 ?_
  exact r_ret X hw hk hret rfl (rfl) rfl dX7_alarmAt_7

noncomputable def sp_X7_isRegister (a0 : Int32) : Int32 := sp_X7_in a0 0 6
theorem bo_X7_isRegister (a0 : Int32) : sp_X7_isRegister a0 = 0 ∨ sp_X7_isRegister a0 = 1 := by
  unfold sp_X7_isRegister
  first | exact Or.inl rfl | exact Or.inr rfl | exact bo_X7_in a0 0 6
set_option maxRecDepth 100000 in
set_option maxHeartbeats 4000000 in
theorem c_X7_isRegister (l : Launch) (D : va_G) (sz : Nat) (a0 : Int32) : MI l yX7_isRegister cX7_isRegister 1 (some .boolean) 1 22 D sz [.int a0] [] (sp_X7_isRegister a0) ([]) := by
  refine r_enterI (by decide) (Nat.le_of_ble_eq_true rfl) ?_
  intro p e st m args below meth c ls A X hret hk hw hl
  have X : CX D p m c cX7_isRegister 1 st args RX7 A := X
  have hx := X.1.1
  have hb := X.1.2.1
  have hown := X.1.2.2.2.1
  have hts := X.1.2.2.2.2
  have hl : lv_has ls 1 [(0, .int a0)] := hl
  refine lv_iload_n hx hb dX7_isRegister_0 rfl (lv_at hl 0 rfl) ?_
  refine lv_iconst (v := 0) hx hb dX7_isRegister_1 (by decide) ?_
  refine lv_bipush (v := 6) hx hb dX7_isRegister_2 (by decide) ?_
  refine r_callS X hw (ws' := []) (As := [.int a0, .int 0, .int 6]) (rest := []) lk_X7_45 (c_X7_in l D _ a0 0 6) Foc.nil rfl hl.1 (Nat.le_of_ble_eq_true rfl) ⟨Nat.le_of_ble_eq_true rfl, Nat.le_of_ble_eq_true rfl⟩ rfl dX7_isRegister_4 ⟨Nat.le_refl _, Nat.le_refl _⟩ (fun H locs hw => ?_)
  exact r_ret X hw hk hret (nar_b (bo_X7_in a0 0 6)) (rfl) rfl dX7_isRegister_7

noncomputable def sp_X7_isAlarm (a0 : Int32) : Int32 := sp_X7_in a0 0 2
theorem bo_X7_isAlarm (a0 : Int32) : sp_X7_isAlarm a0 = 0 ∨ sp_X7_isAlarm a0 = 1 := by
  unfold sp_X7_isAlarm
  first | exact Or.inl rfl | exact Or.inr rfl | exact bo_X7_in a0 0 2
set_option maxRecDepth 100000 in
set_option maxHeartbeats 4000000 in
theorem c_X7_isAlarm (l : Launch) (D : va_G) (sz : Nat) (a0 : Int32) : MI l yX7_isAlarm cX7_isAlarm 1 (some .boolean) 1 22 D sz [.int a0] [] (sp_X7_isAlarm a0) ([]) := by
  refine r_enterI (by decide) (Nat.le_of_ble_eq_true rfl) ?_
  intro p e st m args below meth c ls A X hret hk hw hl
  have X : CX D p m c cX7_isAlarm 1 st args RX7 A := X
  have hx := X.1.1
  have hb := X.1.2.1
  have hown := X.1.2.2.2.1
  have hts := X.1.2.2.2.2
  have hl : lv_has ls 1 [(0, .int a0)] := hl
  refine lv_iload_n hx hb dX7_isAlarm_0 rfl (lv_at hl 0 rfl) ?_
  refine lv_iconst (v := 0) hx hb dX7_isAlarm_1 (by decide) ?_
  refine lv_iconst (v := 2) hx hb dX7_isAlarm_2 (by decide) ?_
  refine r_callS X hw (ws' := []) (As := [.int a0, .int 0, .int 2]) (rest := []) lk_X7_45 (c_X7_in l D _ a0 0 2) Foc.nil rfl hl.1 (Nat.le_of_ble_eq_true rfl) ⟨Nat.le_of_ble_eq_true rfl, Nat.le_of_ble_eq_true rfl⟩ rfl dX7_isAlarm_3 ⟨Nat.le_refl _, Nat.le_refl _⟩ (fun H locs hw => ?_)
  exact r_ret X hw hk hret (nar_b (bo_X7_in a0 0 2)) (rfl) rfl dX7_isAlarm_6

noncomputable def sp_X7_number (s : Row) (r : Nat) : Int32 := (10 * ((s (0 + r)) / 16)) + ((s (0 + r)) - (s (0 + r)) / 16 * 16)
set_option maxRecDepth 100000 in
set_option maxHeartbeats 4000000 in
theorem c_X7_number (l : Launch) (D : va_G) (sz : Nat) (L : Nat → Nat) (s : Row) (o1 : Row) (o2 : Int32) (o3 : Int32) (o4 : Row) (o5 : Row) (o6 : Row) (o7 : Int32) (o8 : Row) (o9 : Int32) (o10 : Row) (o11 : Int32) (o12 : Int32) (o13 : Int32) (o14 : Int32) (o15 : Int32) (o16 : Int32) (o17 : Row) (o18 : Row) (r : Nat) (hr : r < 7) : MI l yX7_number cX7_number 3 (some .int) 0 0 D sz [.ref (L 0), .int (nI r)] (mW D L s o1 o2 o3 o4 o5 o6 o7 o8 o9 o10 o11 o12 o13 o14 o15 o16 o17 o18) (sp_X7_number s r) (mW D L s o1 o2 o3 o4 o5 o6 o7 o8 o9 o10 o11 o12 o13 o14 o15 o16 o17 o18) := by
  refine r_enterI (by decide) (Nat.le_of_ble_eq_true rfl) ?_
  intro p e st m args below meth c ls A X hret hk hw hl
  have X : CX D p m c cX7_number 3 st args RX7 A := X
  have hx := X.1.1
  have hb := X.1.2.1
  have hown := X.1.2.2.2.1
  have hts := X.1.2.2.2.2
  have hl : lv_has ls 3 [(0, .ref (L 0)), (1, .int (nI r))] := hl
  refine lv_aload_n hx hb dX7_number_0 rfl (lv_at hl 0 rfl) ?_
  refine r_get X hw (v := .ref (L 1)) fl_X7_7 (m_at 0 rfl) rfl dX7_number_1 ?_
  refine lv_iconst (v := 0) hx hb dX7_number_4 (by decide) ?_
  refine lv_iload_n hx hb dX7_number_5 rfl (lv_at hl 1 rfl) ?_
  refine r_addN hx hb 0 r rfl rfl dX7_number_6 ?_
  refine r_iald X hw (f := s) (0 + r) (m_at 1 rfl) rfl (by omega) (by decide) dX7_number_7 ?_
  refine lv_istore_n (lv' := [(2, .int (s (0 + r))), (0, .ref (L 0)), (1, .int (nI r))]) hx hb dX7_number_8 rfl hl (by decide) rfl (fun ls hl => ?_)
  refine lv_bipush (v := 10) hx hb dX7_number_9 (by decide) ?_
  refine lv_iload_n hx hb dX7_number_11 rfl (lv_at hl 0 rfl) ?_
  refine lv_bipush (v := 16) hx hb dX7_number_12 (by decide) ?_
  refine lv_idiv hx hb dX7_number_14 (by decide) ?_
  refine lv_imul hx hb dX7_number_15 ?_
  refine lv_iload_n hx hb dX7_number_16 rfl (lv_at hl 0 rfl) ?_
  refine lv_bipush (v := 16) hx hb dX7_number_17 (by decide) ?_
  refine lv_irem hx hb dX7_number_19 (by decide) ?_
  refine lv_iadd hx hb dX7_number_20 ?_
  exact r_ret X hw hk hret rfl (rfl) rfl dX7_number_21

noncomputable def sp_X7_isWithin (s : Row) (r : Nat) (a b : Int32) : Int32 := (if 10 ≤ ((s (0 + r)) / 16) then 0 else (if 10 ≤ ((s (0 + r)) - (s (0 + r)) / 16 * 16) then 0 else (if (sp_X7_in (sp_X7_number s r) a b) = 0 then 0 else 1)))
theorem bo_X7_isWithin (s : Row) (r : Nat) (a b : Int32) : sp_X7_isWithin s r a b = 0 ∨ sp_X7_isWithin s r a b = 1 := by
  unfold sp_X7_isWithin
  (repeat' split) <;> first | exact Or.inl rfl | exact Or.inr rfl
set_option maxRecDepth 100000 in
set_option maxHeartbeats 4000000 in
theorem c_X7_isWithin (l : Launch) (D : va_G) (sz : Nat) (L : Nat → Nat) (s : Row) (o1 : Row) (o2 : Int32) (o3 : Int32) (o4 : Row) (o5 : Row) (o6 : Row) (o7 : Int32) (o8 : Row) (o9 : Int32) (o10 : Row) (o11 : Int32) (o12 : Int32) (o13 : Int32) (o14 : Int32) (o15 : Int32) (o16 : Int32) (o17 : Row) (o18 : Row) (r : Nat) (a b : Int32) (hr : r < 7) : MI l yX7_isWithin cX7_isWithin 5 (some .boolean) 1 22 D sz [.ref (L 0), .int (nI r), .int a, .int b] (mW D L s o1 o2 o3 o4 o5 o6 o7 o8 o9 o10 o11 o12 o13 o14 o15 o16 o17 o18) (sp_X7_isWithin s r a b) (mW D L s o1 o2 o3 o4 o5 o6 o7 o8 o9 o10 o11 o12 o13 o14 o15 o16 o17 o18) := by
  refine r_enterI (by decide) (Nat.le_of_ble_eq_true rfl) ?_
  intro p e st m args below meth c ls A X hret hk hw hl
  have X : CX D p m c cX7_isWithin 5 st args RX7 A := X
  have hx := X.1.1
  have hb := X.1.2.1
  have hown := X.1.2.2.2.1
  have hts := X.1.2.2.2.2
  have hl : lv_has ls 5 [(0, .ref (L 0)), (1, .int (nI r)), (2, .int a), (3, .int b)] := hl
  refine lv_aload_n hx hb dX7_isWithin_0 rfl (lv_at hl 0 rfl) ?_
  refine r_get X hw (v := .ref (L 1)) fl_X7_7 (m_at 0 rfl) rfl dX7_isWithin_1 ?_
  refine lv_iconst (v := 0) hx hb dX7_isWithin_4 (by decide) ?_
  refine lv_iload_n hx hb dX7_isWithin_5 rfl (lv_at hl 1 rfl) ?_
  refine r_addN hx hb 0 r rfl rfl dX7_isWithin_6 ?_
  refine r_iald X hw (f := s) (0 + r) (m_at 1 rfl) rfl (by omega) (by decide) dX7_isWithin_7 ?_
  refine lv_istore (lv' := [(4, .int (s (0 + r))), (0, .ref (L 0)), (1, .int (nI r)), (2, .int a), (3, .int b)]) hx hb dX7_isWithin_8 hl (by decide) rfl (fun ls hl => ?_)
  refine lv_iload hx hb dX7_isWithin_10 (lv_at hl 0 rfl) ?_
  refine lv_bipush (v := 16) hx hb dX7_isWithin_12 (by decide) ?_
  refine lv_idiv hx hb dX7_isWithin_14 (by decide) ?_
  refine lv_bipush (v := 10) hx hb dX7_isWithin_15 (by decide) ?_
  refine lv_icmp_ge (tgt := 47) hx hb dX7_isWithin_17 (by decide) (fun c1 => ?_) (fun c1 => ?_)
  · skip
    refine lv_iconst (v := 0) hx hb dX7_isWithin_47 (by decide) ?_
    exact r_ret X hw hk hret rfl (by unfold sp_X7_isWithin; rw [if_pos c1]) rfl dX7_isWithin_48
  · skip
    refine lv_iload hx hb dX7_isWithin_20 (lv_at hl 0 rfl) ?_
    refine lv_bipush (v := 16) hx hb dX7_isWithin_22 (by decide) ?_
    refine lv_irem hx hb dX7_isWithin_24 (by decide) ?_
    refine lv_bipush (v := 10) hx hb dX7_isWithin_25 (by decide) ?_
    refine lv_icmp_ge (tgt := 47) hx hb dX7_isWithin_27 (by decide) (fun c2 => ?_) (fun c2 => ?_)
    · skip
      refine lv_iconst (v := 0) hx hb dX7_isWithin_47 (by decide) ?_
      exact r_ret X hw hk hret rfl (by unfold sp_X7_isWithin; rw [if_neg c1]; rw [if_pos c2]) rfl dX7_isWithin_48
    · skip
      refine lv_aload_n hx hb dX7_isWithin_30 rfl (lv_at hl 1 rfl) ?_
      refine lv_iload_n hx hb dX7_isWithin_31 rfl (lv_at hl 2 rfl) ?_
      refine r_callV X hw (ws' := mW D L s o1 o2 o3 o4 o5 o6 o7 o8 o9 o10 o11 o12 o13 o14 o15 o16 o17 o18) (As := [.int (nI r)]) (rest := []) lk_X7_49 (c_X7_number l D _ L s o1 o2 o3 o4 o5 o6 o7 o8 o9 o10 o11 o12 o13 o14 o15 o16 o17 o18 r (by omega)) Foc.all (m_at 0 rfl) rfl hl.1 (Nat.le_of_ble_eq_true rfl) ⟨Nat.le_of_ble_eq_true rfl, Nat.le_of_ble_eq_true rfl⟩ rfl dX7_isWithin_32 ⟨Nat.le_refl _, Nat.le_refl _⟩ (fun H locs hw => ?_)
      refine lv_iload_n hx hb dX7_isWithin_35 rfl (lv_at hl 3 rfl) ?_
      refine lv_iload_n hx hb dX7_isWithin_36 rfl (lv_at hl 4 rfl) ?_
      refine r_callS X hw (ws' := mW D L s o1 o2 o3 o4 o5 o6 o7 o8 o9 o10 o11 o12 o13 o14 o15 o16 o17 o18) (As := [.int (sp_X7_number s r), .int a, .int b]) (rest := []) lk_X7_45 (c_X7_in l D _ (sp_X7_number s r) a b) Foc.nil rfl hl.1 (Nat.le_of_ble_eq_true rfl) ⟨Nat.le_of_ble_eq_true rfl, Nat.le_of_ble_eq_true rfl⟩ rfl dX7_isWithin_37 ⟨Nat.le_refl _, Nat.le_refl _⟩ (fun H locs hw => ?_)
      refine lv_if_eq (tgt := 47) hx hb dX7_isWithin_40 (by decide) (fun c3 => ?_) (fun c3 => ?_)
      · skip
        refine lv_iconst (v := 0) hx hb dX7_isWithin_47 (by decide) ?_
        exact r_ret X hw hk hret rfl (by unfold sp_X7_isWithin; rw [if_neg c1]; rw [if_neg c2]; rw [if_pos c3]) rfl dX7_isWithin_48
      · skip
        refine lv_iconst (v := 1) hx hb dX7_isWithin_43 (by decide) ?_
        refine lv_goto (tgt := 48) hx hb dX7_isWithin_44 (by decide) ?_
        exact r_ret X hw hk hret rfl (by unfold sp_X7_isWithin; rw [if_neg c1]; rw [if_neg c2]; rw [if_neg c3]) rfl dX7_isWithin_48

noncomputable def sp_X7_isLeap (s : Row) : Int32 := (if (sp_X7_isWithin s 6 0 99) = 0 then 0 else (if ((sp_X7_number s 6) - (sp_X7_number s 6) / 4 * 4) = 0 then 1 else 0))
theorem bo_X7_isLeap (s : Row) : sp_X7_isLeap s = 0 ∨ sp_X7_isLeap s = 1 := by
  unfold sp_X7_isLeap
  (repeat' split) <;> first | exact Or.inl rfl | exact Or.inr rfl
set_option maxRecDepth 100000 in
set_option maxHeartbeats 4000000 in
theorem c_X7_isLeap (l : Launch) (D : va_G) (sz : Nat) (L : Nat → Nat) (s : Row) (o1 : Row) (o2 : Int32) (o3 : Int32) (o4 : Row) (o5 : Row) (o6 : Row) (o7 : Int32) (o8 : Row) (o9 : Int32) (o10 : Row) (o11 : Int32) (o12 : Int32) (o13 : Int32) (o14 : Int32) (o15 : Int32) (o16 : Int32) (o17 : Row) (o18 : Row) : MI l yX7_isLeap cX7_isLeap 1 (some .boolean) 2 46 D sz [.ref (L 0)] (mW D L s o1 o2 o3 o4 o5 o6 o7 o8 o9 o10 o11 o12 o13 o14 o15 o16 o17 o18) (sp_X7_isLeap s) (mW D L s o1 o2 o3 o4 o5 o6 o7 o8 o9 o10 o11 o12 o13 o14 o15 o16 o17 o18) := by
  refine r_enterI (by decide) (Nat.le_of_ble_eq_true rfl) ?_
  intro p e st m args below meth c ls A X hret hk hw hl
  have X : CX D p m c cX7_isLeap 1 st args RX7 A := X
  have hx := X.1.1
  have hb := X.1.2.1
  have hown := X.1.2.2.2.1
  have hts := X.1.2.2.2.2
  have hl : lv_has ls 1 [(0, .ref (L 0))] := hl
  refine lv_aload_n hx hb dX7_isLeap_0 rfl (lv_at hl 0 rfl) ?_
  refine lv_bipush (v := 6) hx hb dX7_isLeap_1 (by decide) ?_
  refine lv_iconst (v := 0) hx hb dX7_isLeap_3 (by decide) ?_
  refine lv_bipush (v := 99) hx hb dX7_isLeap_4 (by decide) ?_
  refine r_callV X hw (ws' := mW D L s o1 o2 o3 o4 o5 o6 o7 o8 o9 o10 o11 o12 o13 o14 o15 o16 o17 o18) (As := [.int 6, .int 0, .int 99]) (rest := []) lk_X7_63 (c_X7_isWithin l D _ L s o1 o2 o3 o4 o5 o6 o7 o8 o9 o10 o11 o12 o13 o14 o15 o16 o17 o18 6 0 99 (by omega)) Foc.all (m_at 0 rfl) rfl hl.1 (Nat.le_of_ble_eq_true rfl) ⟨Nat.le_of_ble_eq_true rfl, Nat.le_of_ble_eq_true rfl⟩ rfl dX7_isLeap_6 ⟨Nat.le_refl _, Nat.le_refl _⟩ (fun H locs hw => ?_)
  refine lv_if_eq (tgt := 27) hx hb dX7_isLeap_9 (by decide) (fun c1 => ?_) (fun c1 => ?_)
  · skip
    refine lv_iconst (v := 0) hx hb dX7_isLeap_27 (by decide) ?_
    exact r_ret X hw hk hret rfl (by unfold sp_X7_isLeap; rw [if_pos c1]) rfl dX7_isLeap_28
  · skip
    refine lv_aload_n hx hb dX7_isLeap_12 rfl (lv_at hl 0 rfl) ?_
    refine lv_bipush (v := 6) hx hb dX7_isLeap_13 (by decide) ?_
    refine r_callV X hw (ws' := mW D L s o1 o2 o3 o4 o5 o6 o7 o8 o9 o10 o11 o12 o13 o14 o15 o16 o17 o18) (As := [.int 6]) (rest := []) lk_X7_49 (c_X7_number l D _ L s o1 o2 o3 o4 o5 o6 o7 o8 o9 o10 o11 o12 o13 o14 o15 o16 o17 o18 6 (by omega)) Foc.all (m_at 0 rfl) rfl hl.1 (Nat.le_of_ble_eq_true rfl) ⟨Nat.le_of_ble_eq_true rfl, Nat.le_of_ble_eq_true rfl⟩ rfl dX7_isLeap_15 ⟨Nat.le_refl _, Nat.le_refl _⟩ (fun H locs hw => ?_)
    refine lv_iconst (v := 4) hx hb dX7_isLeap_18 (by decide) ?_
    refine lv_irem hx hb dX7_isLeap_19 (by decide) ?_
    refine lv_if_ne (tgt := 27) hx hb dX7_isLeap_20 (by decide) (fun c2 => ?_) (fun c2 => ?_)
    · skip
      refine lv_iconst (v := 0) hx hb dX7_isLeap_27 (by decide) ?_
      exact r_ret X hw hk hret rfl (by unfold sp_X7_isLeap; rw [if_neg c1]; rw [if_neg c2]) rfl dX7_isLeap_28
    · skip
      refine lv_iconst (v := 1) hx hb dX7_isLeap_23 (by decide) ?_
      refine lv_goto (tgt := 28) hx hb dX7_isLeap_24 (by decide) ?_
      exact r_ret X hw hk hret rfl (by unfold sp_X7_isLeap; rw [if_neg c1]; rw [if_pos c2]) rfl dX7_isLeap_28

noncomputable def sp_X7_monthLength (s : Row) : Int32 := (if (sp_X7_isWithin s 5 1 12) = 0 then 31 else sp_X7_lengthOf (sp_X7_number s 5) (sp_X7_isLeap s))
set_option maxRecDepth 100000 in
set_option maxHeartbeats 4000000 in
theorem c_X7_monthLength (l : Launch) (D : va_G) (sz : Nat) (L : Nat → Nat) (s : Row) (o1 : Row) (o2 : Int32) (o3 : Int32) (o4 : Row) (o5 : Row) (o6 : Row) (o7 : Int32) (o8 : Row) (o9 : Int32) (o10 : Row) (o11 : Int32) (o12 : Int32) (o13 : Int32) (o14 : Int32) (o15 : Int32) (o16 : Int32) (o17 : Row) (o18 : Row) : MI l yX7_monthLength cX7_monthLength 1 (some .int) 3 66 D sz [.ref (L 0)] (mW D L s o1 o2 o3 o4 o5 o6 o7 o8 o9 o10 o11 o12 o13 o14 o15 o16 o17 o18) (sp_X7_monthLength s) (mW D L s o1 o2 o3 o4 o5 o6 o7 o8 o9 o10 o11 o12 o13 o14 o15 o16 o17 o18) := by
  refine r_enterI (by decide) (Nat.le_of_ble_eq_true rfl) ?_
  intro p e st m args below meth c ls A X hret hk hw hl
  have X : CX D p m c cX7_monthLength 1 st args RX7 A := X
  have hx := X.1.1
  have hb := X.1.2.1
  have hown := X.1.2.2.2.1
  have hts := X.1.2.2.2.2
  have hl : lv_has ls 1 [(0, .ref (L 0))] := hl
  refine lv_aload_n hx hb dX7_monthLength_0 rfl (lv_at hl 0 rfl) ?_
  refine lv_iconst (v := 5) hx hb dX7_monthLength_1 (by decide) ?_
  refine lv_iconst (v := 1) hx hb dX7_monthLength_2 (by decide) ?_
  refine lv_bipush (v := 12) hx hb dX7_monthLength_3 (by decide) ?_
  refine r_callV X hw (ws' := mW D L s o1 o2 o3 o4 o5 o6 o7 o8 o9 o10 o11 o12 o13 o14 o15 o16 o17 o18) (As := [.int 5, .int 1, .int 12]) (rest := []) lk_X7_63 (c_X7_isWithin l D _ L s o1 o2 o3 o4 o5 o6 o7 o8 o9 o10 o11 o12 o13 o14 o15 o16 o17 o18 5 1 12 (by omega)) Foc.all (m_at 0 rfl) rfl hl.1 (Nat.le_of_ble_eq_true rfl) ⟨Nat.le_of_ble_eq_true rfl, Nat.le_of_ble_eq_true rfl⟩ rfl dX7_monthLength_5 ⟨Nat.le_refl _, Nat.le_refl _⟩ (fun H locs hw => ?_)
  refine lv_if_eq (tgt := 26) hx hb dX7_monthLength_8 (by decide) (fun c1 => ?_) (fun c1 => ?_)
  · skip
    refine lv_bipush (v := 31) hx hb dX7_monthLength_26 (by decide) ?_
    exact r_ret X hw hk hret rfl (by unfold sp_X7_monthLength; rw [if_pos c1]) rfl dX7_monthLength_28
  · skip
    refine lv_aload_n hx hb dX7_monthLength_11 rfl (lv_at hl 0 rfl) ?_
    refine lv_iconst (v := 5) hx hb dX7_monthLength_12 (by decide) ?_
    refine r_callV X hw (ws' := mW D L s o1 o2 o3 o4 o5 o6 o7 o8 o9 o10 o11 o12 o13 o14 o15 o16 o17 o18) (As := [.int 5]) (rest := []) lk_X7_49 (c_X7_number l D _ L s o1 o2 o3 o4 o5 o6 o7 o8 o9 o10 o11 o12 o13 o14 o15 o16 o17 o18 5 (by omega)) Foc.all (m_at 0 rfl) rfl hl.1 (Nat.le_of_ble_eq_true rfl) ⟨Nat.le_of_ble_eq_true rfl, Nat.le_of_ble_eq_true rfl⟩ rfl dX7_monthLength_13 ⟨Nat.le_refl _, Nat.le_refl _⟩ (fun H locs hw => ?_)
    refine lv_aload_n hx hb dX7_monthLength_16 rfl (lv_at hl 0 rfl) ?_
    refine r_callV X hw (ws' := mW D L s o1 o2 o3 o4 o5 o6 o7 o8 o9 o10 o11 o12 o13 o14 o15 o16 o17 o18) (As := []) (rest := [.int (sp_X7_number s 5)]) lk_X7_66 (c_X7_isLeap l D _ L s o1 o2 o3 o4 o5 o6 o7 o8 o9 o10 o11 o12 o13 o14 o15 o16 o17 o18) Foc.all (m_at 0 rfl) rfl hl.1 (Nat.le_of_ble_eq_true rfl) ⟨Nat.le_of_ble_eq_true rfl, Nat.le_of_ble_eq_true rfl⟩ rfl dX7_monthLength_17 ⟨Nat.le_refl _, Nat.le_refl _⟩ (fun H locs hw => ?_)
    refine r_callS X hw (ws' := mW D L s o1 o2 o3 o4 o5 o6 o7 o8 o9 o10 o11 o12 o13 o14 o15 o16 o17 o18) (As := [.int (sp_X7_number s 5), .int (sp_X7_isLeap s)]) (rest := []) lk_X7_70 (c_X7_lengthOf l D _ (sp_X7_number s 5) (sp_X7_isLeap s)) Foc.nil rfl hl.1 (Nat.le_of_ble_eq_true rfl) ⟨Nat.le_of_ble_eq_true rfl, Nat.le_of_ble_eq_true rfl⟩ rfl dX7_monthLength_20 ⟨Nat.le_refl _, Nat.le_refl _⟩ (fun H locs hw => ?_)
    refine lv_goto (tgt := 28) hx hb dX7_monthLength_23 (by decide) ?_
    exact r_ret X hw hk hret rfl (by unfold sp_X7_monthLength; rw [if_neg c1]) rfl dX7_monthLength_28

noncomputable def sp_X7_last (s : Row) (r : Nat) : Int32 := (if (nI r) = 0 then 59 else (if (nI r) = 1 then 59 else (if (nI r) = 2 then 23 else (if (nI r) = 3 then 7 else (if (nI r) = 4 then sp_X7_monthLength s else (if (nI r) = 5 then 12 else 99))))))
set_option maxRecDepth 100000 in
set_option maxHeartbeats 4000000 in
theorem c_X7_last (l : Launch) (D : va_G) (sz : Nat) (L : Nat → Nat) (s : Row) (o1 : Row) (o2 : Int32) (o3 : Int32) (o4 : Row) (o5 : Row) (o6 : Row) (o7 : Int32) (o8 : Row) (o9 : Int32) (o10 : Row) (o11 : Int32) (o12 : Int32) (o13 : Int32) (o14 : Int32) (o15 : Int32) (o16 : Int32) (o17 : Row) (o18 : Row) (r : Nat) (hr : r < 7) : MI l yX7_last cX7_last 2 (some .int) 4 86 D sz [.ref (L 0), .int (nI r)] (mW D L s o1 o2 o3 o4 o5 o6 o7 o8 o9 o10 o11 o12 o13 o14 o15 o16 o17 o18) (sp_X7_last s r) (mW D L s o1 o2 o3 o4 o5 o6 o7 o8 o9 o10 o11 o12 o13 o14 o15 o16 o17 o18) := by
  refine r_enterI (by decide) (Nat.le_of_ble_eq_true rfl) ?_
  intro p e st m args below meth c ls A X hret hk hw hl
  have X : CX D p m c cX7_last 2 st args RX7 A := X
  have hx := X.1.1
  have hb := X.1.2.1
  have hown := X.1.2.2.2.1
  have hts := X.1.2.2.2.2
  have hl : lv_has ls 2 [(0, .ref (L 0)), (1, .int (nI r))] := hl
  refine lv_iload_n hx hb dX7_last_0 rfl (lv_at hl 1 rfl) ?_
  by_cases w1 : (nI r) = 0
  · skip
    refine r_tabIn (tgt := 40) hx hb 0 w1 dX7_last_1 (by decide) (by decide) rfl (by decide) ?_
    refine lv_bipush (v := 59) hx hb dX7_last_40 (by decide) ?_
    exact r_ret X hw hk hret rfl (by unfold sp_X7_last; rw [if_pos w1]) rfl dX7_last_42
  · skip
    by_cases w2 : (nI r) = 1
    · skip
      refine r_tabIn (tgt := 40) hx hb 1 w2 dX7_last_1 (by decide) (by decide) rfl (by decide) ?_
      refine lv_bipush (v := 59) hx hb dX7_last_40 (by decide) ?_
      exact r_ret X hw hk hret rfl (by unfold sp_X7_last; rw [if_neg w1]; rw [if_pos w2]) rfl dX7_last_42
    · skip
      by_cases w3 : (nI r) = 2
      · skip
        refine r_tabIn (tgt := 43) hx hb 2 w3 dX7_last_1 (by decide) (by decide) rfl (by decide) ?_
        refine lv_bipush (v := 23) hx hb dX7_last_43 (by decide) ?_
        exact r_ret X hw hk hret rfl (by unfold sp_X7_last; rw [if_neg w1]; rw [if_neg w2]; rw [if_pos w3]) rfl dX7_last_45
      · skip
        by_cases w4 : (nI r) = 3
        · skip
          refine r_tabIn (tgt := 46) hx hb 3 w4 dX7_last_1 (by decide) (by decide) rfl (by decide) ?_
          refine lv_bipush (v := 7) hx hb dX7_last_46 (by decide) ?_
          exact r_ret X hw hk hret rfl (by unfold sp_X7_last; rw [if_neg w1]; rw [if_neg w2]; rw [if_neg w3]; rw [if_pos w4]) rfl dX7_last_48
        · skip
          by_cases w5 : (nI r) = 4
          · skip
            refine r_tabIn (tgt := 49) hx hb 4 w5 dX7_last_1 (by decide) (by decide) rfl (by decide) ?_
            refine lv_aload_n hx hb dX7_last_49 rfl (lv_at hl 0 rfl) ?_
            refine r_callV X hw (ws' := mW D L s o1 o2 o3 o4 o5 o6 o7 o8 o9 o10 o11 o12 o13 o14 o15 o16 o17 o18) (As := []) (rest := []) lk_X7_53 (c_X7_monthLength l D _ L s o1 o2 o3 o4 o5 o6 o7 o8 o9 o10 o11 o12 o13 o14 o15 o16 o17 o18) Foc.all (m_at 0 rfl) rfl hl.1 (Nat.le_of_ble_eq_true rfl) ⟨Nat.le_of_ble_eq_true rfl, Nat.le_of_ble_eq_true rfl⟩ rfl dX7_last_50 ⟨Nat.le_refl _, Nat.le_refl _⟩ (fun H locs hw => ?_)
            exact r_ret X hw hk hret rfl (by unfold sp_X7_last; rw [if_neg w1]; rw [if_neg w2]; rw [if_neg w3]; rw [if_neg w4]; rw [if_pos w5]) rfl dX7_last_53
          · skip
            by_cases w6 : (nI r) = 5
            · skip
              refine r_tabIn (tgt := 54) hx hb 5 w6 dX7_last_1 (by decide) (by decide) rfl (by decide) ?_
              refine lv_bipush (v := 12) hx hb dX7_last_54 (by decide) ?_
              exact r_ret X hw hk hret rfl (by unfold sp_X7_last; rw [if_neg w1]; rw [if_neg w2]; rw [if_neg w3]; rw [if_neg w4]; rw [if_neg w5]; rw [if_pos w6]) rfl dX7_last_56
            · skip
              refine lv_tableOut (tgt := 57) hx hb dX7_last_1 (by have g0 := i_ne w1; have g1 := i_ne w2; have g2 := i_ne w3; have g3 := i_ne w4; have g4 := i_ne w5; have g5 := i_ne w6; rw [show (0 : Int32).toInt = 0 from rfl] at g0; rw [show (1 : Int32).toInt = 1 from rfl] at g1; rw [show (2 : Int32).toInt = 2 from rfl] at g2; rw [show (3 : Int32).toInt = 3 from rfl] at g3; rw [show (4 : Int32).toInt = 4 from rfl] at g4; rw [show (5 : Int32).toInt = 5 from rfl] at g5; omega) (by decide) ?_
              refine lv_bipush (v := 99) hx hb dX7_last_57 (by decide) ?_
              exact r_ret X hw hk hret rfl (by unfold sp_X7_last; rw [if_neg w1]; rw [if_neg w2]; rw [if_neg w3]; rw [if_neg w4]; rw [if_neg w5]; rw [if_neg w6]) rfl dX7_last_59

noncomputable def sp_X7_wrong (s : Row) (r : Nat) : Int32 := (if 9 < ((s (0 + r)) / 16) then 1 else (if ((s (0 + r)) - (s (0 + r)) / 16 * 16) ≤ 9 then (if (sp_X7_first (nI r)) ≤ (sp_X7_number s r) then (if (sp_X7_number s r) ≤ (sp_X7_last s r) then 0 else 3) else 2) else 1))
set_option maxRecDepth 100000 in
set_option maxHeartbeats 4000000 in
theorem c_X7_wrong (l : Launch) (D : va_G) (sz : Nat) (L : Nat → Nat) (s : Row) (o1 : Row) (o2 : Int32) (o3 : Int32) (o4 : Row) (o5 : Row) (o6 : Row) (o7 : Int32) (o8 : Row) (o9 : Int32) (o10 : Row) (o11 : Int32) (o12 : Int32) (o13 : Int32) (o14 : Int32) (o15 : Int32) (o16 : Int32) (o17 : Row) (o18 : Row) (r : Nat) (hr : r < 7) : MI l yX7_wrong cX7_wrong 3 (some .int) 5 107 D sz [.ref (L 0), .int (nI r)] (mW D L s o1 o2 o3 o4 o5 o6 o7 o8 o9 o10 o11 o12 o13 o14 o15 o16 o17 o18) (sp_X7_wrong s r) (mW D L s o1 o2 o3 o4 o5 o6 o7 o8 o9 o10 o11 o12 o13 o14 o15 o16 o17 o18) := by
  refine r_enterI (by decide) (Nat.le_of_ble_eq_true rfl) ?_
  intro p e st m args below meth c ls A X hret hk hw hl
  have X : CX D p m c cX7_wrong 3 st args RX7 A := X
  have hx := X.1.1
  have hb := X.1.2.1
  have hown := X.1.2.2.2.1
  have hts := X.1.2.2.2.2
  have hl : lv_has ls 3 [(0, .ref (L 0)), (1, .int (nI r))] := hl
  refine lv_aload_n hx hb dX7_wrong_0 rfl (lv_at hl 0 rfl) ?_
  refine r_get X hw (v := .ref (L 1)) fl_X7_7 (m_at 0 rfl) rfl dX7_wrong_1 ?_
  refine lv_iconst (v := 0) hx hb dX7_wrong_4 (by decide) ?_
  refine lv_iload_n hx hb dX7_wrong_5 rfl (lv_at hl 1 rfl) ?_
  refine r_addN hx hb 0 r rfl rfl dX7_wrong_6 ?_
  refine r_iald X hw (f := s) (0 + r) (m_at 1 rfl) rfl (by omega) (by decide) dX7_wrong_7 ?_
  refine lv_istore_n (lv' := [(2, .int (s (0 + r))), (0, .ref (L 0)), (1, .int (nI r))]) hx hb dX7_wrong_8 rfl hl (by decide) rfl (fun ls hl => ?_)
  refine lv_iload_n hx hb dX7_wrong_9 rfl (lv_at hl 0 rfl) ?_
  refine lv_bipush (v := 16) hx hb dX7_wrong_10 (by decide) ?_
  refine lv_idiv hx hb dX7_wrong_12 (by decide) ?_
  refine lv_bipush (v := 9) hx hb dX7_wrong_13 (by decide) ?_
  refine lv_icmp_gt (tgt := 27) hx hb dX7_wrong_15 (by decide) (fun c1 => ?_) (fun c1 => ?_)
  · skip
    refine lv_iconst (v := 1) hx hb dX7_wrong_27 (by decide) ?_
    exact r_ret X hw hk hret rfl (by unfold sp_X7_wrong; rw [if_pos c1]) rfl dX7_wrong_28
  · skip
    refine lv_iload_n hx hb dX7_wrong_18 rfl (lv_at hl 0 rfl) ?_
    refine lv_bipush (v := 16) hx hb dX7_wrong_19 (by decide) ?_
    refine lv_irem hx hb dX7_wrong_21 (by decide) ?_
    refine lv_bipush (v := 9) hx hb dX7_wrong_22 (by decide) ?_
    refine lv_icmp_le (tgt := 29) hx hb dX7_wrong_24 (by decide) (fun c2 => ?_) (fun c2 => ?_)
    · skip
      refine lv_aload_n hx hb dX7_wrong_29 rfl (lv_at hl 1 rfl) ?_
      refine lv_iload_n hx hb dX7_wrong_30 rfl (lv_at hl 2 rfl) ?_
      refine r_callV X hw (ws' := mW D L s o1 o2 o3 o4 o5 o6 o7 o8 o9 o10 o11 o12 o13 o14 o15 o16 o17 o18) (As := [.int (nI r)]) (rest := []) lk_X7_49 (c_X7_number l D _ L s o1 o2 o3 o4 o5 o6 o7 o8 o9 o10 o11 o12 o13 o14 o15 o16 o17 o18 r (by omega)) Foc.all (m_at 0 rfl) rfl hl.1 (Nat.le_of_ble_eq_true rfl) ⟨Nat.le_of_ble_eq_true rfl, Nat.le_of_ble_eq_true rfl⟩ rfl dX7_wrong_31 ⟨Nat.le_refl _, Nat.le_refl _⟩ (fun H locs hw => ?_)
      refine lv_iload_n hx hb dX7_wrong_34 rfl (lv_at hl 2 rfl) ?_
      refine r_callS X hw (ws' := mW D L s o1 o2 o3 o4 o5 o6 o7 o8 o9 o10 o11 o12 o13 o14 o15 o16 o17 o18) (As := [.int (nI r)]) (rest := [.int (sp_X7_number s r)]) lk_X7_57 (c_X7_first l D _ (nI r)) Foc.nil rfl hl.1 (Nat.le_of_ble_eq_true rfl) ⟨Nat.le_of_ble_eq_true rfl, Nat.le_of_ble_eq_true rfl⟩ rfl dX7_wrong_35 ⟨Nat.le_refl _, Nat.le_refl _⟩ (fun H locs hw => ?_)
      refine lv_icmp_ge (tgt := 45) hx hb dX7_wrong_38 (by decide) (fun c3 => ?_) (fun c3 => ?_)
      · skip
        refine lv_aload_n hx hb dX7_wrong_45 rfl (lv_at hl 1 rfl) ?_
        refine lv_iload_n hx hb dX7_wrong_46 rfl (lv_at hl 2 rfl) ?_
        refine r_callV X hw (ws' := mW D L s o1 o2 o3 o4 o5 o6 o7 o8 o9 o10 o11 o12 o13 o14 o15 o16 o17 o18) (As := [.int (nI r)]) (rest := []) lk_X7_49 (c_X7_number l D _ L s o1 o2 o3 o4 o5 o6 o7 o8 o9 o10 o11 o12 o13 o14 o15 o16 o17 o18 r (by omega)) Foc.all (m_at 0 rfl) rfl hl.1 (Nat.le_of_ble_eq_true rfl) ⟨Nat.le_of_ble_eq_true rfl, Nat.le_of_ble_eq_true rfl⟩ rfl dX7_wrong_47 ⟨Nat.le_refl _, Nat.le_refl _⟩ (fun H locs hw => ?_)
        refine lv_aload_n hx hb dX7_wrong_50 rfl (lv_at hl 1 rfl) ?_
        refine lv_iload_n hx hb dX7_wrong_51 rfl (lv_at hl 2 rfl) ?_
        refine r_callV X hw (ws' := mW D L s o1 o2 o3 o4 o5 o6 o7 o8 o9 o10 o11 o12 o13 o14 o15 o16 o17 o18) (As := [.int (nI r)]) (rest := [.int (sp_X7_number s r)]) lk_X7_60 (c_X7_last l D _ L s o1 o2 o3 o4 o5 o6 o7 o8 o9 o10 o11 o12 o13 o14 o15 o16 o17 o18 r (by omega)) Foc.all (m_at 0 rfl) rfl hl.1 (Nat.le_of_ble_eq_true rfl) ⟨Nat.le_of_ble_eq_true rfl, Nat.le_of_ble_eq_true rfl⟩ rfl dX7_wrong_52 ⟨Nat.le_refl _, Nat.le_refl _⟩ (fun H locs hw => ?_)
        refine lv_icmp_le (tgt := 62) hx hb dX7_wrong_55 (by decide) (fun c4 => ?_) (fun c4 => ?_)
        · skip
          refine lv_iconst (v := 0) hx hb dX7_wrong_62 (by decide) ?_
          exact r_ret X hw hk hret rfl (by unfold sp_X7_wrong; rw [if_neg c1]; rw [if_pos c2]; rw [if_pos c3]; rw [if_pos c4]) rfl dX7_wrong_63
        · skip
          refine lv_iconst (v := 3) hx hb dX7_wrong_58 (by decide) ?_
          refine lv_goto (tgt := 63) hx hb dX7_wrong_59 (by decide) ?_
          exact r_ret X hw hk hret rfl (by unfold sp_X7_wrong; rw [if_neg c1]; rw [if_pos c2]; rw [if_pos c3]; rw [if_neg c4]) rfl dX7_wrong_63
      · skip
        refine lv_iconst (v := 2) hx hb dX7_wrong_41 (by decide) ?_
        refine lv_goto (tgt := 63) hx hb dX7_wrong_42 (by decide) ?_
        exact r_ret X hw hk hret rfl (by unfold sp_X7_wrong; rw [if_neg c1]; rw [if_pos c2]; rw [if_neg c3]) rfl dX7_wrong_63
    · skip
      refine lv_iconst (v := 1) hx hb dX7_wrong_27 (by decide) ?_
      exact r_ret X hw hk hret rfl (by unfold sp_X7_wrong; rw [if_neg c1]; rw [if_neg c2]) rfl dX7_wrong_28

noncomputable def sp_X7_rolls (s : Row) (r : Nat) : Int32 := (if (sp_X7_wrong s r) = 0 then (if (sp_X7_number s r) = (sp_X7_last s r) then 1 else 0) else 0)
theorem bo_X7_rolls (s : Row) (r : Nat) : sp_X7_rolls s r = 0 ∨ sp_X7_rolls s r = 1 := by
  unfold sp_X7_rolls
  (repeat' split) <;> first | exact Or.inl rfl | exact Or.inr rfl
set_option maxRecDepth 100000 in
set_option maxHeartbeats 4000000 in
theorem c_X7_rolls (l : Launch) (D : va_G) (sz : Nat) (L : Nat → Nat) (s : Row) (o1 : Row) (o2 : Int32) (o3 : Int32) (o4 : Row) (o5 : Row) (o6 : Row) (o7 : Int32) (o8 : Row) (o9 : Int32) (o10 : Row) (o11 : Int32) (o12 : Int32) (o13 : Int32) (o14 : Int32) (o15 : Int32) (o16 : Int32) (o17 : Row) (o18 : Row) (r : Nat) (hr : r < 7) : MI l yX7_rolls cX7_rolls 2 (some .boolean) 6 129 D sz [.ref (L 0), .int (nI r)] (mW D L s o1 o2 o3 o4 o5 o6 o7 o8 o9 o10 o11 o12 o13 o14 o15 o16 o17 o18) (sp_X7_rolls s r) (mW D L s o1 o2 o3 o4 o5 o6 o7 o8 o9 o10 o11 o12 o13 o14 o15 o16 o17 o18) := by
  refine r_enterI (by decide) (Nat.le_of_ble_eq_true rfl) ?_
  intro p e st m args below meth c ls A X hret hk hw hl
  have X : CX D p m c cX7_rolls 2 st args RX7 A := X
  have hx := X.1.1
  have hb := X.1.2.1
  have hown := X.1.2.2.2.1
  have hts := X.1.2.2.2.2
  have hl : lv_has ls 2 [(0, .ref (L 0)), (1, .int (nI r))] := hl
  refine lv_aload_n hx hb dX7_rolls_0 rfl (lv_at hl 0 rfl) ?_
  refine lv_iload_n hx hb dX7_rolls_1 rfl (lv_at hl 1 rfl) ?_
  refine r_callV X hw (ws' := mW D L s o1 o2 o3 o4 o5 o6 o7 o8 o9 o10 o11 o12 o13 o14 o15 o16 o17 o18) (As := [.int (nI r)]) (rest := []) lk_X7_78 (c_X7_wrong l D _ L s o1 o2 o3 o4 o5 o6 o7 o8 o9 o10 o11 o12 o13 o14 o15 o16 o17 o18 r (by omega)) Foc.all (m_at 0 rfl) rfl hl.1 (Nat.le_of_ble_eq_true rfl) ⟨Nat.le_of_ble_eq_true rfl, Nat.le_of_ble_eq_true rfl⟩ rfl dX7_rolls_2 ⟨Nat.le_refl _, Nat.le_refl _⟩ (fun H locs hw => ?_)
  refine lv_if_ne (tgt := 25) hx hb dX7_rolls_5 (by decide) (fun c1 => ?_) (fun c1 => ?_)
  · skip
    refine lv_iconst (v := 0) hx hb dX7_rolls_25 (by decide) ?_
    exact r_ret X hw hk hret rfl (by unfold sp_X7_rolls; rw [if_neg c1]) rfl dX7_rolls_26
  · skip
    refine lv_aload_n hx hb dX7_rolls_8 rfl (lv_at hl 0 rfl) ?_
    refine lv_iload_n hx hb dX7_rolls_9 rfl (lv_at hl 1 rfl) ?_
    refine r_callV X hw (ws' := mW D L s o1 o2 o3 o4 o5 o6 o7 o8 o9 o10 o11 o12 o13 o14 o15 o16 o17 o18) (As := [.int (nI r)]) (rest := []) lk_X7_49 (c_X7_number l D _ L s o1 o2 o3 o4 o5 o6 o7 o8 o9 o10 o11 o12 o13 o14 o15 o16 o17 o18 r (by omega)) Foc.all (m_at 0 rfl) rfl hl.1 (Nat.le_of_ble_eq_true rfl) ⟨Nat.le_of_ble_eq_true rfl, Nat.le_of_ble_eq_true rfl⟩ rfl dX7_rolls_10 ⟨Nat.le_refl _, Nat.le_refl _⟩ (fun H locs hw => ?_)
    refine lv_aload_n hx hb dX7_rolls_13 rfl (lv_at hl 0 rfl) ?_
    refine lv_iload_n hx hb dX7_rolls_14 rfl (lv_at hl 1 rfl) ?_
    refine r_callV X hw (ws' := mW D L s o1 o2 o3 o4 o5 o6 o7 o8 o9 o10 o11 o12 o13 o14 o15 o16 o17 o18) (As := [.int (nI r)]) (rest := [.int (sp_X7_number s r)]) lk_X7_60 (c_X7_last l D _ L s o1 o2 o3 o4 o5 o6 o7 o8 o9 o10 o11 o12 o13 o14 o15 o16 o17 o18 r (by omega)) Foc.all (m_at 0 rfl) rfl hl.1 (Nat.le_of_ble_eq_true rfl) ⟨Nat.le_of_ble_eq_true rfl, Nat.le_of_ble_eq_true rfl⟩ rfl dX7_rolls_15 ⟨Nat.le_refl _, Nat.le_refl _⟩ (fun H locs hw => ?_)
    refine lv_icmp_ne (tgt := 25) hx hb dX7_rolls_18 (by decide) (fun c2 => ?_) (fun c2 => ?_)
    · skip
      refine lv_iconst (v := 0) hx hb dX7_rolls_25 (by decide) ?_
      exact r_ret X hw hk hret rfl (by unfold sp_X7_rolls; rw [if_pos c1]; rw [if_neg c2]) rfl dX7_rolls_26
    · skip
      refine lv_iconst (v := 1) hx hb dX7_rolls_21 (by decide) ?_
      refine lv_goto (tgt := 26) hx hb dX7_rolls_22 (by decide) ?_
      exact r_ret X hw hk hret rfl (by unfold sp_X7_rolls; rw [if_pos c1]; rw [if_pos c2]) rfl dX7_rolls_26

noncomputable def sp_X7_stepped (s : Row) (r : Nat) : Int32 := (if (sp_X7_rolls s r) = 0 then (if 9 ≤ ((s (0 + r)) - (s (0 + r)) / 16 * 16) then (if ((s (0 + r)) / 16) = 15 then 0 else 16 * (((s (0 + r)) / 16) + 1)) else (s (0 + r)) + 1) else sp_X7_first (nI r))
set_option maxRecDepth 100000 in
set_option maxHeartbeats 4000000 in
theorem c_X7_stepped (l : Launch) (D : va_G) (sz : Nat) (L : Nat → Nat) (s : Row) (o1 : Row) (o2 : Int32) (o3 : Int32) (o4 : Row) (o5 : Row) (o6 : Row) (o7 : Int32) (o8 : Row) (o9 : Int32) (o10 : Row) (o11 : Int32) (o12 : Int32) (o13 : Int32) (o14 : Int32) (o15 : Int32) (o16 : Int32) (o17 : Row) (o18 : Row) (r : Nat) (hr : r < 7) : MI l yX7_stepped cX7_stepped 3 (some .int) 7 150 D sz [.ref (L 0), .int (nI r)] (mW D L s o1 o2 o3 o4 o5 o6 o7 o8 o9 o10 o11 o12 o13 o14 o15 o16 o17 o18) (sp_X7_stepped s r) (mW D L s o1 o2 o3 o4 o5 o6 o7 o8 o9 o10 o11 o12 o13 o14 o15 o16 o17 o18) := by
  refine r_enterI (by decide) (Nat.le_of_ble_eq_true rfl) ?_
  intro p e st m args below meth c ls A X hret hk hw hl
  have X : CX D p m c cX7_stepped 3 st args RX7 A := X
  have hx := X.1.1
  have hb := X.1.2.1
  have hown := X.1.2.2.2.1
  have hts := X.1.2.2.2.2
  have hl : lv_has ls 3 [(0, .ref (L 0)), (1, .int (nI r))] := hl
  refine lv_aload_n hx hb dX7_stepped_0 rfl (lv_at hl 0 rfl) ?_
  refine r_get X hw (v := .ref (L 1)) fl_X7_7 (m_at 0 rfl) rfl dX7_stepped_1 ?_
  refine lv_iconst (v := 0) hx hb dX7_stepped_4 (by decide) ?_
  refine lv_iload_n hx hb dX7_stepped_5 rfl (lv_at hl 1 rfl) ?_
  refine r_addN hx hb 0 r rfl rfl dX7_stepped_6 ?_
  refine r_iald X hw (f := s) (0 + r) (m_at 1 rfl) rfl (by omega) (by decide) dX7_stepped_7 ?_
  refine lv_istore_n (lv' := [(2, .int (s (0 + r))), (0, .ref (L 0)), (1, .int (nI r))]) hx hb dX7_stepped_8 rfl hl (by decide) rfl (fun ls hl => ?_)
  refine lv_aload_n hx hb dX7_stepped_9 rfl (lv_at hl 1 rfl) ?_
  refine lv_iload_n hx hb dX7_stepped_10 rfl (lv_at hl 2 rfl) ?_
  refine r_callV X hw (ws' := mW D L s o1 o2 o3 o4 o5 o6 o7 o8 o9 o10 o11 o12 o13 o14 o15 o16 o17 o18) (As := [.int (nI r)]) (rest := []) lk_X7_74 (c_X7_rolls l D _ L s o1 o2 o3 o4 o5 o6 o7 o8 o9 o10 o11 o12 o13 o14 o15 o16 o17 o18 r (by omega)) Foc.all (m_at 0 rfl) rfl hl.1 (Nat.le_of_ble_eq_true rfl) ⟨Nat.le_of_ble_eq_true rfl, Nat.le_of_ble_eq_true rfl⟩ rfl dX7_stepped_11 ⟨Nat.le_refl _, Nat.le_refl _⟩ (fun H locs hw => ?_)
  refine lv_if_eq (tgt := 22) hx hb dX7_stepped_14 (by decide) (fun c1 => ?_) (fun c1 => ?_)
  · skip
    refine lv_iload_n hx hb dX7_stepped_22 rfl (lv_at hl 0 rfl) ?_
    refine lv_bipush (v := 16) hx hb dX7_stepped_23 (by decide) ?_
    refine lv_irem hx hb dX7_stepped_25 (by decide) ?_
    refine lv_bipush (v := 9) hx hb dX7_stepped_26 (by decide) ?_
    refine lv_icmp_ge (tgt := 35) hx hb dX7_stepped_28 (by decide) (fun c2 => ?_) (fun c2 => ?_)
    · skip
      refine lv_iload_n hx hb dX7_stepped_35 rfl (lv_at hl 0 rfl) ?_
      refine lv_bipush (v := 16) hx hb dX7_stepped_36 (by decide) ?_
      refine lv_idiv hx hb dX7_stepped_38 (by decide) ?_
      refine lv_bipush (v := 15) hx hb dX7_stepped_39 (by decide) ?_
      refine lv_icmp_ne (tgt := 48) hx hb dX7_stepped_41 (by decide) (fun c3 => ?_) (fun c3 => ?_)
      · skip
        refine lv_bipush (v := 16) hx hb dX7_stepped_48 (by decide) ?_
        refine lv_iload_n hx hb dX7_stepped_50 rfl (lv_at hl 0 rfl) ?_
        refine lv_bipush (v := 16) hx hb dX7_stepped_51 (by decide) ?_
        refine lv_idiv hx hb dX7_stepped_53 (by decide) ?_
        refine lv_iconst (v := 1) hx hb dX7_stepped_54 (by decide) ?_
        refine lv_iadd hx hb dX7_stepped_55 ?_
        refine lv_imul hx hb dX7_stepped_56 ?_
        exact r_ret X hw hk hret rfl (by unfold sp_X7_stepped; rw [if_pos c1]; rw [if_pos c2]; rw [if_neg c3]) rfl dX7_stepped_57
      · skip
        refine lv_iconst (v := 0) hx hb dX7_stepped_44 (by decide) ?_
        refine lv_goto (tgt := 57) hx hb dX7_stepped_45 (by decide) ?_
        exact r_ret X hw hk hret rfl (by unfold sp_X7_stepped; rw [if_pos c1]; rw [if_pos c2]; rw [if_pos c3]) rfl dX7_stepped_57
    · skip
      refine lv_iload_n hx hb dX7_stepped_31 rfl (lv_at hl 0 rfl) ?_
      refine lv_iconst (v := 1) hx hb dX7_stepped_32 (by decide) ?_
      refine lv_iadd hx hb dX7_stepped_33 ?_
      exact r_ret X hw hk hret rfl (by unfold sp_X7_stepped; rw [if_pos c1]; rw [if_neg c2]) rfl dX7_stepped_34
  · skip
    refine lv_iload_n hx hb dX7_stepped_17 rfl (lv_at hl 2 rfl) ?_
    refine r_callS X hw (ws' := mW D L s o1 o2 o3 o4 o5 o6 o7 o8 o9 o10 o11 o12 o13 o14 o15 o16 o17 o18) (As := [.int (nI r)]) (rest := []) lk_X7_57 (c_X7_first l D _ (nI r)) Foc.nil rfl hl.1 (Nat.le_of_ble_eq_true rfl) ⟨Nat.le_of_ble_eq_true rfl, Nat.le_of_ble_eq_true rfl⟩ rfl dX7_stepped_18 ⟨Nat.le_refl _, Nat.le_refl _⟩ (fun H locs hw => ?_)
    exact r_ret X hw hk hret rfl (by unfold sp_X7_stepped; rw [if_neg c1]) rfl dX7_stepped_21
