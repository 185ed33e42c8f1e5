noncomputable def sp_X6_isWithin (a0 a1 a2 : Int32) : Int32 := (if a0 < a1 then 0 else (if a2 < a0 then 0 else 1))
theorem bo_X6_isWithin (a0 a1 a2 : Int32) : sp_X6_isWithin a0 a1 a2 = 0 ∨ sp_X6_isWithin a0 a1 a2 = 1 := by
  unfold sp_X6_isWithin
  (repeat' split) <;> first | exact Or.inl rfl | exact Or.inr rfl
set_option maxRecDepth 100000 in
set_option maxHeartbeats 4000000 in
theorem c_X6_isWithin (l : Launch) (D : va_G) (sz : Nat) (a0 a1 a2 : Int32) : MI l yX6_isWithin cX6_isWithin 3 (some .boolean) 0 0 D sz [.int a0, .int a1, .int a2] [] (sp_X6_isWithin a0 a1 a2) ([]) := by
  refine r_enterI (by decide) (Nat.le_of_ble_eq_true rfl) ?_
  intro p e st m args below meth c ls A X hret hk hw hl
  have X : CX D p m c cX6_isWithin 3 st args RX6 A := X
  have hx := X.1.1
  have hb := X.1.2.1
  have hown := X.1.2.2.2.1
  have hts := X.1.2.2.2.2
  have hl : lv_has ls 3 [(0, .int a0), (1, .int a1), (2, .int a2)] := hl
  refine lv_iload_n hx hb dX6_isWithin_0 rfl (lv_at hl 0 rfl) ?_
  refine lv_iload_n hx hb dX6_isWithin_1 rfl (lv_at hl 1 rfl) ?_
  refine lv_icmp_lt (tgt := 14) hx hb dX6_isWithin_2 (by decide) (fun c1 => ?_) (fun c1 => ?_)
  · skip
    refine lv_iconst (v := 0) hx hb dX6_isWithin_14 (by decide) ?_
    exact r_ret X hw hk hret rfl (by unfold sp_X6_isWithin; rw [if_pos c1]) rfl dX6_isWithin_15
  · skip
    refine lv_iload_n hx hb dX6_isWithin_5 rfl (lv_at hl 0 rfl) ?_
    refine lv_iload_n hx hb dX6_isWithin_6 rfl (lv_at hl 2 rfl) ?_
    refine lv_icmp_gt (tgt := 14) hx hb dX6_isWithin_7 (by decide) (fun c2 => ?_) (fun c2 => ?_)
    · skip
      refine lv_iconst (v := 0) hx hb dX6_isWithin_14 (by decide) ?_
      exact r_ret X hw hk hret rfl (by unfold sp_X6_isWithin; rw [if_neg c1]; rw [if_pos c2]) rfl dX6_isWithin_15
    · skip
      refine lv_iconst (v := 1) hx hb dX6_isWithin_10 (by decide) ?_
      refine lv_goto (tgt := 15) hx hb dX6_isWithin_11 (by decide) ?_
      exact r_ret X hw hk hret rfl (by unfold sp_X6_isWithin; rw [if_neg c1]; rw [if_neg c2]) rfl dX6_isWithin_15

noncomputable def sp_X6_bitOf (a0 a1 : Int32) : Int32 := (a0 >>> (a1 &&& 31)) &&& 1
set_option maxRecDepth 100000 in
set_option maxHeartbeats 4000000 in
theorem c_X6_bitOf (l : Launch) (D : va_G) (sz : Nat) (a0 a1 : Int32) : MI l yX6_bitOf cX6_bitOf 2 (some .int) 0 0 D sz [.int a0, .int a1] [] (sp_X6_bitOf a0 a1) ([]) := by
  refine r_enterI (by decide) (Nat.le_of_ble_eq_true rfl) ?_
  intro p e st m args below meth c ls A X hret hk hw hl
  have X : CX D p m c cX6_bitOf 2 st args RX6 A := X
  have hx := X.1.1
  have hb := X.1.2.1
  have hown := X.1.2.2.2.1
  have hts := X.1.2.2.2.2
  have hl : lv_has ls 2 [(0, .int a0), (1, .int a1)] := hl
  refine lv_iload_n hx hb dX6_bitOf_0 rfl (lv_at hl 0 rfl) ?_
  refine lv_iload_n hx hb dX6_bitOf_1 rfl (lv_at hl 1 rfl) ?_
  refine lv_ishr hx hb dX6_bitOf_2 ?_
  refine lv_iconst (v := 1) hx hb dX6_bitOf_3 (by decide) ?_
  refine lv_iand hx hb dX6_bitOf_4 ?_
  exact r_ret X hw hk hret rfl (rfl) rfl dX6_bitOf_5

noncomputable def sp_X6_numberOf (a0 : Int32) : Int32 := (10 * (a0 >>> ((4 : Int32) &&& 31))) + (a0 &&& 15)
set_option maxRecDepth 100000 in
set_option maxHeartbeats 4000000 in
theorem c_X6_numberOf (l : Launch) (D : va_G) (sz : Nat) (a0 : Int32) : MI l yX6_numberOf cX6_numberOf 1 (some .int) 0 0 D sz [.int a0] [] (sp_X6_numberOf a0) ([]) := by
  refine r_enterI (by decide) (Nat.le_of_ble_eq_true rfl) ?_
  intro p e st m args below meth c ls A X hret hk hw hl
  have X : CX D p m c cX6_numberOf 1 st args RX6 A := X
  have hx := X.1.1
  have hb := X.1.2.1
  have hown := X.1.2.2.2.1
  have hts := X.1.2.2.2.2
  have hl : lv_has ls 1 [(0, .int a0)] := hl
  refine lv_bipush (v := 10) hx hb dX6_numberOf_0 (by decide) ?_
  refine lv_iload_n hx hb dX6_numberOf_2 rfl (lv_at hl 0 rfl) ?_
  refine lv_iconst (v := 4) hx hb dX6_numberOf_3 (by decide) ?_
  refine lv_ishr hx hb dX6_numberOf_4 ?_
  refine lv_imul hx hb dX6_numberOf_5 ?_
  refine lv_iload_n hx hb dX6_numberOf_6 rfl (lv_at hl 0 rfl) ?_
  refine lv_bipush (v := 15) hx hb dX6_numberOf_7 (by decide) ?_
  refine lv_iand hx hb dX6_numberOf_9 ?_
  refine lv_iadd hx hb dX6_numberOf_10 ?_
  exact r_ret X hw hk hret rfl (rfl) rfl dX6_numberOf_11

noncomputable def sp_X6_isRegister (a0 : Int32) : Int32 := sp_X6_isWithin a0 0 6
theorem bo_X6_isRegister (a0 : Int32) : sp_X6_isRegister a0 = 0 ∨ sp_X6_isRegister a0 = 1 := by
  unfold sp_X6_isRegister
  first | exact Or.inl rfl | exact Or.inr rfl | exact bo_X6_isWithin a0 0 6
set_option maxRecDepth 100000 in
set_option maxHeartbeats 4000000 in
theorem c_X6_isRegister (l : Launch) (D : va_G) (sz : Nat) (a0 : Int32) : MI l yX6_isRegister cX6_isRegister 1 (some .boolean) 1 22 D sz [.int a0] [] (sp_X6_isRegister a0) ([]) := by
  refine r_enterI (by decide) (Nat.le_of_ble_eq_true rfl) ?_
  intro p e st m args below meth c ls A X hret hk hw hl
  have X : CX D p m c cX6_isRegister 1 st args RX6 A := X
  have hx := X.1.1
  have hb := X.1.2.1
  have hown := X.1.2.2.2.1
  have hts := X.1.2.2.2.2
  have hl : lv_has ls 1 [(0, .int a0)] := hl
  refine lv_iload_n hx hb dX6_isRegister_0 rfl (lv_at hl 0 rfl) ?_
  refine lv_iconst (v := 0) hx hb dX6_isRegister_1 (by decide) ?_
  refine lv_bipush (v := 6) hx hb dX6_isRegister_2 (by decide) ?_
  refine r_callS X hw (ws' := []) (As := [.int a0, .int 0, .int 6]) (rest := []) lk_X6_95 (c_X6_isWithin l D _ a0 0 6) Foc.nil rfl hl.1 (Nat.le_of_ble_eq_true rfl) ⟨Nat.le_of_ble_eq_true rfl, Nat.le_of_ble_eq_true rfl⟩ rfl dX6_isRegister_4 ⟨Nat.le_refl _, Nat.le_refl _⟩ (fun H locs hw => ?_)
  exact r_ret X hw hk hret (nar_b (bo_X6_isWithin a0 0 6)) (rfl) rfl dX6_isRegister_7

noncomputable def sp_X6_isAlarm (a0 : Int32) : Int32 := sp_X6_isWithin a0 0 2
theorem bo_X6_isAlarm (a0 : Int32) : sp_X6_isAlarm a0 = 0 ∨ sp_X6_isAlarm a0 = 1 := by
  unfold sp_X6_isAlarm
  first | exact Or.inl rfl | exact Or.inr rfl | exact bo_X6_isWithin a0 0 2
set_option maxRecDepth 100000 in
set_option maxHeartbeats 4000000 in
theorem c_X6_isAlarm (l : Launch) (D : va_G) (sz : Nat) (a0 : Int32) : MI l yX6_isAlarm cX6_isAlarm 1 (some .boolean) 1 22 D sz [.int a0] [] (sp_X6_isAlarm a0) ([]) := by
  refine r_enterI (by decide) (Nat.le_of_ble_eq_true rfl) ?_
  intro p e st m args below meth c ls A X hret hk hw hl
  have X : CX D p m c cX6_isAlarm 1 st args RX6 A := X
  have hx := X.1.1
  have hb := X.1.2.1
  have hown := X.1.2.2.2.1
  have hts := X.1.2.2.2.2
  have hl : lv_has ls 1 [(0, .int a0)] := hl
  refine lv_iload_n hx hb dX6_isAlarm_0 rfl (lv_at hl 0 rfl) ?_
  refine lv_iconst (v := 0) hx hb dX6_isAlarm_1 (by decide) ?_
  refine lv_iconst (v := 2) hx hb dX6_isAlarm_2 (by decide) ?_
  refine r_callS X hw (ws' := []) (As := [.int a0, .int 0, .int 2]) (rest := []) lk_X6_95 (c_X6_isWithin l D _ a0 0 2) Foc.nil rfl hl.1 (Nat.le_of_ble_eq_true rfl) ⟨Nat.le_of_ble_eq_true rfl, Nat.le_of_ble_eq_true rfl⟩ rfl dX6_isAlarm_3 ⟨Nat.le_refl _, Nat.le_refl _⟩ (fun H locs hw => ?_)
  exact r_ret X hw hk hret (nar_b (bo_X6_isWithin a0 0 2)) (rfl) rfl dX6_isAlarm_6

noncomputable def sp_X6_isMode (a0 : Int32) : Int32 := sp_X6_isWithin a0 0 2
theorem bo_X6_isMode (a0 : Int32) : sp_X6_isMode a0 = 0 ∨ sp_X6_isMode a0 = 1 := by
  unfold sp_X6_isMode
  first | exact Or.inl rfl | exact Or.inr rfl | exact bo_X6_isWithin a0 0 2
set_option maxRecDepth 100000 in
set_option maxHeartbeats 4000000 in
theorem c_X6_isMode (l : Launch) (D : va_G) (sz : Nat) (a0 : Int32) : MI l yX6_isMode cX6_isMode 1 (some .boolean) 1 22 D sz [.int a0] [] (sp_X6_isMode a0) ([]) := by
  refine r_enterI (by decide) (Nat.le_of_ble_eq_true rfl) ?_
  intro p e st m args below meth c ls A X hret hk hw hl
  have X : CX D p m c cX6_isMode 1 st args RX6 A := X
  have hx := X.1.1
  have hb := X.1.2.1
  have hown := X.1.2.2.2.1
  have hts := X.1.2.2.2.2
  have hl : lv_has ls 1 [(0, .int a0)] := hl
  refine lv_iload_n hx hb dX6_isMode_0 rfl (lv_at hl 0 rfl) ?_
  refine lv_iconst (v := 0) hx hb dX6_isMode_1 (by decide) ?_
  refine lv_iconst (v := 2) hx hb dX6_isMode_2 (by decide) ?_
  refine r_callS X hw (ws' := []) (As := [.int a0, .int 0, .int 2]) (rest := []) lk_X6_95 (c_X6_isWithin l D _ a0 0 2) Foc.nil rfl hl.1 (Nat.le_of_ble_eq_true rfl) ⟨Nat.le_of_ble_eq_true rfl, Nat.le_of_ble_eq_true rfl⟩ rfl dX6_isMode_3 ⟨Nat.le_refl _, Nat.le_refl _⟩ (fun H locs hw => ?_)
  exact r_ret X hw hk hret (nar_b (bo_X6_isWithin a0 0 2)) (rfl) rfl dX6_isMode_6

noncomputable def sp_X6_mayPass (a0 : Int32) : Int32 := sp_X6_isWithin a0 1 9999
theorem bo_X6_mayPass (a0 : Int32) : sp_X6_mayPass a0 = 0 ∨ sp_X6_mayPass a0 = 1 := by
  unfold sp_X6_mayPass
  first | exact Or.inl rfl | exact Or.inr rfl | exact bo_X6_isWithin a0 1 9999
set_option maxRecDepth 100000 in
set_option maxHeartbeats 4000000 in
theorem c_X6_mayPass (l : Launch) (D : va_G) (sz : Nat) (a0 : Int32) : MI l yX6_mayPass cX6_mayPass 1 (some .boolean) 1 22 D sz [.int a0] [] (sp_X6_mayPass a0) ([]) := by
  refine r_enterI (by decide) (Nat.le_of_ble_eq_true rfl) ?_
  intro p e st m args below meth c ls A X hret hk hw hl
  have X : CX D p m c cX6_mayPass 1 st args RX6 A := X
  have hx := X.1.1
  have hb := X.1.2.1
  have hown := X.1.2.2.2.1
  have hts := X.1.2.2.2.2
  have hl : lv_has ls 1 [(0, .int a0)] := hl
  refine lv_iload_n hx hb dX6_mayPass_0 rfl (lv_at hl 0 rfl) ?_
  refine lv_iconst (v := 1) hx hb dX6_mayPass_1 (by decide) ?_
  refine lv_sipush (v := 9999) hx hb dX6_mayPass_2 (by decide) ?_
  refine r_callS X hw (ws' := []) (As := [.int a0, .int 1, .int 9999]) (rest := []) lk_X6_95 (c_X6_isWithin l D _ a0 1 9999) Foc.nil rfl hl.1 (Nat.le_of_ble_eq_true rfl) ⟨Nat.le_of_ble_eq_true rfl, Nat.le_of_ble_eq_true rfl⟩ rfl dX6_mayPass_5 ⟨Nat.le_refl _, Nat.le_refl _⟩ (fun H locs hw => ?_)
  exact r_ret X hw hk hret (nar_b (bo_X6_isWithin a0 1 9999)) (rfl) rfl dX6_mayPass_8

noncomputable def sp_X6_isCell (a0 a1 : Int32) : Int32 := (if (sp_X6_isRegister a0) = 0 then 0 else (if (sp_X6_isWithin a1 0 7) = 0 then 0 else 1))
theorem bo_X6_isCell (a0 a1 : Int32) : sp_X6_isCell a0 a1 = 0 ∨ sp_X6_isCell a0 a1 = 1 := by
  unfold sp_X6_isCell
  (repeat' split) <;> first | exact Or.inl rfl | exact Or.inr rfl
set_option maxRecDepth 100000 in
set_option maxHeartbeats 4000000 in
theorem c_X6_isCell (l : Launch) (D : va_G) (sz : Nat) (a0 a1 : Int32) : MI l yX6_isCell cX6_isCell 2 (some .boolean) 2 42 D sz [.int a0, .int a1] [] (sp_X6_isCell a0 a1) ([]) := by
  refine r_enterI (by decide) (Nat.le_of_ble_eq_true rfl) ?_
  intro p e st m args below meth c ls A X hret hk hw hl
  have X : CX D p m c cX6_isCell 2 st args RX6 A := X
  have hx := X.1.1
  have hb := X.1.2.1
  have hown := X.1.2.2.2.1
  have hts := X.1.2.2.2.2
  have hl : lv_has ls 2 [(0, .int a0), (1, .int a1)] := hl
  refine lv_iload_n hx hb dX6_isCell_0 rfl (lv_at hl 0 rfl) ?_
  refine r_callS X hw (ws' := []) (As := [.int a0]) (rest := []) lk_X6_53 (c_X6_isRegister l D _ a0) Foc.nil rfl hl.1 (Nat.le_of_ble_eq_true rfl) ⟨Nat.le_of_ble_eq_true rfl, Nat.le_of_ble_eq_true rfl⟩ rfl dX6_isCell_1 ⟨Nat.le_refl _, Nat.le_refl _⟩ (fun H locs hw => ?_)
  refine lv_if_eq (tgt := 21) hx hb dX6_isCell_4 (by decide) (fun c1 => ?_) (fun c1 => ?_)
  · skip
    refine lv_iconst (v := 0) hx hb dX6_isCell_21 (by decide) ?_
    exact r_ret X hw hk hret rfl (by unfold sp_X6_isCell; rw [if_pos c1]) rfl dX6_isCell_22
  · skip
    refine lv_iload_n hx hb dX6_isCell_7 rfl (lv_at hl 1 rfl) ?_
    refine lv_iconst (v := 0) hx hb dX6_isCell_8 (by decide) ?_
    refine lv_bipush (v := 7) hx hb dX6_isCell_9 (by decide) ?_
    refine r_callS X hw (ws' := []) (As := [.int a1, .int 0, .int 7]) (rest := []) lk_X6_95 (c_X6_isWithin l D _ a1 0 7) Foc.nil rfl hl.1 (Nat.le_of_ble_eq_true rfl) ⟨Nat.le_of_ble_eq_true rfl, Nat.le_of_ble_eq_true rfl⟩ rfl dX6_isCell_11 ⟨Nat.le_refl _, Nat.le_refl _⟩ (fun H locs hw => ?_)
    refine lv_if_eq (tgt := 21) hx hb dX6_isCell_14 (by decide) (fun c2 => ?_) (fun c2 => ?_)
    · skip
      refine lv_iconst (v := 0) hx hb dX6_isCell_21 (by decide) ?_
      exact r_ret X hw hk hret rfl (by unfold sp_X6_isCell; rw [if_neg c1]; rw [if_pos c2]) rfl dX6_isCell_22
    · skip
      refine lv_iconst (v := 1) hx hb dX6_isCell_17 (by decide) ?_
      refine lv_goto (tgt := 22) hx hb dX6_isCell_18 (by decide) ?_
      exact r_ret X hw hk hret rfl (by unfold sp_X6_isCell; rw [if_neg c1]; rw [if_neg c2]) rfl dX6_isCell_22

noncomputable def sp_X6_mayWrite (a0 a1 : Int32) : Int32 := (if (sp_X6_isRegister a0) = 0 then 0 else (if (sp_X6_isWithin a1 0 255) = 0 then 0 else 1))
theorem bo_X6_mayWrite (a0 a1 : Int32) : sp_X6_mayWrite a0 a1 = 0 ∨ sp_X6_mayWrite a0 a1 = 1 := by
  unfold sp_X6_mayWrite
  (repeat' split) <;> first | exact Or.inl rfl | exact Or.inr rfl
set_option maxRecDepth 100000 in
set_option maxHeartbeats 4000000 in
theorem c_X6_mayWrite (l : Launch) (D : va_G) (sz : Nat) (a0 a1 : Int32) : MI l yX6_mayWrite cX6_mayWrite 2 (some .boolean) 2 42 D sz [.int a0, .int a1] [] (sp_X6_mayWrite a0 a1) ([]) := by
  refine r_enterI (by decide) (Nat.le_of_ble_eq_true rfl) ?_
  intro p e st m args below meth c ls A X hret hk hw hl
  have X : CX D p m c cX6_mayWrite 2 st args RX6 A := X
  have hx := X.1.1
  have hb := X.1.2.1
  have hown := X.1.2.2.2.1
  have hts := X.1.2.2.2.2
  have hl : lv_has ls 2 [(0, .int a0), (1, .int a1)] := hl
  refine lv_iload_n hx hb dX6_mayWrite_0 rfl (lv_at hl 0 rfl) ?_
  refine r_callS X hw (ws' := []) (As := [.int a0]) (rest := []) lk_X6_53 (c_X6_isRegister l D _ a0) Foc.nil rfl hl.1 (Nat.le_of_ble_eq_true rfl) ⟨Nat.le_of_ble_eq_true rfl, Nat.le_of_ble_eq_true rfl⟩ rfl dX6_mayWrite_1 ⟨Nat.le_refl _, Nat.le_refl _⟩ (fun H locs hw => ?_)
  refine lv_if_eq (tgt := 22) hx hb dX6_mayWrite_4 (by decide) (fun c1 => ?_) (fun c1 => ?_)
  · skip
    refine lv_iconst (v := 0) hx hb dX6_mayWrite_22 (by decide) ?_
    exact r_ret X hw hk hret rfl (by unfold sp_X6_mayWrite; rw [if_pos c1]) rfl dX6_mayWrite_23
  · skip
    refine lv_iload_n hx hb dX6_mayWrite_7 rfl (lv_at hl 1 rfl) ?_
    refine lv_iconst (v := 0) hx hb dX6_mayWrite_8 (by decide) ?_
    refine lv_sipush (v := 255) hx hb dX6_mayWrite_9 (by decide) ?_
    refine r_callS X hw (ws' := []) (As := [.int a1, .int 0, .int 255]) (rest := []) lk_X6_95 (c_X6_isWithin l D _ a1 0 255) Foc.nil rfl hl.1 (Nat.le_of_ble_eq_true rfl) ⟨Nat.le_of_ble_eq_true rfl, Nat.le_of_ble_eq_true rfl⟩ rfl dX6_mayWrite_12 ⟨Nat.le_refl _, Nat.le_refl _⟩ (fun H locs hw => ?_)
    refine lv_if_eq (tgt := 22) hx hb dX6_mayWrite_15 (by decide) (fun c2 => ?_) (fun c2 => ?_)
    · skip
      refine lv_iconst (v := 0) hx hb dX6_mayWrite_22 (by decide) ?_
      exact r_ret X hw hk hret rfl (by unfold sp_X6_mayWrite; rw [if_neg c1]; rw [if_pos c2]) rfl dX6_mayWrite_23
    · skip
      refine lv_iconst (v := 1) hx hb dX6_mayWrite_18 (by decide) ?_
      refine lv_goto (tgt := 23) hx hb dX6_mayWrite_19 (by decide) ?_
      exact r_ret X hw hk hret rfl (by unfold sp_X6_mayWrite; rw [if_neg c1]; rw [if_neg c2]) rfl dX6_mayWrite_23

noncomputable def sp_X6_mayChangeAlarm (a0 a1 a2 : Int32) : Int32 := (if (sp_X6_isAlarm a0) = 0 then 0 else (if (sp_X6_isWithin a1 0 4) = 0 then 0 else (if (sp_X6_isWithin a2 0 255) = 0 then 0 else 1)))
theorem bo_X6_mayChangeAlarm (a0 a1 a2 : Int32) : sp_X6_mayChangeAlarm a0 a1 a2 = 0 ∨ sp_X6_mayChangeAlarm a0 a1 a2 = 1 := by
  unfold sp_X6_mayChangeAlarm
  (repeat' split) <;> first | exact Or.inl rfl | exact Or.inr rfl
set_option maxRecDepth 100000 in
set_option maxHeartbeats 4000000 in
theorem c_X6_mayChangeAlarm (l : Launch) (D : va_G) (sz : Nat) (a0 a1 a2 : Int32) : MI l yX6_mayChangeAlarm cX6_mayChangeAlarm 3 (some .boolean) 2 42 D sz [.int a0, .int a1, .int a2] [] (sp_X6_mayChangeAlarm a0 a1 a2) ([]) := by
  refine r_enterI (by decide) (Nat.le_of_ble_eq_true rfl) ?_
  intro p e st m args below meth c ls A X hret hk hw hl
  have X : CX D p m c cX6_mayChangeAlarm 3 st args RX6 A := X
  have hx := X.1.1
  have hb := X.1.2.1
  have hown := X.1.2.2.2.1
  have hts := X.1.2.2.2.2
  have hl : lv_has ls 3 [(0, .int a0), (1, .int a1), (2, .int a2)] := hl
  refine lv_iload_n hx hb dX6_mayChangeAlarm_0 rfl (lv_at hl 0 rfl) ?_
  refine r_callS X hw (ws' := []) (As := [.int a0]) (rest := []) lk_X6_92 (c_X6_isAlarm l D _ a0) Foc.nil rfl hl.1 (Nat.le_of_ble_eq_true rfl) ⟨Nat.le_of_ble_eq_true rfl, Nat.le_of_ble_eq_true rfl⟩ rfl dX6_mayChangeAlarm_1 ⟨Nat.le_refl _, Nat.le_refl _⟩ (fun H locs hw => ?_)
  refine lv_if_eq (tgt := 31) hx hb dX6_mayChangeAlarm_4 (by decide) (fun c1 => ?_) (fun c1 => ?_)
  · skip
    refine lv_iconst (v := 0) hx hb dX6_mayChangeAlarm_31 (by decide) ?_
    exact r_ret X hw hk hret rfl (by unfold sp_X6_mayChangeAlarm; rw [if_pos c1]) rfl dX6_mayChangeAlarm_32
  · skip
    refine lv_iload_n hx hb dX6_mayChangeAlarm_7 rfl (lv_at hl 1 rfl) ?_
    refine lv_iconst (v := 0) hx hb dX6_mayChangeAlarm_8 (by decide) ?_
    refine lv_iconst (v := 4) hx hb dX6_mayChangeAlarm_9 (by decide) ?_
    refine r_callS X hw (ws' := []) (As := [.int a1, .int 0, .int 4]) (rest := []) lk_X6_95 (c_X6_isWithin l D _ a1 0 4) Foc.nil rfl hl.1 (Nat.le_of_ble_eq_true rfl) ⟨Nat.le_of_ble_eq_true rfl, Nat.le_of_ble_eq_true rfl⟩ rfl dX6_mayChangeAlarm_10 ⟨Nat.le_refl _, Nat.le_refl _⟩ (fun H locs hw => ?_)
    refine lv_if_eq (tgt := 31) hx hb dX6_mayChangeAlarm_13 (by decide) (fun c2 => ?_) (fun c2 => ?_)
    · skip
      refine lv_iconst (v := 0) hx hb dX6_mayChangeAlarm_31 (by decide) ?_
      exact r_ret X hw hk hret rfl (by unfold sp_X6_mayChangeAlarm; rw [if_neg c1]; rw [if_pos c2]) rfl dX6_mayChangeAlarm_32
    · skip
      refine lv_iload_n hx hb dX6_mayChangeAlarm_16 rfl (lv_at hl 2 rfl) ?_
      refine lv_iconst (v := 0) hx hb dX6_mayChangeAlarm_17 (by decide) ?_
      refine lv_sipush (v := 255) hx hb dX6_mayChangeAlarm_18 (by decide) ?_
      refine r_callS X hw (ws' := []) (As := [.int a2, .int 0, .int 255]) (rest := []) lk_X6_95 (c_X6_isWithin l D _ a2 0 255) Foc.nil rfl hl.1 (Nat.le_of_ble_eq_true rfl) ⟨Nat.le_of_ble_eq_true rfl, Nat.le_of_ble_eq_true rfl⟩ rfl dX6_mayChangeAlarm_21 ⟨Nat.le_refl _, Nat.le_refl _⟩ (fun H locs hw => ?_)
      refine lv_if_eq (tgt := 31) hx hb dX6_mayChangeAlarm_24 (by decide) (fun c3 => ?_) (fun c3 => ?_)
      · skip
        refine lv_iconst (v := 0) hx hb dX6_mayChangeAlarm_31 (by decide) ?_
        exact r_ret X hw hk hret rfl (by unfold sp_X6_mayChangeAlarm; rw [if_neg c1]; rw [if_neg c2]; rw [if_pos c3]) rfl dX6_mayChangeAlarm_32
      · skip
        refine lv_iconst (v := 1) hx hb dX6_mayChangeAlarm_27 (by decide) ?_
        refine lv_goto (tgt := 32) hx hb dX6_mayChangeAlarm_28 (by decide) ?_
        exact r_ret X hw hk hret rfl (by unfold sp_X6_mayChangeAlarm; rw [if_neg c1]; rw [if_neg c2]; rw [if_neg c3]) rfl dX6_mayChangeAlarm_32

noncomputable def sp_X5_isLeapYear (v : Row) : Int32 := (if 9 < ((v 6) >>> ((4 : Int32) &&& 31)) then 0 else (if 9 < ((v 6) &&& 15) then 0 else (if (((10 * ((v 6) >>> ((4 : Int32) &&& 31))) + ((v 6) &&& 15)) - ((10 * ((v 6) >>> ((4 : Int32) &&& 31))) + ((v 6) &&& 15)) / 4 * 4) = 0 then 1 else 0)))
theorem bo_X5_isLeapYear (v : Row) : sp_X5_isLeapYear v = 0 ∨ sp_X5_isLeapYear v = 1 := by
  unfold sp_X5_isLeapYear
  (repeat' split) <;> first | exact Or.inl rfl | exact Or.inr rfl
set_option maxRecDepth 100000 in
set_option maxHeartbeats 4000000 in
theorem c_X5_isLeapYear (l : Launch) (D : va_G) (sz : Nat) (x0 : Nat) (x1 : Nat) (x2 : Nat) (x3 : Nat) (x4 : Nat) (v : Row) (f : Row) (g : Row) (r : Row) : MI l yX5_isLeapYear cX5_isLeapYear 3 (some .boolean) 0 0 D sz [.ref x0] (regsB D x0 x1 x2 x3 x4 v f g r) (sp_X5_isLeapYear v) (regsB D x0 x1 x2 x3 x4 v f g r) := by
  refine r_enterI (by decide) (Nat.le_of_ble_eq_true rfl) ?_
  intro p e st m args below meth c ls A X hret hk hw hl
  have X : CX D p m c cX5_isLeapYear 3 st args RX5 A := X
  have hx := X.1.1
  have hb := X.1.2.1
  have hown := X.1.2.2.2.1
  have hts := X.1.2.2.2.2
  have hl : lv_has ls 3 [(0, .ref x0)] := hl
  refine lv_aload_n hx hb dX5_isLeapYear_0 rfl (lv_at hl 0 rfl) ?_
  refine r_get X hw (v := .ref x1) fl_X5_9 (m_at 0 rfl) rfl dX5_isLeapYear_1 ?_
  refine lv_bipush (v := 6) hx hb dX5_isLeapYear_4 (by decide) ?_
  refine r_iald X hw (f := v) 6 (m_at 1 rfl) rfl (by decide) (by decide) dX5_isLeapYear_6 ?_
  refine lv_iconst (v := 4) hx hb dX5_isLeapYear_7 (by decide) ?_
  refine lv_ishr hx hb dX5_isLeapYear_8 ?_
  refine lv_istore_n (lv' := [(1, .int ((v 6) >>> ((4 : Int32) &&& 31))), (0, .ref x0)]) hx hb dX5_isLeapYear_9 rfl hl (by decide) rfl (fun ls hl => ?_)
  refine lv_aload_n hx hb dX5_isLeapYear_10 rfl (lv_at hl 1 rfl) ?_
  refine r_get X hw (v := .ref x1) fl_X5_9 (m_at 0 rfl) rfl dX5_isLeapYear_11 ?_
  refine lv_bipush (v := 6) hx hb dX5_isLeapYear_14 (by decide) ?_
  refine r_iald X hw (f := v) 6 (m_at 1 rfl) rfl (by decide) (by decide) dX5_isLeapYear_16 ?_
  refine lv_bipush (v := 15) hx hb dX5_isLeapYear_17 (by decide) ?_
  refine lv_iand hx hb dX5_isLeapYear_19 ?_
  refine lv_istore_n (lv' := [(2, .int ((v 6) &&& 15)), (1, .int ((v 6) >>> ((4 : Int32) &&& 31))), (0, .ref x0)]) hx hb dX5_isLeapYear_20 rfl hl (by decide) rfl (fun ls hl => ?_)
  refine lv_iload_n hx hb dX5_isLeapYear_21 rfl (lv_at hl 1 rfl) ?_
  refine lv_bipush (v := 9) hx hb dX5_isLeapYear_22 (by decide) ?_
  refine lv_icmp_gt (tgt := 48) hx hb dX5_isLeapYear_24 (by decide) (fun c1 => ?_) (fun c1 => ?_)
  · skip
    refine lv_iconst (v := 0) hx hb dX5_isLeapYear_48 (by decide) ?_
    exact r_ret X hw hk hret rfl (by unfold sp_X5_isLeapYear; rw [if_pos c1]) rfl dX5_isLeapYear_49
  · skip
    refine lv_iload_n hx hb dX5_isLeapYear_27 rfl (lv_at hl 0 rfl) ?_
    refine lv_bipush (v := 9) hx hb dX5_isLeapYear_28 (by decide) ?_
    refine lv_icmp_gt (tgt := 48) hx hb dX5_isLeapYear_30 (by decide) (fun c2 => ?_) (fun c2 => ?_)
    · skip
      refine lv_iconst (v := 0) hx hb dX5_isLeapYear_48 (by decide) ?_
      exact r_ret X hw hk hret rfl (by unfold sp_X5_isLeapYear; rw [if_neg c1]; rw [if_pos c2]) rfl dX5_isLeapYear_49
    · skip
      refine lv_bipush (v := 10) hx hb dX5_isLeapYear_33 (by decide) ?_
      refine lv_iload_n hx hb dX5_isLeapYear_35 rfl (lv_at hl 1 rfl) ?_
      refine lv_imul hx hb dX5_isLeapYear_36 ?_
      refine lv_iload_n hx hb dX5_isLeapYear_37 rfl (lv_at hl 0 rfl) ?_
      refine lv_iadd hx hb dX5_isLeapYear_38 ?_
      refine lv_iconst (v := 4) hx hb dX5_isLeapYear_39 (by decide) ?_
      refine lv_irem hx hb dX5_isLeapYear_40 (by decide) ?_
      refine lv_if_ne (tgt := 48) hx hb dX5_isLeapYear_41 (by decide) (fun c3 => ?_) (fun c3 => ?_)
      · skip
        refine lv_iconst (v := 0) hx hb dX5_isLeapYear_48 (by decide) ?_
        exact r_ret X hw hk hret rfl (by unfold sp_X5_isLeapYear; rw [if_neg c1]; rw [if_neg c2]; rw [if_neg c3]) rfl dX5_isLeapYear_49
      · skip
        refine lv_iconst (v := 1) hx hb dX5_isLeapYear_44 (by decide) ?_
        refine lv_goto (tgt := 49) hx hb dX5_isLeapYear_45 (by decide) ?_
        exact r_ret X hw hk hret rfl (by unfold sp_X5_isLeapYear; rw [if_neg c1]; rw [if_neg c2]; rw [if_pos c3]) rfl dX5_isLeapYear_49

noncomputable def sp_X5_lastValue (v : Row) (i : Nat) : Int32 := (if i = 4 then (if (v 5) = 2 then (if (sp_X5_isLeapYear v) = 0 then 40 else 41) else (if (v 5) = 4 then 48 else (if (v 5) = 6 then 48 else (if (v 5) = 9 then 48 else (if (v 5) = 17 then 48 else kf k_last 4))))) else kf k_last i)
set_option maxRecDepth 100000 in
set_option maxHeartbeats 4000000 in
theorem c_X5_lastValue (l : Launch) (D : va_G) (sz : Nat) (x0 : Nat) (x1 : Nat) (x2 : Nat) (x3 : Nat) (x4 : Nat) (v : Row) (f : Row) (g : Row) (r : Row) (i : Nat) (hi : i < 7) : MI l yX5_lastValue cX5_lastValue 2 (some .int) 1 22 D sz [.ref x0, .int (nI i)] (regsB D x0 x1 x2 x3 x4 v f g r) (sp_X5_lastValue v i) (regsB D x0 x1 x2 x3 x4 v f g r) := by
  refine r_enterI (by decide) (Nat.le_of_ble_eq_true rfl) ?_
  intro p e st m args below meth c ls A X hret hk hw hl
  have X : CX D p m c cX5_lastValue 2 st args RX5 A := X
  have hx := X.1.1
  have hb := X.1.2.1
  have hown := X.1.2.2.2.1
  have hts := X.1.2.2.2.2
  have hl : lv_has ls 2 [(0, .ref x0), (1, .int (nI i))] := hl
  refine lv_iload_n hx hb dX5_lastValue_0 rfl (lv_at hl 1 rfl) ?_
  refine lv_iconst (v := 4) hx hb dX5_lastValue_1 (by decide) ?_
  refine r_eqN (tgt := 11) hx hb i 4 rfl rfl (by omega) (by omega) dX5_lastValue_2 (by decide) (fun c1 => ?_) (fun c1 => ?_)
  · skip
    refine lv_aload_n hx hb dX5_lastValue_11 rfl (lv_at hl 0 rfl) ?_
    refine r_get X hw (v := .ref x1) fl_X5_9 (m_at 0 rfl) rfl dX5_lastValue_12 ?_
    refine lv_iconst (v := 5) hx hb dX5_lastValue_15 (by decide) ?_
    refine r_iald X hw (f := v) 5 (m_at 1 rfl) rfl (by decide) (by decide) dX5_lastValue_16 ?_
    by_cases w2 : (v 5) = 2
    · skip
      refine r_lookIn (tgt := 71) hx hb 2 w2 dX5_lastValue_17 (by decide) rfl (by decide) ?_
      refine lv_aload_n hx hb dX5_lastValue_71 rfl (lv_at hl 0 rfl) ?_
      refine r_callV X hw (ws' := regsB D x0 x1 x2 x3 x4 v f g r) (As := []) (rest := []) lk_X5_36 (c_X5_isLeapYear l D _ x0 x1 x2 x3 x4 v f g r) Foc.all (m_at 0 rfl) rfl hl.1 (Nat.le_of_ble_eq_true rfl) ⟨Nat.le_of_ble_eq_true rfl, Nat.le_of_ble_eq_true rfl⟩ rfl dX5_lastValue_72 ⟨Nat.le_refl _, Nat.le_refl _⟩ (fun H locs hw => ?_)
      refine lv_if_eq (tgt := 83) hx hb dX5_lastValue_75 (by decide) (fun c3 => ?_) (fun c3 => ?_)
      · skip
        refine lv_bipush (v := 40) hx hb dX5_lastValue_83 (by decide) ?_
        exact r_ret X hw hk hret rfl (by unfold sp_X5_lastValue; rw [if_pos c1]; rw [if_pos w2]; rw [if_pos c3]) rfl dX5_lastValue_85
      · skip
        refine lv_bipush (v := 41) hx hb dX5_lastValue_78 (by decide) ?_
        refine lv_goto (tgt := 85) hx hb dX5_lastValue_80 (by decide) ?_
        exact r_ret X hw hk hret rfl (by unfold sp_X5_lastValue; rw [if_pos c1]; rw [if_pos w2]; rw [if_neg c3]) rfl dX5_lastValue_85
    · skip
      by_cases w4 : (v 5) = 4
      · skip
        refine r_lookIn (tgt := 68) hx hb 4 w4 dX5_lastValue_17 (by decide) rfl (by decide) ?_
        refine lv_bipush (v := 48) hx hb dX5_lastValue_68 (by decide) ?_
        exact r_ret X hw hk hret rfl (by unfold sp_X5_lastValue; rw [if_pos c1]; rw [if_neg w2]; rw [if_pos w4]) rfl dX5_lastValue_70
      · skip
        by_cases w5 : (v 5) = 6
        · skip
          refine r_lookIn (tgt := 68) hx hb 6 w5 dX5_lastValue_17 (by decide) rfl (by decide) ?_
          refine lv_bipush (v := 48) hx hb dX5_lastValue_68 (by decide) ?_
          exact r_ret X hw hk hret rfl (by unfold sp_X5_lastValue; rw [if_pos c1]; rw [if_neg w2]; rw [if_neg w4]; rw [if_pos w5]) rfl dX5_lastValue_70
        · skip
          by_cases w6 : (v 5) = 9
          · skip
            refine r_lookIn (tgt := 68) hx hb 9 w6 dX5_lastValue_17 (by decide) rfl (by decide) ?_
            refine lv_bipush (v := 48) hx hb dX5_lastValue_68 (by decide) ?_
            exact r_ret X hw hk hret rfl (by unfold sp_X5_lastValue; rw [if_pos c1]; rw [if_neg w2]; rw [if_neg w4]; rw [if_neg w5]; rw [if_pos w6]) rfl dX5_lastValue_70
          · skip
            by_cases w7 : (v 5) = 17
            · skip
              refine r_lookIn (tgt := 68) hx hb 17 w7 dX5_lastValue_17 (by decide) rfl (by decide) ?_
              refine lv_bipush (v := 48) hx hb dX5_lastValue_68 (by decide) ?_
              exact r_ret X hw hk hret rfl (by unfold sp_X5_lastValue; rw [if_pos c1]; rw [if_neg w2]; rw [if_neg w4]; rw [if_neg w5]; rw [if_neg w6]; rw [if_pos w7]) rfl dX5_lastValue_70
            · skip
              refine lv_lookup (tgt := 86) hx hb dX5_lastValue_17 (by decide) (off := 69) (by have g0 := i_ne w2; have g1 := i_ne w4; have g2 := i_ne w5; have g3 := i_ne w6; have g4 := i_ne w7; rw [show (2 : Int32).toInt = 2 from rfl] at g0; rw [show (4 : Int32).toInt = 4 from rfl] at g1; rw [show (6 : Int32).toInt = 6 from rfl] at g2; rw [show (9 : Int32).toInt = 9 from rfl] at g3; rw [show (17 : Int32).toInt = 17 from rfl] at g4; simp [Op.lookupswitch.offset, g0, g1, g2, g3, g4, Ne.symm g0, Ne.symm g1, Ne.symm g2, Ne.symm g3, Ne.symm g4]) (by decide) ?_
              refine r_getsN X hw X.2.2.1.2.1 X.2.2.1.2.2.2.2.2.2.1 dX5_lastValue_86 (fun t8 ht8 => ?_)
              refine lv_iconst (v := 4) hx hb dX5_lastValue_89 (by decide) ?_
              refine r_tiald X hw 4 ht8 rfl (by decide) (by decide) dX5_lastValue_90 ?_
              exact r_ret X hw hk hret rfl (by unfold sp_X5_lastValue; rw [if_pos c1]; rw [if_neg w2]; rw [if_neg w4]; rw [if_neg w5]; rw [if_neg w6]; rw [if_neg w7]) rfl dX5_lastValue_91
  · skip
    refine r_getsN X hw X.2.2.1.2.1 X.2.2.1.2.2.2.2.2.2.1 dX5_lastValue_5 (fun t9 ht9 => ?_)
    refine lv_iload_n hx hb dX5_lastValue_8 rfl (lv_at hl 1 rfl) ?_
    refine r_tiald X hw i ht9 rfl (show i < 7 from by omega) (by decide) dX5_lastValue_9 ?_
    exact r_ret X hw hk hret rfl (by unfold sp_X5_lastValue; rw [if_neg c1]) rfl dX5_lastValue_10

noncomputable def sp_X5_whyWrong (v : Row) (i : Nat) : Int32 := (if 9 < ((v i) >>> ((4 : Int32) &&& 31)) then 1 else (if ((v i) &&& 15) ≤ 9 then (if (kf k_first i) ≤ (v i) then (if (v i) ≤ (sp_X5_lastValue v i) then 0 else 3) else 2) else 1))
set_option maxRecDepth 100000 in
set_option maxHeartbeats 4000000 in
theorem c_X5_whyWrong (l : Launch) (D : va_G) (sz : Nat) (x0 : Nat) (x1 : Nat) (x2 : Nat) (x3 : Nat) (x4 : Nat) (v : Row) (f : Row) (g : Row) (r : Row) (i : Nat) (hi : i < 7) : MI l yX5_whyWrong cX5_whyWrong 3 (some .int) 2 43 D sz [.ref x0, .int (nI i)] (regsB D x0 x1 x2 x3 x4 v f g r) (sp_X5_whyWrong v i) (regsB D x0 x1 x2 x3 x4 v f g r) := by
  refine r_enterI (by decide) (Nat.le_of_ble_eq_true rfl) ?_
  intro p e st m args below meth c ls A X hret hk hw hl
  have X : CX D p m c cX5_whyWrong 3 st args RX5 A := X
  have hx := X.1.1
  have hb := X.1.2.1
  have hown := X.1.2.2.2.1
  have hts := X.1.2.2.2.2
  have hl : lv_has ls 3 [(0, .ref x0), (1, .int (nI i))] := hl
  refine lv_aload_n hx hb dX5_whyWrong_0 rfl (lv_at hl 0 rfl) ?_
  refine r_get X hw (v := .ref x1) fl_X5_9 (m_at 0 rfl) rfl dX5_whyWrong_1 ?_
  refine lv_iload_n hx hb dX5_whyWrong_4 rfl (lv_at hl 1 rfl) ?_
  refine r_iald X hw (f := v) i (m_at 1 rfl) rfl (by omega) (by decide) dX5_whyWrong_5 ?_
  refine lv_istore_n (lv' := [(2, .int (v i)), (0, .ref x0), (1, .int (nI i))]) hx hb dX5_whyWrong_6 rfl hl (by decide) rfl (fun ls hl => ?_)
  refine lv_iload_n hx hb dX5_whyWrong_7 rfl (lv_at hl 0 rfl) ?_
  refine lv_iconst (v := 4) hx hb dX5_whyWrong_8 (by decide) ?_
  refine lv_ishr hx hb dX5_whyWrong_9 ?_
  refine lv_bipush (v := 9) hx hb dX5_whyWrong_10 (by decide) ?_
  refine lv_icmp_gt (tgt := 24) hx hb dX5_whyWrong_12 (by decide) (fun c1 => ?_) (fun c1 => ?_)
  · skip
    refine lv_iconst (v := 1) hx hb dX5_whyWrong_24 (by decide) ?_
    exact r_ret X hw hk hret rfl (by unfold sp_X5_whyWrong; rw [if_pos c1]) rfl dX5_whyWrong_25
  · skip
    refine lv_iload_n hx hb dX5_whyWrong_15 rfl (lv_at hl 0 rfl) ?_
    refine lv_bipush (v := 15) hx hb dX5_whyWrong_16 (by decide) ?_
    refine lv_iand hx hb dX5_whyWrong_18 ?_
    refine lv_bipush (v := 9) hx hb dX5_whyWrong_19 (by decide) ?_
    refine lv_icmp_le (tgt := 26) hx hb dX5_whyWrong_21 (by decide) (fun c2 => ?_) (fun c2 => ?_)
    · skip
      refine lv_iload_n hx hb dX5_whyWrong_26 rfl (lv_at hl 0 rfl) ?_
      refine r_getsN X hw X.2.2.1.1 X.2.2.1.2.2.2.2.2.1 dX5_whyWrong_27 (fun t3 ht3 => ?_)
      refine lv_iload_n hx hb dX5_whyWrong_30 rfl (lv_at hl 2 rfl) ?_
      refine r_tiald X hw i ht3 rfl (show i < 7 from by omega) (by decide) dX5_whyWrong_31 ?_
      refine lv_icmp_ge (tgt := 37) hx hb dX5_whyWrong_32 (by decide) (fun c4 => ?_) (fun c4 => ?_)
      · skip
        refine lv_iload_n hx hb dX5_whyWrong_37 rfl (lv_at hl 0 rfl) ?_
        refine lv_aload_n hx hb dX5_whyWrong_38 rfl (lv_at hl 1 rfl) ?_
        refine lv_iload_n hx hb dX5_whyWrong_39 rfl (lv_at hl 2 rfl) ?_
        refine r_callV X hw (ws' := regsB D x0 x1 x2 x3 x4 v f g r) (As := [.int (nI i)]) (rest := [.int (v i)]) lk_X5_40 (c_X5_lastValue l D _ x0 x1 x2 x3 x4 v f g r i (by omega)) Foc.all (m_at 0 rfl) rfl hl.1 (Nat.le_of_ble_eq_true rfl) ⟨Nat.le_of_ble_eq_true rfl, Nat.le_of_ble_eq_true rfl⟩ rfl dX5_whyWrong_40 ⟨Nat.le_refl _, Nat.le_refl _⟩ (fun H locs hw => ?_)
        refine lv_icmp_le (tgt := 50) hx hb dX5_whyWrong_43 (by decide) (fun c5 => ?_) (fun c5 => ?_)
        · skip
          refine lv_iconst (v := 0) hx hb dX5_whyWrong_50 (by decide) ?_
          exact r_ret X hw hk hret rfl (by unfold sp_X5_whyWrong; rw [if_neg c1]; rw [if_pos c2]; rw [if_pos c4]; rw [if_pos c5]) rfl dX5_whyWrong_51
        · skip
          refine lv_iconst (v := 3) hx hb dX5_whyWrong_46 (by decide) ?_
          refine lv_goto (tgt := 51) hx hb dX5_whyWrong_47 (by decide) ?_
          exact r_ret X hw hk hret rfl (by unfold sp_X5_whyWrong; rw [if_neg c1]; rw [if_pos c2]; rw [if_pos c4]; rw [if_neg c5]) rfl dX5_whyWrong_51
      · skip
        refine lv_iconst (v := 2) hx hb dX5_whyWrong_35 (by decide) ?_
        exact r_ret X hw hk hret rfl (by unfold sp_X5_whyWrong; rw [if_neg c1]; rw [if_pos c2]; rw [if_neg c4]) rfl dX5_whyWrong_36
    · skip
      refine lv_iconst (v := 1) hx hb dX5_whyWrong_24 (by decide) ?_
      exact r_ret X hw hk hret rfl (by unfold sp_X5_whyWrong; rw [if_neg c1]; rw [if_neg c2]) rfl dX5_whyWrong_25

noncomputable def sp_X5_withCells (f : Row) (g : Row) (i : Nat) (x : Int32) : Int32 := (x &&& ((f i) ^^^ (-1))) ||| (g i)
set_option maxRecDepth 100000 in
set_option maxHeartbeats 4000000 in
theorem c_X5_withCells (l : Launch) (D : va_G) (sz : Nat) (x0 : Nat) (x1 : Nat) (x2 : Nat) (x3 : Nat) (x4 : Nat) (v : Row) (f : Row) (g : Row) (r : Row) (i : Nat) (x : Int32) (hi : i < 7) : MI l yX5_withCells cX5_withCells 3 (some .int) 0 0 D sz [.ref x0, .int (nI i), .int x] (regsB D x0 x1 x2 x3 x4 v f g r) (sp_X5_withCells f g i x) (regsB D x0 x1 x2 x3 x4 v f g r) := by
  refine r_enterI (by decide) (Nat.le_of_ble_eq_true rfl) ?_
  intro p e st m args below meth c ls A X hret hk hw hl
  have X : CX D p m c cX5_withCells 3 st args RX5 A := X
  have hx := X.1.1
  have hb := X.1.2.1
  have hown := X.1.2.2.2.1
  have hts := X.1.2.2.2.2
  have hl : lv_has ls 3 [(0, .ref x0), (1, .int (nI i)), (2, .int x)] := hl
  refine lv_iload_n hx hb dX5_withCells_0 rfl (lv_at hl 2 rfl) ?_
  refine lv_aload_n hx hb dX5_withCells_1 rfl (lv_at hl 0 rfl) ?_
  refine r_get X hw (v := .ref x2) fl_X5_15 (m_at 0 rfl) rfl dX5_withCells_2 ?_
  refine lv_iload_n hx hb dX5_withCells_5 rfl (lv_at hl 1 rfl) ?_
  refine r_iald X hw (f := f) i (m_at 2 rfl) rfl (by omega) (by decide) dX5_withCells_6 ?_
  refine lv_iconst (v := (-1)) hx hb dX5_withCells_7 (by decide) ?_
  refine lv_ixor hx hb dX5_withCells_8 ?_
  refine lv_iand hx hb dX5_withCells_9 ?_
  refine lv_aload_n hx hb dX5_withCells_10 rfl (lv_at hl 0 rfl) ?_
  refine r_get X hw (v := .ref x3) fl_X5_18 (m_at 0 rfl) rfl dX5_withCells_11 ?_
  refine lv_iload_n hx hb dX5_withCells_14 rfl (lv_at hl 1 rfl) ?_
  refine r_iald X hw (f := g) i (m_at 3 rfl) rfl (by omega) (by decide) dX5_withCells_15 ?_
  refine lv_ior hx hb dX5_withCells_16 ?_
  exact r_ret X hw hk hret rfl (rfl) rfl dX5_withCells_17

noncomputable def sp_X5_hasFailed (f : Row) (i : Nat) (k : Nat) : Int32 := (if (sp_X6_bitOf (f i) (nI k)) = 1 then 1 else 0)
theorem bo_X5_hasFailed (f : Row) (i : Nat) (k : Nat) : sp_X5_hasFailed f i k = 0 ∨ sp_X5_hasFailed f i k = 1 := by
  unfold sp_X5_hasFailed
  (repeat' split) <;> first | exact Or.inl rfl | exact Or.inr rfl
set_option maxRecDepth 100000 in
set_option maxHeartbeats 4000000 in
theorem c_X5_hasFailed (l : Launch) (D : va_G) (sz : Nat) (x0 : Nat) (x1 : Nat) (x2 : Nat) (x3 : Nat) (x4 : Nat) (v : Row) (f : Row) (g : Row) (r : Row) (i : Nat) (k : Nat) (hi : i < 7) (hk : k < 8) : MI l yX5_hasFailed cX5_hasFailed 3 (some .boolean) 1 21 D sz [.ref x0, .int (nI i), .int (nI k)] (regsB D x0 x1 x2 x3 x4 v f g r) (sp_X5_hasFailed f i k) (regsB D x0 x1 x2 x3 x4 v f g r) := by
  refine r_enterI (by decide) (Nat.le_of_ble_eq_true rfl) ?_
  intro p e st m args below meth c ls A X hret hk hw hl
  have X : CX D p m c cX5_hasFailed 3 st args RX5 A := X
  have hx := X.1.1
  have hb := X.1.2.1
  have hown := X.1.2.2.2.1
  have hts := X.1.2.2.2.2
  have hl : lv_has ls 3 [(0, .ref x0), (1, .int (nI i)), (2, .int (nI k))] := hl
  refine lv_aload_n hx hb dX5_hasFailed_0 rfl (lv_at hl 0 rfl) ?_
  refine r_get X hw (v := .ref x2) fl_X5_15 (m_at 0 rfl) rfl dX5_hasFailed_1 ?_
  refine lv_iload_n hx hb dX5_hasFailed_4 rfl (lv_at hl 1 rfl) ?_
  refine r_iald X hw (f := f) i (m_at 2 rfl) rfl (by omega) (by decide) dX5_hasFailed_5 ?_
  refine lv_iload_n hx hb dX5_hasFailed_6 rfl (lv_at hl 2 rfl) ?_
  refine r_callSN X hw (ws' := regsB D x0 x1 x2 x3 x4 v f g r) (As := [.int (f i), .int (nI k)]) (rest := []) lkN_X6_bitOf X.2.2.1.2.2.2.2.2.2.2.2.2.1 (c_X6_bitOf l D _ (f i) (nI k)) Foc.nil rfl hl.1 (Nat.le_of_ble_eq_true rfl) ⟨Nat.le_of_ble_eq_true rfl, Nat.le_of_ble_eq_true rfl⟩ rfl dX5_hasFailed_7 ⟨Nat.le_refl _, Nat.le_refl _⟩ (fun H locs hw => ?_)
  refine lv_iconst (v := 1) hx hb dX5_hasFailed_10 (by decide) ?_
  refine lv_icmp_ne (tgt := 18) hx hb dX5_hasFailed_11 (by decide) (fun c1 => ?_) (fun c1 => ?_)
  · skip
    refine lv_iconst (v := 0) hx hb dX5_hasFailed_18 (by decide) ?_
    exact r_ret X hw hk hret rfl (by unfold sp_X5_hasFailed; rw [if_neg c1]) rfl dX5_hasFailed_19
  · skip
    refine lv_iconst (v := 1) hx hb dX5_hasFailed_14 (by decide) ?_
    refine lv_goto (tgt := 19) hx hb dX5_hasFailed_15 (by decide) ?_
    exact r_ret X hw hk hret rfl (by unfold sp_X5_hasFailed; rw [if_pos c1]) rfl dX5_hasFailed_19

noncomputable def sp_X5_nextValue (v : Row) (i : Nat) (z : Int32) : Int32 := (if (v i) = z then kf k_first i else (if 9 ≤ ((v i) &&& 15) then (((v i) &&& 240) + 16) &&& 255 else (v i) + 1))
set_option maxRecDepth 100000 in
set_option maxHeartbeats 4000000 in
theorem c_X5_nextValue (l : Launch) (D : va_G) (sz : Nat) (x0 : Nat) (x1 : Nat) (x2 : Nat) (x3 : Nat) (x4 : Nat) (v : Row) (f : Row) (g : Row) (r : Row) (i : Nat) (z : Int32) (hi : i < 7) : MI l yX5_nextValue cX5_nextValue 4 (some .int) 0 0 D sz [.ref x0, .int (nI i), .int z] (regsB D x0 x1 x2 x3 x4 v f g r) (sp_X5_nextValue v i z) (regsB D x0 x1 x2 x3 x4 v f g r) := by
  refine r_enterI (by decide) (Nat.le_of_ble_eq_true rfl) ?_
  intro p e st m args below meth c ls A X hret hk hw hl
  have X : CX D p m c cX5_nextValue 4 st args RX5 A := X
  have hx := X.1.1
  have hb := X.1.2.1
  have hown := X.1.2.2.2.1
  have hts := X.1.2.2.2.2
  have hl : lv_has ls 4 [(0, .ref x0), (1, .int (nI i)), (2, .int z)] := hl
  refine lv_aload_n hx hb dX5_nextValue_0 rfl (lv_at hl 0 rfl) ?_
  refine r_get X hw (v := .ref x1) fl_X5_9 (m_at 0 rfl) rfl dX5_nextValue_1 ?_
  refine lv_iload_n hx hb dX5_nextValue_4 rfl (lv_at hl 1 rfl) ?_
  refine r_iald X hw (f := v) i (m_at 1 rfl) rfl (by omega) (by decide) dX5_nextValue_5 ?_
  refine lv_istore_n (lv' := [(3, .int (v i)), (0, .ref x0), (1, .int (nI i)), (2, .int z)]) hx hb dX5_nextValue_6 rfl hl (by decide) rfl (fun ls hl => ?_)
  refine lv_iload_n hx hb dX5_nextValue_7 rfl (lv_at hl 0 rfl) ?_
  refine lv_iload_n hx hb dX5_nextValue_8 rfl (lv_at hl 3 rfl) ?_
  refine lv_icmp_ne (tgt := 18) hx hb dX5_nextValue_9 (by decide) (fun c1 => ?_) (fun c1 => ?_)
  · skip
    refine lv_iload_n hx hb dX5_nextValue_18 rfl (lv_at hl 0 rfl) ?_
    refine lv_bipush (v := 15) hx hb dX5_nextValue_19 (by decide) ?_
    refine lv_iand hx hb dX5_nextValue_21 ?_
    refine lv_bipush (v := 9) hx hb dX5_nextValue_22 (by decide) ?_
    refine lv_icmp_ge (tgt := 31) hx hb dX5_nextValue_24 (by decide) (fun c2 => ?_) (fun c2 => ?_)
    · skip
      refine lv_iload_n hx hb dX5_nextValue_31 rfl (lv_at hl 0 rfl) ?_
      refine lv_sipush (v := 240) hx hb dX5_nextValue_32 (by decide) ?_
      refine lv_iand hx hb dX5_nextValue_35 ?_
      refine lv_bipush (v := 16) hx hb dX5_nextValue_36 (by decide) ?_
      refine lv_iadd hx hb dX5_nextValue_38 ?_
      refine lv_sipush (v := 255) hx hb dX5_nextValue_39 (by decide) ?_
      refine lv_iand hx hb dX5_nextValue_42 ?_
      exact r_ret X hw hk hret rfl (by unfold sp_X5_nextValue; rw [if_neg c1]; rw [if_pos c2]) rfl dX5_nextValue_43
    · skip
      refine lv_iload_n hx hb dX5_nextValue_27 rfl (lv_at hl 0 rfl) ?_
      refine lv_iconst (v := 1) hx hb dX5_nextValue_28 (by decide) ?_
      refine lv_iadd hx hb dX5_nextValue_29 ?_
      exact r_ret X hw hk hret rfl (by unfold sp_X5_nextValue; rw [if_neg c1]; rw [if_neg c2]) rfl dX5_nextValue_30
  · skip
    refine r_getsN X hw X.2.2.1.1 X.2.2.1.2.2.2.2.2.1 dX5_nextValue_12 (fun t3 ht3 => ?_)
    refine lv_iload_n hx hb dX5_nextValue_15 rfl (lv_at hl 2 rfl) ?_
    refine r_tiald X hw i ht3 rfl (show i < 7 from by omega) (by decide) dX5_nextValue_16 ?_
    exact r_ret X hw hk hret rfl (by unfold sp_X5_nextValue; rw [if_pos c1]) rfl dX5_nextValue_17

noncomputable def sp_X5_stepOn (v : Row) (f : Row) (g : Row) (r : Row) (i : Nat) (z : Int32) : Int32 × Row × Row := (if (v i) = z then (1, upd v i (sp_X5_withCells f g i (sp_X5_nextValue v i z)), upd r i ((r i) + 1)) else (0, upd v i (sp_X5_withCells f g i (sp_X5_nextValue v i z)), r))
set_option maxRecDepth 100000 in
set_option maxHeartbeats 4000000 in
theorem c_X5_stepOn (l : Launch) (D : va_G) (sz : Nat) (x0 : Nat) (x1 : Nat) (x2 : Nat) (x3 : Nat) (x4 : Nat) (v : Row) (f : Row) (g : Row) (r : Row) (i : Nat) (z : Int32) (hi : i < 7) : MI l yX5_stepOn cX5_stepOn 4 (some .boolean) 1 23 D sz [.ref x0, .int (nI i), .int z] (regsB D x0 x1 x2 x3 x4 v f g r) ((sp_X5_stepOn v f g r i z).1) (regsB D x0 x1 x2 x3 x4 ((sp_X5_stepOn v f g r i z).2.1) f g ((sp_X5_stepOn v f g r i z).2.2)) := by
  refine r_enterI (by decide) (Nat.le_of_ble_eq_true rfl) ?_
  intro p e st m args below meth c ls A X hret hk hw hl
  have X : CX D p m c cX5_stepOn 4 st args RX5 A := X
  have hx := X.1.1
  have hb := X.1.2.1
  have hown := X.1.2.2.2.1
  have hts := X.1.2.2.2.2
  have hl : lv_has ls 4 [(0, .ref x0), (1, .int (nI i)), (2, .int z)] := hl
  refine lv_aload_n hx hb dX5_stepOn_0 rfl (lv_at hl 0 rfl) ?_
  refine r_get X hw (v := .ref x1) fl_X5_9 (m_at 0 rfl) rfl dX5_stepOn_1 ?_
  refine lv_iload_n hx hb dX5_stepOn_4 rfl (lv_at hl 1 rfl) ?_
  refine r_iald X hw (f := v) i (m_at 1 rfl) rfl (by omega) (by decide) dX5_stepOn_5 ?_
  refine lv_iload_n hx hb dX5_stepOn_6 rfl (lv_at hl 2 rfl) ?_
  refine lv_icmp_ne (tgt := 14) hx hb dX5_stepOn_7 (by decide) (fun c1 => ?_) (fun c1 => ?_)
  · skip
    refine lv_iconst (v := 0) hx hb dX5_stepOn_14 (by decide) ?_
    refine lv_istore_n (lv' := [(3, .int 0), (0, .ref x0), (1, .int (nI i)), (2, .int z)]) hx hb dX5_stepOn_15 rfl hl (by decide) rfl (fun ls hl => ?_)
    refine lv_aload_n hx hb dX5_stepOn_16 rfl (lv_at hl 1 rfl) ?_
    refine r_get X hw (v := .ref x1) fl_X5_9 (m_at 0 rfl) rfl dX5_stepOn_17 ?_
    refine lv_iload_n hx hb dX5_stepOn_20 rfl (lv_at hl 2 rfl) ?_
    refine lv_aload_n hx hb dX5_stepOn_21 rfl (lv_at hl 1 rfl) ?_
    refine lv_iload_n hx hb dX5_stepOn_22 rfl (lv_at hl 2 rfl) ?_
    refine lv_aload_n hx hb dX5_stepOn_23 rfl (lv_at hl 1 rfl) ?_
    refine lv_iload_n hx hb dX5_stepOn_24 rfl (lv_at hl 2 rfl) ?_
    refine lv_iload_n hx hb dX5_stepOn_25 rfl (lv_at hl 3 rfl) ?_
    refine r_callV X hw (ws' := regsB D x0 x1 x2 x3 x4 v f g r) (As := [.int (nI i), .int z]) (rest := [.int (nI i), .ref x0, .int (nI i), .ref x1]) lk_X5_59 (c_X5_nextValue l D _ x0 x1 x2 x3 x4 v f g r i z (by omega)) Foc.all (m_at 0 rfl) rfl hl.1 (Nat.le_of_ble_eq_true rfl) ⟨Nat.le_of_ble_eq_true rfl, Nat.le_of_ble_eq_true rfl⟩ rfl dX5_stepOn_26 ⟨Nat.le_refl _, Nat.le_refl _⟩ (fun H locs hw => ?_)
    refine r_callV X hw (ws' := regsB D x0 x1 x2 x3 x4 v f g r) (As := [.int (nI i), .int (sp_X5_nextValue v i z)]) (rest := [.int (nI i), .ref x1]) lk_X5_51 (c_X5_withCells l D _ x0 x1 x2 x3 x4 v f g r i (sp_X5_nextValue v i z) (by omega)) Foc.all (m_at 0 rfl) rfl hl.1 (Nat.le_of_ble_eq_true rfl) ⟨Nat.le_of_ble_eq_true rfl, Nat.le_of_ble_eq_true rfl⟩ rfl dX5_stepOn_29 ⟨Nat.le_refl _, Nat.le_refl _⟩ (fun H locs hw => ?_)
    refine r_iast X hw (ws' := regsB D x0 x1 x2 x3 x4 (upd v i (sp_X5_withCells f g i (sp_X5_nextValue v i z))) f g r) i rfl (by omega) (by decide) (Foc.cell 1 rfl rfl (ce rfl (ce rfl (ce rfl (ce rfl rfl))))) dX5_stepOn_32 (fun H locs hw => ?_)
    refine lv_iload_n hx hb dX5_stepOn_33 rfl (lv_at hl 0 rfl) ?_
    refine lv_if_eq (tgt := 47) hx hb dX5_stepOn_34 (by decide) (fun _ => ?_) (fun h => absurd (by decide) h)
    refine lv_iload_n hx hb dX5_stepOn_47 rfl (lv_at hl 0 rfl) ?_
    exact r_ret X hw hk hret rfl (by unfold sp_X5_stepOn; rw [if_neg c1]) (by unfold sp_X5_stepOn; rw [if_neg c1]) dX5_stepOn_48
  · skip
    refine lv_iconst (v := 1) hx hb dX5_stepOn_10 (by decide) ?_
    refine lv_goto (tgt := 15) hx hb dX5_stepOn_11 (by decide) ?_
    refine lv_istore_n (lv' := [(3, .int 1), (0, .ref x0), (1, .int (nI i)), (2, .int z)]) hx hb dX5_stepOn_15 rfl hl (by decide) rfl (fun ls hl => ?_)
    refine lv_aload_n hx hb dX5_stepOn_16 rfl (lv_at hl 1 rfl) ?_
    refine r_get X hw (v := .ref x1) fl_X5_9 (m_at 0 rfl) rfl dX5_stepOn_17 ?_
    refine lv_iload_n hx hb dX5_stepOn_20 rfl (lv_at hl 2 rfl) ?_
    refine lv_aload_n hx hb dX5_stepOn_21 rfl (lv_at hl 1 rfl) ?_
    refine lv_iload_n hx hb dX5_stepOn_22 rfl (lv_at hl 2 rfl) ?_
    refine lv_aload_n hx hb dX5_stepOn_23 rfl (lv_at hl 1 rfl) ?_
    refine lv_iload_n hx hb dX5_stepOn_24 rfl (lv_at hl 2 rfl) ?_
    refine lv_iload_n hx hb dX5_stepOn_25 rfl (lv_at hl 3 rfl) ?_
    refine r_callV X hw (ws' := regsB D x0 x1 x2 x3 x4 v f g r) (As := [.int (nI i), .int z]) (rest := [.int (nI i), .ref x0, .int (nI i), .ref x1]) lk_X5_59 (c_X5_nextValue l D _ x0 x1 x2 x3 x4 v f g r i z (by omega)) Foc.all (m_at 0 rfl) rfl hl.1 (Nat.le_of_ble_eq_true rfl) ⟨Nat.le_of_ble_eq_true rfl, Nat.le_of_ble_eq_true rfl⟩ rfl dX5_stepOn_26 ⟨Nat.le_refl _, Nat.le_refl _⟩ (fun H locs hw => ?_)
    refine r_callV X hw (ws' := regsB D x0 x1 x2 x3 x4 v f g r) (As := [.int (nI i), .int (sp_X5_nextValue v i z)]) (rest := [.int (nI i), .ref x1]) lk_X5_51 (c_X5_withCells l D _ x0 x1 x2 x3 x4 v f g r i (sp_X5_nextValue v i z) (by omega)) Foc.all (m_at 0 rfl) rfl hl.1 (Nat.le_of_ble_eq_true rfl) ⟨Nat.le_of_ble_eq_true rfl, Nat.le_of_ble_eq_true rfl⟩ rfl dX5_stepOn_29 ⟨Nat.le_refl _, Nat.le_refl _⟩ (fun H locs hw => ?_)
    refine r_iast X hw (ws' := regsB D x0 x1 x2 x3 x4 (upd v i (sp_X5_withCells f g i (sp_X5_nextValue v i z))) f g r) i rfl (by omega) (by decide) (Foc.cell 1 rfl rfl (ce rfl (ce rfl (ce rfl (ce rfl rfl))))) dX5_stepOn_32 (fun H locs hw => ?_)
    refine lv_iload_n hx hb dX5_stepOn_33 rfl (lv_at hl 0 rfl) ?_
    refine lv_if_eq (tgt := 47) hx hb dX5_stepOn_34 (by decide) (fun h => absurd h (by decide)) (fun _ => ?_)
    refine lv_aload_n hx hb dX5_stepOn_37 rfl (lv_at hl 1 rfl) ?_
    refine r_get X hw (v := .ref x4) fl_X5_21 (m_at 0 rfl) rfl dX5_stepOn_38 ?_
    refine lv_iload_n hx hb dX5_stepOn_41 rfl (lv_at hl 2 rfl) ?_
    refine lv_dup2_11 hx hb dX5_stepOn_42 rfl rfl ?_
    refine r_iald X hw (f := r) i (m_at 4 rfl) rfl (by omega) (by decide) dX5_stepOn_43 ?_
    refine lv_iconst (v := 1) hx hb dX5_stepOn_44 (by decide) ?_
    refine lv_iadd hx hb dX5_stepOn_45 ?_
    refine r_iast X hw (ws' := regsB D x0 x1 x2 x3 x4 (upd v i (sp_X5_withCells f g i (sp_X5_nextValue v i z))) f g (upd r i ((r i) + 1))) i rfl (by omega) (by decide) (Foc.cell 4 rfl rfl (ce rfl (ce rfl (ce rfl (ce rfl rfl))))) dX5_stepOn_46 (fun H locs hw => ?_)
    refine lv_iload_n hx hb dX5_stepOn_47 rfl (lv_at hl 0 rfl) ?_
    exact r_ret X hw hk hret rfl (by unfold sp_X5_stepOn; rw [if_pos c1]) (by unfold sp_X5_stepOn; rw [if_pos c1]) dX5_stepOn_48

noncomputable def sp_X5_failCell (v : Row) (f : Row) (g : Row) (i : Nat) (k : Nat) (x : Nat) : Int32 × Row × Row × Row := ((upd v i (sp_X5_withCells (upd f i ((f i) ||| ((1 : Int32) <<< ((nI k) &&& 31)))) (upd g i ((g i) ||| ((nI x) <<< ((nI k) &&& 31)))) i (v i))) i, upd v i (sp_X5_withCells (upd f i ((f i) ||| ((1 : Int32) <<< ((nI k) &&& 31)))) (upd g i ((g i) ||| ((nI x) <<< ((nI k) &&& 31)))) i (v i)), upd f i ((f i) ||| ((1 : Int32) <<< ((nI k) &&& 31))), upd g i ((g i) ||| ((nI x) <<< ((nI k) &&& 31))))
set_option maxRecDepth 100000 in
set_option maxHeartbeats 4000000 in
theorem c_X5_failCell (l : Launch) (D : va_G) (sz : Nat) (x0 : Nat) (x1 : Nat) (x2 : Nat) (x3 : Nat) (x4 : Nat) (v : Row) (f : Row) (g : Row) (r : Row) (i : Nat) (k : Nat) (x : Nat) (hi : i < 7) (hk : k < 8) (hx : x < 2) : MI l yX5_failCell cX5_failCell 4 (some .int) 1 22 D sz [.ref x0, .int (nI i), .int (nI k), .int (nI x)] (regsB D x0 x1 x2 x3 x4 v f g r) ((sp_X5_failCell v f g i k x).1) (regsB D x0 x1 x2 x3 x4 ((sp_X5_failCell v f g i k x).2.1) ((sp_X5_failCell v f g i k x).2.2.1) ((sp_X5_failCell v f g i k x).2.2.2) r) := by
  refine r_enterI (by decide) (Nat.le_of_ble_eq_true rfl) ?_
  intro p e st m args below meth c ls A X hret hk hw hl
  have X : CX D p m c cX5_failCell 4 st args RX5 A := X
  have hx := X.1.1
  have hb := X.1.2.1
  have hown := X.1.2.2.2.1
  have hts := X.1.2.2.2.2
  have hl : lv_has ls 4 [(0, .ref x0), (1, .int (nI i)), (2, .int (nI k)), (3, .int (nI x))] := hl
  refine lv_aload_n hx hb dX5_failCell_0 rfl (lv_at hl 0 rfl) ?_
  refine r_get X hw (v := .ref x2) fl_X5_15 (m_at 0 rfl) rfl dX5_failCell_1 ?_
  refine lv_iload_n hx hb dX5_failCell_4 rfl (lv_at hl 1 rfl) ?_
  refine lv_dup2_11 hx hb dX5_failCell_5 rfl rfl ?_
  refine r_iald X hw (f := f) i (m_at 2 rfl) rfl (by omega) (by decide) dX5_failCell_6 ?_
  refine lv_iconst (v := 1) hx hb dX5_failCell_7 (by decide) ?_
  refine lv_iload_n hx hb dX5_failCell_8 rfl (lv_at hl 2 rfl) ?_
  refine lv_ishl hx hb dX5_failCell_9 ?_
  refine lv_ior hx hb dX5_failCell_10 ?_
  refine r_iast X hw (ws' := regsB D x0 x1 x2 x3 x4 v (upd f i ((f i) ||| ((1 : Int32) <<< ((nI k) &&& 31)))) g r) i rfl (by omega) (by decide) (Foc.cell 2 rfl rfl (ce rfl (ce rfl (ce rfl (ce rfl rfl))))) dX5_failCell_11 (fun H locs hw => ?_)
  refine lv_aload_n hx hb dX5_failCell_12 rfl (lv_at hl 0 rfl) ?_
  refine r_get X hw (v := .ref x3) fl_X5_18 (m_at 0 rfl) rfl dX5_failCell_13 ?_
  refine lv_iload_n hx hb dX5_failCell_16 rfl (lv_at hl 1 rfl) ?_
  refine lv_dup2_11 hx hb dX5_failCell_17 rfl rfl ?_
  refine r_iald X hw (f := g) i (m_at 3 rfl) rfl (by omega) (by decide) dX5_failCell_18 ?_
  refine lv_iload_n hx hb dX5_failCell_19 rfl (lv_at hl 3 rfl) ?_
  refine lv_iload_n hx hb dX5_failCell_20 rfl (lv_at hl 2 rfl) ?_
  refine lv_ishl hx hb dX5_failCell_21 ?_
  refine lv_ior hx hb dX5_failCell_22 ?_
  refine r_iast X hw (ws' := regsB D x0 x1 x2 x3 x4 v (upd f i ((f i) ||| ((1 : Int32) <<< ((nI k) &&& 31)))) (upd g i ((g i) ||| ((nI x) <<< ((nI k) &&& 31)))) r) i rfl (by omega) (by decide) (Foc.cell 3 rfl rfl (ce rfl (ce rfl (ce rfl (ce rfl rfl))))) dX5_failCell_23 (fun H locs hw => ?_)
  refine lv_aload_n hx hb dX5_failCell_24 rfl (lv_at hl 0 rfl) ?_
  refine r_get X hw (v := .ref x1) fl_X5_9 (m_at 0 rfl) rfl dX5_failCell_25 ?_
  refine lv_iload_n hx hb dX5_failCell_28 rfl (lv_at hl 1 rfl) ?_
  refine lv_aload_n hx hb dX5_failCell_29 rfl (lv_at hl 0 rfl) ?_
  refine lv_iload_n hx hb dX5_failCell_30 rfl (lv_at hl 1 rfl) ?_
  refine lv_aload_n hx hb dX5_failCell_31 rfl (lv_at hl 0 rfl) ?_
  refine r_get X hw (v := .ref x1) fl_X5_9 (m_at 0 rfl) rfl dX5_failCell_32 ?_
  refine lv_iload_n hx hb dX5_failCell_35 rfl (lv_at hl 1 rfl) ?_
  refine r_iald X hw (f := v) i (m_at 1 rfl) rfl (by omega) (by decide) dX5_failCell_36 ?_
  refine r_callV X hw (ws' := regsB D x0 x1 x2 x3 x4 v (upd f i ((f i) ||| ((1 : Int32) <<< ((nI k) &&& 31)))) (upd g i ((g i) ||| ((nI x) <<< ((nI k) &&& 31)))) r) (As := [.int (nI i), .int (v i)]) (rest := [.int (nI i), .ref x1]) lk_X5_51 (c_X5_withCells l D _ x0 x1 x2 x3 x4 v (upd f i ((f i) ||| ((1 : Int32) <<< ((nI k) &&& 31)))) (upd g i ((g i) ||| ((nI x) <<< ((nI k) &&& 31)))) r i (v i) (by omega)) Foc.all (m_at 0 rfl) rfl hl.1 (Nat.le_of_ble_eq_true rfl) ⟨Nat.le_of_ble_eq_true rfl, Nat.le_of_ble_eq_true rfl⟩ rfl dX5_failCell_37 ⟨Nat.le_refl _, Nat.le_refl _⟩ (fun H locs hw => ?_)
  refine r_iast X hw (ws' := regsB D x0 x1 x2 x3 x4 (upd v i (sp_X5_withCells (upd f i ((f i) ||| ((1 : Int32) <<< ((nI k) &&& 31)))) (upd g i ((g i) ||| ((nI x) <<< ((nI k) &&& 31)))) i (v i))) (upd f i ((f i) ||| ((1 : Int32) <<< ((nI k) &&& 31)))) (upd g i ((g i) ||| ((nI x) <<< ((nI k) &&& 31)))) r) i rfl (by omega) (by decide) (Foc.cell 1 rfl rfl (ce rfl (ce rfl (ce rfl (ce rfl rfl))))) dX5_failCell_40 (fun H locs hw => ?_)
  refine lv_aload_n hx hb dX5_failCell_41 rfl (lv_at hl 0 rfl) ?_
  refine r_get X hw (v := .ref x1) fl_X5_9 (m_at 0 rfl) rfl dX5_failCell_42 ?_
  refine lv_iload_n hx hb dX5_failCell_45 rfl (lv_at hl 1 rfl) ?_
  refine r_iald X hw (f := upd v i (sp_X5_withCells (upd f i ((f i) ||| ((1 : Int32) <<< ((nI k) &&& 31)))) (upd g i ((g i) ||| ((nI x) <<< ((nI k) &&& 31)))) i (v i))) i (m_at 1 rfl) rfl (by omega) (by decide) dX5_failCell_46 ?_
  exact r_ret X hw hk hret rfl (rfl) (rfl) dX5_failCell_47

noncomputable def sp_X5_healCell (f : Row) (g : Row) (i : Nat) (k : Nat) : Row × Row := (upd f i ((f i) &&& (((1 : Int32) <<< ((nI k) &&& 31)) ^^^ (-1))), upd g i ((g i) &&& (((1 : Int32) <<< ((nI k) &&& 31)) ^^^ (-1))))
set_option maxRecDepth 100000 in
set_option maxHeartbeats 4000000 in
theorem c_X5_healCell (l : Launch) (D : va_G) (sz : Nat) (x0 : Nat) (x1 : Nat) (x2 : Nat) (x3 : Nat) (x4 : Nat) (v : Row) (f : Row) (g : Row) (r : Row) (i : Nat) (k : Nat) (hi : i < 7) (hk : k < 8) : MV l yX5_healCell cX5_healCell 3 0 0 D sz [.ref x0, .int (nI i), .int (nI k)] (regsB D x0 x1 x2 x3 x4 v f g r) (regsB D x0 x1 x2 x3 x4 v ((sp_X5_healCell f g i k).1) ((sp_X5_healCell f g i k).2) r) := by
  refine r_enterV (by decide) (Nat.le_of_ble_eq_true rfl) ?_
  intro p e st m args below meth c ls A X hret hk hw hl
  have X : CX D p m c cX5_healCell 3 st args RX5 A := X
  have hx := X.1.1
  have hb := X.1.2.1
  have hown := X.1.2.2.2.1
  have hts := X.1.2.2.2.2
  have hl : lv_has ls 3 [(0, .ref x0), (1, .int (nI i)), (2, .int (nI k))] := hl
  refine lv_aload_n hx hb dX5_healCell_0 rfl (lv_at hl 0 rfl) ?_
  refine r_get X hw (v := .ref x2) fl_X5_15 (m_at 0 rfl) rfl dX5_healCell_1 ?_
  refine lv_iload_n hx hb dX5_healCell_4 rfl (lv_at hl 1 rfl) ?_
  refine lv_dup2_11 hx hb dX5_healCell_5 rfl rfl ?_
  refine r_iald X hw (f := f) i (m_at 2 rfl) rfl (by omega) (by decide) dX5_healCell_6 ?_
  refine lv_iconst (v := 1) hx hb dX5_healCell_7 (by decide) ?_
  refine lv_iload_n hx hb dX5_healCell_8 rfl (lv_at hl 2 rfl) ?_
  refine lv_ishl hx hb dX5_healCell_9 ?_
  refine lv_iconst (v := (-1)) hx hb dX5_healCell_10 (by decide) ?_
  refine lv_ixor hx hb dX5_healCell_11 ?_
  refine lv_iand hx hb dX5_healCell_12 ?_
  refine r_iast X hw (ws' := regsB D x0 x1 x2 x3 x4 v (upd f i ((f i) &&& (((1 : Int32) <<< ((nI k) &&& 31)) ^^^ (-1)))) g r) i rfl (by omega) (by decide) (Foc.cell 2 rfl rfl (ce rfl (ce rfl (ce rfl (ce rfl rfl))))) dX5_healCell_13 (fun H locs hw => ?_)
  refine lv_aload_n hx hb dX5_healCell_14 rfl (lv_at hl 0 rfl) ?_
  refine r_get X hw (v := .ref x3) fl_X5_18 (m_at 0 rfl) rfl dX5_healCell_15 ?_
  refine lv_iload_n hx hb dX5_healCell_18 rfl (lv_at hl 1 rfl) ?_
  refine lv_dup2_11 hx hb dX5_healCell_19 rfl rfl ?_
  refine r_iald X hw (f := g) i (m_at 3 rfl) rfl (by omega) (by decide) dX5_healCell_20 ?_
  refine lv_iconst (v := 1) hx hb dX5_healCell_21 (by decide) ?_
  refine lv_iload_n hx hb dX5_healCell_22 rfl (lv_at hl 2 rfl) ?_
  refine lv_ishl hx hb dX5_healCell_23 ?_
  refine lv_iconst (v := (-1)) hx hb dX5_healCell_24 (by decide) ?_
  refine lv_ixor hx hb dX5_healCell_25 ?_
  refine lv_iand hx hb dX5_healCell_26 ?_
  refine r_iast X hw (ws' := regsB D x0 x1 x2 x3 x4 v (upd f i ((f i) &&& (((1 : Int32) <<< ((nI k) &&& 31)) ^^^ (-1)))) (upd g i ((g i) &&& (((1 : Int32) <<< ((nI k) &&& 31)) ^^^ (-1)))) r) i rfl (by omega) (by decide) (Foc.cell 3 rfl rfl (ce rfl (ce rfl (ce rfl (ce rfl rfl))))) dX5_healCell_27 (fun H locs hw => ?_)
  exact r_retV X hw hk hret (rfl) dX5_healCell_28
