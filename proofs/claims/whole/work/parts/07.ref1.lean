def sp_X7_in (a0 a1 a2 : Int32) : Int32 := (if a0 < a1 then 0 else (if a2 < a0 then 0 else 1))
set_option maxRecDepth 100000 in
set_option maxHeartbeats 4000000 in
theorem c_X7_in (l : Launch) (D : va_G) (sz : Nat) (a0 a1 a2 : Int32) : MI l yX7_in cX7_in 3 (some .boolean) 0 0 D sz [.int a0, .int a1, .int a2] [] (sp_X7_in a0 a1 a2) ([]) := by
  refine r_enterI (by decide) (Nat.le_of_ble_eq_true rfl) ?_
  intro p e st m args below meth c ls A X hret hk hw hl
  have X : CX D p m c cX7_in 3 st args RX7 A := X
  have hx := X.1.1
  have hb := X.1.2.1
  have hown := X.1.2.2.2.1
  have hts := X.1.2.2.2.2
  have hl : lv_has ls 3 [(0, .int a0), (1, .int a1), (2, .int a2)] := hl
  refine lv_iload_n hx hb dX7_in_0 rfl (lv_at hl 0 rfl) ?_
  refine lv_iload_n hx hb dX7_in_1 rfl (lv_at hl 1 rfl) ?_
  refine lv_icmp_lt (tgt := 14) hx hb dX7_in_2 (by decide) (fun c1 => ?_) (fun c1 => ?_)
  · skip
    refine lv_iconst (v := 0) hx hb dX7_in_14 (by decide) ?_
    exact r_ret X hw hk hret rfl (by unfold sp_X7_in; rw [if_pos c1]) rfl dX7_in_15
  · skip
    refine lv_iload_n hx hb dX7_in_5 rfl (lv_at hl 0 rfl) ?_
    refine lv_iload_n hx hb dX7_in_6 rfl (lv_at hl 2 rfl) ?_
    refine lv_icmp_gt (tgt := 14) hx hb dX7_in_7 (by decide) (fun c2 => ?_) (fun c2 => ?_)
    · skip
      refine lv_iconst (v := 0) hx hb dX7_in_14 (by decide) ?_
      exact r_ret X hw hk hret rfl (by unfold sp_X7_in; rw [if_neg c1]; rw [if_pos c2]) rfl dX7_in_15
    · skip
      refine lv_iconst (v := 1) hx hb dX7_in_10 (by decide) ?_
      refine lv_goto (tgt := 15) hx hb dX7_in_11 (by decide) ?_
      exact r_ret X hw hk hret rfl (by unfold sp_X7_in; rw [if_neg c1]; rw [if_neg c2]) rfl dX7_in_15

def sp_X7_first (a0 : Int32) : Int32 := (if a0 = 3 then 1 else (if a0 = 4 then 1 else (if a0 = 5 then 1 else 0)))
set_option maxRecDepth 100000 in
set_option maxHeartbeats 4000000 in
theorem c_X7_first (l : Launch) (D : va_G) (sz : Nat) (a0 : Int32) : MI l yX7_first cX7_first 1 (some .int) 0 0 D sz [.int a0] [] (sp_X7_first a0) ([]) := by
  refine r_enterI (by decide) (Nat.le_of_ble_eq_true rfl) ?_
  intro p e st m args below meth c ls A X hret hk hw hl
  have X : CX D p m c cX7_first 1 st args RX7 A := X
  have hx := X.1.1
  have hb := X.1.2.1
  have hown := X.1.2.2.2.1
  have hts := X.1.2.2.2.2
  have hl : lv_has ls 1 [(0, .int a0)] := hl
  refine lv_iload_n hx hb dX7_first_0 rfl (lv_at hl 0 rfl) ?_
  refine lv_iconst (v := 3) hx hb dX7_first_1 (by decide) ?_
  refine lv_icmp_eq (tgt := 15) hx hb dX7_first_2 (by decide) (fun c1 => ?_) (fun c1 => ?_)
  · skip
    refine lv_iconst (v := 1) hx hb dX7_first_15 (by decide) ?_
    refine lv_goto (tgt := 20) hx hb dX7_first_16 (by decide) ?_
    exact r_ret X hw hk hret rfl (by unfold sp_X7_first; rw [if_pos c1]) rfl dX7_first_20
  · skip
    refine lv_iload_n hx hb dX7_first_5 rfl (lv_at hl 0 rfl) ?_
    refine lv_iconst (v := 4) hx hb dX7_first_6 (by decide) ?_
    refine lv_icmp_eq (tgt := 15) hx hb dX7_first_7 (by decide) (fun c2 => ?_) (fun c2 => ?_)
    · skip
      refine lv_iconst (v := 1) hx hb dX7_first_15 (by decide) ?_
      refine lv_goto (tgt := 20) hx hb dX7_first_16 (by decide) ?_
      exact r_ret X hw hk hret rfl (by unfold sp_X7_first; rw [if_neg c1]; rw [if_pos c2]) rfl dX7_first_20
    · skip
      refine lv_iload_n hx hb dX7_first_10 rfl (lv_at hl 0 rfl) ?_
      refine lv_iconst (v := 5) hx hb dX7_first_11 (by decide) ?_
      refine lv_icmp_ne (tgt := 19) hx hb dX7_first_12 (by decide) (fun c3 => ?_) (fun c3 => ?_)
      · skip
        refine lv_iconst (v := 0) hx hb dX7_first_19 (by decide) ?_
        exact r_ret X hw hk hret rfl (by unfold sp_X7_first; rw [if_neg c1]; rw [if_neg c2]; rw [if_neg c3]) rfl dX7_first_20
      · skip
        refine lv_iconst (v := 1) hx hb dX7_first_15 (by decide) ?_
        refine lv_goto (tgt := 20) hx hb dX7_first_16 (by decide) ?_
        exact r_ret X hw hk hret rfl (by unfold sp_X7_first; rw [if_neg c1]; rw [if_neg c2]; rw [if_pos c3]) rfl dX7_first_20

def sp_X7_lengthOf (a0 a1 : Int32) : Int32 := (if a0 = 2 then (if a1 = 0 then 28 else 29) else (if a0 = 4 then 30 else (if a0 = 6 then 30 else (if a0 = 9 then 30 else (if a0 = 11 then 30 else 31)))))
set_option maxRecDepth 100000 in
set_option maxHeartbeats 4000000 in
theorem c_X7_lengthOf (l : Launch) (D : va_G) (sz : Nat) (a0 a1 : Int32) : MI l yX7_lengthOf cX7_lengthOf 2 (some .int) 0 0 D sz [.int a0, .int a1] [] (sp_X7_lengthOf a0 a1) ([]) := by
  refine r_enterI (by decide) (Nat.le_of_ble_eq_true rfl) ?_
  intro p e st m args below meth c ls A X hret hk hw hl
  have X : CX D p m c cX7_lengthOf 2 st args RX7 A := X
  have hx := X.1.1
  have hb := X.1.2.1
  have hown := X.1.2.2.2.1
  have hts := X.1.2.2.2.2
  have hl : lv_has ls 2 [(0, .int a0), (1, .int a1)] := hl
  refine lv_iload_n hx hb dX7_lengthOf_0 rfl (lv_at hl 0 rfl) ?_
  refine lv_iconst (v := 2) hx hb dX7_lengthOf_1 (by decide) ?_
  refine lv_icmp_ne (tgt := 17) hx hb dX7_lengthOf_2 (by decide) (fun c1 => ?_) (fun c1 => ?_)
  · skip
    refine lv_iload_n hx hb dX7_lengthOf_17 rfl (lv_at hl 0 rfl) ?_
    refine lv_iconst (v := 4) hx hb dX7_lengthOf_18 (by decide) ?_
    refine lv_icmp_eq (tgt := 40) hx hb dX7_lengthOf_19 (by decide) (fun c2 => ?_) (fun c2 => ?_)
    · skip
      refine lv_bipush (v := 30) hx hb dX7_lengthOf_40 (by decide) ?_
      refine lv_goto (tgt := 47) hx hb dX7_lengthOf_42 (by decide) ?_
      exact r_ret X hw hk hret rfl (by unfold sp_X7_lengthOf; rw [if_neg c1]; rw [if_pos c2]) rfl dX7_lengthOf_47
    · skip
      refine lv_iload_n hx hb dX7_lengthOf_22 rfl (lv_at hl 0 rfl) ?_
      refine lv_bipush (v := 6) hx hb dX7_lengthOf_23 (by decide) ?_
      refine lv_icmp_eq (tgt := 40) hx hb dX7_lengthOf_25 (by decide) (fun c3 => ?_) (fun c3 => ?_)
      · skip
        refine lv_bipush (v := 30) hx hb dX7_lengthOf_40 (by decide) ?_
        refine lv_goto (tgt := 47) hx hb dX7_lengthOf_42 (by decide) ?_
        exact r_ret X hw hk hret rfl (by unfold sp_X7_lengthOf; rw [if_neg c1]; rw [if_neg c2]; rw [if_pos c3]) rfl dX7_lengthOf_47
      · skip
        refine lv_iload_n hx hb dX7_lengthOf_28 rfl (lv_at hl 0 rfl) ?_
        refine lv_bipush (v := 9) hx hb dX7_lengthOf_29 (by decide) ?_
        refine lv_icmp_eq (tgt := 40) hx hb dX7_lengthOf_31 (by decide) (fun c4 => ?_) (fun c4 => ?_)
        · skip
          refine lv_bipush (v := 30) hx hb dX7_lengthOf_40 (by decide) ?_
          refine lv_goto (tgt := 47) hx hb dX7_lengthOf_42 (by decide) ?_
          exact r_ret X hw hk hret rfl (by unfold sp_X7_lengthOf; rw [if_neg c1]; rw [if_neg c2]; rw [if_neg c3]; rw [if_pos c4]) rfl dX7_lengthOf_47
        · skip
          refine lv_iload_n hx hb dX7_lengthOf_34 rfl (lv_at hl 0 rfl) ?_
          refine lv_bipush (v := 11) hx hb dX7_lengthOf_35 (by decide) ?_
          refine lv_icmp_ne (tgt := 45) hx hb dX7_lengthOf_37 (by decide) (fun c5 => ?_) (fun c5 => ?_)
          · skip
            refine lv_bipush (v := 31) hx hb dX7_lengthOf_45 (by decide) ?_
            exact r_ret X hw hk hret rfl (by unfold sp_X7_lengthOf; rw [if_neg c1]; rw [if_neg c2]; rw [if_neg c3]; rw [if_neg c4]; rw [if_neg c5]) rfl dX7_lengthOf_47
          · skip
            refine lv_bipush (v := 30) hx hb dX7_lengthOf_40 (by decide) ?_
            refine lv_goto (tgt := 47) hx hb dX7_lengthOf_42 (by decide) ?_
            exact r_ret X hw hk hret rfl (by unfold sp_X7_lengthOf; rw [if_neg c1]; rw [if_neg c2]; rw [if_neg c3]; rw [if_neg c4]; rw [if_pos c5]) rfl dX7_lengthOf_47
  · skip
    refine lv_iload_n hx hb dX7_lengthOf_5 rfl (lv_at hl 1 rfl) ?_
    refine lv_if_eq (tgt := 14) hx hb dX7_lengthOf_6 (by decide) (fun c6 => ?_) (fun c6 => ?_)
    · skip
      refine lv_bipush (v := 28) hx hb dX7_lengthOf_14 (by decide) ?_
      exact r_ret X hw hk hret rfl (by unfold sp_X7_lengthOf; rw [if_pos c1]; rw [if_pos c6]) rfl dX7_lengthOf_16
    · skip
      refine lv_bipush (v := 29) hx hb dX7_lengthOf_9 (by decide) ?_
      refine lv_goto (tgt := 16) hx hb dX7_lengthOf_11 (by decide) ?_
      exact r_ret X hw hk hret rfl (by unfold sp_X7_lengthOf; rw [if_pos c1]; rw [if_neg c6]) rfl dX7_lengthOf_16

def sp_X7_alarmAt (a0 : Int32) : Int32 := 40 + (9 * a0)
set_option maxRecDepth 100000 in
set_option maxHeartbeats 4000000 in
theorem c_X7_alarmAt (l : Launch) (D : va_G) (sz : Nat) (a0 : Int32) : MI l yX7_alarmAt cX7_alarmAt 1 (some .int) 0 0 D sz [.int a0] [] (sp_X7_alarmAt a0) ([]) := by
  refine r_enterI (by decide) (Nat.le_of_ble_eq_true rfl) ?_
  intro p e st m args below meth c ls A X hret hk hw hl
  have X : CX D p m c cX7_alarmAt 1 st args RX7 A := X
  have hx := X.1.1
  have hb := X.1.2.1
  have hown := X.1.2.2.2.1
  have hts := X.1.2.2.2.2
  have hl : lv_has ls 1 [(0, .int a0)] := hl
  refine lv_bipush (v := 40) hx hb dX7_alarmAt_0 (by decide) ?_
  refine lv_bipush (v := 9) hx hb dX7_alarmAt_2 (by decide) ?_
  refine lv_iload_n hx hb dX7_alarmAt_4 rfl (lv_at hl 0 rfl) ?_
  refine lv_imul hx hb dX7_alarmAt_5 ?_
  refine lv_iadd hx hb dX7_alarmAt_6 ?_
  exact r_ret X hw hk hret rfl (by unfold sp_X7_alarmAt) rfl dX7_alarmAt_7

def sp_X7_isRegister (a0 : Int32) : Int32 := sp_X7_in a0 0 6
set_option maxRecDepth 100000 in
set_option maxHeartbeats 4000000 in
theorem c_X7_isRegister (l : Launch) (D : va_G) (sz : Nat) (a0 : Int32) : MI l yX7_isRegister cX7_isRegister 1 (some .boolean) 1 22 D sz [.int a0] [] (sp_X7_isRegister a0) ([]) := by
  refine r_enterI (by decide) (Nat.le_of_ble_eq_true rfl) ?_
  intro p e st m args below meth c ls A X hret hk hw hl
  have X : CX D p m c cX7_isRegister 1 st args RX7 A := X
  have hx := X.1.1
  have hb := X.1.2.1
  have hown := X.1.2.2.2.1
  have hts := X.1.2.2.2.2
  have hl : lv_has ls 1 [(0, .int a0)] := hl
  refine lv_iload_n hx hb dX7_isRegister_0 rfl (lv_at hl 0 rfl) ?_
  refine lv_iconst (v := 0) hx hb dX7_isRegister_1 (by decide) ?_
  refine lv_bipush (v := 6) hx hb dX7_isRegister_2 (by decide) ?_
  refine r_callS X hw (ws' := []) (As := [.int a0, .int 0, .int 6]) (rest := []) lk_X7_45 (c_X7_in l D _ a0 0 6) Foc.nil rfl hl.1 (Nat.le_of_ble_eq_true rfl) ⟨Nat.le_of_ble_eq_true rfl, Nat.le_of_ble_eq_true rfl⟩ rfl dX7_isRegister_4 ⟨Nat.le_refl _, Nat.le_refl _⟩ (fun H locs hw => ?_)
  exact r_ret X hw hk hret rfl (by unfold sp_X7_isRegister) rfl dX7_isRegister_7

def sp_X7_isAlarm (a0 : Int32) : Int32 := sp_X7_in a0 0 2
set_option maxRecDepth 100000 in
set_option maxHeartbeats 4000000 in
theorem c_X7_isAlarm (l : Launch) (D : va_G) (sz : Nat) (a0 : Int32) : MI l yX7_isAlarm cX7_isAlarm 1 (some .boolean) 1 22 D sz [.int a0] [] (sp_X7_isAlarm a0) ([]) := by
  refine r_enterI (by decide) (Nat.le_of_ble_eq_true rfl) ?_
  intro p e st m args below meth c ls A X hret hk hw hl
  have X : CX D p m c cX7_isAlarm 1 st args RX7 A := X
  have hx := X.1.1
  have hb := X.1.2.1
  have hown := X.1.2.2.2.1
  have hts := X.1.2.2.2.2
  have hl : lv_has ls 1 [(0, .int a0)] := hl
  refine lv_iload_n hx hb dX7_isAlarm_0 rfl (lv_at hl 0 rfl) ?_
  refine lv_iconst (v := 0) hx hb dX7_isAlarm_1 (by decide) ?_
  refine lv_iconst (v := 2) hx hb dX7_isAlarm_2 (by decide) ?_
  refine r_callS X hw (ws' := []) (As := [.int a0, .int 0, .int 2]) (rest := []) lk_X7_45 (c_X7_in l D _ a0 0 2) Foc.nil rfl hl.1 (Nat.le_of_ble_eq_true rfl) ⟨Nat.le_of_ble_eq_true rfl, Nat.le_of_ble_eq_true rfl⟩ rfl dX7_isAlarm_3 ⟨Nat.le_refl _, Nat.le_refl _⟩ (fun H locs hw => ?_)
  exact r_ret X hw hk hret rfl (by unfold sp_X7_isAlarm) rfl dX7_isAlarm_6

def sp_X7_numbersOf (a0 : Int32) : Int32 := (if a0 = 97 then 3 else (if a0 = 98 then 1 else (if a0 = 109 then 2 else (if a0 = 112 then 1 else (if a0 = 114 then 1 else (if a0 = 119 then 2 else 0))))))
set_option maxRecDepth 100000 in
set_option maxHeartbeats 4000000 in
theorem c_X7_numbersOf (l : Launch) (D : va_G) (sz : Nat) (a0 : Int32) : MI l yX7_numbersOf cX7_numbersOf 1 (some .int) 0 0 D sz [.int a0] [] (sp_X7_numbersOf a0) ([]) := by
  refine r_enterI (by decide) (Nat.le_of_ble_eq_true rfl) ?_
  intro p e st m args below meth c ls A X hret hk hw hl
  have X : CX D p m c cX7_numbersOf 1 st args RX7 A := X
  have hx := X.1.1
  have hb := X.1.2.1
  have hown := X.1.2.2.2.1
  have hts := X.1.2.2.2.2
  have hl : lv_has ls 1 [(0, .int a0)] := hl
  refine lv_iload_n hx hb dX7_numbersOf_0 rfl (lv_at hl 0 rfl) ?_
  by_cases w1 : a0 = 97
  · skip
    refine r_lookIn (tgt := 60) hx hb 97 w1 dX7_numbersOf_1 (by decide) rfl (by decide) ?_
    refine lv_iconst (v := 3) hx hb dX7_numbersOf_60 (by decide) ?_
    exact r_ret X hw hk hret rfl (by unfold sp_X7_numbersOf; rw [if_pos w1]) rfl dX7_numbersOf_61
  · skip
    by_cases w2 : a0 = 98
    · skip
      refine r_lookIn (tgt := 64) hx hb 98 w2 dX7_numbersOf_1 (by decide) rfl (by decide) ?_
      refine lv_iconst (v := 1) hx hb dX7_numbersOf_64 (by decide) ?_
      exact r_ret X hw hk hret rfl (by unfold sp_X7_numbersOf; rw [if_neg w1]; rw [if_pos w2]) rfl dX7_numbersOf_65
    · skip
      by_cases w3 : a0 = 109
      · skip
        refine r_lookIn (tgt := 62) hx hb 109 w3 dX7_numbersOf_1 (by decide) rfl (by decide) ?_
        refine lv_iconst (v := 2) hx hb dX7_numbersOf_62 (by decide) ?_
        exact r_ret X hw hk hret rfl (by unfold sp_X7_numbersOf; rw [if_neg w1]; rw [if_neg w2]; rw [if_pos w3]) rfl dX7_numbersOf_63
      · skip
        by_cases w4 : a0 = 112
        · skip
          refine r_lookIn (tgt := 64) hx hb 112 w4 dX7_numbersOf_1 (by decide) rfl (by decide) ?_
          refine lv_iconst (v := 1) hx hb dX7_numbersOf_64 (by decide) ?_
          exact r_ret X hw hk hret rfl (by unfold sp_X7_numbersOf; rw [if_neg w1]; rw [if_neg w2]; rw [if_neg w3]; rw [if_pos w4]) rfl dX7_numbersOf_65
        · skip
          by_cases w5 : a0 = 114
          · skip
            refine r_lookIn (tgt := 64) hx hb 114 w5 dX7_numbersOf_1 (by decide) rfl (by decide) ?_
            refine lv_iconst (v := 1) hx hb dX7_numbersOf_64 (by decide) ?_
            exact r_ret X hw hk hret rfl (by unfold sp_X7_numbersOf; rw [if_neg w1]; rw [if_neg w2]; rw [if_neg w3]; rw [if_neg w4]; rw [if_pos w5]) rfl dX7_numbersOf_65
          · skip
            by_cases w6 : a0 = 119
            · skip
              refine r_lookIn (tgt := 62) hx hb 119 w6 dX7_numbersOf_1 (by decide) rfl (by decide) ?_
              refine lv_iconst (v := 2) hx hb dX7_numbersOf_62 (by decide) ?_
              exact r_ret X hw hk hret rfl (by unfold sp_X7_numbersOf; rw [if_neg w1]; rw [if_neg w2]; rw [if_neg w3]; rw [if_neg w4]; rw [if_neg w5]; rw [if_pos w6]) rfl dX7_numbersOf_63
            · skip
              refine lv_lookup (tgt := 66) hx hb dX7_numbersOf_1 (by decide) (off := 65) (by have g0 := i_ne w1; have g1 := i_ne w2; have g2 := i_ne w3; have g3 := i_ne w4; have g4 := i_ne w5; have g5 := i_ne w6; rw [show (97 : Int32).toInt = 97 from rfl] at g0; rw [show (98 : Int32).toInt = 98 from rfl] at g1; rw [show (109 : Int32).toInt = 109 from rfl] at g2; rw [show (112 : Int32).toInt = 112 from rfl] at g3; rw [show (114 : Int32).toInt = 114 from rfl] at g4; rw [show (119 : Int32).toInt = 119 from rfl] at g5; simp [Op.lookupswitch.offset, g0, g1, g2, g3, g4, g5, Ne.symm g0, Ne.symm g1, Ne.symm g2, Ne.symm g3, Ne.symm g4, Ne.symm g5]) (by decide) ?_
              refine lv_iconst (v := 0) hx hb dX7_numbersOf_66 (by decide) ?_
              exact r_ret X hw hk hret rfl (by unfold sp_X7_numbersOf; rw [if_neg w1]; rw [if_neg w2]; rw [if_neg w3]; rw [if_neg w4]; rw [if_neg w5]; rw [if_neg w6]) rfl dX7_numbersOf_67

def sp_X7_number (s : Row) (r : Nat) : Int32 := (10 * ((s (0 + r)) / 16)) + ((s (0 + r)) - (s (0 + r)) / 16 * 16)
set_option maxRecDepth 100000 in
set_option maxHeartbeats 4000000 in
theorem c_X7_number (l : Launch) (D : va_G) (sz : Nat) (L : Nat → Nat) (s : Row) (S2 : MT) (r : Nat) (hr : r < 7) : MI l yX7_number cX7_number 3 (some .int) 0 0 D sz [.ref (L 0), .int (nI r)] (mW D L (s, S2)) (sp_X7_number s r) (mW D L (s, S2)) := by
  refine r_enterI (by decide) (Nat.le_of_ble_eq_true rfl) ?_
  intro p e st m args below meth c ls A X hret hk hw hl
  have X : CX D p m c cX7_number 3 st args RX7 A := X
  have hx := X.1.1
  have hb := X.1.2.1
  have hown := X.1.2.2.2.1
  have hts := X.1.2.2.2.2
  have hl : lv_has ls 3 [(0, .ref (L 0)), (1, .int (nI r))] := hl
  refine lv_aload_n hx hb dX7_number_0 rfl (lv_at hl 0 rfl) ?_
  refine r_get X hw (v := .ref (L 1)) fl_X7_7 (m_at 0 rfl) rfl dX7_number_1 ?_
  refine lv_iconst (v := 0) hx hb dX7_number_4 (by decide) ?_
  refine lv_iload_n hx hb dX7_number_5 rfl (lv_at hl 1 rfl) ?_
  refine r_addN hx hb 0 r rfl rfl dX7_number_6 ?_
  refine r_iald X hw (f := s) (0 + r) (m_at 1 rfl) rfl (by omega) (by decide) dX7_number_7 ?_
  refine lv_istore_n (lv' := [(2, .int (s (0 + r))), (0, .ref (L 0)), (1, .int (nI r))]) hx hb dX7_number_8 rfl hl (by decide) rfl (fun ls hl => ?_)
  refine lv_bipush (v := 10) hx hb dX7_number_9 (by decide) ?_
  refine lv_iload_n hx hb dX7_number_11 rfl (lv_at hl 0 rfl) ?_
  refine lv_bipush (v := 16) hx hb dX7_number_12 (by decide) ?_
  refine lv_idiv hx hb dX7_number_14 (by decide) ?_
  refine lv_imul hx hb dX7_number_15 ?_
  refine lv_iload_n hx hb dX7_number_16 rfl (lv_at hl 0 rfl) ?_
  refine lv_bipush (v := 16) hx hb dX7_number_17 (by decide) ?_
  refine lv_irem hx hb dX7_number_19 (by decide) ?_
  refine lv_iadd hx hb dX7_number_20 ?_
  exact r_ret X hw hk hret rfl (by unfold sp_X7_number) rfl dX7_number_21
