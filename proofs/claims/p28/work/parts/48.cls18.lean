noncomputable def sp_X6_alarmOf0 (s : ChS) (a : Nat) : Int32 := (s.av a) 0
set_option maxRecDepth 100000 in
set_option maxHeartbeats 4000000 in
theorem c_X6_alarmOf0 (l : Launch) (D : va_G) (sz : Nat) (o ha ta : Nat) (L w1 w2 M y1 y2 : Nat → Nat) (HL HW1 HW2 : Nat → Nat → Nat) (b0 b1 b2 b3 : Nat) (bw : Nat → Nat) (u0 u1 : Nat) (tx : Row) (T : Nat) (s t : ChS) (hs : Nat → ChS) (en tb : Row) (sh : Nat → Row) (n0 : Int32) (nu : Row) (lt br le : Int32) (k : Nat) (hk4 : k ≤ 4) (hT : T ≤ 60) (a : Nat) (ha3 : a < 3) (h9 : ¬ sp_X6_isAlarm (nI a) = 0) : MI l yX6_alarmOf cX6_alarmOf 4 (some .int) 2 42 D sz [.ref o, .int (nI a), .int 0] (([([xB D o ha ta (L 0) (M 0) b0 u0 (nI k) (rows4 HL) tx (nI T), chipB D L w1 w2 s.v s.f s.g s.r s.av s.mk s.cm s.ar s.fl s.en s.la s.zs s.se s.ph s.tk s.pc s.rc s.wc s.bc s.tc, hsB D HL HW1 HW2 hs] : List va_W).flatten, ([chipB D M y1 y2 t.v t.f t.g t.r t.av t.mk t.cm t.ar t.fl t.en t.la t.zs t.se t.ph t.tk t.pc t.rc t.wc t.bc t.tc, buB D b0 b1 b2 b3 bw en tb sh n0, orB D u0 u1 nu lt br le] : List va_W).flatten] : List va_W).flatten) (sp_X6_alarmOf0 s a) (([([xB D o ha ta (L 0) (M 0) b0 u0 (nI k) (rows4 HL) tx (nI T), chipB D L w1 w2 s.v s.f s.g s.r s.av s.mk s.cm s.ar s.fl s.en s.la s.zs s.se s.ph s.tk s.pc s.rc s.wc s.bc s.tc, hsB D HL HW1 HW2 hs] : List va_W).flatten, ([chipB D M y1 y2 t.v t.f t.g t.r t.av t.mk t.cm t.ar t.fl t.en t.la t.zs t.se t.ph t.tk t.pc t.rc t.wc t.bc t.tc, buB D b0 b1 b2 b3 bw en tb sh n0, orB D u0 u1 nu lt br le] : List va_W).flatten] : List va_W).flatten) := by
  refine r_enterI (by decide) (Nat.le_of_ble_eq_true rfl) ?_
  intro p e st m args below meth c ls A X hret hk hw hl
  have X : CX D p m c cX6_alarmOf 4 st args RX6 A := X
  have hx := X.1.1
  have hb := X.1.2.1
  have hown := X.1.2.2.2.1
  have hts := X.1.2.2.2.2
  have hl : lv_has ls 4 [(0, .ref o), (1, .int (nI a)), (2, .int 0)] := hl
  refine lv_iload_n hx hb dX6_alarmOf_0 rfl (lv_at hl 1 rfl) ?_
  refine r_callS X hw (ws' := ([([xB D o ha ta (L 0) (M 0) b0 u0 (nI k) (rows4 HL) tx (nI T), chipB D L w1 w2 s.v s.f s.g s.r s.av s.mk s.cm s.ar s.fl s.en s.la s.zs s.se s.ph s.tk s.pc s.rc s.wc s.bc s.tc, hsB D HL HW1 HW2 hs] : List va_W).flatten, ([chipB D M y1 y2 t.v t.f t.g t.r t.av t.mk t.cm t.ar t.fl t.en t.la t.zs t.se t.ph t.tk t.pc t.rc t.wc t.bc t.tc, buB D b0 b1 b2 b3 bw en tb sh n0, orB D u0 u1 nu lt br le] : List va_W).flatten] : List va_W).flatten) (As := [.int (nI a)]) (rest := []) lk_X6_92 (c_X6_isAlarm l D _ (nI a)) Foc.nil rfl hl.1 (Nat.le_of_ble_eq_true rfl) ⟨Nat.le_of_ble_eq_true rfl, Nat.le_of_ble_eq_true rfl⟩ rfl dX6_alarmOf_1 ⟨Nat.le_refl _, Nat.le_refl _⟩ (fun H locs hw => ?_)
  refine lv_if_eq (tgt := 17) hx hb dX6_alarmOf_4 (by decide) (fun h => absurd h h9) (fun _ => ?_)
  refine lv_iload_n hx hb dX6_alarmOf_7 rfl (lv_at hl 2 rfl) ?_
  refine lv_iconst (v := 0) hx hb dX6_alarmOf_8 (by decide) ?_
  refine lv_bipush (v := 9) hx hb dX6_alarmOf_9 (by decide) ?_
  refine r_callS X hw (ws' := ([([xB D o ha ta (L 0) (M 0) b0 u0 (nI k) (rows4 HL) tx (nI T), chipB D L w1 w2 s.v s.f s.g s.r s.av s.mk s.cm s.ar s.fl s.en s.la s.zs s.se s.ph s.tk s.pc s.rc s.wc s.bc s.tc, hsB D HL HW1 HW2 hs] : List va_W).flatten, ([chipB D M y1 y2 t.v t.f t.g t.r t.av t.mk t.cm t.ar t.fl t.en t.la t.zs t.se t.ph t.tk t.pc t.rc t.wc t.bc t.tc, buB D b0 b1 b2 b3 bw en tb sh n0, orB D u0 u1 nu lt br le] : List va_W).flatten] : List va_W).flatten) (As := [.int 0, .int 0, .int 9]) (rest := []) lk_X6_95 (c_X6_isWithin l D _ 0 0 9) Foc.nil rfl hl.1 (Nat.le_of_ble_eq_true rfl) ⟨Nat.le_of_ble_eq_true rfl, Nat.le_of_ble_eq_true rfl⟩ rfl dX6_alarmOf_11 ⟨Nat.le_refl _, Nat.le_refl _⟩ (fun H locs hw => ?_)
  refine lv_if_ne (tgt := 20) hx hb dX6_alarmOf_14 (by decide) (fun _ => ?_) (fun h => absurd h (by decide))
  refine lv_aload_n hx hb dX6_alarmOf_20 rfl (lv_at hl 0 rfl) ?_
  refine r_get X hw (v := .ref (L 0)) fl_X6_10 (m_fl 0 rfl (m_fl 0 rfl (m_at 0 rfl))) rfl dX6_alarmOf_21 ?_
  refine r_get X hw (v := .ref (L 6)) fl_X6_82 (m_fl 0 rfl (m_fl 1 rfl (m_fl 0 rfl (m_at 0 rfl)))) rfl dX6_alarmOf_24 ?_
  refine lv_astore_n (lv' := [(3, .ref (L 6)), (0, .ref o), (1, .int (nI a)), (2, .int 0)]) hx hb dX6_alarmOf_27 rfl hl (by decide) rfl (fun ls hl => ?_)
  refine lv_iload_n hx hb dX6_alarmOf_28 rfl (lv_at hl 3 rfl) ?_
  refine lv_iconst (v := 5) hx hb dX6_alarmOf_29 (by decide) ?_
  refine lv_icmp_ge (tgt := 42) hx hb dX6_alarmOf_30 (by decide) (fun h => absurd h (by decide)) (fun _ => ?_)
  refine lv_aload_n hx hb dX6_alarmOf_33 rfl (lv_at hl 0 rfl) ?_
  refine r_get X hw (v := .ref (L 7)) fl_X6_162 (m_fl 0 rfl (m_fl 1 rfl (m_fl 2 rfl (m_at 0 rfl)))) rfl dX6_alarmOf_34 ?_
  refine lv_iload_n hx hb dX6_alarmOf_37 rfl (lv_at hl 2 rfl) ?_
  refine r_ald2 X hw (q := w1 a) a (m_fl 0 rfl (m_fl 1 rfl (m_fl 2 rfl (m_at 1 rfl)))) rfl (by omega) (by decide) (if_pos (by omega)) dX6_alarmOf_38 ?_
  refine lv_iload_n hx hb dX6_alarmOf_39 rfl (lv_at hl 3 rfl) ?_
  refine r_iald X hw (f := s.av a) 0 (m_fl 0 rfl (m_fl 1 rfl (m_fl 2 rfl (al_row_m (by omega))))) rfl (by decide) (by decide) dX6_alarmOf_40 ?_
  exact r_ret X hw hk hret rfl (rfl) rfl dX6_alarmOf_41

noncomputable def sp_X6_alarmOf1 (s : ChS) (a : Nat) : Int32 := (s.av a) 1
set_option maxRecDepth 100000 in
set_option maxHeartbeats 4000000 in
theorem c_X6_alarmOf1 (l : Launch) (D : va_G) (sz : Nat) (o ha ta : Nat) (L w1 w2 M y1 y2 : Nat → Nat) (HL HW1 HW2 : Nat → Nat → Nat) (b0 b1 b2 b3 : Nat) (bw : Nat → Nat) (u0 u1 : Nat) (tx : Row) (T : Nat) (s t : ChS) (hs : Nat → ChS) (en tb : Row) (sh : Nat → Row) (n0 : Int32) (nu : Row) (lt br le : Int32) (k : Nat) (hk4 : k ≤ 4) (hT : T ≤ 60) (a : Nat) (ha3 : a < 3) (h9 : ¬ sp_X6_isAlarm (nI a) = 0) : MI l yX6_alarmOf cX6_alarmOf 4 (some .int) 2 42 D sz [.ref o, .int (nI a), .int 1] (([([xB D o ha ta (L 0) (M 0) b0 u0 (nI k) (rows4 HL) tx (nI T), chipB D L w1 w2 s.v s.f s.g s.r s.av s.mk s.cm s.ar s.fl s.en s.la s.zs s.se s.ph s.tk s.pc s.rc s.wc s.bc s.tc, hsB D HL HW1 HW2 hs] : List va_W).flatten, ([chipB D M y1 y2 t.v t.f t.g t.r t.av t.mk t.cm t.ar t.fl t.en t.la t.zs t.se t.ph t.tk t.pc t.rc t.wc t.bc t.tc, buB D b0 b1 b2 b3 bw en tb sh n0, orB D u0 u1 nu lt br le] : List va_W).flatten] : List va_W).flatten) (sp_X6_alarmOf1 s a) (([([xB D o ha ta (L 0) (M 0) b0 u0 (nI k) (rows4 HL) tx (nI T), chipB D L w1 w2 s.v s.f s.g s.r s.av s.mk s.cm s.ar s.fl s.en s.la s.zs s.se s.ph s.tk s.pc s.rc s.wc s.bc s.tc, hsB D HL HW1 HW2 hs] : List va_W).flatten, ([chipB D M y1 y2 t.v t.f t.g t.r t.av t.mk t.cm t.ar t.fl t.en t.la t.zs t.se t.ph t.tk t.pc t.rc t.wc t.bc t.tc, buB D b0 b1 b2 b3 bw en tb sh n0, orB D u0 u1 nu lt br le] : List va_W).flatten] : List va_W).flatten) := by
  refine r_enterI (by decide) (Nat.le_of_ble_eq_true rfl) ?_
  intro p e st m args below meth c ls A X hret hk hw hl
  have X : CX D p m c cX6_alarmOf 4 st args RX6 A := X
  have hx := X.1.1
  have hb := X.1.2.1
  have hown := X.1.2.2.2.1
  have hts := X.1.2.2.2.2
  have hl : lv_has ls 4 [(0, .ref o), (1, .int (nI a)), (2, .int 1)] := hl
  refine lv_iload_n hx hb dX6_alarmOf_0 rfl (lv_at hl 1 rfl) ?_
  refine r_callS X hw (ws' := ([([xB D o ha ta (L 0) (M 0) b0 u0 (nI k) (rows4 HL) tx (nI T), chipB D L w1 w2 s.v s.f s.g s.r s.av s.mk s.cm s.ar s.fl s.en s.la s.zs s.se s.ph s.tk s.pc s.rc s.wc s.bc s.tc, hsB D HL HW1 HW2 hs] : List va_W).flatten, ([chipB D M y1 y2 t.v t.f t.g t.r t.av t.mk t.cm t.ar t.fl t.en t.la t.zs t.se t.ph t.tk t.pc t.rc t.wc t.bc t.tc, buB D b0 b1 b2 b3 bw en tb sh n0, orB D u0 u1 nu lt br le] : List va_W).flatten] : List va_W).flatten) (As := [.int (nI a)]) (rest := []) lk_X6_92 (c_X6_isAlarm l D _ (nI a)) Foc.nil rfl hl.1 (Nat.le_of_ble_eq_true rfl) ⟨Nat.le_of_ble_eq_true rfl, Nat.le_of_ble_eq_true rfl⟩ rfl dX6_alarmOf_1 ⟨Nat.le_refl _, Nat.le_refl _⟩ (fun H locs hw => ?_)
  refine lv_if_eq (tgt := 17) hx hb dX6_alarmOf_4 (by decide) (fun h => absurd h h9) (fun _ => ?_)
  refine lv_iload_n hx hb dX6_alarmOf_7 rfl (lv_at hl 2 rfl) ?_
  refine lv_iconst (v := 0) hx hb dX6_alarmOf_8 (by decide) ?_
  refine lv_bipush (v := 9) hx hb dX6_alarmOf_9 (by decide) ?_
  refine r_callS X hw (ws' := ([([xB D o ha ta (L 0) (M 0) b0 u0 (nI k) (rows4 HL) tx (nI T), chipB D L w1 w2 s.v s.f s.g s.r s.av s.mk s.cm s.ar s.fl s.en s.la s.zs s.se s.ph s.tk s.pc s.rc s.wc s.bc s.tc, hsB D HL HW1 HW2 hs] : List va_W).flatten, ([chipB D M y1 y2 t.v t.f t.g t.r t.av t.mk t.cm t.ar t.fl t.en t.la t.zs t.se t.ph t.tk t.pc t.rc t.wc t.bc t.tc, buB D b0 b1 b2 b3 bw en tb sh n0, orB D u0 u1 nu lt br le] : List va_W).flatten] : List va_W).flatten) (As := [.int 1, .int 0, .int 9]) (rest := []) lk_X6_95 (c_X6_isWithin l D _ 1 0 9) Foc.nil rfl hl.1 (Nat.le_of_ble_eq_true rfl) ⟨Nat.le_of_ble_eq_true rfl, Nat.le_of_ble_eq_true rfl⟩ rfl dX6_alarmOf_11 ⟨Nat.le_refl _, Nat.le_refl _⟩ (fun H locs hw => ?_)
  refine lv_if_ne (tgt := 20) hx hb dX6_alarmOf_14 (by decide) (fun _ => ?_) (fun h => absurd h (by decide))
  refine lv_aload_n hx hb dX6_alarmOf_20 rfl (lv_at hl 0 rfl) ?_
  refine r_get X hw (v := .ref (L 0)) fl_X6_10 (m_fl 0 rfl (m_fl 0 rfl (m_at 0 rfl))) rfl dX6_alarmOf_21 ?_
  refine r_get X hw (v := .ref (L 6)) fl_X6_82 (m_fl 0 rfl (m_fl 1 rfl (m_fl 0 rfl (m_at 0 rfl)))) rfl dX6_alarmOf_24 ?_
  refine lv_astore_n (lv' := [(3, .ref (L 6)), (0, .ref o), (1, .int (nI a)), (2, .int 1)]) hx hb dX6_alarmOf_27 rfl hl (by decide) rfl (fun ls hl => ?_)
  refine lv_iload_n hx hb dX6_alarmOf_28 rfl (lv_at hl 3 rfl) ?_
  refine lv_iconst (v := 5) hx hb dX6_alarmOf_29 (by decide) ?_
  refine lv_icmp_ge (tgt := 42) hx hb dX6_alarmOf_30 (by decide) (fun h => absurd h (by decide)) (fun _ => ?_)
  refine lv_aload_n hx hb dX6_alarmOf_33 rfl (lv_at hl 0 rfl) ?_
  refine r_get X hw (v := .ref (L 7)) fl_X6_162 (m_fl 0 rfl (m_fl 1 rfl (m_fl 2 rfl (m_at 0 rfl)))) rfl dX6_alarmOf_34 ?_
  refine lv_iload_n hx hb dX6_alarmOf_37 rfl (lv_at hl 2 rfl) ?_
  refine r_ald2 X hw (q := w1 a) a (m_fl 0 rfl (m_fl 1 rfl (m_fl 2 rfl (m_at 1 rfl)))) rfl (by omega) (by decide) (if_pos (by omega)) dX6_alarmOf_38 ?_
  refine lv_iload_n hx hb dX6_alarmOf_39 rfl (lv_at hl 3 rfl) ?_
  refine r_iald X hw (f := s.av a) 1 (m_fl 0 rfl (m_fl 1 rfl (m_fl 2 rfl (al_row_m (by omega))))) rfl (by decide) (by decide) dX6_alarmOf_40 ?_
  exact r_ret X hw hk hret rfl (rfl) rfl dX6_alarmOf_41

noncomputable def sp_X6_alarmOf2 (s : ChS) (a : Nat) : Int32 := (s.av a) 2
set_option maxRecDepth 100000 in
set_option maxHeartbeats 4000000 in
theorem c_X6_alarmOf2 (l : Launch) (D : va_G) (sz : Nat) (o ha ta : Nat) (L w1 w2 M y1 y2 : Nat → Nat) (HL HW1 HW2 : Nat → Nat → Nat) (b0 b1 b2 b3 : Nat) (bw : Nat → Nat) (u0 u1 : Nat) (tx : Row) (T : Nat) (s t : ChS) (hs : Nat → ChS) (en tb : Row) (sh : Nat → Row) (n0 : Int32) (nu : Row) (lt br le : Int32) (k : Nat) (hk4 : k ≤ 4) (hT : T ≤ 60) (a : Nat) (ha3 : a < 3) (h9 : ¬ sp_X6_isAlarm (nI a) = 0) : MI l yX6_alarmOf cX6_alarmOf 4 (some .int) 2 42 D sz [.ref o, .int (nI a), .int 2] (([([xB D o ha ta (L 0) (M 0) b0 u0 (nI k) (rows4 HL) tx (nI T), chipB D L w1 w2 s.v s.f s.g s.r s.av s.mk s.cm s.ar s.fl s.en s.la s.zs s.se s.ph s.tk s.pc s.rc s.wc s.bc s.tc, hsB D HL HW1 HW2 hs] : List va_W).flatten, ([chipB D M y1 y2 t.v t.f t.g t.r t.av t.mk t.cm t.ar t.fl t.en t.la t.zs t.se t.ph t.tk t.pc t.rc t.wc t.bc t.tc, buB D b0 b1 b2 b3 bw en tb sh n0, orB D u0 u1 nu lt br le] : List va_W).flatten] : List va_W).flatten) (sp_X6_alarmOf2 s a) (([([xB D o ha ta (L 0) (M 0) b0 u0 (nI k) (rows4 HL) tx (nI T), chipB D L w1 w2 s.v s.f s.g s.r s.av s.mk s.cm s.ar s.fl s.en s.la s.zs s.se s.ph s.tk s.pc s.rc s.wc s.bc s.tc, hsB D HL HW1 HW2 hs] : List va_W).flatten, ([chipB D M y1 y2 t.v t.f t.g t.r t.av t.mk t.cm t.ar t.fl t.en t.la t.zs t.se t.ph t.tk t.pc t.rc t.wc t.bc t.tc, buB D b0 b1 b2 b3 bw en tb sh n0, orB D u0 u1 nu lt br le] : List va_W).flatten] : List va_W).flatten) := by
  refine r_enterI (by decide) (Nat.le_of_ble_eq_true rfl) ?_
  intro p e st m args below meth c ls A X hret hk hw hl
  have X : CX D p m c cX6_alarmOf 4 st args RX6 A := X
  have hx := X.1.1
  have hb := X.1.2.1
  have hown := X.1.2.2.2.1
  have hts := X.1.2.2.2.2
  have hl : lv_has ls 4 [(0, .ref o), (1, .int (nI a)), (2, .int 2)] := hl
  refine lv_iload_n hx hb dX6_alarmOf_0 rfl (lv_at hl 1 rfl) ?_
  refine r_callS X hw (ws' := ([([xB D o ha ta (L 0) (M 0) b0 u0 (nI k) (rows4 HL) tx (nI T), chipB D L w1 w2 s.v s.f s.g s.r s.av s.mk s.cm s.ar s.fl s.en s.la s.zs s.se s.ph s.tk s.pc s.rc s.wc s.bc s.tc, hsB D HL HW1 HW2 hs] : List va_W).flatten, ([chipB D M y1 y2 t.v t.f t.g t.r t.av t.mk t.cm t.ar t.fl t.en t.la t.zs t.se t.ph t.tk t.pc t.rc t.wc t.bc t.tc, buB D b0 b1 b2 b3 bw en tb sh n0, orB D u0 u1 nu lt br le] : List va_W).flatten] : List va_W).flatten) (As := [.int (nI a)]) (rest := []) lk_X6_92 (c_X6_isAlarm l D _ (nI a)) Foc.nil rfl hl.1 (Nat.le_of_ble_eq_true rfl) ⟨Nat.le_of_ble_eq_true rfl, Nat.le_of_ble_eq_true rfl⟩ rfl dX6_alarmOf_1 ⟨Nat.le_refl _, Nat.le_refl _⟩ (fun H locs hw => ?_)
  refine lv_if_eq (tgt := 17) hx hb dX6_alarmOf_4 (by decide) (fun h => absurd h h9) (fun _ => ?_)
  refine lv_iload_n hx hb dX6_alarmOf_7 rfl (lv_at hl 2 rfl) ?_
  refine lv_iconst (v := 0) hx hb dX6_alarmOf_8 (by decide) ?_
  refine lv_bipush (v := 9) hx hb dX6_alarmOf_9 (by decide) ?_
  refine r_callS X hw (ws' := ([([xB D o ha ta (L 0) (M 0) b0 u0 (nI k) (rows4 HL) tx (nI T), chipB D L w1 w2 s.v s.f s.g s.r s.av s.mk s.cm s.ar s.fl s.en s.la s.zs s.se s.ph s.tk s.pc s.rc s.wc s.bc s.tc, hsB D HL HW1 HW2 hs] : List va_W).flatten, ([chipB D M y1 y2 t.v t.f t.g t.r t.av t.mk t.cm t.ar t.fl t.en t.la t.zs t.se t.ph t.tk t.pc t.rc t.wc t.bc t.tc, buB D b0 b1 b2 b3 bw en tb sh n0, orB D u0 u1 nu lt br le] : List va_W).flatten] : List va_W).flatten) (As := [.int 2, .int 0, .int 9]) (rest := []) lk_X6_95 (c_X6_isWithin l D _ 2 0 9) Foc.nil rfl hl.1 (Nat.le_of_ble_eq_true rfl) ⟨Nat.le_of_ble_eq_true rfl, Nat.le_of_ble_eq_true rfl⟩ rfl dX6_alarmOf_11 ⟨Nat.le_refl _, Nat.le_refl _⟩ (fun H locs hw => ?_)
  refine lv_if_ne (tgt := 20) hx hb dX6_alarmOf_14 (by decide) (fun _ => ?_) (fun h => absurd h (by decide))
  refine lv_aload_n hx hb dX6_alarmOf_20 rfl (lv_at hl 0 rfl) ?_
  refine r_get X hw (v := .ref (L 0)) fl_X6_10 (m_fl 0 rfl (m_fl 0 rfl (m_at 0 rfl))) rfl dX6_alarmOf_21 ?_
  refine r_get X hw (v := .ref (L 6)) fl_X6_82 (m_fl 0 rfl (m_fl 1 rfl (m_fl 0 rfl (m_at 0 rfl)))) rfl dX6_alarmOf_24 ?_
  refine lv_astore_n (lv' := [(3, .ref (L 6)), (0, .ref o), (1, .int (nI a)), (2, .int 2)]) hx hb dX6_alarmOf_27 rfl hl (by decide) rfl (fun ls hl => ?_)
  refine lv_iload_n hx hb dX6_alarmOf_28 rfl (lv_at hl 3 rfl) ?_
  refine lv_iconst (v := 5) hx hb dX6_alarmOf_29 (by decide) ?_
  refine lv_icmp_ge (tgt := 42) hx hb dX6_alarmOf_30 (by decide) (fun h => absurd h (by decide)) (fun _ => ?_)
  refine lv_aload_n hx hb dX6_alarmOf_33 rfl (lv_at hl 0 rfl) ?_
  refine r_get X hw (v := .ref (L 7)) fl_X6_162 (m_fl 0 rfl (m_fl 1 rfl (m_fl 2 rfl (m_at 0 rfl)))) rfl dX6_alarmOf_34 ?_
  refine lv_iload_n hx hb dX6_alarmOf_37 rfl (lv_at hl 2 rfl) ?_
  refine r_ald2 X hw (q := w1 a) a (m_fl 0 rfl (m_fl 1 rfl (m_fl 2 rfl (m_at 1 rfl)))) rfl (by omega) (by decide) (if_pos (by omega)) dX6_alarmOf_38 ?_
  refine lv_iload_n hx hb dX6_alarmOf_39 rfl (lv_at hl 3 rfl) ?_
  refine r_iald X hw (f := s.av a) 2 (m_fl 0 rfl (m_fl 1 rfl (m_fl 2 rfl (al_row_m (by omega))))) rfl (by decide) (by decide) dX6_alarmOf_40 ?_
  exact r_ret X hw hk hret rfl (rfl) rfl dX6_alarmOf_41

noncomputable def sp_X6_alarmOf3 (s : ChS) (a : Nat) : Int32 := (s.av a) 3
set_option maxRecDepth 100000 in
set_option maxHeartbeats 4000000 in
theorem c_X6_alarmOf3 (l : Launch) (D : va_G) (sz : Nat) (o ha ta : Nat) (L w1 w2 M y1 y2 : Nat → Nat) (HL HW1 HW2 : Nat → Nat → Nat) (b0 b1 b2 b3 : Nat) (bw : Nat → Nat) (u0 u1 : Nat) (tx : Row) (T : Nat) (s t : ChS) (hs : Nat → ChS) (en tb : Row) (sh : Nat → Row) (n0 : Int32) (nu : Row) (lt br le : Int32) (k : Nat) (hk4 : k ≤ 4) (hT : T ≤ 60) (a : Nat) (ha3 : a < 3) (h9 : ¬ sp_X6_isAlarm (nI a) = 0) : MI l yX6_alarmOf cX6_alarmOf 4 (some .int) 2 42 D sz [.ref o, .int (nI a), .int 3] (([([xB D o ha ta (L 0) (M 0) b0 u0 (nI k) (rows4 HL) tx (nI T), chipB D L w1 w2 s.v s.f s.g s.r s.av s.mk s.cm s.ar s.fl s.en s.la s.zs s.se s.ph s.tk s.pc s.rc s.wc s.bc s.tc, hsB D HL HW1 HW2 hs] : List va_W).flatten, ([chipB D M y1 y2 t.v t.f t.g t.r t.av t.mk t.cm t.ar t.fl t.en t.la t.zs t.se t.ph t.tk t.pc t.rc t.wc t.bc t.tc, buB D b0 b1 b2 b3 bw en tb sh n0, orB D u0 u1 nu lt br le] : List va_W).flatten] : List va_W).flatten) (sp_X6_alarmOf3 s a) (([([xB D o ha ta (L 0) (M 0) b0 u0 (nI k) (rows4 HL) tx (nI T), chipB D L w1 w2 s.v s.f s.g s.r s.av s.mk s.cm s.ar s.fl s.en s.la s.zs s.se s.ph s.tk s.pc s.rc s.wc s.bc s.tc, hsB D HL HW1 HW2 hs] : List va_W).flatten, ([chipB D M y1 y2 t.v t.f t.g t.r t.av t.mk t.cm t.ar t.fl t.en t.la t.zs t.se t.ph t.tk t.pc t.rc t.wc t.bc t.tc, buB D b0 b1 b2 b3 bw en tb sh n0, orB D u0 u1 nu lt br le] : List va_W).flatten] : List va_W).flatten) := by
  refine r_enterI (by decide) (Nat.le_of_ble_eq_true rfl) ?_
  intro p e st m args below meth c ls A X hret hk hw hl
  have X : CX D p m c cX6_alarmOf 4 st args RX6 A := X
  have hx := X.1.1
  have hb := X.1.2.1
  have hown := X.1.2.2.2.1
  have hts := X.1.2.2.2.2
  have hl : lv_has ls 4 [(0, .ref o), (1, .int (nI a)), (2, .int 3)] := hl
  refine lv_iload_n hx hb dX6_alarmOf_0 rfl (lv_at hl 1 rfl) ?_
  refine r_callS X hw (ws' := ([([xB D o ha ta (L 0) (M 0) b0 u0 (nI k) (rows4 HL) tx (nI T), chipB D L w1 w2 s.v s.f s.g s.r s.av s.mk s.cm s.ar s.fl s.en s.la s.zs s.se s.ph s.tk s.pc s.rc s.wc s.bc s.tc, hsB D HL HW1 HW2 hs] : List va_W).flatten, ([chipB D M y1 y2 t.v t.f t.g t.r t.av t.mk t.cm t.ar t.fl t.en t.la t.zs t.se t.ph t.tk t.pc t.rc t.wc t.bc t.tc, buB D b0 b1 b2 b3 bw en tb sh n0, orB D u0 u1 nu lt br le] : List va_W).flatten] : List va_W).flatten) (As := [.int (nI a)]) (rest := []) lk_X6_92 (c_X6_isAlarm l D _ (nI a)) Foc.nil rfl hl.1 (Nat.le_of_ble_eq_true rfl) ⟨Nat.le_of_ble_eq_true rfl, Nat.le_of_ble_eq_true rfl⟩ rfl dX6_alarmOf_1 ⟨Nat.le_refl _, Nat.le_refl _⟩ (fun H locs hw => ?_)
  refine lv_if_eq (tgt := 17) hx hb dX6_alarmOf_4 (by decide) (fun h => absurd h h9) (fun _ => ?_)
  refine lv_iload_n hx hb dX6_alarmOf_7 rfl (lv_at hl 2 rfl) ?_
  refine lv_iconst (v := 0) hx hb dX6_alarmOf_8 (by decide) ?_
  refine lv_bipush (v := 9) hx hb dX6_alarmOf_9 (by decide) ?_
  refine r_callS X hw (ws' := ([([xB D o ha ta (L 0) (M 0) b0 u0 (nI k) (rows4 HL) tx (nI T), chipB D L w1 w2 s.v s.f s.g s.r s.av s.mk s.cm s.ar s.fl s.en s.la s.zs s.se s.ph s.tk s.pc s.rc s.wc s.bc s.tc, hsB D HL HW1 HW2 hs] : List va_W).flatten, ([chipB D M y1 y2 t.v t.f t.g t.r t.av t.mk t.cm t.ar t.fl t.en t.la t.zs t.se t.ph t.tk t.pc t.rc t.wc t.bc t.tc, buB D b0 b1 b2 b3 bw en tb sh n0, orB D u0 u1 nu lt br le] : List va_W).flatten] : List va_W).flatten) (As := [.int 3, .int 0, .int 9]) (rest := []) lk_X6_95 (c_X6_isWithin l D _ 3 0 9) Foc.nil rfl hl.1 (Nat.le_of_ble_eq_true rfl) ⟨Nat.le_of_ble_eq_true rfl, Nat.le_of_ble_eq_true rfl⟩ rfl dX6_alarmOf_11 ⟨Nat.le_refl _, Nat.le_refl _⟩ (fun H locs hw => ?_)
  refine lv_if_ne (tgt := 20) hx hb dX6_alarmOf_14 (by decide) (fun _ => ?_) (fun h => absurd h (by decide))
  refine lv_aload_n hx hb dX6_alarmOf_20 rfl (lv_at hl 0 rfl) ?_
  refine r_get X hw (v := .ref (L 0)) fl_X6_10 (m_fl 0 rfl (m_fl 0 rfl (m_at 0 rfl))) rfl dX6_alarmOf_21 ?_
  refine r_get X hw (v := .ref (L 6)) fl_X6_82 (m_fl 0 rfl (m_fl 1 rfl (m_fl 0 rfl (m_at 0 rfl)))) rfl dX6_alarmOf_24 ?_
  refine lv_astore_n (lv' := [(3, .ref (L 6)), (0, .ref o), (1, .int (nI a)), (2, .int 3)]) hx hb dX6_alarmOf_27 rfl hl (by decide) rfl (fun ls hl => ?_)
  refine lv_iload_n hx hb dX6_alarmOf_28 rfl (lv_at hl 3 rfl) ?_
  refine lv_iconst (v := 5) hx hb dX6_alarmOf_29 (by decide) ?_
  refine lv_icmp_ge (tgt := 42) hx hb dX6_alarmOf_30 (by decide) (fun h => absurd h (by decide)) (fun _ => ?_)
  refine lv_aload_n hx hb dX6_alarmOf_33 rfl (lv_at hl 0 rfl) ?_
  refine r_get X hw (v := .ref (L 7)) fl_X6_162 (m_fl 0 rfl (m_fl 1 rfl (m_fl 2 rfl (m_at 0 rfl)))) rfl dX6_alarmOf_34 ?_
  refine lv_iload_n hx hb dX6_alarmOf_37 rfl (lv_at hl 2 rfl) ?_
  refine r_ald2 X hw (q := w1 a) a (m_fl 0 rfl (m_fl 1 rfl (m_fl 2 rfl (m_at 1 rfl)))) rfl (by omega) (by decide) (if_pos (by omega)) dX6_alarmOf_38 ?_
  refine lv_iload_n hx hb dX6_alarmOf_39 rfl (lv_at hl 3 rfl) ?_
  refine r_iald X hw (f := s.av a) 3 (m_fl 0 rfl (m_fl 1 rfl (m_fl 2 rfl (al_row_m (by omega))))) rfl (by decide) (by decide) dX6_alarmOf_40 ?_
  exact r_ret X hw hk hret rfl (rfl) rfl dX6_alarmOf_41

noncomputable def sp_X6_alarmOf4 (s : ChS) (a : Nat) : Int32 := (s.av a) 4
set_option maxRecDepth 100000 in
set_option maxHeartbeats 4000000 in
theorem c_X6_alarmOf4 (l : Launch) (D : va_G) (sz : Nat) (o ha ta : Nat) (L w1 w2 M y1 y2 : Nat → Nat) (HL HW1 HW2 : Nat → Nat → Nat) (b0 b1 b2 b3 : Nat) (bw : Nat → Nat) (u0 u1 : Nat) (tx : Row) (T : Nat) (s t : ChS) (hs : Nat → ChS) (en tb : Row) (sh : Nat → Row) (n0 : Int32) (nu : Row) (lt br le : Int32) (k : Nat) (hk4 : k ≤ 4) (hT : T ≤ 60) (a : Nat) (ha3 : a < 3) (h9 : ¬ sp_X6_isAlarm (nI a) = 0) : MI l yX6_alarmOf cX6_alarmOf 4 (some .int) 2 42 D sz [.ref o, .int (nI a), .int 4] (([([xB D o ha ta (L 0) (M 0) b0 u0 (nI k) (rows4 HL) tx (nI T), chipB D L w1 w2 s.v s.f s.g s.r s.av s.mk s.cm s.ar s.fl s.en s.la s.zs s.se s.ph s.tk s.pc s.rc s.wc s.bc s.tc, hsB D HL HW1 HW2 hs] : List va_W).flatten, ([chipB D M y1 y2 t.v t.f t.g t.r t.av t.mk t.cm t.ar t.fl t.en t.la t.zs t.se t.ph t.tk t.pc t.rc t.wc t.bc t.tc, buB D b0 b1 b2 b3 bw en tb sh n0, orB D u0 u1 nu lt br le] : List va_W).flatten] : List va_W).flatten) (sp_X6_alarmOf4 s a) (([([xB D o ha ta (L 0) (M 0) b0 u0 (nI k) (rows4 HL) tx (nI T), chipB D L w1 w2 s.v s.f s.g s.r s.av s.mk s.cm s.ar s.fl s.en s.la s.zs s.se s.ph s.tk s.pc s.rc s.wc s.bc s.tc, hsB D HL HW1 HW2 hs] : List va_W).flatten, ([chipB D M y1 y2 t.v t.f t.g t.r t.av t.mk t.cm t.ar t.fl t.en t.la t.zs t.se t.ph t.tk t.pc t.rc t.wc t.bc t.tc, buB D b0 b1 b2 b3 bw en tb sh n0, orB D u0 u1 nu lt br le] : List va_W).flatten] : List va_W).flatten) := by
  refine r_enterI (by decide) (Nat.le_of_ble_eq_true rfl) ?_
  intro p e st m args below meth c ls A X hret hk hw hl
  have X : CX D p m c cX6_alarmOf 4 st args RX6 A := X
  have hx := X.1.1
  have hb := X.1.2.1
  have hown := X.1.2.2.2.1
  have hts := X.1.2.2.2.2
  have hl : lv_has ls 4 [(0, .ref o), (1, .int (nI a)), (2, .int 4)] := hl
  refine lv_iload_n hx hb dX6_alarmOf_0 rfl (lv_at hl 1 rfl) ?_
  refine r_callS X hw (ws' := ([([xB D o ha ta (L 0) (M 0) b0 u0 (nI k) (rows4 HL) tx (nI T), chipB D L w1 w2 s.v s.f s.g s.r s.av s.mk s.cm s.ar s.fl s.en s.la s.zs s.se s.ph s.tk s.pc s.rc s.wc s.bc s.tc, hsB D HL HW1 HW2 hs] : List va_W).flatten, ([chipB D M y1 y2 t.v t.f t.g t.r t.av t.mk t.cm t.ar t.fl t.en t.la t.zs t.se t.ph t.tk t.pc t.rc t.wc t.bc t.tc, buB D b0 b1 b2 b3 bw en tb sh n0, orB D u0 u1 nu lt br le] : List va_W).flatten] : List va_W).flatten) (As := [.int (nI a)]) (rest := []) lk_X6_92 (c_X6_isAlarm l D _ (nI a)) Foc.nil rfl hl.1 (Nat.le_of_ble_eq_true rfl) ⟨Nat.le_of_ble_eq_true rfl, Nat.le_of_ble_eq_true rfl⟩ rfl dX6_alarmOf_1 ⟨Nat.le_refl _, Nat.le_refl _⟩ (fun H locs hw => ?_)
  refine lv_if_eq (tgt := 17) hx hb dX6_alarmOf_4 (by decide) (fun h => absurd h h9) (fun _ => ?_)
  refine lv_iload_n hx hb dX6_alarmOf_7 rfl (lv_at hl 2 rfl) ?_
  refine lv_iconst (v := 0) hx hb dX6_alarmOf_8 (by decide) ?_
  refine lv_bipush (v := 9) hx hb dX6_alarmOf_9 (by decide) ?_
  refine r_callS X hw (ws' := ([([xB D o ha ta (L 0) (M 0) b0 u0 (nI k) (rows4 HL) tx (nI T), chipB D L w1 w2 s.v s.f s.g s.r s.av s.mk s.cm s.ar s.fl s.en s.la s.zs s.se s.ph s.tk s.pc s.rc s.wc s.bc s.tc, hsB D HL HW1 HW2 hs] : List va_W).flatten, ([chipB D M y1 y2 t.v t.f t.g t.r t.av t.mk t.cm t.ar t.fl t.en t.la t.zs t.se t.ph t.tk t.pc t.rc t.wc t.bc t.tc, buB D b0 b1 b2 b3 bw en tb sh n0, orB D u0 u1 nu lt br le] : List va_W).flatten] : List va_W).flatten) (As := [.int 4, .int 0, .int 9]) (rest := []) lk_X6_95 (c_X6_isWithin l D _ 4 0 9) Foc.nil rfl hl.1 (Nat.le_of_ble_eq_true rfl) ⟨Nat.le_of_ble_eq_true rfl, Nat.le_of_ble_eq_true rfl⟩ rfl dX6_alarmOf_11 ⟨Nat.le_refl _, Nat.le_refl _⟩ (fun H locs hw => ?_)
  refine lv_if_ne (tgt := 20) hx hb dX6_alarmOf_14 (by decide) (fun _ => ?_) (fun h => absurd h (by decide))
  refine lv_aload_n hx hb dX6_alarmOf_20 rfl (lv_at hl 0 rfl) ?_
  refine r_get X hw (v := .ref (L 0)) fl_X6_10 (m_fl 0 rfl (m_fl 0 rfl (m_at 0 rfl))) rfl dX6_alarmOf_21 ?_
  refine r_get X hw (v := .ref (L 6)) fl_X6_82 (m_fl 0 rfl (m_fl 1 rfl (m_fl 0 rfl (m_at 0 rfl)))) rfl dX6_alarmOf_24 ?_
  refine lv_astore_n (lv' := [(3, .ref (L 6)), (0, .ref o), (1, .int (nI a)), (2, .int 4)]) hx hb dX6_alarmOf_27 rfl hl (by decide) rfl (fun ls hl => ?_)
  refine lv_iload_n hx hb dX6_alarmOf_28 rfl (lv_at hl 3 rfl) ?_
  refine lv_iconst (v := 5) hx hb dX6_alarmOf_29 (by decide) ?_
  refine lv_icmp_ge (tgt := 42) hx hb dX6_alarmOf_30 (by decide) (fun h => absurd h (by decide)) (fun _ => ?_)
  refine lv_aload_n hx hb dX6_alarmOf_33 rfl (lv_at hl 0 rfl) ?_
  refine r_get X hw (v := .ref (L 7)) fl_X6_162 (m_fl 0 rfl (m_fl 1 rfl (m_fl 2 rfl (m_at 0 rfl)))) rfl dX6_alarmOf_34 ?_
  refine lv_iload_n hx hb dX6_alarmOf_37 rfl (lv_at hl 2 rfl) ?_
  refine r_ald2 X hw (q := w1 a) a (m_fl 0 rfl (m_fl 1 rfl (m_fl 2 rfl (m_at 1 rfl)))) rfl (by omega) (by decide) (if_pos (by omega)) dX6_alarmOf_38 ?_
  refine lv_iload_n hx hb dX6_alarmOf_39 rfl (lv_at hl 3 rfl) ?_
  refine r_iald X hw (f := s.av a) 4 (m_fl 0 rfl (m_fl 1 rfl (m_fl 2 rfl (al_row_m (by omega))))) rfl (by decide) (by decide) dX6_alarmOf_40 ?_
  exact r_ret X hw hk hret rfl (rfl) rfl dX6_alarmOf_41

noncomputable def sp_X6_alarmOf5 (s : ChS) (a : Nat) : Int32 := s.mk a
set_option maxRecDepth 100000 in
set_option maxHeartbeats 4000000 in
theorem c_X6_alarmOf5 (l : Launch) (D : va_G) (sz : Nat) (o ha ta : Nat) (L w1 w2 M y1 y2 : Nat → Nat) (HL HW1 HW2 : Nat → Nat → Nat) (b0 b1 b2 b3 : Nat) (bw : Nat → Nat) (u0 u1 : Nat) (tx : Row) (T : Nat) (s t : ChS) (hs : Nat → ChS) (en tb : Row) (sh : Nat → Row) (n0 : Int32) (nu : Row) (lt br le : Int32) (k : Nat) (hk4 : k ≤ 4) (hT : T ≤ 60) (a : Nat) (ha3 : a < 3) (h9 : ¬ sp_X6_isAlarm (nI a) = 0) : MI l yX6_alarmOf cX6_alarmOf 4 (some .int) 2 42 D sz [.ref o, .int (nI a), .int 5] (([([xB D o ha ta (L 0) (M 0) b0 u0 (nI k) (rows4 HL) tx (nI T), chipB D L w1 w2 s.v s.f s.g s.r s.av s.mk s.cm s.ar s.fl s.en s.la s.zs s.se s.ph s.tk s.pc s.rc s.wc s.bc s.tc, hsB D HL HW1 HW2 hs] : List va_W).flatten, ([chipB D M y1 y2 t.v t.f t.g t.r t.av t.mk t.cm t.ar t.fl t.en t.la t.zs t.se t.ph t.tk t.pc t.rc t.wc t.bc t.tc, buB D b0 b1 b2 b3 bw en tb sh n0, orB D u0 u1 nu lt br le] : List va_W).flatten] : List va_W).flatten) (sp_X6_alarmOf5 s a) (([([xB D o ha ta (L 0) (M 0) b0 u0 (nI k) (rows4 HL) tx (nI T), chipB D L w1 w2 s.v s.f s.g s.r s.av s.mk s.cm s.ar s.fl s.en s.la s.zs s.se s.ph s.tk s.pc s.rc s.wc s.bc s.tc, hsB D HL HW1 HW2 hs] : List va_W).flatten, ([chipB D M y1 y2 t.v t.f t.g t.r t.av t.mk t.cm t.ar t.fl t.en t.la t.zs t.se t.ph t.tk t.pc t.rc t.wc t.bc t.tc, buB D b0 b1 b2 b3 bw en tb sh n0, orB D u0 u1 nu lt br le] : List va_W).flatten] : List va_W).flatten) := by
  refine r_enterI (by decide) (Nat.le_of_ble_eq_true rfl) ?_
  intro p e st m args below meth c ls A X hret hk hw hl
  have X : CX D p m c cX6_alarmOf 4 st args RX6 A := X
  have hx := X.1.1
  have hb := X.1.2.1
  have hown := X.1.2.2.2.1
  have hts := X.1.2.2.2.2
  have hl : lv_has ls 4 [(0, .ref o), (1, .int (nI a)), (2, .int 5)] := hl
  refine lv_iload_n hx hb dX6_alarmOf_0 rfl (lv_at hl 1 rfl) ?_
  refine r_callS X hw (ws' := ([([xB D o ha ta (L 0) (M 0) b0 u0 (nI k) (rows4 HL) tx (nI T), chipB D L w1 w2 s.v s.f s.g s.r s.av s.mk s.cm s.ar s.fl s.en s.la s.zs s.se s.ph s.tk s.pc s.rc s.wc s.bc s.tc, hsB D HL HW1 HW2 hs] : List va_W).flatten, ([chipB D M y1 y2 t.v t.f t.g t.r t.av t.mk t.cm t.ar t.fl t.en t.la t.zs t.se t.ph t.tk t.pc t.rc t.wc t.bc t.tc, buB D b0 b1 b2 b3 bw en tb sh n0, orB D u0 u1 nu lt br le] : List va_W).flatten] : List va_W).flatten) (As := [.int (nI a)]) (rest := []) lk_X6_92 (c_X6_isAlarm l D _ (nI a)) Foc.nil rfl hl.1 (Nat.le_of_ble_eq_true rfl) ⟨Nat.le_of_ble_eq_true rfl, Nat.le_of_ble_eq_true rfl⟩ rfl dX6_alarmOf_1 ⟨Nat.le_refl _, Nat.le_refl _⟩ (fun H locs hw => ?_)
  refine lv_if_eq (tgt := 17) hx hb dX6_alarmOf_4 (by decide) (fun h => absurd h h9) (fun _ => ?_)
  refine lv_iload_n hx hb dX6_alarmOf_7 rfl (lv_at hl 2 rfl) ?_
  refine lv_iconst (v := 0) hx hb dX6_alarmOf_8 (by decide) ?_
  refine lv_bipush (v := 9) hx hb dX6_alarmOf_9 (by decide) ?_
  refine r_callS X hw (ws' := ([([xB D o ha ta (L 0) (M 0) b0 u0 (nI k) (rows4 HL) tx (nI T), chipB D L w1 w2 s.v s.f s.g s.r s.av s.mk s.cm s.ar s.fl s.en s.la s.zs s.se s.ph s.tk s.pc s.rc s.wc s.bc s.tc, hsB D HL HW1 HW2 hs] : List va_W).flatten, ([chipB D M y1 y2 t.v t.f t.g t.r t.av t.mk t.cm t.ar t.fl t.en t.la t.zs t.se t.ph t.tk t.pc t.rc t.wc t.bc t.tc, buB D b0 b1 b2 b3 bw en tb sh n0, orB D u0 u1 nu lt br le] : List va_W).flatten] : List va_W).flatten) (As := [.int 5, .int 0, .int 9]) (rest := []) lk_X6_95 (c_X6_isWithin l D _ 5 0 9) Foc.nil rfl hl.1 (Nat.le_of_ble_eq_true rfl) ⟨Nat.le_of_ble_eq_true rfl, Nat.le_of_ble_eq_true rfl⟩ rfl dX6_alarmOf_11 ⟨Nat.le_refl _, Nat.le_refl _⟩ (fun H locs hw => ?_)
  refine lv_if_ne (tgt := 20) hx hb dX6_alarmOf_14 (by decide) (fun _ => ?_) (fun h => absurd h (by decide))
  refine lv_aload_n hx hb dX6_alarmOf_20 rfl (lv_at hl 0 rfl) ?_
  refine r_get X hw (v := .ref (L 0)) fl_X6_10 (m_fl 0 rfl (m_fl 0 rfl (m_at 0 rfl))) rfl dX6_alarmOf_21 ?_
  refine r_get X hw (v := .ref (L 6)) fl_X6_82 (m_fl 0 rfl (m_fl 1 rfl (m_fl 0 rfl (m_at 0 rfl)))) rfl dX6_alarmOf_24 ?_
  refine lv_astore_n (lv' := [(3, .ref (L 6)), (0, .ref o), (1, .int (nI a)), (2, .int 5)]) hx hb dX6_alarmOf_27 rfl hl (by decide) rfl (fun ls hl => ?_)
  refine lv_iload_n hx hb dX6_alarmOf_28 rfl (lv_at hl 3 rfl) ?_
  refine lv_iconst (v := 5) hx hb dX6_alarmOf_29 (by decide) ?_
  refine lv_icmp_ge (tgt := 42) hx hb dX6_alarmOf_30 (by decide) (fun _ => ?_) (fun h => absurd (by decide) h)
  refine lv_iload_n hx hb dX6_alarmOf_42 rfl (lv_at hl 3 rfl) ?_
  refine r_tabIn (tgt := 72) hx hb 5 rfl dX6_alarmOf_43 (by decide) (by decide) rfl (by decide) ?_
  refine lv_aload_n hx hb dX6_alarmOf_72 rfl (lv_at hl 0 rfl) ?_
  refine r_get X hw (v := .ref (L 8)) fl_X6_165 (m_fl 0 rfl (m_fl 1 rfl (m_fl 2 rfl (m_at 0 rfl)))) rfl dX6_alarmOf_73 ?_
  refine lv_iload_n hx hb dX6_alarmOf_76 rfl (lv_at hl 2 rfl) ?_
  refine r_iald X hw (f := s.mk) a (m_fl 0 rfl (m_fl 1 rfl (m_fl 2 rfl (m_at 2 rfl)))) rfl (by omega) (by decide) dX6_alarmOf_77 ?_
  exact r_ret X hw hk hret rfl (rfl) rfl dX6_alarmOf_78

noncomputable def sp_X6_alarmOf6 (s : ChS) (a : Nat) : Int32 := sp_X6_bitOf s.ar (nI a)
set_option maxRecDepth 100000 in
set_option maxHeartbeats 4000000 in
theorem c_X6_alarmOf6 (l : Launch) (D : va_G) (sz : Nat) (o ha ta : Nat) (L w1 w2 M y1 y2 : Nat → Nat) (HL HW1 HW2 : Nat → Nat → Nat) (b0 b1 b2 b3 : Nat) (bw : Nat → Nat) (u0 u1 : Nat) (tx : Row) (T : Nat) (s t : ChS) (hs : Nat → ChS) (en tb : Row) (sh : Nat → Row) (n0 : Int32) (nu : Row) (lt br le : Int32) (k : Nat) (hk4 : k ≤ 4) (hT : T ≤ 60) (a : Nat) (ha3 : a < 3) (h9 : ¬ sp_X6_isAlarm (nI a) = 0) : MI l yX6_alarmOf cX6_alarmOf 4 (some .int) 2 42 D sz [.ref o, .int (nI a), .int 6] (([([xB D o ha ta (L 0) (M 0) b0 u0 (nI k) (rows4 HL) tx (nI T), chipB D L w1 w2 s.v s.f s.g s.r s.av s.mk s.cm s.ar s.fl s.en s.la s.zs s.se s.ph s.tk s.pc s.rc s.wc s.bc s.tc, hsB D HL HW1 HW2 hs] : List va_W).flatten, ([chipB D M y1 y2 t.v t.f t.g t.r t.av t.mk t.cm t.ar t.fl t.en t.la t.zs t.se t.ph t.tk t.pc t.rc t.wc t.bc t.tc, buB D b0 b1 b2 b3 bw en tb sh n0, orB D u0 u1 nu lt br le] : List va_W).flatten] : List va_W).flatten) (sp_X6_alarmOf6 s a) (([([xB D o ha ta (L 0) (M 0) b0 u0 (nI k) (rows4 HL) tx (nI T), chipB D L w1 w2 s.v s.f s.g s.r s.av s.mk s.cm s.ar s.fl s.en s.la s.zs s.se s.ph s.tk s.pc s.rc s.wc s.bc s.tc, hsB D HL HW1 HW2 hs] : List va_W).flatten, ([chipB D M y1 y2 t.v t.f t.g t.r t.av t.mk t.cm t.ar t.fl t.en t.la t.zs t.se t.ph t.tk t.pc t.rc t.wc t.bc t.tc, buB D b0 b1 b2 b3 bw en tb sh n0, orB D u0 u1 nu lt br le] : List va_W).flatten] : List va_W).flatten) := by
  refine r_enterI (by decide) (Nat.le_of_ble_eq_true rfl) ?_
  intro p e st m args below meth c ls A X hret hk hw hl
  have X : CX D p m c cX6_alarmOf 4 st args RX6 A := X
  have hx := X.1.1
  have hb := X.1.2.1
  have hown := X.1.2.2.2.1
  have hts := X.1.2.2.2.2
  have hl : lv_has ls 4 [(0, .ref o), (1, .int (nI a)), (2, .int 6)] := hl
  refine lv_iload_n hx hb dX6_alarmOf_0 rfl (lv_at hl 1 rfl) ?_
  refine r_callS X hw (ws' := ([([xB D o ha ta (L 0) (M 0) b0 u0 (nI k) (rows4 HL) tx (nI T), chipB D L w1 w2 s.v s.f s.g s.r s.av s.mk s.cm s.ar s.fl s.en s.la s.zs s.se s.ph s.tk s.pc s.rc s.wc s.bc s.tc, hsB D HL HW1 HW2 hs] : List va_W).flatten, ([chipB D M y1 y2 t.v t.f t.g t.r t.av t.mk t.cm t.ar t.fl t.en t.la t.zs t.se t.ph t.tk t.pc t.rc t.wc t.bc t.tc, buB D b0 b1 b2 b3 bw en tb sh n0, orB D u0 u1 nu lt br le] : List va_W).flatten] : List va_W).flatten) (As := [.int (nI a)]) (rest := []) lk_X6_92 (c_X6_isAlarm l D _ (nI a)) Foc.nil rfl hl.1 (Nat.le_of_ble_eq_true rfl) ⟨Nat.le_of_ble_eq_true rfl, Nat.le_of_ble_eq_true rfl⟩ rfl dX6_alarmOf_1 ⟨Nat.le_refl _, Nat.le_refl _⟩ (fun H locs hw => ?_)
  refine lv_if_eq (tgt := 17) hx hb dX6_alarmOf_4 (by decide) (fun h => absurd h h9) (fun _ => ?_)
  refine lv_iload_n hx hb dX6_alarmOf_7 rfl (lv_at hl 2 rfl) ?_
  refine lv_iconst (v := 0) hx hb dX6_alarmOf_8 (by decide) ?_
  refine lv_bipush (v := 9) hx hb dX6_alarmOf_9 (by decide) ?_
  refine r_callS X hw (ws' := ([([xB D o ha ta (L 0) (M 0) b0 u0 (nI k) (rows4 HL) tx (nI T), chipB D L w1 w2 s.v s.f s.g s.r s.av s.mk s.cm s.ar s.fl s.en s.la s.zs s.se s.ph s.tk s.pc s.rc s.wc s.bc s.tc, hsB D HL HW1 HW2 hs] : List va_W).flatten, ([chipB D M y1 y2 t.v t.f t.g t.r t.av t.mk t.cm t.ar t.fl t.en t.la t.zs t.se t.ph t.tk t.pc t.rc t.wc t.bc t.tc, buB D b0 b1 b2 b3 bw en tb sh n0, orB D u0 u1 nu lt br le] : List va_W).flatten] : List va_W).flatten) (As := [.int 6, .int 0, .int 9]) (rest := []) lk_X6_95 (c_X6_isWithin l D _ 6 0 9) Foc.nil rfl hl.1 (Nat.le_of_ble_eq_true rfl) ⟨Nat.le_of_ble_eq_true rfl, Nat.le_of_ble_eq_true rfl⟩ rfl dX6_alarmOf_11 ⟨Nat.le_refl _, Nat.le_refl _⟩ (fun H locs hw => ?_)
  refine lv_if_ne (tgt := 20) hx hb dX6_alarmOf_14 (by decide) (fun _ => ?_) (fun h => absurd h (by decide))
  refine lv_aload_n hx hb dX6_alarmOf_20 rfl (lv_at hl 0 rfl) ?_
  refine r_get X hw (v := .ref (L 0)) fl_X6_10 (m_fl 0 rfl (m_fl 0 rfl (m_at 0 rfl))) rfl dX6_alarmOf_21 ?_
  refine r_get X hw (v := .ref (L 6)) fl_X6_82 (m_fl 0 rfl (m_fl 1 rfl (m_fl 0 rfl (m_at 0 rfl)))) rfl dX6_alarmOf_24 ?_
  refine lv_astore_n (lv' := [(3, .ref (L 6)), (0, .ref o), (1, .int (nI a)), (2, .int 6)]) hx hb dX6_alarmOf_27 rfl hl (by decide) rfl (fun ls hl => ?_)
  refine lv_iload_n hx hb dX6_alarmOf_28 rfl (lv_at hl 3 rfl) ?_
  refine lv_iconst (v := 5) hx hb dX6_alarmOf_29 (by decide) ?_
  refine lv_icmp_ge (tgt := 42) hx hb dX6_alarmOf_30 (by decide) (fun _ => ?_) (fun h => absurd (by decide) h)
  refine lv_iload_n hx hb dX6_alarmOf_42 rfl (lv_at hl 3 rfl) ?_
  refine r_tabIn (tgt := 79) hx hb 6 rfl dX6_alarmOf_43 (by decide) (by decide) rfl (by decide) ?_
  refine lv_aload_n hx hb dX6_alarmOf_79 rfl (lv_at hl 0 rfl) ?_
  refine r_get X hw (v := .int s.ar) fl_X6_168 (m_fl 0 rfl (m_fl 1 rfl (m_fl 2 rfl (m_at 0 rfl)))) rfl dX6_alarmOf_80 ?_
  refine lv_iload_n hx hb dX6_alarmOf_83 rfl (lv_at hl 2 rfl) ?_
  refine r_callS X hw (ws' := ([([xB D o ha ta (L 0) (M 0) b0 u0 (nI k) (rows4 HL) tx (nI T), chipB D L w1 w2 s.v s.f s.g s.r s.av s.mk s.cm s.ar s.fl s.en s.la s.zs s.se s.ph s.tk s.pc s.rc s.wc s.bc s.tc, hsB D HL HW1 HW2 hs] : List va_W).flatten, ([chipB D M y1 y2 t.v t.f t.g t.r t.av t.mk t.cm t.ar t.fl t.en t.la t.zs t.se t.ph t.tk t.pc t.rc t.wc t.bc t.tc, buB D b0 b1 b2 b3 bw en tb sh n0, orB D u0 u1 nu lt br le] : List va_W).flatten] : List va_W).flatten) (As := [.int s.ar, .int (nI a)]) (rest := []) lk_X6_171 (c_X6_bitOf l D _ s.ar (nI a)) Foc.nil rfl hl.1 (Nat.le_of_ble_eq_true rfl) ⟨Nat.le_of_ble_eq_true rfl, Nat.le_of_ble_eq_true rfl⟩ rfl dX6_alarmOf_84 ⟨Nat.le_refl _, Nat.le_refl _⟩ (fun H locs hw => ?_)
  exact r_ret X hw hk hret rfl (rfl) rfl dX6_alarmOf_87

noncomputable def sp_X6_alarmOf7 (s : ChS) (a : Nat) : Int32 := sp_X6_bitOf s.fl (nI a)
set_option maxRecDepth 100000 in
set_option maxHeartbeats 4000000 in
theorem c_X6_alarmOf7 (l : Launch) (D : va_G) (sz : Nat) (o ha ta : Nat) (L w1 w2 M y1 y2 : Nat → Nat) (HL HW1 HW2 : Nat → Nat → Nat) (b0 b1 b2 b3 : Nat) (bw : Nat → Nat) (u0 u1 : Nat) (tx : Row) (T : Nat) (s t : ChS) (hs : Nat → ChS) (en tb : Row) (sh : Nat → Row) (n0 : Int32) (nu : Row) (lt br le : Int32) (k : Nat) (hk4 : k ≤ 4) (hT : T ≤ 60) (a : Nat) (ha3 : a < 3) (h9 : ¬ sp_X6_isAlarm (nI a) = 0) : MI l yX6_alarmOf cX6_alarmOf 4 (some .int) 2 42 D sz [.ref o, .int (nI a), .int 7] (([([xB D o ha ta (L 0) (M 0) b0 u0 (nI k) (rows4 HL) tx (nI T), chipB D L w1 w2 s.v s.f s.g s.r s.av s.mk s.cm s.ar s.fl s.en s.la s.zs s.se s.ph s.tk s.pc s.rc s.wc s.bc s.tc, hsB D HL HW1 HW2 hs] : List va_W).flatten, ([chipB D M y1 y2 t.v t.f t.g t.r t.av t.mk t.cm t.ar t.fl t.en t.la t.zs t.se t.ph t.tk t.pc t.rc t.wc t.bc t.tc, buB D b0 b1 b2 b3 bw en tb sh n0, orB D u0 u1 nu lt br le] : List va_W).flatten] : List va_W).flatten) (sp_X6_alarmOf7 s a) (([([xB D o ha ta (L 0) (M 0) b0 u0 (nI k) (rows4 HL) tx (nI T), chipB D L w1 w2 s.v s.f s.g s.r s.av s.mk s.cm s.ar s.fl s.en s.la s.zs s.se s.ph s.tk s.pc s.rc s.wc s.bc s.tc, hsB D HL HW1 HW2 hs] : List va_W).flatten, ([chipB D M y1 y2 t.v t.f t.g t.r t.av t.mk t.cm t.ar t.fl t.en t.la t.zs t.se t.ph t.tk t.pc t.rc t.wc t.bc t.tc, buB D b0 b1 b2 b3 bw en tb sh n0, orB D u0 u1 nu lt br le] : List va_W).flatten] : List va_W).flatten) := by
  refine r_enterI (by decide) (Nat.le_of_ble_eq_true rfl) ?_
  intro p e st m args below meth c ls A X hret hk hw hl
  have X : CX D p m c cX6_alarmOf 4 st args RX6 A := X
  have hx := X.1.1
  have hb := X.1.2.1
  have hown := X.1.2.2.2.1
  have hts := X.1.2.2.2.2
  have hl : lv_has ls 4 [(0, .ref o), (1, .int (nI a)), (2, .int 7)] := hl
  refine lv_iload_n hx hb dX6_alarmOf_0 rfl (lv_at hl 1 rfl) ?_
  refine r_callS X hw (ws' := ([([xB D o ha ta (L 0) (M 0) b0 u0 (nI k) (rows4 HL) tx (nI T), chipB D L w1 w2 s.v s.f s.g s.r s.av s.mk s.cm s.ar s.fl s.en s.la s.zs s.se s.ph s.tk s.pc s.rc s.wc s.bc s.tc, hsB D HL HW1 HW2 hs] : List va_W).flatten, ([chipB D M y1 y2 t.v t.f t.g t.r t.av t.mk t.cm t.ar t.fl t.en t.la t.zs t.se t.ph t.tk t.pc t.rc t.wc t.bc t.tc, buB D b0 b1 b2 b3 bw en tb sh n0, orB D u0 u1 nu lt br le] : List va_W).flatten] : List va_W).flatten) (As := [.int (nI a)]) (rest := []) lk_X6_92 (c_X6_isAlarm l D _ (nI a)) Foc.nil rfl hl.1 (Nat.le_of_ble_eq_true rfl) ⟨Nat.le_of_ble_eq_true rfl, Nat.le_of_ble_eq_true rfl⟩ rfl dX6_alarmOf_1 ⟨Nat.le_refl _, Nat.le_refl _⟩ (fun H locs hw => ?_)
  refine lv_if_eq (tgt := 17) hx hb dX6_alarmOf_4 (by decide) (fun h => absurd h h9) (fun _ => ?_)
  refine lv_iload_n hx hb dX6_alarmOf_7 rfl (lv_at hl 2 rfl) ?_
  refine lv_iconst (v := 0) hx hb dX6_alarmOf_8 (by decide) ?_
  refine lv_bipush (v := 9) hx hb dX6_alarmOf_9 (by decide) ?_
  refine r_callS X hw (ws' := ([([xB D o ha ta (L 0) (M 0) b0 u0 (nI k) (rows4 HL) tx (nI T), chipB D L w1 w2 s.v s.f s.g s.r s.av s.mk s.cm s.ar s.fl s.en s.la s.zs s.se s.ph s.tk s.pc s.rc s.wc s.bc s.tc, hsB D HL HW1 HW2 hs] : List va_W).flatten, ([chipB D M y1 y2 t.v t.f t.g t.r t.av t.mk t.cm t.ar t.fl t.en t.la t.zs t.se t.ph t.tk t.pc t.rc t.wc t.bc t.tc, buB D b0 b1 b2 b3 bw en tb sh n0, orB D u0 u1 nu lt br le] : List va_W).flatten] : List va_W).flatten) (As := [.int 7, .int 0, .int 9]) (rest := []) lk_X6_95 (c_X6_isWithin l D _ 7 0 9) Foc.nil rfl hl.1 (Nat.le_of_ble_eq_true rfl) ⟨Nat.le_of_ble_eq_true rfl, Nat.le_of_ble_eq_true rfl⟩ rfl dX6_alarmOf_11 ⟨Nat.le_refl _, Nat.le_refl _⟩ (fun H locs hw => ?_)
  refine lv_if_ne (tgt := 20) hx hb dX6_alarmOf_14 (by decide) (fun _ => ?_) (fun h => absurd h (by decide))
  refine lv_aload_n hx hb dX6_alarmOf_20 rfl (lv_at hl 0 rfl) ?_
  refine r_get X hw (v := .ref (L 0)) fl_X6_10 (m_fl 0 rfl (m_fl 0 rfl (m_at 0 rfl))) rfl dX6_alarmOf_21 ?_
  refine r_get X hw (v := .ref (L 6)) fl_X6_82 (m_fl 0 rfl (m_fl 1 rfl (m_fl 0 rfl (m_at 0 rfl)))) rfl dX6_alarmOf_24 ?_
  refine lv_astore_n (lv' := [(3, .ref (L 6)), (0, .ref o), (1, .int (nI a)), (2, .int 7)]) hx hb dX6_alarmOf_27 rfl hl (by decide) rfl (fun ls hl => ?_)
  refine lv_iload_n hx hb dX6_alarmOf_28 rfl (lv_at hl 3 rfl) ?_
  refine lv_iconst (v := 5) hx hb dX6_alarmOf_29 (by decide) ?_
  refine lv_icmp_ge (tgt := 42) hx hb dX6_alarmOf_30 (by decide) (fun _ => ?_) (fun h => absurd (by decide) h)
  refine lv_iload_n hx hb dX6_alarmOf_42 rfl (lv_at hl 3 rfl) ?_
  refine r_tabIn (tgt := 88) hx hb 7 rfl dX6_alarmOf_43 (by decide) (by decide) rfl (by decide) ?_
  refine lv_aload_n hx hb dX6_alarmOf_88 rfl (lv_at hl 0 rfl) ?_
  refine r_get X hw (v := .int s.fl) fl_X6_101 (m_fl 0 rfl (m_fl 1 rfl (m_fl 2 rfl (m_at 0 rfl)))) rfl dX6_alarmOf_89 ?_
  refine lv_iload_n hx hb dX6_alarmOf_92 rfl (lv_at hl 2 rfl) ?_
  refine r_callS X hw (ws' := ([([xB D o ha ta (L 0) (M 0) b0 u0 (nI k) (rows4 HL) tx (nI T), chipB D L w1 w2 s.v s.f s.g s.r s.av s.mk s.cm s.ar s.fl s.en s.la s.zs s.se s.ph s.tk s.pc s.rc s.wc s.bc s.tc, hsB D HL HW1 HW2 hs] : List va_W).flatten, ([chipB D M y1 y2 t.v t.f t.g t.r t.av t.mk t.cm t.ar t.fl t.en t.la t.zs t.se t.ph t.tk t.pc t.rc t.wc t.bc t.tc, buB D b0 b1 b2 b3 bw en tb sh n0, orB D u0 u1 nu lt br le] : List va_W).flatten] : List va_W).flatten) (As := [.int s.fl, .int (nI a)]) (rest := []) lk_X6_171 (c_X6_bitOf l D _ s.fl (nI a)) Foc.nil rfl hl.1 (Nat.le_of_ble_eq_true rfl) ⟨Nat.le_of_ble_eq_true rfl, Nat.le_of_ble_eq_true rfl⟩ rfl dX6_alarmOf_93 ⟨Nat.le_refl _, Nat.le_refl _⟩ (fun H locs hw => ?_)
  exact r_ret X hw hk hret rfl (rfl) rfl dX6_alarmOf_96

noncomputable def sp_X6_alarmOf8 (s : ChS) (a : Nat) : Int32 := s.cm a
set_option maxRecDepth 100000 in
set_option maxHeartbeats 4000000 in
theorem c_X6_alarmOf8 (l : Launch) (D : va_G) (sz : Nat) (o ha ta : Nat) (L w1 w2 M y1 y2 : Nat → Nat) (HL HW1 HW2 : Nat → Nat → Nat) (b0 b1 b2 b3 : Nat) (bw : Nat → Nat) (u0 u1 : Nat) (tx : Row) (T : Nat) (s t : ChS) (hs : Nat → ChS) (en tb : Row) (sh : Nat → Row) (n0 : Int32) (nu : Row) (lt br le : Int32) (k : Nat) (hk4 : k ≤ 4) (hT : T ≤ 60) (a : Nat) (ha3 : a < 3) (h9 : ¬ sp_X6_isAlarm (nI a) = 0) : MI l yX6_alarmOf cX6_alarmOf 4 (some .int) 2 42 D sz [.ref o, .int (nI a), .int 8] (([([xB D o ha ta (L 0) (M 0) b0 u0 (nI k) (rows4 HL) tx (nI T), chipB D L w1 w2 s.v s.f s.g s.r s.av s.mk s.cm s.ar s.fl s.en s.la s.zs s.se s.ph s.tk s.pc s.rc s.wc s.bc s.tc, hsB D HL HW1 HW2 hs] : List va_W).flatten, ([chipB D M y1 y2 t.v t.f t.g t.r t.av t.mk t.cm t.ar t.fl t.en t.la t.zs t.se t.ph t.tk t.pc t.rc t.wc t.bc t.tc, buB D b0 b1 b2 b3 bw en tb sh n0, orB D u0 u1 nu lt br le] : List va_W).flatten] : List va_W).flatten) (sp_X6_alarmOf8 s a) (([([xB D o ha ta (L 0) (M 0) b0 u0 (nI k) (rows4 HL) tx (nI T), chipB D L w1 w2 s.v s.f s.g s.r s.av s.mk s.cm s.ar s.fl s.en s.la s.zs s.se s.ph s.tk s.pc s.rc s.wc s.bc s.tc, hsB D HL HW1 HW2 hs] : List va_W).flatten, ([chipB D M y1 y2 t.v t.f t.g t.r t.av t.mk t.cm t.ar t.fl t.en t.la t.zs t.se t.ph t.tk t.pc t.rc t.wc t.bc t.tc, buB D b0 b1 b2 b3 bw en tb sh n0, orB D u0 u1 nu lt br le] : List va_W).flatten] : List va_W).flatten) := by
  refine r_enterI (by decide) (Nat.le_of_ble_eq_true rfl) ?_
  intro p e st m args below meth c ls A X hret hk hw hl
  have X : CX D p m c cX6_alarmOf 4 st args RX6 A := X
  have hx := X.1.1
  have hb := X.1.2.1
  have hown := X.1.2.2.2.1
  have hts := X.1.2.2.2.2
  have hl : lv_has ls 4 [(0, .ref o), (1, .int (nI a)), (2, .int 8)] := hl
  refine lv_iload_n hx hb dX6_alarmOf_0 rfl (lv_at hl 1 rfl) ?_
  refine r_callS X hw (ws' := ([([xB D o ha ta (L 0) (M 0) b0 u0 (nI k) (rows4 HL) tx (nI T), chipB D L w1 w2 s.v s.f s.g s.r s.av s.mk s.cm s.ar s.fl s.en s.la s.zs s.se s.ph s.tk s.pc s.rc s.wc s.bc s.tc, hsB D HL HW1 HW2 hs] : List va_W).flatten, ([chipB D M y1 y2 t.v t.f t.g t.r t.av t.mk t.cm t.ar t.fl t.en t.la t.zs t.se t.ph t.tk t.pc t.rc t.wc t.bc t.tc, buB D b0 b1 b2 b3 bw en tb sh n0, orB D u0 u1 nu lt br le] : List va_W).flatten] : List va_W).flatten) (As := [.int (nI a)]) (rest := []) lk_X6_92 (c_X6_isAlarm l D _ (nI a)) Foc.nil rfl hl.1 (Nat.le_of_ble_eq_true rfl) ⟨Nat.le_of_ble_eq_true rfl, Nat.le_of_ble_eq_true rfl⟩ rfl dX6_alarmOf_1 ⟨Nat.le_refl _, Nat.le_refl _⟩ (fun H locs hw => ?_)
  refine lv_if_eq (tgt := 17) hx hb dX6_alarmOf_4 (by decide) (fun h => absurd h h9) (fun _ => ?_)
  refine lv_iload_n hx hb dX6_alarmOf_7 rfl (lv_at hl 2 rfl) ?_
  refine lv_iconst (v := 0) hx hb dX6_alarmOf_8 (by decide) ?_
  refine lv_bipush (v := 9) hx hb dX6_alarmOf_9 (by decide) ?_
  refine r_callS X hw (ws' := ([([xB D o ha ta (L 0) (M 0) b0 u0 (nI k) (rows4 HL) tx (nI T), chipB D L w1 w2 s.v s.f s.g s.r s.av s.mk s.cm s.ar s.fl s.en s.la s.zs s.se s.ph s.tk s.pc s.rc s.wc s.bc s.tc, hsB D HL HW1 HW2 hs] : List va_W).flatten, ([chipB D M y1 y2 t.v t.f t.g t.r t.av t.mk t.cm t.ar t.fl t.en t.la t.zs t.se t.ph t.tk t.pc t.rc t.wc t.bc t.tc, buB D b0 b1 b2 b3 bw en tb sh n0, orB D u0 u1 nu lt br le] : List va_W).flatten] : List va_W).flatten) (As := [.int 8, .int 0, .int 9]) (rest := []) lk_X6_95 (c_X6_isWithin l D _ 8 0 9) Foc.nil rfl hl.1 (Nat.le_of_ble_eq_true rfl) ⟨Nat.le_of_ble_eq_true rfl, Nat.le_of_ble_eq_true rfl⟩ rfl dX6_alarmOf_11 ⟨Nat.le_refl _, Nat.le_refl _⟩ (fun H locs hw => ?_)
  refine lv_if_ne (tgt := 20) hx hb dX6_alarmOf_14 (by decide) (fun _ => ?_) (fun h => absurd h (by decide))
  refine lv_aload_n hx hb dX6_alarmOf_20 rfl (lv_at hl 0 rfl) ?_
  refine r_get X hw (v := .ref (L 0)) fl_X6_10 (m_fl 0 rfl (m_fl 0 rfl (m_at 0 rfl))) rfl dX6_alarmOf_21 ?_
  refine r_get X hw (v := .ref (L 6)) fl_X6_82 (m_fl 0 rfl (m_fl 1 rfl (m_fl 0 rfl (m_at 0 rfl)))) rfl dX6_alarmOf_24 ?_
  refine lv_astore_n (lv' := [(3, .ref (L 6)), (0, .ref o), (1, .int (nI a)), (2, .int 8)]) hx hb dX6_alarmOf_27 rfl hl (by decide) rfl (fun ls hl => ?_)
  refine lv_iload_n hx hb dX6_alarmOf_28 rfl (lv_at hl 3 rfl) ?_
  refine lv_iconst (v := 5) hx hb dX6_alarmOf_29 (by decide) ?_
  refine lv_icmp_ge (tgt := 42) hx hb dX6_alarmOf_30 (by decide) (fun _ => ?_) (fun h => absurd (by decide) h)
  refine lv_iload_n hx hb dX6_alarmOf_42 rfl (lv_at hl 3 rfl) ?_
  refine r_tabIn (tgt := 97) hx hb 8 rfl dX6_alarmOf_43 (by decide) (by decide) rfl (by decide) ?_
  refine lv_aload_n hx hb dX6_alarmOf_97 rfl (lv_at hl 0 rfl) ?_
  refine r_get X hw (v := .ref (L 9)) fl_X6_174 (m_fl 0 rfl (m_fl 1 rfl (m_fl 2 rfl (m_at 0 rfl)))) rfl dX6_alarmOf_98 ?_
  refine lv_iload_n hx hb dX6_alarmOf_101 rfl (lv_at hl 2 rfl) ?_
  refine r_iald X hw (f := s.cm) a (m_fl 0 rfl (m_fl 1 rfl (m_fl 2 rfl (m_at 3 rfl)))) rfl (by omega) (by decide) dX6_alarmOf_102 ?_
  exact r_ret X hw hk hret rfl (rfl) rfl dX6_alarmOf_103

noncomputable def sp_X6_alarmOf9 (s : ChS) (a : Nat) : Int32 := (if (sp_X0_matches s.av s.mk s.v a) = 0 then 0 else 1)
set_option maxRecDepth 100000 in
set_option maxHeartbeats 4000000 in
theorem c_X6_alarmOf9 (l : Launch) (D : va_G) (sz : Nat) (o ha ta : Nat) (L w1 w2 M y1 y2 : Nat → Nat) (HL HW1 HW2 : Nat → Nat → Nat) (b0 b1 b2 b3 : Nat) (bw : Nat → Nat) (u0 u1 : Nat) (tx : Row) (T : Nat) (s t : ChS) (hs : Nat → ChS) (en tb : Row) (sh : Nat → Row) (n0 : Int32) (nu : Row) (lt br le : Int32) (k : Nat) (hk4 : k ≤ 4) (hT : T ≤ 60) (a : Nat) (ha3 : a < 3) (h9 : ¬ sp_X6_isAlarm (nI a) = 0) : MI l yX6_alarmOf cX6_alarmOf 4 (some .int) 2 45 D sz [.ref o, .int (nI a), .int 9] (([([xB D o ha ta (L 0) (M 0) b0 u0 (nI k) (rows4 HL) tx (nI T), chipB D L w1 w2 s.v s.f s.g s.r s.av s.mk s.cm s.ar s.fl s.en s.la s.zs s.se s.ph s.tk s.pc s.rc s.wc s.bc s.tc, hsB D HL HW1 HW2 hs] : List va_W).flatten, ([chipB D M y1 y2 t.v t.f t.g t.r t.av t.mk t.cm t.ar t.fl t.en t.la t.zs t.se t.ph t.tk t.pc t.rc t.wc t.bc t.tc, buB D b0 b1 b2 b3 bw en tb sh n0, orB D u0 u1 nu lt br le] : List va_W).flatten] : List va_W).flatten) (sp_X6_alarmOf9 s a) (([([xB D o ha ta (L 0) (M 0) b0 u0 (nI k) (rows4 HL) tx (nI T), chipB D L w1 w2 s.v s.f s.g s.r s.av s.mk s.cm s.ar s.fl s.en s.la s.zs s.se s.ph s.tk s.pc s.rc s.wc s.bc s.tc, hsB D HL HW1 HW2 hs] : List va_W).flatten, ([chipB D M y1 y2 t.v t.f t.g t.r t.av t.mk t.cm t.ar t.fl t.en t.la t.zs t.se t.ph t.tk t.pc t.rc t.wc t.bc t.tc, buB D b0 b1 b2 b3 bw en tb sh n0, orB D u0 u1 nu lt br le] : List va_W).flatten] : List va_W).flatten) := by
  refine r_enterI (by decide) (Nat.le_of_ble_eq_true rfl) ?_
  intro p e st m args below meth c ls A X hret hk hw hl
  have X : CX D p m c cX6_alarmOf 4 st args RX6 A := X
  have hx := X.1.1
  have hb := X.1.2.1
  have hown := X.1.2.2.2.1
  have hts := X.1.2.2.2.2
  have hl : lv_has ls 4 [(0, .ref o), (1, .int (nI a)), (2, .int 9)] := hl
  refine lv_iload_n hx hb dX6_alarmOf_0 rfl (lv_at hl 1 rfl) ?_
  refine r_callS X hw (ws' := ([([xB D o ha ta (L 0) (M 0) b0 u0 (nI k) (rows4 HL) tx (nI T), chipB D L w1 w2 s.v s.f s.g s.r s.av s.mk s.cm s.ar s.fl s.en s.la s.zs s.se s.ph s.tk s.pc s.rc s.wc s.bc s.tc, hsB D HL HW1 HW2 hs] : List va_W).flatten, ([chipB D M y1 y2 t.v t.f t.g t.r t.av t.mk t.cm t.ar t.fl t.en t.la t.zs t.se t.ph t.tk t.pc t.rc t.wc t.bc t.tc, buB D b0 b1 b2 b3 bw en tb sh n0, orB D u0 u1 nu lt br le] : List va_W).flatten] : List va_W).flatten) (As := [.int (nI a)]) (rest := []) lk_X6_92 (c_X6_isAlarm l D _ (nI a)) Foc.nil rfl hl.1 (Nat.le_of_ble_eq_true rfl) ⟨Nat.le_of_ble_eq_true rfl, Nat.le_of_ble_eq_true rfl⟩ rfl dX6_alarmOf_1 ⟨Nat.le_refl _, Nat.le_refl _⟩ (fun H locs hw => ?_)
  refine lv_if_eq (tgt := 17) hx hb dX6_alarmOf_4 (by decide) (fun h => absurd h h9) (fun _ => ?_)
  refine lv_iload_n hx hb dX6_alarmOf_7 rfl (lv_at hl 2 rfl) ?_
  refine lv_iconst (v := 0) hx hb dX6_alarmOf_8 (by decide) ?_
  refine lv_bipush (v := 9) hx hb dX6_alarmOf_9 (by decide) ?_
  refine r_callS X hw (ws' := ([([xB D o ha ta (L 0) (M 0) b0 u0 (nI k) (rows4 HL) tx (nI T), chipB D L w1 w2 s.v s.f s.g s.r s.av s.mk s.cm s.ar s.fl s.en s.la s.zs s.se s.ph s.tk s.pc s.rc s.wc s.bc s.tc, hsB D HL HW1 HW2 hs] : List va_W).flatten, ([chipB D M y1 y2 t.v t.f t.g t.r t.av t.mk t.cm t.ar t.fl t.en t.la t.zs t.se t.ph t.tk t.pc t.rc t.wc t.bc t.tc, buB D b0 b1 b2 b3 bw en tb sh n0, orB D u0 u1 nu lt br le] : List va_W).flatten] : List va_W).flatten) (As := [.int 9, .int 0, .int 9]) (rest := []) lk_X6_95 (c_X6_isWithin l D _ 9 0 9) Foc.nil rfl hl.1 (Nat.le_of_ble_eq_true rfl) ⟨Nat.le_of_ble_eq_true rfl, Nat.le_of_ble_eq_true rfl⟩ rfl dX6_alarmOf_11 ⟨Nat.le_refl _, Nat.le_refl _⟩ (fun H locs hw => ?_)
  refine lv_if_ne (tgt := 20) hx hb dX6_alarmOf_14 (by decide) (fun _ => ?_) (fun h => absurd h (by decide))
  refine lv_aload_n hx hb dX6_alarmOf_20 rfl (lv_at hl 0 rfl) ?_
  refine r_get X hw (v := .ref (L 0)) fl_X6_10 (m_fl 0 rfl (m_fl 0 rfl (m_at 0 rfl))) rfl dX6_alarmOf_21 ?_
  refine r_get X hw (v := .ref (L 6)) fl_X6_82 (m_fl 0 rfl (m_fl 1 rfl (m_fl 0 rfl (m_at 0 rfl)))) rfl dX6_alarmOf_24 ?_
  refine lv_astore_n (lv' := [(3, .ref (L 6)), (0, .ref o), (1, .int (nI a)), (2, .int 9)]) hx hb dX6_alarmOf_27 rfl hl (by decide) rfl (fun ls hl => ?_)
  refine lv_iload_n hx hb dX6_alarmOf_28 rfl (lv_at hl 3 rfl) ?_
  refine lv_iconst (v := 5) hx hb dX6_alarmOf_29 (by decide) ?_
  refine lv_icmp_ge (tgt := 42) hx hb dX6_alarmOf_30 (by decide) (fun _ => ?_) (fun h => absurd (by decide) h)
  refine lv_iload_n hx hb dX6_alarmOf_42 rfl (lv_at hl 3 rfl) ?_
  refine lv_tableOut (tgt := 104) hx hb dX6_alarmOf_43 (by decide) (by decide) ?_
  refine lv_aload_n hx hb dX6_alarmOf_104 rfl (lv_at hl 0 rfl) ?_
  refine lv_iload_n hx hb dX6_alarmOf_105 rfl (lv_at hl 2 rfl) ?_
  refine lv_aload_n hx hb dX6_alarmOf_106 rfl (lv_at hl 1 rfl) ?_
  refine r_get X hw (v := .ref (L 0)) fl_X6_10 (m_fl 0 rfl (m_fl 0 rfl (m_at 0 rfl))) rfl dX6_alarmOf_107 ?_
  refine r_get X hw (v := .ref (L 1)) fl_X6_108 (m_fl 0 rfl (m_fl 1 rfl (m_fl 0 rfl (m_at 0 rfl)))) rfl dX6_alarmOf_110 ?_
  refine r_callV X hw (ws' := ([([xB D o ha ta (L 0) (M 0) b0 u0 (nI k) (rows4 HL) tx (nI T), chipB D L w1 w2 s.v s.f s.g s.r s.av s.mk s.cm s.ar s.fl s.en s.la s.zs s.se s.ph s.tk s.pc s.rc s.wc s.bc s.tc, hsB D HL HW1 HW2 hs] : List va_W).flatten, ([chipB D M y1 y2 t.v t.f t.g t.r t.av t.mk t.cm t.ar t.fl t.en t.la t.zs t.se t.ph t.tk t.pc t.rc t.wc t.bc t.tc, buB D b0 b1 b2 b3 bw en tb sh n0, orB D u0 u1 nu lt br le] : List va_W).flatten] : List va_W).flatten) (As := [.int (nI a), .ref (L 1)]) (rest := []) lk_X6_177 (c_X0_matches l D _ (L 6) (L 7) (L 8) (L 9) w1 s.av s.mk s.cm s.ar s.fl (L 1) (L 2) (L 3) (L 4) (L 5) s.v s.f s.g s.r a (by omega)) (Foc.trans (Foc.trans (Foc.at1 0 rfl rfl (ce rfl rfl)) (Foc.at1 1 rfl rfl (ce rfl (ce rfl rfl)))) (Foc.at2 2 1 rfl rfl rfl rfl (ce rfl (ce rfl (ce rfl rfl))))) (m_fl 0 rfl (m_fl 1 rfl (m_fl 2 rfl (m_at 0 rfl)))) rfl hl.1 (Nat.le_of_ble_eq_true rfl) ⟨Nat.le_of_ble_eq_true rfl, Nat.le_of_ble_eq_true rfl⟩ rfl dX6_alarmOf_113 ⟨Nat.le_refl _, Nat.le_refl _⟩ (fun H locs hw => ?_)
  refine lv_if_eq (tgt := 123) hx hb dX6_alarmOf_116 (by decide) (fun c1 => ?_) (fun c1 => ?_)
  · skip
    refine lv_iconst (v := 0) hx hb dX6_alarmOf_123 (by decide) ?_
    exact r_ret X hw hk hret rfl (by unfold sp_X6_alarmOf9; rw [if_pos c1]) rfl dX6_alarmOf_124
  · skip
    refine lv_iconst (v := 1) hx hb dX6_alarmOf_119 (by decide) ?_
    refine lv_goto (tgt := 124) hx hb dX6_alarmOf_120 (by decide) ?_
    exact r_ret X hw hk hret rfl (by unfold sp_X6_alarmOf9; rw [if_neg c1]) rfl dX6_alarmOf_124

set_option maxRecDepth 100000 in
set_option maxHeartbeats 4000000 in
theorem c_X6_alarmOfB (l : Launch) (D : va_G) (sz : Nat) (o ha ta : Nat) (L w1 w2 M y1 y2 : Nat → Nat) (HL HW1 HW2 : Nat → Nat → Nat) (b0 b1 b2 b3 : Nat) (bw : Nat → Nat) (u0 u1 : Nat) (tx : Row) (T : Nat) (s t : ChS) (hs : Nat → ChS) (en tb : Row) (sh : Nat → Row) (n0 : Int32) (nu : Row) (lt br le : Int32) (k : Nat) (hk4 : k ≤ 4) (hT : T ≤ 60) (x y : Int32) (h9 : sp_X6_isAlarm x = 0) : MI l yX6_alarmOf cX6_alarmOf 4 (some .int) 2 42 D sz [.ref o, .int x, .int y] (([([xB D o ha ta (L 0) (M 0) b0 u0 (nI k) (rows4 HL) tx (nI T), chipB D L w1 w2 s.v s.f s.g s.r s.av s.mk s.cm s.ar s.fl s.en s.la s.zs s.se s.ph s.tk s.pc s.rc s.wc s.bc s.tc, hsB D HL HW1 HW2 hs] : List va_W).flatten, ([chipB D M y1 y2 t.v t.f t.g t.r t.av t.mk t.cm t.ar t.fl t.en t.la t.zs t.se t.ph t.tk t.pc t.rc t.wc t.bc t.tc, buB D b0 b1 b2 b3 bw en tb sh n0, orB D u0 u1 nu lt br le] : List va_W).flatten] : List va_W).flatten) (-1000001) (([([xB D o ha ta (L 0) (M 0) b0 u0 (nI k) (rows4 HL) tx (nI T), chipB D L w1 w2 s.v s.f s.g s.r s.av s.mk s.cm s.ar s.fl s.en s.la s.zs s.se s.ph s.tk s.pc s.rc s.wc s.bc s.tc, hsB D HL HW1 HW2 hs] : List va_W).flatten, ([chipB D M y1 y2 t.v t.f t.g t.r t.av t.mk t.cm t.ar t.fl t.en t.la t.zs t.se t.ph t.tk t.pc t.rc t.wc t.bc t.tc, buB D b0 b1 b2 b3 bw en tb sh n0, orB D u0 u1 nu lt br le] : List va_W).flatten] : List va_W).flatten) := by
  refine r_enterI (by decide) (Nat.le_of_ble_eq_true rfl) ?_
  intro p e st m args below meth c ls A X hret hk hw hl
  have X : CX D p m c cX6_alarmOf 4 st args RX6 A := X
  have hx := X.1.1
  have hb := X.1.2.1
  have hown := X.1.2.2.2.1
  have hts := X.1.2.2.2.2
  have hl : lv_has ls 4 [(0, .ref o), (1, .int x), (2, .int y)] := hl
  refine lv_iload_n hx hb dX6_alarmOf_0 rfl (lv_at hl 1 rfl) ?_
  refine r_callS X hw (ws' := ([([xB D o ha ta (L 0) (M 0) b0 u0 (nI k) (rows4 HL) tx (nI T), chipB D L w1 w2 s.v s.f s.g s.r s.av s.mk s.cm s.ar s.fl s.en s.la s.zs s.se s.ph s.tk s.pc s.rc s.wc s.bc s.tc, hsB D HL HW1 HW2 hs] : List va_W).flatten, ([chipB D M y1 y2 t.v t.f t.g t.r t.av t.mk t.cm t.ar t.fl t.en t.la t.zs t.se t.ph t.tk t.pc t.rc t.wc t.bc t.tc, buB D b0 b1 b2 b3 bw en tb sh n0, orB D u0 u1 nu lt br le] : List va_W).flatten] : List va_W).flatten) (As := [.int x]) (rest := []) lk_X6_92 (c_X6_isAlarm l D _ x) Foc.nil rfl hl.1 (Nat.le_of_ble_eq_true rfl) ⟨Nat.le_of_ble_eq_true rfl, Nat.le_of_ble_eq_true rfl⟩ rfl dX6_alarmOf_1 ⟨Nat.le_refl _, Nat.le_refl _⟩ (fun H locs hw => ?_)
  refine lv_if_eq (tgt := 17) hx hb dX6_alarmOf_4 (by decide) (fun _ => ?_) (fun h => absurd h9 h)
  refine lv_ldc (v := (-1000001)) hx hb hown (hts _ kc_X6_45) dX6_alarmOf_17 ?_
  exact r_ret X hw hk hret rfl rfl rfl dX6_alarmOf_19

set_option maxRecDepth 100000 in
set_option maxHeartbeats 4000000 in
theorem c_X6_alarmOfC (l : Launch) (D : va_G) (sz : Nat) (o ha ta : Nat) (L w1 w2 M y1 y2 : Nat → Nat) (HL HW1 HW2 : Nat → Nat → Nat) (b0 b1 b2 b3 : Nat) (bw : Nat → Nat) (u0 u1 : Nat) (tx : Row) (T : Nat) (s t : ChS) (hs : Nat → ChS) (en tb : Row) (sh : Nat → Row) (n0 : Int32) (nu : Row) (lt br le : Int32) (k : Nat) (hk4 : k ≤ 4) (hT : T ≤ 60) (x y : Int32) (h9 : ¬ sp_X6_isAlarm x = 0) (h8 : sp_X6_isWithin y 0 9 = 0) : MI l yX6_alarmOf cX6_alarmOf 4 (some .int) 2 42 D sz [.ref o, .int x, .int y] (([([xB D o ha ta (L 0) (M 0) b0 u0 (nI k) (rows4 HL) tx (nI T), chipB D L w1 w2 s.v s.f s.g s.r s.av s.mk s.cm s.ar s.fl s.en s.la s.zs s.se s.ph s.tk s.pc s.rc s.wc s.bc s.tc, hsB D HL HW1 HW2 hs] : List va_W).flatten, ([chipB D M y1 y2 t.v t.f t.g t.r t.av t.mk t.cm t.ar t.fl t.en t.la t.zs t.se t.ph t.tk t.pc t.rc t.wc t.bc t.tc, buB D b0 b1 b2 b3 bw en tb sh n0, orB D u0 u1 nu lt br le] : List va_W).flatten] : List va_W).flatten) (-1000001) (([([xB D o ha ta (L 0) (M 0) b0 u0 (nI k) (rows4 HL) tx (nI T), chipB D L w1 w2 s.v s.f s.g s.r s.av s.mk s.cm s.ar s.fl s.en s.la s.zs s.se s.ph s.tk s.pc s.rc s.wc s.bc s.tc, hsB D HL HW1 HW2 hs] : List va_W).flatten, ([chipB D M y1 y2 t.v t.f t.g t.r t.av t.mk t.cm t.ar t.fl t.en t.la t.zs t.se t.ph t.tk t.pc t.rc t.wc t.bc t.tc, buB D b0 b1 b2 b3 bw en tb sh n0, orB D u0 u1 nu lt br le] : List va_W).flatten] : List va_W).flatten) := by
  refine r_enterI (by decide) (Nat.le_of_ble_eq_true rfl) ?_
  intro p e st m args below meth c ls A X hret hk hw hl
  have X : CX D p m c cX6_alarmOf 4 st args RX6 A := X
  have hx := X.1.1
  have hb := X.1.2.1
  have hown := X.1.2.2.2.1
  have hts := X.1.2.2.2.2
  have hl : lv_has ls 4 [(0, .ref o), (1, .int x), (2, .int y)] := hl
  refine lv_iload_n hx hb dX6_alarmOf_0 rfl (lv_at hl 1 rfl) ?_
  refine r_callS X hw (ws' := ([([xB D o ha ta (L 0) (M 0) b0 u0 (nI k) (rows4 HL) tx (nI T), chipB D L w1 w2 s.v s.f s.g s.r s.av s.mk s.cm s.ar s.fl s.en s.la s.zs s.se s.ph s.tk s.pc s.rc s.wc s.bc s.tc, hsB D HL HW1 HW2 hs] : List va_W).flatten, ([chipB D M y1 y2 t.v t.f t.g t.r t.av t.mk t.cm t.ar t.fl t.en t.la t.zs t.se t.ph t.tk t.pc t.rc t.wc t.bc t.tc, buB D b0 b1 b2 b3 bw en tb sh n0, orB D u0 u1 nu lt br le] : List va_W).flatten] : List va_W).flatten) (As := [.int x]) (rest := []) lk_X6_92 (c_X6_isAlarm l D _ x) Foc.nil rfl hl.1 (Nat.le_of_ble_eq_true rfl) ⟨Nat.le_of_ble_eq_true rfl, Nat.le_of_ble_eq_true rfl⟩ rfl dX6_alarmOf_1 ⟨Nat.le_refl _, Nat.le_refl _⟩ (fun H locs hw => ?_)
  refine lv_if_eq (tgt := 17) hx hb dX6_alarmOf_4 (by decide) (fun h => absurd h h9) (fun _ => ?_)
  refine lv_iload_n hx hb dX6_alarmOf_7 rfl (lv_at hl 2 rfl) ?_
  refine lv_iconst (v := 0) hx hb dX6_alarmOf_8 (by decide) ?_
  refine lv_bipush (v := 9) hx hb dX6_alarmOf_9 (by decide) ?_
  refine r_callS X hw (ws' := ([([xB D o ha ta (L 0) (M 0) b0 u0 (nI k) (rows4 HL) tx (nI T), chipB D L w1 w2 s.v s.f s.g s.r s.av s.mk s.cm s.ar s.fl s.en s.la s.zs s.se s.ph s.tk s.pc s.rc s.wc s.bc s.tc, hsB D HL HW1 HW2 hs] : List va_W).flatten, ([chipB D M y1 y2 t.v t.f t.g t.r t.av t.mk t.cm t.ar t.fl t.en t.la t.zs t.se t.ph t.tk t.pc t.rc t.wc t.bc t.tc, buB D b0 b1 b2 b3 bw en tb sh n0, orB D u0 u1 nu lt br le] : List va_W).flatten] : List va_W).flatten) (As := [.int y, .int 0, .int 9]) (rest := []) lk_X6_95 (c_X6_isWithin l D _ y 0 9) Foc.nil rfl hl.1 (Nat.le_of_ble_eq_true rfl) ⟨Nat.le_of_ble_eq_true rfl, Nat.le_of_ble_eq_true rfl⟩ rfl dX6_alarmOf_11 ⟨Nat.le_refl _, Nat.le_refl _⟩ (fun H locs hw => ?_)
  refine lv_if_ne (tgt := 20) hx hb dX6_alarmOf_14 (by decide) (fun h => absurd h8 h) (fun _ => ?_)
  refine lv_ldc (v := (-1000001)) hx hb hown (hts _ kc_X6_45) dX6_alarmOf_17 ?_
  exact r_ret X hw hk hret rfl rfl rfl dX6_alarmOf_19
