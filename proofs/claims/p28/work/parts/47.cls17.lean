noncomputable def sp_X6_registerOf0 (s : ChS) (i : Nat) : Int32 := s.v i
set_option maxRecDepth 100000 in
set_option maxHeartbeats 4000000 in
theorem c_X6_registerOf0 (l : Launch) (D : va_G) (sz : Nat) (o ha ta : Nat) (L w1 w2 M y1 y2 : Nat → Nat) (HL HW1 HW2 : Nat → Nat → Nat) (b0 b1 b2 b3 : Nat) (bw : Nat → Nat) (u0 u1 : Nat) (tx : Row) (T : Nat) (s t : ChS) (hs : Nat → ChS) (en tb : Row) (sh : Nat → Row) (n0 : Int32) (nu : Row) (lt br le : Int32) (k : Nat) (hk4 : k ≤ 4) (hT : T ≤ 60) (i : Nat) (hi : i < 7) (h9 : ¬ sp_X6_isRegister (nI i) = 0) : MI l yX6_registerOf cX6_registerOf 5 (some .int) 2 43 D sz [.ref o, .int (nI i), .int 0] (([([xB D o ha ta (L 0) (M 0) b0 u0 (nI k) (rows4 HL) tx (nI T), chipB D L w1 w2 s.v s.f s.g s.r s.av s.mk s.cm s.ar s.fl s.en s.la s.zs s.se s.ph s.tk s.pc s.rc s.wc s.bc s.tc, hsB D HL HW1 HW2 hs] : List va_W).flatten, ([chipB D M y1 y2 t.v t.f t.g t.r t.av t.mk t.cm t.ar t.fl t.en t.la t.zs t.se t.ph t.tk t.pc t.rc t.wc t.bc t.tc, buB D b0 b1 b2 b3 bw en tb sh n0, orB D u0 u1 nu lt br le] : List va_W).flatten] : List va_W).flatten) (sp_X6_registerOf0 s i) (([([xB D o ha ta (L 0) (M 0) b0 u0 (nI k) (rows4 HL) tx (nI T), chipB D L w1 w2 s.v s.f s.g s.r s.av s.mk s.cm s.ar s.fl s.en s.la s.zs s.se s.ph s.tk s.pc s.rc s.wc s.bc s.tc, hsB D HL HW1 HW2 hs] : List va_W).flatten, ([chipB D M y1 y2 t.v t.f t.g t.r t.av t.mk t.cm t.ar t.fl t.en t.la t.zs t.se t.ph t.tk t.pc t.rc t.wc t.bc t.tc, buB D b0 b1 b2 b3 bw en tb sh n0, orB D u0 u1 nu lt br le] : List va_W).flatten] : List va_W).flatten) := by
  refine r_enterI (by decide) (Nat.le_of_ble_eq_true rfl) ?_
  intro p e st m args below meth c ls A X hret hk hw hl
  have X : CX D p m c cX6_registerOf 5 st args RX6 A := X
  have hx := X.1.1
  have hb := X.1.2.1
  have hown := X.1.2.2.2.1
  have hts := X.1.2.2.2.2
  have hl : lv_has ls 5 [(0, .ref o), (1, .int (nI i)), (2, .int 0)] := hl
  refine lv_iload_n hx hb dX6_registerOf_0 rfl (lv_at hl 1 rfl) ?_
  refine r_callS X hw (ws' := ([([xB D o ha ta (L 0) (M 0) b0 u0 (nI k) (rows4 HL) tx (nI T), chipB D L w1 w2 s.v s.f s.g s.r s.av s.mk s.cm s.ar s.fl s.en s.la s.zs s.se s.ph s.tk s.pc s.rc s.wc s.bc s.tc, hsB D HL HW1 HW2 hs] : List va_W).flatten, ([chipB D M y1 y2 t.v t.f t.g t.r t.av t.mk t.cm t.ar t.fl t.en t.la t.zs t.se t.ph t.tk t.pc t.rc t.wc t.bc t.tc, buB D b0 b1 b2 b3 bw en tb sh n0, orB D u0 u1 nu lt br le] : List va_W).flatten] : List va_W).flatten) (As := [.int (nI i)]) (rest := []) lk_X6_53 (c_X6_isRegister l D _ (nI i)) Foc.nil rfl hl.1 (Nat.le_of_ble_eq_true rfl) ⟨Nat.le_of_ble_eq_true rfl, Nat.le_of_ble_eq_true rfl⟩ rfl dX6_registerOf_1 ⟨Nat.le_refl _, Nat.le_refl _⟩ (fun H locs hw => ?_)
  refine lv_if_eq (tgt := 17) hx hb dX6_registerOf_4 (by decide) (fun h => absurd h h9) (fun _ => ?_)
  refine lv_iload_n hx hb dX6_registerOf_7 rfl (lv_at hl 2 rfl) ?_
  refine lv_iconst (v := 0) hx hb dX6_registerOf_8 (by decide) ?_
  refine lv_bipush (v := 6) hx hb dX6_registerOf_9 (by decide) ?_
  refine r_callS X hw (ws' := ([([xB D o ha ta (L 0) (M 0) b0 u0 (nI k) (rows4 HL) tx (nI T), chipB D L w1 w2 s.v s.f s.g s.r s.av s.mk s.cm s.ar s.fl s.en s.la s.zs s.se s.ph s.tk s.pc s.rc s.wc s.bc s.tc, hsB D HL HW1 HW2 hs] : List va_W).flatten, ([chipB D M y1 y2 t.v t.f t.g t.r t.av t.mk t.cm t.ar t.fl t.en t.la t.zs t.se t.ph t.tk t.pc t.rc t.wc t.bc t.tc, buB D b0 b1 b2 b3 bw en tb sh n0, orB D u0 u1 nu lt br le] : List va_W).flatten] : List va_W).flatten) (As := [.int 0, .int 0, .int 6]) (rest := []) lk_X6_95 (c_X6_isWithin l D _ 0 0 6) Foc.nil rfl hl.1 (Nat.le_of_ble_eq_true rfl) ⟨Nat.le_of_ble_eq_true rfl, Nat.le_of_ble_eq_true rfl⟩ rfl dX6_registerOf_11 ⟨Nat.le_refl _, Nat.le_refl _⟩ (fun H locs hw => ?_)
  refine lv_if_ne (tgt := 20) hx hb dX6_registerOf_14 (by decide) (fun _ => ?_) (fun h => absurd h (by decide))
  refine lv_aload_n hx hb dX6_registerOf_20 rfl (lv_at hl 0 rfl) ?_
  refine r_get X hw (v := .ref (L 0)) fl_X6_10 (m_fl 0 rfl (m_fl 0 rfl (m_at 0 rfl))) rfl dX6_registerOf_21 ?_
  refine r_get X hw (v := .ref (L 1)) fl_X6_108 (m_fl 0 rfl (m_fl 1 rfl (m_fl 0 rfl (m_at 0 rfl)))) rfl dX6_registerOf_24 ?_
  refine lv_astore_n (lv' := [(3, .ref (L 1)), (0, .ref o), (1, .int (nI i)), (2, .int 0)]) hx hb dX6_registerOf_27 rfl hl (by decide) rfl (fun ls hl => ?_)
  refine lv_aload_n hx hb dX6_registerOf_28 rfl (lv_at hl 0 rfl) ?_
  refine lv_iload_n hx hb dX6_registerOf_29 rfl (lv_at hl 2 rfl) ?_
  refine r_callV X hw (ws' := ([([xB D o ha ta (L 0) (M 0) b0 u0 (nI k) (rows4 HL) tx (nI T), chipB D L w1 w2 s.v s.f s.g s.r s.av s.mk s.cm s.ar s.fl s.en s.la s.zs s.se s.ph s.tk s.pc s.rc s.wc s.bc s.tc, hsB D HL HW1 HW2 hs] : List va_W).flatten, ([chipB D M y1 y2 t.v t.f t.g t.r t.av t.mk t.cm t.ar t.fl t.en t.la t.zs t.se t.ph t.tk t.pc t.rc t.wc t.bc t.tc, buB D b0 b1 b2 b3 bw en tb sh n0, orB D u0 u1 nu lt br le] : List va_W).flatten] : List va_W).flatten) (As := [.int (nI i)]) (rest := []) lk_X6_138 (c_X5_lastValue l D _ (L 1) (L 2) (L 3) (L 4) (L 5) s.v s.f s.g s.r i (by omega)) (Foc.trans (Foc.at1 0 rfl rfl (ce rfl rfl)) (Foc.trans (Foc.at1 1 rfl rfl (ce rfl (ce rfl rfl))) (Foc.at1 1 rfl rfl (ce rfl (ce rfl (ce rfl (ce rfl rfl))))))) (m_fl 0 rfl (m_fl 1 rfl (m_fl 1 rfl (m_at 0 rfl)))) rfl hl.1 (Nat.le_of_ble_eq_true rfl) ⟨Nat.le_of_ble_eq_true rfl, Nat.le_of_ble_eq_true rfl⟩ rfl dX6_registerOf_30 ⟨Nat.le_refl _, Nat.le_refl _⟩ (fun H locs hw => ?_)
  refine lv_istore (lv' := [(4, .int (sp_X5_lastValue s.v i)), (3, .ref (L 1)), (0, .ref o), (1, .int (nI i)), (2, .int 0)]) hx hb dX6_registerOf_33 hl (by decide) rfl (fun ls hl => ?_)
  refine lv_iload_n hx hb dX6_registerOf_35 rfl (lv_at hl 4 rfl) ?_
  refine r_tabIn (tgt := 76) hx hb 0 rfl dX6_registerOf_36 (by decide) (by decide) rfl (by decide) ?_
  refine lv_aload_n hx hb dX6_registerOf_76 rfl (lv_at hl 1 rfl) ?_
  refine r_get X hw (v := .ref (L 2)) fl_X6_141 (m_fl 0 rfl (m_fl 1 rfl (m_fl 1 rfl (m_at 0 rfl)))) rfl dX6_registerOf_77 ?_
  refine lv_iload_n hx hb dX6_registerOf_80 rfl (lv_at hl 3 rfl) ?_
  refine r_iald X hw (f := s.v) i (m_fl 0 rfl (m_fl 1 rfl (m_fl 1 rfl (m_at 1 rfl)))) rfl (by omega) (by decide) dX6_registerOf_81 ?_
  exact r_ret X hw hk hret rfl (rfl) rfl dX6_registerOf_82

noncomputable def sp_X6_registerOf1 (s : ChS) (i : Nat) : Int32 := sp_X6_numberOf (s.v i)
set_option maxRecDepth 100000 in
set_option maxHeartbeats 4000000 in
theorem c_X6_registerOf1 (l : Launch) (D : va_G) (sz : Nat) (o ha ta : Nat) (L w1 w2 M y1 y2 : Nat → Nat) (HL HW1 HW2 : Nat → Nat → Nat) (b0 b1 b2 b3 : Nat) (bw : Nat → Nat) (u0 u1 : Nat) (tx : Row) (T : Nat) (s t : ChS) (hs : Nat → ChS) (en tb : Row) (sh : Nat → Row) (n0 : Int32) (nu : Row) (lt br le : Int32) (k : Nat) (hk4 : k ≤ 4) (hT : T ≤ 60) (i : Nat) (hi : i < 7) (h9 : ¬ sp_X6_isRegister (nI i) = 0) : MI l yX6_registerOf cX6_registerOf 5 (some .int) 2 43 D sz [.ref o, .int (nI i), .int 1] (([([xB D o ha ta (L 0) (M 0) b0 u0 (nI k) (rows4 HL) tx (nI T), chipB D L w1 w2 s.v s.f s.g s.r s.av s.mk s.cm s.ar s.fl s.en s.la s.zs s.se s.ph s.tk s.pc s.rc s.wc s.bc s.tc, hsB D HL HW1 HW2 hs] : List va_W).flatten, ([chipB D M y1 y2 t.v t.f t.g t.r t.av t.mk t.cm t.ar t.fl t.en t.la t.zs t.se t.ph t.tk t.pc t.rc t.wc t.bc t.tc, buB D b0 b1 b2 b3 bw en tb sh n0, orB D u0 u1 nu lt br le] : List va_W).flatten] : List va_W).flatten) (sp_X6_registerOf1 s i) (([([xB D o ha ta (L 0) (M 0) b0 u0 (nI k) (rows4 HL) tx (nI T), chipB D L w1 w2 s.v s.f s.g s.r s.av s.mk s.cm s.ar s.fl s.en s.la s.zs s.se s.ph s.tk s.pc s.rc s.wc s.bc s.tc, hsB D HL HW1 HW2 hs] : List va_W).flatten, ([chipB D M y1 y2 t.v t.f t.g t.r t.av t.mk t.cm t.ar t.fl t.en t.la t.zs t.se t.ph t.tk t.pc t.rc t.wc t.bc t.tc, buB D b0 b1 b2 b3 bw en tb sh n0, orB D u0 u1 nu lt br le] : List va_W).flatten] : List va_W).flatten) := by
  refine r_enterI (by decide) (Nat.le_of_ble_eq_true rfl) ?_
  intro p e st m args below meth c ls A X hret hk hw hl
  have X : CX D p m c cX6_registerOf 5 st args RX6 A := X
  have hx := X.1.1
  have hb := X.1.2.1
  have hown := X.1.2.2.2.1
  have hts := X.1.2.2.2.2
  have hl : lv_has ls 5 [(0, .ref o), (1, .int (nI i)), (2, .int 1)] := hl
  refine lv_iload_n hx hb dX6_registerOf_0 rfl (lv_at hl 1 rfl) ?_
  refine r_callS X hw (ws' := ([([xB D o ha ta (L 0) (M 0) b0 u0 (nI k) (rows4 HL) tx (nI T), chipB D L w1 w2 s.v s.f s.g s.r s.av s.mk s.cm s.ar s.fl s.en s.la s.zs s.se s.ph s.tk s.pc s.rc s.wc s.bc s.tc, hsB D HL HW1 HW2 hs] : List va_W).flatten, ([chipB D M y1 y2 t.v t.f t.g t.r t.av t.mk t.cm t.ar t.fl t.en t.la t.zs t.se t.ph t.tk t.pc t.rc t.wc t.bc t.tc, buB D b0 b1 b2 b3 bw en tb sh n0, orB D u0 u1 nu lt br le] : List va_W).flatten] : List va_W).flatten) (As := [.int (nI i)]) (rest := []) lk_X6_53 (c_X6_isRegister l D _ (nI i)) Foc.nil rfl hl.1 (Nat.le_of_ble_eq_true rfl) ⟨Nat.le_of_ble_eq_true rfl, Nat.le_of_ble_eq_true rfl⟩ rfl dX6_registerOf_1 ⟨Nat.le_refl _, Nat.le_refl _⟩ (fun H locs hw => ?_)
  refine lv_if_eq (tgt := 17) hx hb dX6_registerOf_4 (by decide) (fun h => absurd h h9) (fun _ => ?_)
  refine lv_iload_n hx hb dX6_registerOf_7 rfl (lv_at hl 2 rfl) ?_
  refine lv_iconst (v := 0) hx hb dX6_registerOf_8 (by decide) ?_
  refine lv_bipush (v := 6) hx hb dX6_registerOf_9 (by decide) ?_
  refine r_callS X hw (ws' := ([([xB D o ha ta (L 0) (M 0) b0 u0 (nI k) (rows4 HL) tx (nI T), chipB D L w1 w2 s.v s.f s.g s.r s.av s.mk s.cm s.ar s.fl s.en s.la s.zs s.se s.ph s.tk s.pc s.rc s.wc s.bc s.tc, hsB D HL HW1 HW2 hs] : List va_W).flatten, ([chipB D M y1 y2 t.v t.f t.g t.r t.av t.mk t.cm t.ar t.fl t.en t.la t.zs t.se t.ph t.tk t.pc t.rc t.wc t.bc t.tc, buB D b0 b1 b2 b3 bw en tb sh n0, orB D u0 u1 nu lt br le] : List va_W).flatten] : List va_W).flatten) (As := [.int 1, .int 0, .int 6]) (rest := []) lk_X6_95 (c_X6_isWithin l D _ 1 0 6) Foc.nil rfl hl.1 (Nat.le_of_ble_eq_true rfl) ⟨Nat.le_of_ble_eq_true rfl, Nat.le_of_ble_eq_true rfl⟩ rfl dX6_registerOf_11 ⟨Nat.le_refl _, Nat.le_refl _⟩ (fun H locs hw => ?_)
  refine lv_if_ne (tgt := 20) hx hb dX6_registerOf_14 (by decide) (fun _ => ?_) (fun h => absurd h (by decide))
  refine lv_aload_n hx hb dX6_registerOf_20 rfl (lv_at hl 0 rfl) ?_
  refine r_get X hw (v := .ref (L 0)) fl_X6_10 (m_fl 0 rfl (m_fl 0 rfl (m_at 0 rfl))) rfl dX6_registerOf_21 ?_
  refine r_get X hw (v := .ref (L 1)) fl_X6_108 (m_fl 0 rfl (m_fl 1 rfl (m_fl 0 rfl (m_at 0 rfl)))) rfl dX6_registerOf_24 ?_
  refine lv_astore_n (lv' := [(3, .ref (L 1)), (0, .ref o), (1, .int (nI i)), (2, .int 1)]) hx hb dX6_registerOf_27 rfl hl (by decide) rfl (fun ls hl => ?_)
  refine lv_aload_n hx hb dX6_registerOf_28 rfl (lv_at hl 0 rfl) ?_
  refine lv_iload_n hx hb dX6_registerOf_29 rfl (lv_at hl 2 rfl) ?_
  refine r_callV X hw (ws' := ([([xB D o ha ta (L 0) (M 0) b0 u0 (nI k) (rows4 HL) tx (nI T), chipB D L w1 w2 s.v s.f s.g s.r s.av s.mk s.cm s.ar s.fl s.en s.la s.zs s.se s.ph s.tk s.pc s.rc s.wc s.bc s.tc, hsB D HL HW1 HW2 hs] : List va_W).flatten, ([chipB D M y1 y2 t.v t.f t.g t.r t.av t.mk t.cm t.ar t.fl t.en t.la t.zs t.se t.ph t.tk t.pc t.rc t.wc t.bc t.tc, buB D b0 b1 b2 b3 bw en tb sh n0, orB D u0 u1 nu lt br le] : List va_W).flatten] : List va_W).flatten) (As := [.int (nI i)]) (rest := []) lk_X6_138 (c_X5_lastValue l D _ (L 1) (L 2) (L 3) (L 4) (L 5) s.v s.f s.g s.r i (by omega)) (Foc.trans (Foc.at1 0 rfl rfl (ce rfl rfl)) (Foc.trans (Foc.at1 1 rfl rfl (ce rfl (ce rfl rfl))) (Foc.at1 1 rfl rfl (ce rfl (ce rfl (ce rfl (ce rfl rfl))))))) (m_fl 0 rfl (m_fl 1 rfl (m_fl 1 rfl (m_at 0 rfl)))) rfl hl.1 (Nat.le_of_ble_eq_true rfl) ⟨Nat.le_of_ble_eq_true rfl, Nat.le_of_ble_eq_true rfl⟩ rfl dX6_registerOf_30 ⟨Nat.le_refl _, Nat.le_refl _⟩ (fun H locs hw => ?_)
  refine lv_istore (lv' := [(4, .int (sp_X5_lastValue s.v i)), (3, .ref (L 1)), (0, .ref o), (1, .int (nI i)), (2, .int 1)]) hx hb dX6_registerOf_33 hl (by decide) rfl (fun ls hl => ?_)
  refine lv_iload_n hx hb dX6_registerOf_35 rfl (lv_at hl 4 rfl) ?_
  refine r_tabIn (tgt := 83) hx hb 1 rfl dX6_registerOf_36 (by decide) (by decide) rfl (by decide) ?_
  refine lv_aload_n hx hb dX6_registerOf_83 rfl (lv_at hl 1 rfl) ?_
  refine r_get X hw (v := .ref (L 2)) fl_X6_141 (m_fl 0 rfl (m_fl 1 rfl (m_fl 1 rfl (m_at 0 rfl)))) rfl dX6_registerOf_84 ?_
  refine lv_iload_n hx hb dX6_registerOf_87 rfl (lv_at hl 3 rfl) ?_
  refine r_iald X hw (f := s.v) i (m_fl 0 rfl (m_fl 1 rfl (m_fl 1 rfl (m_at 1 rfl)))) rfl (by omega) (by decide) dX6_registerOf_88 ?_
  refine r_callS X hw (ws' := ([([xB D o ha ta (L 0) (M 0) b0 u0 (nI k) (rows4 HL) tx (nI T), chipB D L w1 w2 s.v s.f s.g s.r s.av s.mk s.cm s.ar s.fl s.en s.la s.zs s.se s.ph s.tk s.pc s.rc s.wc s.bc s.tc, hsB D HL HW1 HW2 hs] : List va_W).flatten, ([chipB D M y1 y2 t.v t.f t.g t.r t.av t.mk t.cm t.ar t.fl t.en t.la t.zs t.se t.ph t.tk t.pc t.rc t.wc t.bc t.tc, buB D b0 b1 b2 b3 bw en tb sh n0, orB D u0 u1 nu lt br le] : List va_W).flatten] : List va_W).flatten) (As := [.int (s.v i)]) (rest := []) lk_X6_144 (c_X6_numberOf l D _ (s.v i)) Foc.nil rfl hl.1 (Nat.le_of_ble_eq_true rfl) ⟨Nat.le_of_ble_eq_true rfl, Nat.le_of_ble_eq_true rfl⟩ rfl dX6_registerOf_89 ⟨Nat.le_refl _, Nat.le_refl _⟩ (fun H locs hw => ?_)
  exact r_ret X hw hk hret rfl (rfl) rfl dX6_registerOf_92

noncomputable def sp_X6_registerOf2 (s : ChS) (i : Nat) : Int32 := sp_X5_whyWrong s.v i
set_option maxRecDepth 100000 in
set_option maxHeartbeats 4000000 in
theorem c_X6_registerOf2 (l : Launch) (D : va_G) (sz : Nat) (o ha ta : Nat) (L w1 w2 M y1 y2 : Nat → Nat) (HL HW1 HW2 : Nat → Nat → Nat) (b0 b1 b2 b3 : Nat) (bw : Nat → Nat) (u0 u1 : Nat) (tx : Row) (T : Nat) (s t : ChS) (hs : Nat → ChS) (en tb : Row) (sh : Nat → Row) (n0 : Int32) (nu : Row) (lt br le : Int32) (k : Nat) (hk4 : k ≤ 4) (hT : T ≤ 60) (i : Nat) (hi : i < 7) (h9 : ¬ sp_X6_isRegister (nI i) = 0) : MI l yX6_registerOf cX6_registerOf 5 (some .int) 3 65 D sz [.ref o, .int (nI i), .int 2] (([([xB D o ha ta (L 0) (M 0) b0 u0 (nI k) (rows4 HL) tx (nI T), chipB D L w1 w2 s.v s.f s.g s.r s.av s.mk s.cm s.ar s.fl s.en s.la s.zs s.se s.ph s.tk s.pc s.rc s.wc s.bc s.tc, hsB D HL HW1 HW2 hs] : List va_W).flatten, ([chipB D M y1 y2 t.v t.f t.g t.r t.av t.mk t.cm t.ar t.fl t.en t.la t.zs t.se t.ph t.tk t.pc t.rc t.wc t.bc t.tc, buB D b0 b1 b2 b3 bw en tb sh n0, orB D u0 u1 nu lt br le] : List va_W).flatten] : List va_W).flatten) (sp_X6_registerOf2 s i) (([([xB D o ha ta (L 0) (M 0) b0 u0 (nI k) (rows4 HL) tx (nI T), chipB D L w1 w2 s.v s.f s.g s.r s.av s.mk s.cm s.ar s.fl s.en s.la s.zs s.se s.ph s.tk s.pc s.rc s.wc s.bc s.tc, hsB D HL HW1 HW2 hs] : List va_W).flatten, ([chipB D M y1 y2 t.v t.f t.g t.r t.av t.mk t.cm t.ar t.fl t.en t.la t.zs t.se t.ph t.tk t.pc t.rc t.wc t.bc t.tc, buB D b0 b1 b2 b3 bw en tb sh n0, orB D u0 u1 nu lt br le] : List va_W).flatten] : List va_W).flatten) := by
  refine r_enterI (by decide) (Nat.le_of_ble_eq_true rfl) ?_
  intro p e st m args below meth c ls A X hret hk hw hl
  have X : CX D p m c cX6_registerOf 5 st args RX6 A := X
  have hx := X.1.1
  have hb := X.1.2.1
  have hown := X.1.2.2.2.1
  have hts := X.1.2.2.2.2
  have hl : lv_has ls 5 [(0, .ref o), (1, .int (nI i)), (2, .int 2)] := hl
  refine lv_iload_n hx hb dX6_registerOf_0 rfl (lv_at hl 1 rfl) ?_
  refine r_callS X hw (ws' := ([([xB D o ha ta (L 0) (M 0) b0 u0 (nI k) (rows4 HL) tx (nI T), chipB D L w1 w2 s.v s.f s.g s.r s.av s.mk s.cm s.ar s.fl s.en s.la s.zs s.se s.ph s.tk s.pc s.rc s.wc s.bc s.tc, hsB D HL HW1 HW2 hs] : List va_W).flatten, ([chipB D M y1 y2 t.v t.f t.g t.r t.av t.mk t.cm t.ar t.fl t.en t.la t.zs t.se t.ph t.tk t.pc t.rc t.wc t.bc t.tc, buB D b0 b1 b2 b3 bw en tb sh n0, orB D u0 u1 nu lt br le] : List va_W).flatten] : List va_W).flatten) (As := [.int (nI i)]) (rest := []) lk_X6_53 (c_X6_isRegister l D _ (nI i)) Foc.nil rfl hl.1 (Nat.le_of_ble_eq_true rfl) ⟨Nat.le_of_ble_eq_true rfl, Nat.le_of_ble_eq_true rfl⟩ rfl dX6_registerOf_1 ⟨Nat.le_refl _, Nat.le_refl _⟩ (fun H locs hw => ?_)
  refine lv_if_eq (tgt := 17) hx hb dX6_registerOf_4 (by decide) (fun h => absurd h h9) (fun _ => ?_)
  refine lv_iload_n hx hb dX6_registerOf_7 rfl (lv_at hl 2 rfl) ?_
  refine lv_iconst (v := 0) hx hb dX6_registerOf_8 (by decide) ?_
  refine lv_bipush (v := 6) hx hb dX6_registerOf_9 (by decide) ?_
  refine r_callS X hw (ws' := ([([xB D o ha ta (L 0) (M 0) b0 u0 (nI k) (rows4 HL) tx (nI T), chipB D L w1 w2 s.v s.f s.g s.r s.av s.mk s.cm s.ar s.fl s.en s.la s.zs s.se s.ph s.tk s.pc s.rc s.wc s.bc s.tc, hsB D HL HW1 HW2 hs] : List va_W).flatten, ([chipB D M y1 y2 t.v t.f t.g t.r t.av t.mk t.cm t.ar t.fl t.en t.la t.zs t.se t.ph t.tk t.pc t.rc t.wc t.bc t.tc, buB D b0 b1 b2 b3 bw en tb sh n0, orB D u0 u1 nu lt br le] : List va_W).flatten] : List va_W).flatten) (As := [.int 2, .int 0, .int 6]) (rest := []) lk_X6_95 (c_X6_isWithin l D _ 2 0 6) Foc.nil rfl hl.1 (Nat.le_of_ble_eq_true rfl) ⟨Nat.le_of_ble_eq_true rfl, Nat.le_of_ble_eq_true rfl⟩ rfl dX6_registerOf_11 ⟨Nat.le_refl _, Nat.le_refl _⟩ (fun H locs hw => ?_)
  refine lv_if_ne (tgt := 20) hx hb dX6_registerOf_14 (by decide) (fun _ => ?_) (fun h => absurd h (by decide))
  refine lv_aload_n hx hb dX6_registerOf_20 rfl (lv_at hl 0 rfl) ?_
  refine r_get X hw (v := .ref (L 0)) fl_X6_10 (m_fl 0 rfl (m_fl 0 rfl (m_at 0 rfl))) rfl dX6_registerOf_21 ?_
  refine r_get X hw (v := .ref (L 1)) fl_X6_108 (m_fl 0 rfl (m_fl 1 rfl (m_fl 0 rfl (m_at 0 rfl)))) rfl dX6_registerOf_24 ?_
  refine lv_astore_n (lv' := [(3, .ref (L 1)), (0, .ref o), (1, .int (nI i)), (2, .int 2)]) hx hb dX6_registerOf_27 rfl hl (by decide) rfl (fun ls hl => ?_)
  refine lv_aload_n hx hb dX6_registerOf_28 rfl (lv_at hl 0 rfl) ?_
  refine lv_iload_n hx hb dX6_registerOf_29 rfl (lv_at hl 2 rfl) ?_
  refine r_callV X hw (ws' := ([([xB D o ha ta (L 0) (M 0) b0 u0 (nI k) (rows4 HL) tx (nI T), chipB D L w1 w2 s.v s.f s.g s.r s.av s.mk s.cm s.ar s.fl s.en s.la s.zs s.se s.ph s.tk s.pc s.rc s.wc s.bc s.tc, hsB D HL HW1 HW2 hs] : List va_W).flatten, ([chipB D M y1 y2 t.v t.f t.g t.r t.av t.mk t.cm t.ar t.fl t.en t.la t.zs t.se t.ph t.tk t.pc t.rc t.wc t.bc t.tc, buB D b0 b1 b2 b3 bw en tb sh n0, orB D u0 u1 nu lt br le] : List va_W).flatten] : List va_W).flatten) (As := [.int (nI i)]) (rest := []) lk_X6_138 (c_X5_lastValue l D _ (L 1) (L 2) (L 3) (L 4) (L 5) s.v s.f s.g s.r i (by omega)) (Foc.trans (Foc.at1 0 rfl rfl (ce rfl rfl)) (Foc.trans (Foc.at1 1 rfl rfl (ce rfl (ce rfl rfl))) (Foc.at1 1 rfl rfl (ce rfl (ce rfl (ce rfl (ce rfl rfl))))))) (m_fl 0 rfl (m_fl 1 rfl (m_fl 1 rfl (m_at 0 rfl)))) rfl hl.1 (Nat.le_of_ble_eq_true rfl) ⟨Nat.le_of_ble_eq_true rfl, Nat.le_of_ble_eq_true rfl⟩ rfl dX6_registerOf_30 ⟨Nat.le_refl _, Nat.le_refl _⟩ (fun H locs hw => ?_)
  refine lv_istore (lv' := [(4, .int (sp_X5_lastValue s.v i)), (3, .ref (L 1)), (0, .ref o), (1, .int (nI i)), (2, .int 2)]) hx hb dX6_registerOf_33 hl (by decide) rfl (fun ls hl => ?_)
  refine lv_iload_n hx hb dX6_registerOf_35 rfl (lv_at hl 4 rfl) ?_
  refine r_tabIn (tgt := 93) hx hb 2 rfl dX6_registerOf_36 (by decide) (by decide) rfl (by decide) ?_
  refine lv_aload_n hx hb dX6_registerOf_93 rfl (lv_at hl 1 rfl) ?_
  refine lv_iload_n hx hb dX6_registerOf_94 rfl (lv_at hl 3 rfl) ?_
  refine r_callV X hw (ws' := ([([xB D o ha ta (L 0) (M 0) b0 u0 (nI k) (rows4 HL) tx (nI T), chipB D L w1 w2 s.v s.f s.g s.r s.av s.mk s.cm s.ar s.fl s.en s.la s.zs s.se s.ph s.tk s.pc s.rc s.wc s.bc s.tc, hsB D HL HW1 HW2 hs] : List va_W).flatten, ([chipB D M y1 y2 t.v t.f t.g t.r t.av t.mk t.cm t.ar t.fl t.en t.la t.zs t.se t.ph t.tk t.pc t.rc t.wc t.bc t.tc, buB D b0 b1 b2 b3 bw en tb sh n0, orB D u0 u1 nu lt br le] : List va_W).flatten] : List va_W).flatten) (As := [.int (nI i)]) (rest := []) lk_X6_147 (c_X5_whyWrong l D _ (L 1) (L 2) (L 3) (L 4) (L 5) s.v s.f s.g s.r i (by omega)) (Foc.trans (Foc.at1 0 rfl rfl (ce rfl rfl)) (Foc.trans (Foc.at1 1 rfl rfl (ce rfl (ce rfl rfl))) (Foc.at1 1 rfl rfl (ce rfl (ce rfl (ce rfl (ce rfl rfl))))))) (m_fl 0 rfl (m_fl 1 rfl (m_fl 1 rfl (m_at 0 rfl)))) rfl hl.1 (Nat.le_of_ble_eq_true rfl) ⟨Nat.le_of_ble_eq_true rfl, Nat.le_of_ble_eq_true rfl⟩ rfl dX6_registerOf_95 ⟨Nat.le_refl _, Nat.le_refl _⟩ (fun H locs hw => ?_)
  exact r_ret X hw hk hret rfl (rfl) rfl dX6_registerOf_98

noncomputable def sp_X6_registerOf3 (s : ChS) (i : Nat) : Int32 := sp_X6_numberOf (sp_X5_lastValue s.v i)
set_option maxRecDepth 100000 in
set_option maxHeartbeats 4000000 in
theorem c_X6_registerOf3 (l : Launch) (D : va_G) (sz : Nat) (o ha ta : Nat) (L w1 w2 M y1 y2 : Nat → Nat) (HL HW1 HW2 : Nat → Nat → Nat) (b0 b1 b2 b3 : Nat) (bw : Nat → Nat) (u0 u1 : Nat) (tx : Row) (T : Nat) (s t : ChS) (hs : Nat → ChS) (en tb : Row) (sh : Nat → Row) (n0 : Int32) (nu : Row) (lt br le : Int32) (k : Nat) (hk4 : k ≤ 4) (hT : T ≤ 60) (i : Nat) (hi : i < 7) (h9 : ¬ sp_X6_isRegister (nI i) = 0) : MI l yX6_registerOf cX6_registerOf 5 (some .int) 2 43 D sz [.ref o, .int (nI i), .int 3] (([([xB D o ha ta (L 0) (M 0) b0 u0 (nI k) (rows4 HL) tx (nI T), chipB D L w1 w2 s.v s.f s.g s.r s.av s.mk s.cm s.ar s.fl s.en s.la s.zs s.se s.ph s.tk s.pc s.rc s.wc s.bc s.tc, hsB D HL HW1 HW2 hs] : List va_W).flatten, ([chipB D M y1 y2 t.v t.f t.g t.r t.av t.mk t.cm t.ar t.fl t.en t.la t.zs t.se t.ph t.tk t.pc t.rc t.wc t.bc t.tc, buB D b0 b1 b2 b3 bw en tb sh n0, orB D u0 u1 nu lt br le] : List va_W).flatten] : List va_W).flatten) (sp_X6_registerOf3 s i) (([([xB D o ha ta (L 0) (M 0) b0 u0 (nI k) (rows4 HL) tx (nI T), chipB D L w1 w2 s.v s.f s.g s.r s.av s.mk s.cm s.ar s.fl s.en s.la s.zs s.se s.ph s.tk s.pc s.rc s.wc s.bc s.tc, hsB D HL HW1 HW2 hs] : List va_W).flatten, ([chipB D M y1 y2 t.v t.f t.g t.r t.av t.mk t.cm t.ar t.fl t.en t.la t.zs t.se t.ph t.tk t.pc t.rc t.wc t.bc t.tc, buB D b0 b1 b2 b3 bw en tb sh n0, orB D u0 u1 nu lt br le] : List va_W).flatten] : List va_W).flatten) := by
  refine r_enterI (by decide) (Nat.le_of_ble_eq_true rfl) ?_
  intro p e st m args below meth c ls A X hret hk hw hl
  have X : CX D p m c cX6_registerOf 5 st args RX6 A := X
  have hx := X.1.1
  have hb := X.1.2.1
  have hown := X.1.2.2.2.1
  have hts := X.1.2.2.2.2
  have hl : lv_has ls 5 [(0, .ref o), (1, .int (nI i)), (2, .int 3)] := hl
  refine lv_iload_n hx hb dX6_registerOf_0 rfl (lv_at hl 1 rfl) ?_
  refine r_callS X hw (ws' := ([([xB D o ha ta (L 0) (M 0) b0 u0 (nI k) (rows4 HL) tx (nI T), chipB D L w1 w2 s.v s.f s.g s.r s.av s.mk s.cm s.ar s.fl s.en s.la s.zs s.se s.ph s.tk s.pc s.rc s.wc s.bc s.tc, hsB D HL HW1 HW2 hs] : List va_W).flatten, ([chipB D M y1 y2 t.v t.f t.g t.r t.av t.mk t.cm t.ar t.fl t.en t.la t.zs t.se t.ph t.tk t.pc t.rc t.wc t.bc t.tc, buB D b0 b1 b2 b3 bw en tb sh n0, orB D u0 u1 nu lt br le] : List va_W).flatten] : List va_W).flatten) (As := [.int (nI i)]) (rest := []) lk_X6_53 (c_X6_isRegister l D _ (nI i)) Foc.nil rfl hl.1 (Nat.le_of_ble_eq_true rfl) ⟨Nat.le_of_ble_eq_true rfl, Nat.le_of_ble_eq_true rfl⟩ rfl dX6_registerOf_1 ⟨Nat.le_refl _, Nat.le_refl _⟩ (fun H locs hw => ?_)
  refine lv_if_eq (tgt := 17) hx hb dX6_registerOf_4 (by decide) (fun h => absurd h h9) (fun _ => ?_)
  refine lv_iload_n hx hb dX6_registerOf_7 rfl (lv_at hl 2 rfl) ?_
  refine lv_iconst (v := 0) hx hb dX6_registerOf_8 (by decide) ?_
  refine lv_bipush (v := 6) hx hb dX6_registerOf_9 (by decide) ?_
  refine r_callS X hw (ws' := ([([xB D o ha ta (L 0) (M 0) b0 u0 (nI k) (rows4 HL) tx (nI T), chipB D L w1 w2 s.v s.f s.g s.r s.av s.mk s.cm s.ar s.fl s.en s.la s.zs s.se s.ph s.tk s.pc s.rc s.wc s.bc s.tc, hsB D HL HW1 HW2 hs] : List va_W).flatten, ([chipB D M y1 y2 t.v t.f t.g t.r t.av t.mk t.cm t.ar t.fl t.en t.la t.zs t.se t.ph t.tk t.pc t.rc t.wc t.bc t.tc, buB D b0 b1 b2 b3 bw en tb sh n0, orB D u0 u1 nu lt br le] : List va_W).flatten] : List va_W).flatten) (As := [.int 3, .int 0, .int 6]) (rest := []) lk_X6_95 (c_X6_isWithin l D _ 3 0 6) Foc.nil rfl hl.1 (Nat.le_of_ble_eq_true rfl) ⟨Nat.le_of_ble_eq_true rfl, Nat.le_of_ble_eq_true rfl⟩ rfl dX6_registerOf_11 ⟨Nat.le_refl _, Nat.le_refl _⟩ (fun H locs hw => ?_)
  refine lv_if_ne (tgt := 20) hx hb dX6_registerOf_14 (by decide) (fun _ => ?_) (fun h => absurd h (by decide))
  refine lv_aload_n hx hb dX6_registerOf_20 rfl (lv_at hl 0 rfl) ?_
  refine r_get X hw (v := .ref (L 0)) fl_X6_10 (m_fl 0 rfl (m_fl 0 rfl (m_at 0 rfl))) rfl dX6_registerOf_21 ?_
  refine r_get X hw (v := .ref (L 1)) fl_X6_108 (m_fl 0 rfl (m_fl 1 rfl (m_fl 0 rfl (m_at 0 rfl)))) rfl dX6_registerOf_24 ?_
  refine lv_astore_n (lv' := [(3, .ref (L 1)), (0, .ref o), (1, .int (nI i)), (2, .int 3)]) hx hb dX6_registerOf_27 rfl hl (by decide) rfl (fun ls hl => ?_)
  refine lv_aload_n hx hb dX6_registerOf_28 rfl (lv_at hl 0 rfl) ?_
  refine lv_iload_n hx hb dX6_registerOf_29 rfl (lv_at hl 2 rfl) ?_
  refine r_callV X hw (ws' := ([([xB D o ha ta (L 0) (M 0) b0 u0 (nI k) (rows4 HL) tx (nI T), chipB D L w1 w2 s.v s.f s.g s.r s.av s.mk s.cm s.ar s.fl s.en s.la s.zs s.se s.ph s.tk s.pc s.rc s.wc s.bc s.tc, hsB D HL HW1 HW2 hs] : List va_W).flatten, ([chipB D M y1 y2 t.v t.f t.g t.r t.av t.mk t.cm t.ar t.fl t.en t.la t.zs t.se t.ph t.tk t.pc t.rc t.wc t.bc t.tc, buB D b0 b1 b2 b3 bw en tb sh n0, orB D u0 u1 nu lt br le] : List va_W).flatten] : List va_W).flatten) (As := [.int (nI i)]) (rest := []) lk_X6_138 (c_X5_lastValue l D _ (L 1) (L 2) (L 3) (L 4) (L 5) s.v s.f s.g s.r i (by omega)) (Foc.trans (Foc.at1 0 rfl rfl (ce rfl rfl)) (Foc.trans (Foc.at1 1 rfl rfl (ce rfl (ce rfl rfl))) (Foc.at1 1 rfl rfl (ce rfl (ce rfl (ce rfl (ce rfl rfl))))))) (m_fl 0 rfl (m_fl 1 rfl (m_fl 1 rfl (m_at 0 rfl)))) rfl hl.1 (Nat.le_of_ble_eq_true rfl) ⟨Nat.le_of_ble_eq_true rfl, Nat.le_of_ble_eq_true rfl⟩ rfl dX6_registerOf_30 ⟨Nat.le_refl _, Nat.le_refl _⟩ (fun H locs hw => ?_)
  refine lv_istore (lv' := [(4, .int (sp_X5_lastValue s.v i)), (3, .ref (L 1)), (0, .ref o), (1, .int (nI i)), (2, .int 3)]) hx hb dX6_registerOf_33 hl (by decide) rfl (fun ls hl => ?_)
  refine lv_iload_n hx hb dX6_registerOf_35 rfl (lv_at hl 4 rfl) ?_
  refine r_tabIn (tgt := 99) hx hb 3 rfl dX6_registerOf_36 (by decide) (by decide) rfl (by decide) ?_
  refine lv_iload hx hb dX6_registerOf_99 (lv_at hl 0 rfl) ?_
  refine r_callS X hw (ws' := ([([xB D o ha ta (L 0) (M 0) b0 u0 (nI k) (rows4 HL) tx (nI T), chipB D L w1 w2 s.v s.f s.g s.r s.av s.mk s.cm s.ar s.fl s.en s.la s.zs s.se s.ph s.tk s.pc s.rc s.wc s.bc s.tc, hsB D HL HW1 HW2 hs] : List va_W).flatten, ([chipB D M y1 y2 t.v t.f t.g t.r t.av t.mk t.cm t.ar t.fl t.en t.la t.zs t.se t.ph t.tk t.pc t.rc t.wc t.bc t.tc, buB D b0 b1 b2 b3 bw en tb sh n0, orB D u0 u1 nu lt br le] : List va_W).flatten] : List va_W).flatten) (As := [.int (sp_X5_lastValue s.v i)]) (rest := []) lk_X6_144 (c_X6_numberOf l D _ (sp_X5_lastValue s.v i)) Foc.nil rfl hl.1 (Nat.le_of_ble_eq_true rfl) ⟨Nat.le_of_ble_eq_true rfl, Nat.le_of_ble_eq_true rfl⟩ rfl dX6_registerOf_101 ⟨Nat.le_refl _, Nat.le_refl _⟩ (fun H locs hw => ?_)
  exact r_ret X hw hk hret rfl (rfl) rfl dX6_registerOf_104

noncomputable def sp_X6_registerOf4 (s : ChS) (i : Nat) : Int32 := s.f i
set_option maxRecDepth 100000 in
set_option maxHeartbeats 4000000 in
theorem c_X6_registerOf4 (l : Launch) (D : va_G) (sz : Nat) (o ha ta : Nat) (L w1 w2 M y1 y2 : Nat → Nat) (HL HW1 HW2 : Nat → Nat → Nat) (b0 b1 b2 b3 : Nat) (bw : Nat → Nat) (u0 u1 : Nat) (tx : Row) (T : Nat) (s t : ChS) (hs : Nat → ChS) (en tb : Row) (sh : Nat → Row) (n0 : Int32) (nu : Row) (lt br le : Int32) (k : Nat) (hk4 : k ≤ 4) (hT : T ≤ 60) (i : Nat) (hi : i < 7) (h9 : ¬ sp_X6_isRegister (nI i) = 0) : MI l yX6_registerOf cX6_registerOf 5 (some .int) 2 43 D sz [.ref o, .int (nI i), .int 4] (([([xB D o ha ta (L 0) (M 0) b0 u0 (nI k) (rows4 HL) tx (nI T), chipB D L w1 w2 s.v s.f s.g s.r s.av s.mk s.cm s.ar s.fl s.en s.la s.zs s.se s.ph s.tk s.pc s.rc s.wc s.bc s.tc, hsB D HL HW1 HW2 hs] : List va_W).flatten, ([chipB D M y1 y2 t.v t.f t.g t.r t.av t.mk t.cm t.ar t.fl t.en t.la t.zs t.se t.ph t.tk t.pc t.rc t.wc t.bc t.tc, buB D b0 b1 b2 b3 bw en tb sh n0, orB D u0 u1 nu lt br le] : List va_W).flatten] : List va_W).flatten) (sp_X6_registerOf4 s i) (([([xB D o ha ta (L 0) (M 0) b0 u0 (nI k) (rows4 HL) tx (nI T), chipB D L w1 w2 s.v s.f s.g s.r s.av s.mk s.cm s.ar s.fl s.en s.la s.zs s.se s.ph s.tk s.pc s.rc s.wc s.bc s.tc, hsB D HL HW1 HW2 hs] : List va_W).flatten, ([chipB D M y1 y2 t.v t.f t.g t.r t.av t.mk t.cm t.ar t.fl t.en t.la t.zs t.se t.ph t.tk t.pc t.rc t.wc t.bc t.tc, buB D b0 b1 b2 b3 bw en tb sh n0, orB D u0 u1 nu lt br le] : List va_W).flatten] : List va_W).flatten) := by
  refine r_enterI (by decide) (Nat.le_of_ble_eq_true rfl) ?_
  intro p e st m args below meth c ls A X hret hk hw hl
  have X : CX D p m c cX6_registerOf 5 st args RX6 A := X
  have hx := X.1.1
  have hb := X.1.2.1
  have hown := X.1.2.2.2.1
  have hts := X.1.2.2.2.2
  have hl : lv_has ls 5 [(0, .ref o), (1, .int (nI i)), (2, .int 4)] := hl
  refine lv_iload_n hx hb dX6_registerOf_0 rfl (lv_at hl 1 rfl) ?_
  refine r_callS X hw (ws' := ([([xB D o ha ta (L 0) (M 0) b0 u0 (nI k) (rows4 HL) tx (nI T), chipB D L w1 w2 s.v s.f s.g s.r s.av s.mk s.cm s.ar s.fl s.en s.la s.zs s.se s.ph s.tk s.pc s.rc s.wc s.bc s.tc, hsB D HL HW1 HW2 hs] : List va_W).flatten, ([chipB D M y1 y2 t.v t.f t.g t.r t.av t.mk t.cm t.ar t.fl t.en t.la t.zs t.se t.ph t.tk t.pc t.rc t.wc t.bc t.tc, buB D b0 b1 b2 b3 bw en tb sh n0, orB D u0 u1 nu lt br le] : List va_W).flatten] : List va_W).flatten) (As := [.int (nI i)]) (rest := []) lk_X6_53 (c_X6_isRegister l D _ (nI i)) Foc.nil rfl hl.1 (Nat.le_of_ble_eq_true rfl) ⟨Nat.le_of_ble_eq_true rfl, Nat.le_of_ble_eq_true rfl⟩ rfl dX6_registerOf_1 ⟨Nat.le_refl _, Nat.le_refl _⟩ (fun H locs hw => ?_)
  refine lv_if_eq (tgt := 17) hx hb dX6_registerOf_4 (by decide) (fun h => absurd h h9) (fun _ => ?_)
  refine lv_iload_n hx hb dX6_registerOf_7 rfl (lv_at hl 2 rfl) ?_
  refine lv_iconst (v := 0) hx hb dX6_registerOf_8 (by decide) ?_
  refine lv_bipush (v := 6) hx hb dX6_registerOf_9 (by decide) ?_
  refine r_callS X hw (ws' := ([([xB D o ha ta (L 0) (M 0) b0 u0 (nI k) (rows4 HL) tx (nI T), chipB D L w1 w2 s.v s.f s.g s.r s.av s.mk s.cm s.ar s.fl s.en s.la s.zs s.se s.ph s.tk s.pc s.rc s.wc s.bc s.tc, hsB D HL HW1 HW2 hs] : List va_W).flatten, ([chipB D M y1 y2 t.v t.f t.g t.r t.av t.mk t.cm t.ar t.fl t.en t.la t.zs t.se t.ph t.tk t.pc t.rc t.wc t.bc t.tc, buB D b0 b1 b2 b3 bw en tb sh n0, orB D u0 u1 nu lt br le] : List va_W).flatten] : List va_W).flatten) (As := [.int 4, .int 0, .int 6]) (rest := []) lk_X6_95 (c_X6_isWithin l D _ 4 0 6) Foc.nil rfl hl.1 (Nat.le_of_ble_eq_true rfl) ⟨Nat.le_of_ble_eq_true rfl, Nat.le_of_ble_eq_true rfl⟩ rfl dX6_registerOf_11 ⟨Nat.le_refl _, Nat.le_refl _⟩ (fun H locs hw => ?_)
  refine lv_if_ne (tgt := 20) hx hb dX6_registerOf_14 (by decide) (fun _ => ?_) (fun h => absurd h (by decide))
  refine lv_aload_n hx hb dX6_registerOf_20 rfl (lv_at hl 0 rfl) ?_
  refine r_get X hw (v := .ref (L 0)) fl_X6_10 (m_fl 0 rfl (m_fl 0 rfl (m_at 0 rfl))) rfl dX6_registerOf_21 ?_
  refine r_get X hw (v := .ref (L 1)) fl_X6_108 (m_fl 0 rfl (m_fl 1 rfl (m_fl 0 rfl (m_at 0 rfl)))) rfl dX6_registerOf_24 ?_
  refine lv_astore_n (lv' := [(3, .ref (L 1)), (0, .ref o), (1, .int (nI i)), (2, .int 4)]) hx hb dX6_registerOf_27 rfl hl (by decide) rfl (fun ls hl => ?_)
  refine lv_aload_n hx hb dX6_registerOf_28 rfl (lv_at hl 0 rfl) ?_
  refine lv_iload_n hx hb dX6_registerOf_29 rfl (lv_at hl 2 rfl) ?_
  refine r_callV X hw (ws' := ([([xB D o ha ta (L 0) (M 0) b0 u0 (nI k) (rows4 HL) tx (nI T), chipB D L w1 w2 s.v s.f s.g s.r s.av s.mk s.cm s.ar s.fl s.en s.la s.zs s.se s.ph s.tk s.pc s.rc s.wc s.bc s.tc, hsB D HL HW1 HW2 hs] : List va_W).flatten, ([chipB D M y1 y2 t.v t.f t.g t.r t.av t.mk t.cm t.ar t.fl t.en t.la t.zs t.se t.ph t.tk t.pc t.rc t.wc t.bc t.tc, buB D b0 b1 b2 b3 bw en tb sh n0, orB D u0 u1 nu lt br le] : List va_W).flatten] : List va_W).flatten) (As := [.int (nI i)]) (rest := []) lk_X6_138 (c_X5_lastValue l D _ (L 1) (L 2) (L 3) (L 4) (L 5) s.v s.f s.g s.r i (by omega)) (Foc.trans (Foc.at1 0 rfl rfl (ce rfl rfl)) (Foc.trans (Foc.at1 1 rfl rfl (ce rfl (ce rfl rfl))) (Foc.at1 1 rfl rfl (ce rfl (ce rfl (ce rfl (ce rfl rfl))))))) (m_fl 0 rfl (m_fl 1 rfl (m_fl 1 rfl (m_at 0 rfl)))) rfl hl.1 (Nat.le_of_ble_eq_true rfl) ⟨Nat.le_of_ble_eq_true rfl, Nat.le_of_ble_eq_true rfl⟩ rfl dX6_registerOf_30 ⟨Nat.le_refl _, Nat.le_refl _⟩ (fun H locs hw => ?_)
  refine lv_istore (lv' := [(4, .int (sp_X5_lastValue s.v i)), (3, .ref (L 1)), (0, .ref o), (1, .int (nI i)), (2, .int 4)]) hx hb dX6_registerOf_33 hl (by decide) rfl (fun ls hl => ?_)
  refine lv_iload_n hx hb dX6_registerOf_35 rfl (lv_at hl 4 rfl) ?_
  refine r_tabIn (tgt := 105) hx hb 4 rfl dX6_registerOf_36 (by decide) (by decide) rfl (by decide) ?_
  refine lv_aload_n hx hb dX6_registerOf_105 rfl (lv_at hl 1 rfl) ?_
  refine r_get X hw (v := .ref (L 3)) fl_X6_150 (m_fl 0 rfl (m_fl 1 rfl (m_fl 1 rfl (m_at 0 rfl)))) rfl dX6_registerOf_106 ?_
  refine lv_iload_n hx hb dX6_registerOf_109 rfl (lv_at hl 3 rfl) ?_
  refine r_iald X hw (f := s.f) i (m_fl 0 rfl (m_fl 1 rfl (m_fl 1 rfl (m_at 2 rfl)))) rfl (by omega) (by decide) dX6_registerOf_110 ?_
  exact r_ret X hw hk hret rfl (rfl) rfl dX6_registerOf_111

noncomputable def sp_X6_registerOf5 (s : ChS) (i : Nat) : Int32 := s.r i
set_option maxRecDepth 100000 in
set_option maxHeartbeats 4000000 in
theorem c_X6_registerOf5 (l : Launch) (D : va_G) (sz : Nat) (o ha ta : Nat) (L w1 w2 M y1 y2 : Nat → Nat) (HL HW1 HW2 : Nat → Nat → Nat) (b0 b1 b2 b3 : Nat) (bw : Nat → Nat) (u0 u1 : Nat) (tx : Row) (T : Nat) (s t : ChS) (hs : Nat → ChS) (en tb : Row) (sh : Nat → Row) (n0 : Int32) (nu : Row) (lt br le : Int32) (k : Nat) (hk4 : k ≤ 4) (hT : T ≤ 60) (i : Nat) (hi : i < 7) (h9 : ¬ sp_X6_isRegister (nI i) = 0) : MI l yX6_registerOf cX6_registerOf 5 (some .int) 2 43 D sz [.ref o, .int (nI i), .int 5] (([([xB D o ha ta (L 0) (M 0) b0 u0 (nI k) (rows4 HL) tx (nI T), chipB D L w1 w2 s.v s.f s.g s.r s.av s.mk s.cm s.ar s.fl s.en s.la s.zs s.se s.ph s.tk s.pc s.rc s.wc s.bc s.tc, hsB D HL HW1 HW2 hs] : List va_W).flatten, ([chipB D M y1 y2 t.v t.f t.g t.r t.av t.mk t.cm t.ar t.fl t.en t.la t.zs t.se t.ph t.tk t.pc t.rc t.wc t.bc t.tc, buB D b0 b1 b2 b3 bw en tb sh n0, orB D u0 u1 nu lt br le] : List va_W).flatten] : List va_W).flatten) (sp_X6_registerOf5 s i) (([([xB D o ha ta (L 0) (M 0) b0 u0 (nI k) (rows4 HL) tx (nI T), chipB D L w1 w2 s.v s.f s.g s.r s.av s.mk s.cm s.ar s.fl s.en s.la s.zs s.se s.ph s.tk s.pc s.rc s.wc s.bc s.tc, hsB D HL HW1 HW2 hs] : List va_W).flatten, ([chipB D M y1 y2 t.v t.f t.g t.r t.av t.mk t.cm t.ar t.fl t.en t.la t.zs t.se t.ph t.tk t.pc t.rc t.wc t.bc t.tc, buB D b0 b1 b2 b3 bw en tb sh n0, orB D u0 u1 nu lt br le] : List va_W).flatten] : List va_W).flatten) := by
  refine r_enterI (by decide) (Nat.le_of_ble_eq_true rfl) ?_
  intro p e st m args below meth c ls A X hret hk hw hl
  have X : CX D p m c cX6_registerOf 5 st args RX6 A := X
  have hx := X.1.1
  have hb := X.1.2.1
  have hown := X.1.2.2.2.1
  have hts := X.1.2.2.2.2
  have hl : lv_has ls 5 [(0, .ref o), (1, .int (nI i)), (2, .int 5)] := hl
  refine lv_iload_n hx hb dX6_registerOf_0 rfl (lv_at hl 1 rfl) ?_
  refine r_callS X hw (ws' := ([([xB D o ha ta (L 0) (M 0) b0 u0 (nI k) (rows4 HL) tx (nI T), chipB D L w1 w2 s.v s.f s.g s.r s.av s.mk s.cm s.ar s.fl s.en s.la s.zs s.se s.ph s.tk s.pc s.rc s.wc s.bc s.tc, hsB D HL HW1 HW2 hs] : List va_W).flatten, ([chipB D M y1 y2 t.v t.f t.g t.r t.av t.mk t.cm t.ar t.fl t.en t.la t.zs t.se t.ph t.tk t.pc t.rc t.wc t.bc t.tc, buB D b0 b1 b2 b3 bw en tb sh n0, orB D u0 u1 nu lt br le] : List va_W).flatten] : List va_W).flatten) (As := [.int (nI i)]) (rest := []) lk_X6_53 (c_X6_isRegister l D _ (nI i)) Foc.nil rfl hl.1 (Nat.le_of_ble_eq_true rfl) ⟨Nat.le_of_ble_eq_true rfl, Nat.le_of_ble_eq_true rfl⟩ rfl dX6_registerOf_1 ⟨Nat.le_refl _, Nat.le_refl _⟩ (fun H locs hw => ?_)
  refine lv_if_eq (tgt := 17) hx hb dX6_registerOf_4 (by decide) (fun h => absurd h h9) (fun _ => ?_)
  refine lv_iload_n hx hb dX6_registerOf_7 rfl (lv_at hl 2 rfl) ?_
  refine lv_iconst (v := 0) hx hb dX6_registerOf_8 (by decide) ?_
  refine lv_bipush (v := 6) hx hb dX6_registerOf_9 (by decide) ?_
  refine r_callS X hw (ws' := ([([xB D o ha ta (L 0) (M 0) b0 u0 (nI k) (rows4 HL) tx (nI T), chipB D L w1 w2 s.v s.f s.g s.r s.av s.mk s.cm s.ar s.fl s.en s.la s.zs s.se s.ph s.tk s.pc s.rc s.wc s.bc s.tc, hsB D HL HW1 HW2 hs] : List va_W).flatten, ([chipB D M y1 y2 t.v t.f t.g t.r t.av t.mk t.cm t.ar t.fl t.en t.la t.zs t.se t.ph t.tk t.pc t.rc t.wc t.bc t.tc, buB D b0 b1 b2 b3 bw en tb sh n0, orB D u0 u1 nu lt br le] : List va_W).flatten] : List va_W).flatten) (As := [.int 5, .int 0, .int 6]) (rest := []) lk_X6_95 (c_X6_isWithin l D _ 5 0 6) Foc.nil rfl hl.1 (Nat.le_of_ble_eq_true rfl) ⟨Nat.le_of_ble_eq_true rfl, Nat.le_of_ble_eq_true rfl⟩ rfl dX6_registerOf_11 ⟨Nat.le_refl _, Nat.le_refl _⟩ (fun H locs hw => ?_)
  refine lv_if_ne (tgt := 20) hx hb dX6_registerOf_14 (by decide) (fun _ => ?_) (fun h => absurd h (by decide))
  refine lv_aload_n hx hb dX6_registerOf_20 rfl (lv_at hl 0 rfl) ?_
  refine r_get X hw (v := .ref (L 0)) fl_X6_10 (m_fl 0 rfl (m_fl 0 rfl (m_at 0 rfl))) rfl dX6_registerOf_21 ?_
  refine r_get X hw (v := .ref (L 1)) fl_X6_108 (m_fl 0 rfl (m_fl 1 rfl (m_fl 0 rfl (m_at 0 rfl)))) rfl dX6_registerOf_24 ?_
  refine lv_astore_n (lv' := [(3, .ref (L 1)), (0, .ref o), (1, .int (nI i)), (2, .int 5)]) hx hb dX6_registerOf_27 rfl hl (by decide) rfl (fun ls hl => ?_)
  refine lv_aload_n hx hb dX6_registerOf_28 rfl (lv_at hl 0 rfl) ?_
  refine lv_iload_n hx hb dX6_registerOf_29 rfl (lv_at hl 2 rfl) ?_
  refine r_callV X hw (ws' := ([([xB D o ha ta (L 0) (M 0) b0 u0 (nI k) (rows4 HL) tx (nI T), chipB D L w1 w2 s.v s.f s.g s.r s.av s.mk s.cm s.ar s.fl s.en s.la s.zs s.se s.ph s.tk s.pc s.rc s.wc s.bc s.tc, hsB D HL HW1 HW2 hs] : List va_W).flatten, ([chipB D M y1 y2 t.v t.f t.g t.r t.av t.mk t.cm t.ar t.fl t.en t.la t.zs t.se t.ph t.tk t.pc t.rc t.wc t.bc t.tc, buB D b0 b1 b2 b3 bw en tb sh n0, orB D u0 u1 nu lt br le] : List va_W).flatten] : List va_W).flatten) (As := [.int (nI i)]) (rest := []) lk_X6_138 (c_X5_lastValue l D _ (L 1) (L 2) (L 3) (L 4) (L 5) s.v s.f s.g s.r i (by omega)) (Foc.trans (Foc.at1 0 rfl rfl (ce rfl rfl)) (Foc.trans (Foc.at1 1 rfl rfl (ce rfl (ce rfl rfl))) (Foc.at1 1 rfl rfl (ce rfl (ce rfl (ce rfl (ce rfl rfl))))))) (m_fl 0 rfl (m_fl 1 rfl (m_fl 1 rfl (m_at 0 rfl)))) rfl hl.1 (Nat.le_of_ble_eq_true rfl) ⟨Nat.le_of_ble_eq_true rfl, Nat.le_of_ble_eq_true rfl⟩ rfl dX6_registerOf_30 ⟨Nat.le_refl _, Nat.le_refl _⟩ (fun H locs hw => ?_)
  refine lv_istore (lv' := [(4, .int (sp_X5_lastValue s.v i)), (3, .ref (L 1)), (0, .ref o), (1, .int (nI i)), (2, .int 5)]) hx hb dX6_registerOf_33 hl (by decide) rfl (fun ls hl => ?_)
  refine lv_iload_n hx hb dX6_registerOf_35 rfl (lv_at hl 4 rfl) ?_
  refine r_tabIn (tgt := 112) hx hb 5 rfl dX6_registerOf_36 (by decide) (by decide) rfl (by decide) ?_
  refine lv_aload_n hx hb dX6_registerOf_112 rfl (lv_at hl 1 rfl) ?_
  refine r_get X hw (v := .ref (L 5)) fl_X6_153 (m_fl 0 rfl (m_fl 1 rfl (m_fl 1 rfl (m_at 0 rfl)))) rfl dX6_registerOf_113 ?_
  refine lv_iload_n hx hb dX6_registerOf_116 rfl (lv_at hl 3 rfl) ?_
  refine r_iald X hw (f := s.r) i (m_fl 0 rfl (m_fl 1 rfl (m_fl 1 rfl (m_at 4 rfl)))) rfl (by omega) (by decide) dX6_registerOf_117 ?_
  exact r_ret X hw hk hret rfl (rfl) rfl dX6_registerOf_118

noncomputable def sp_X6_registerOf6 (s : ChS) (i : Nat) : Int32 := sp_X5_withCells s.f s.g i (sp_X5_nextValue s.v i (sp_X5_lastValue s.v i))
set_option maxRecDepth 100000 in
set_option maxHeartbeats 4000000 in
theorem c_X6_registerOf6 (l : Launch) (D : va_G) (sz : Nat) (o ha ta : Nat) (L w1 w2 M y1 y2 : Nat → Nat) (HL HW1 HW2 : Nat → Nat → Nat) (b0 b1 b2 b3 : Nat) (bw : Nat → Nat) (u0 u1 : Nat) (tx : Row) (T : Nat) (s t : ChS) (hs : Nat → ChS) (en tb : Row) (sh : Nat → Row) (n0 : Int32) (nu : Row) (lt br le : Int32) (k : Nat) (hk4 : k ≤ 4) (hT : T ≤ 60) (i : Nat) (hi : i < 7) (h9 : ¬ sp_X6_isRegister (nI i) = 0) : MI l yX6_registerOf cX6_registerOf 5 (some .int) 2 43 D sz [.ref o, .int (nI i), .int 6] (([([xB D o ha ta (L 0) (M 0) b0 u0 (nI k) (rows4 HL) tx (nI T), chipB D L w1 w2 s.v s.f s.g s.r s.av s.mk s.cm s.ar s.fl s.en s.la s.zs s.se s.ph s.tk s.pc s.rc s.wc s.bc s.tc, hsB D HL HW1 HW2 hs] : List va_W).flatten, ([chipB D M y1 y2 t.v t.f t.g t.r t.av t.mk t.cm t.ar t.fl t.en t.la t.zs t.se t.ph t.tk t.pc t.rc t.wc t.bc t.tc, buB D b0 b1 b2 b3 bw en tb sh n0, orB D u0 u1 nu lt br le] : List va_W).flatten] : List va_W).flatten) (sp_X6_registerOf6 s i) (([([xB D o ha ta (L 0) (M 0) b0 u0 (nI k) (rows4 HL) tx (nI T), chipB D L w1 w2 s.v s.f s.g s.r s.av s.mk s.cm s.ar s.fl s.en s.la s.zs s.se s.ph s.tk s.pc s.rc s.wc s.bc s.tc, hsB D HL HW1 HW2 hs] : List va_W).flatten, ([chipB D M y1 y2 t.v t.f t.g t.r t.av t.mk t.cm t.ar t.fl t.en t.la t.zs t.se t.ph t.tk t.pc t.rc t.wc t.bc t.tc, buB D b0 b1 b2 b3 bw en tb sh n0, orB D u0 u1 nu lt br le] : List va_W).flatten] : List va_W).flatten) := by
  refine r_enterI (by decide) (Nat.le_of_ble_eq_true rfl) ?_
  intro p e st m args below meth c ls A X hret hk hw hl
  have X : CX D p m c cX6_registerOf 5 st args RX6 A := X
  have hx := X.1.1
  have hb := X.1.2.1
  have hown := X.1.2.2.2.1
  have hts := X.1.2.2.2.2
  have hl : lv_has ls 5 [(0, .ref o), (1, .int (nI i)), (2, .int 6)] := hl
  refine lv_iload_n hx hb dX6_registerOf_0 rfl (lv_at hl 1 rfl) ?_
  refine r_callS X hw (ws' := ([([xB D o ha ta (L 0) (M 0) b0 u0 (nI k) (rows4 HL) tx (nI T), chipB D L w1 w2 s.v s.f s.g s.r s.av s.mk s.cm s.ar s.fl s.en s.la s.zs s.se s.ph s.tk s.pc s.rc s.wc s.bc s.tc, hsB D HL HW1 HW2 hs] : List va_W).flatten, ([chipB D M y1 y2 t.v t.f t.g t.r t.av t.mk t.cm t.ar t.fl t.en t.la t.zs t.se t.ph t.tk t.pc t.rc t.wc t.bc t.tc, buB D b0 b1 b2 b3 bw en tb sh n0, orB D u0 u1 nu lt br le] : List va_W).flatten] : List va_W).flatten) (As := [.int (nI i)]) (rest := []) lk_X6_53 (c_X6_isRegister l D _ (nI i)) Foc.nil rfl hl.1 (Nat.le_of_ble_eq_true rfl) ⟨Nat.le_of_ble_eq_true rfl, Nat.le_of_ble_eq_true rfl⟩ rfl dX6_registerOf_1 ⟨Nat.le_refl _, Nat.le_refl _⟩ (fun H locs hw => ?_)
  refine lv_if_eq (tgt := 17) hx hb dX6_registerOf_4 (by decide) (fun h => absurd h h9) (fun _ => ?_)
  refine lv_iload_n hx hb dX6_registerOf_7 rfl (lv_at hl 2 rfl) ?_
  refine lv_iconst (v := 0) hx hb dX6_registerOf_8 (by decide) ?_
  refine lv_bipush (v := 6) hx hb dX6_registerOf_9 (by decide) ?_
  refine r_callS X hw (ws' := ([([xB D o ha ta (L 0) (M 0) b0 u0 (nI k) (rows4 HL) tx (nI T), chipB D L w1 w2 s.v s.f s.g s.r s.av s.mk s.cm s.ar s.fl s.en s.la s.zs s.se s.ph s.tk s.pc s.rc s.wc s.bc s.tc, hsB D HL HW1 HW2 hs] : List va_W).flatten, ([chipB D M y1 y2 t.v t.f t.g t.r t.av t.mk t.cm t.ar t.fl t.en t.la t.zs t.se t.ph t.tk t.pc t.rc t.wc t.bc t.tc, buB D b0 b1 b2 b3 bw en tb sh n0, orB D u0 u1 nu lt br le] : List va_W).flatten] : List va_W).flatten) (As := [.int 6, .int 0, .int 6]) (rest := []) lk_X6_95 (c_X6_isWithin l D _ 6 0 6) Foc.nil rfl hl.1 (Nat.le_of_ble_eq_true rfl) ⟨Nat.le_of_ble_eq_true rfl, Nat.le_of_ble_eq_true rfl⟩ rfl dX6_registerOf_11 ⟨Nat.le_refl _, Nat.le_refl _⟩ (fun H locs hw => ?_)
  refine lv_if_ne (tgt := 20) hx hb dX6_registerOf_14 (by decide) (fun _ => ?_) (fun h => absurd h (by decide))
  refine lv_aload_n hx hb dX6_registerOf_20 rfl (lv_at hl 0 rfl) ?_
  refine r_get X hw (v := .ref (L 0)) fl_X6_10 (m_fl 0 rfl (m_fl 0 rfl (m_at 0 rfl))) rfl dX6_registerOf_21 ?_
  refine r_get X hw (v := .ref (L 1)) fl_X6_108 (m_fl 0 rfl (m_fl 1 rfl (m_fl 0 rfl (m_at 0 rfl)))) rfl dX6_registerOf_24 ?_
  refine lv_astore_n (lv' := [(3, .ref (L 1)), (0, .ref o), (1, .int (nI i)), (2, .int 6)]) hx hb dX6_registerOf_27 rfl hl (by decide) rfl (fun ls hl => ?_)
  refine lv_aload_n hx hb dX6_registerOf_28 rfl (lv_at hl 0 rfl) ?_
  refine lv_iload_n hx hb dX6_registerOf_29 rfl (lv_at hl 2 rfl) ?_
  refine r_callV X hw (ws' := ([([xB D o ha ta (L 0) (M 0) b0 u0 (nI k) (rows4 HL) tx (nI T), chipB D L w1 w2 s.v s.f s.g s.r s.av s.mk s.cm s.ar s.fl s.en s.la s.zs s.se s.ph s.tk s.pc s.rc s.wc s.bc s.tc, hsB D HL HW1 HW2 hs] : List va_W).flatten, ([chipB D M y1 y2 t.v t.f t.g t.r t.av t.mk t.cm t.ar t.fl t.en t.la t.zs t.se t.ph t.tk t.pc t.rc t.wc t.bc t.tc, buB D b0 b1 b2 b3 bw en tb sh n0, orB D u0 u1 nu lt br le] : List va_W).flatten] : List va_W).flatten) (As := [.int (nI i)]) (rest := []) lk_X6_138 (c_X5_lastValue l D _ (L 1) (L 2) (L 3) (L 4) (L 5) s.v s.f s.g s.r i (by omega)) (Foc.trans (Foc.at1 0 rfl rfl (ce rfl rfl)) (Foc.trans (Foc.at1 1 rfl rfl (ce rfl (ce rfl rfl))) (Foc.at1 1 rfl rfl (ce rfl (ce rfl (ce rfl (ce rfl rfl))))))) (m_fl 0 rfl (m_fl 1 rfl (m_fl 1 rfl (m_at 0 rfl)))) rfl hl.1 (Nat.le_of_ble_eq_true rfl) ⟨Nat.le_of_ble_eq_true rfl, Nat.le_of_ble_eq_true rfl⟩ rfl dX6_registerOf_30 ⟨Nat.le_refl _, Nat.le_refl _⟩ (fun H locs hw => ?_)
  refine lv_istore (lv' := [(4, .int (sp_X5_lastValue s.v i)), (3, .ref (L 1)), (0, .ref o), (1, .int (nI i)), (2, .int 6)]) hx hb dX6_registerOf_33 hl (by decide) rfl (fun ls hl => ?_)
  refine lv_iload_n hx hb dX6_registerOf_35 rfl (lv_at hl 4 rfl) ?_
  refine lv_tableOut (tgt := 119) hx hb dX6_registerOf_36 (by decide) (by decide) ?_
  refine lv_aload_n hx hb dX6_registerOf_119 rfl (lv_at hl 1 rfl) ?_
  refine lv_iload_n hx hb dX6_registerOf_120 rfl (lv_at hl 3 rfl) ?_
  refine lv_aload_n hx hb dX6_registerOf_121 rfl (lv_at hl 1 rfl) ?_
  refine lv_iload_n hx hb dX6_registerOf_122 rfl (lv_at hl 3 rfl) ?_
  refine lv_iload hx hb dX6_registerOf_123 (lv_at hl 0 rfl) ?_
  refine r_callV X hw (ws' := ([([xB D o ha ta (L 0) (M 0) b0 u0 (nI k) (rows4 HL) tx (nI T), chipB D L w1 w2 s.v s.f s.g s.r s.av s.mk s.cm s.ar s.fl s.en s.la s.zs s.se s.ph s.tk s.pc s.rc s.wc s.bc s.tc, hsB D HL HW1 HW2 hs] : List va_W).flatten, ([chipB D M y1 y2 t.v t.f t.g t.r t.av t.mk t.cm t.ar t.fl t.en t.la t.zs t.se t.ph t.tk t.pc t.rc t.wc t.bc t.tc, buB D b0 b1 b2 b3 bw en tb sh n0, orB D u0 u1 nu lt br le] : List va_W).flatten] : List va_W).flatten) (As := [.int (nI i), .int (sp_X5_lastValue s.v i)]) (rest := [.int (nI i), .ref (L 1)]) lk_X6_156 (c_X5_nextValue l D _ (L 1) (L 2) (L 3) (L 4) (L 5) s.v s.f s.g s.r i (sp_X5_lastValue s.v i) (by omega)) (Foc.trans (Foc.at1 0 rfl rfl (ce rfl rfl)) (Foc.trans (Foc.at1 1 rfl rfl (ce rfl (ce rfl rfl))) (Foc.at1 1 rfl rfl (ce rfl (ce rfl (ce rfl (ce rfl rfl))))))) (m_fl 0 rfl (m_fl 1 rfl (m_fl 1 rfl (m_at 0 rfl)))) rfl hl.1 (Nat.le_of_ble_eq_true rfl) ⟨Nat.le_of_ble_eq_true rfl, Nat.le_of_ble_eq_true rfl⟩ rfl dX6_registerOf_125 ⟨Nat.le_refl _, Nat.le_refl _⟩ (fun H locs hw => ?_)
  refine r_callV X hw (ws' := ([([xB D o ha ta (L 0) (M 0) b0 u0 (nI k) (rows4 HL) tx (nI T), chipB D L w1 w2 s.v s.f s.g s.r s.av s.mk s.cm s.ar s.fl s.en s.la s.zs s.se s.ph s.tk s.pc s.rc s.wc s.bc s.tc, hsB D HL HW1 HW2 hs] : List va_W).flatten, ([chipB D M y1 y2 t.v t.f t.g t.r t.av t.mk t.cm t.ar t.fl t.en t.la t.zs t.se t.ph t.tk t.pc t.rc t.wc t.bc t.tc, buB D b0 b1 b2 b3 bw en tb sh n0, orB D u0 u1 nu lt br le] : List va_W).flatten] : List va_W).flatten) (As := [.int (nI i), .int (sp_X5_nextValue s.v i (sp_X5_lastValue s.v i))]) (rest := []) lk_X6_159 (c_X5_withCells l D _ (L 1) (L 2) (L 3) (L 4) (L 5) s.v s.f s.g s.r i (sp_X5_nextValue s.v i (sp_X5_lastValue s.v i)) (by omega)) (Foc.trans (Foc.at1 0 rfl rfl (ce rfl rfl)) (Foc.trans (Foc.at1 1 rfl rfl (ce rfl (ce rfl rfl))) (Foc.at1 1 rfl rfl (ce rfl (ce rfl (ce rfl (ce rfl rfl))))))) (m_fl 0 rfl (m_fl 1 rfl (m_fl 1 rfl (m_at 0 rfl)))) rfl hl.1 (Nat.le_of_ble_eq_true rfl) ⟨Nat.le_of_ble_eq_true rfl, Nat.le_of_ble_eq_true rfl⟩ rfl dX6_registerOf_128 ⟨Nat.le_refl _, Nat.le_refl _⟩ (fun H locs hw => ?_)
  exact r_ret X hw hk hret rfl (rfl) rfl dX6_registerOf_131

set_option maxRecDepth 100000 in
set_option maxHeartbeats 4000000 in
theorem c_X6_registerOfB (l : Launch) (D : va_G) (sz : Nat) (o ha ta : Nat) (L w1 w2 M y1 y2 : Nat → Nat) (HL HW1 HW2 : Nat → Nat → Nat) (b0 b1 b2 b3 : Nat) (bw : Nat → Nat) (u0 u1 : Nat) (tx : Row) (T : Nat) (s t : ChS) (hs : Nat → ChS) (en tb : Row) (sh : Nat → Row) (n0 : Int32) (nu : Row) (lt br le : Int32) (k : Nat) (hk4 : k ≤ 4) (hT : T ≤ 60) (x y : Int32) (h9 : sp_X6_isRegister x = 0) : MI l yX6_registerOf cX6_registerOf 5 (some .int) 2 42 D sz [.ref o, .int x, .int y] (([([xB D o ha ta (L 0) (M 0) b0 u0 (nI k) (rows4 HL) tx (nI T), chipB D L w1 w2 s.v s.f s.g s.r s.av s.mk s.cm s.ar s.fl s.en s.la s.zs s.se s.ph s.tk s.pc s.rc s.wc s.bc s.tc, hsB D HL HW1 HW2 hs] : List va_W).flatten, ([chipB D M y1 y2 t.v t.f t.g t.r t.av t.mk t.cm t.ar t.fl t.en t.la t.zs t.se t.ph t.tk t.pc t.rc t.wc t.bc t.tc, buB D b0 b1 b2 b3 bw en tb sh n0, orB D u0 u1 nu lt br le] : List va_W).flatten] : List va_W).flatten) (-1000001) (([([xB D o ha ta (L 0) (M 0) b0 u0 (nI k) (rows4 HL) tx (nI T), chipB D L w1 w2 s.v s.f s.g s.r s.av s.mk s.cm s.ar s.fl s.en s.la s.zs s.se s.ph s.tk s.pc s.rc s.wc s.bc s.tc, hsB D HL HW1 HW2 hs] : List va_W).flatten, ([chipB D M y1 y2 t.v t.f t.g t.r t.av t.mk t.cm t.ar t.fl t.en t.la t.zs t.se t.ph t.tk t.pc t.rc t.wc t.bc t.tc, buB D b0 b1 b2 b3 bw en tb sh n0, orB D u0 u1 nu lt br le] : List va_W).flatten] : List va_W).flatten) := by
  refine r_enterI (by decide) (Nat.le_of_ble_eq_true rfl) ?_
  intro p e st m args below meth c ls A X hret hk hw hl
  have X : CX D p m c cX6_registerOf 5 st args RX6 A := X
  have hx := X.1.1
  have hb := X.1.2.1
  have hown := X.1.2.2.2.1
  have hts := X.1.2.2.2.2
  have hl : lv_has ls 5 [(0, .ref o), (1, .int x), (2, .int y)] := hl
  refine lv_iload_n hx hb dX6_registerOf_0 rfl (lv_at hl 1 rfl) ?_
  refine r_callS X hw (ws' := ([([xB D o ha ta (L 0) (M 0) b0 u0 (nI k) (rows4 HL) tx (nI T), chipB D L w1 w2 s.v s.f s.g s.r s.av s.mk s.cm s.ar s.fl s.en s.la s.zs s.se s.ph s.tk s.pc s.rc s.wc s.bc s.tc, hsB D HL HW1 HW2 hs] : List va_W).flatten, ([chipB D M y1 y2 t.v t.f t.g t.r t.av t.mk t.cm t.ar t.fl t.en t.la t.zs t.se t.ph t.tk t.pc t.rc t.wc t.bc t.tc, buB D b0 b1 b2 b3 bw en tb sh n0, orB D u0 u1 nu lt br le] : List va_W).flatten] : List va_W).flatten) (As := [.int x]) (rest := []) lk_X6_53 (c_X6_isRegister l D _ x) Foc.nil rfl hl.1 (Nat.le_of_ble_eq_true rfl) ⟨Nat.le_of_ble_eq_true rfl, Nat.le_of_ble_eq_true rfl⟩ rfl dX6_registerOf_1 ⟨Nat.le_refl _, Nat.le_refl _⟩ (fun H locs hw => ?_)
  refine lv_if_eq (tgt := 17) hx hb dX6_registerOf_4 (by decide) (fun _ => ?_) (fun h => absurd h9 h)
  refine lv_ldc (v := (-1000001)) hx hb hown (hts _ kc_X6_45) dX6_registerOf_17 ?_
  exact r_ret X hw hk hret rfl rfl rfl dX6_registerOf_19

set_option maxRecDepth 100000 in
set_option maxHeartbeats 4000000 in
theorem c_X6_registerOfC (l : Launch) (D : va_G) (sz : Nat) (o ha ta : Nat) (L w1 w2 M y1 y2 : Nat → Nat) (HL HW1 HW2 : Nat → Nat → Nat) (b0 b1 b2 b3 : Nat) (bw : Nat → Nat) (u0 u1 : Nat) (tx : Row) (T : Nat) (s t : ChS) (hs : Nat → ChS) (en tb : Row) (sh : Nat → Row) (n0 : Int32) (nu : Row) (lt br le : Int32) (k : Nat) (hk4 : k ≤ 4) (hT : T ≤ 60) (x y : Int32) (h9 : ¬ sp_X6_isRegister x = 0) (h8 : sp_X6_isWithin y 0 6 = 0) : MI l yX6_registerOf cX6_registerOf 5 (some .int) 2 42 D sz [.ref o, .int x, .int y] (([([xB D o ha ta (L 0) (M 0) b0 u0 (nI k) (rows4 HL) tx (nI T), chipB D L w1 w2 s.v s.f s.g s.r s.av s.mk s.cm s.ar s.fl s.en s.la s.zs s.se s.ph s.tk s.pc s.rc s.wc s.bc s.tc, hsB D HL HW1 HW2 hs] : List va_W).flatten, ([chipB D M y1 y2 t.v t.f t.g t.r t.av t.mk t.cm t.ar t.fl t.en t.la t.zs t.se t.ph t.tk t.pc t.rc t.wc t.bc t.tc, buB D b0 b1 b2 b3 bw en tb sh n0, orB D u0 u1 nu lt br le] : List va_W).flatten] : List va_W).flatten) (-1000001) (([([xB D o ha ta (L 0) (M 0) b0 u0 (nI k) (rows4 HL) tx (nI T), chipB D L w1 w2 s.v s.f s.g s.r s.av s.mk s.cm s.ar s.fl s.en s.la s.zs s.se s.ph s.tk s.pc s.rc s.wc s.bc s.tc, hsB D HL HW1 HW2 hs] : List va_W).flatten, ([chipB D M y1 y2 t.v t.f t.g t.r t.av t.mk t.cm t.ar t.fl t.en t.la t.zs t.se t.ph t.tk t.pc t.rc t.wc t.bc t.tc, buB D b0 b1 b2 b3 bw en tb sh n0, orB D u0 u1 nu lt br le] : List va_W).flatten] : List va_W).flatten) := by
  refine r_enterI (by decide) (Nat.le_of_ble_eq_true rfl) ?_
  intro p e st m args below meth c ls A X hret hk hw hl
  have X : CX D p m c cX6_registerOf 5 st args RX6 A := X
  have hx := X.1.1
  have hb := X.1.2.1
  have hown := X.1.2.2.2.1
  have hts := X.1.2.2.2.2
  have hl : lv_has ls 5 [(0, .ref o), (1, .int x), (2, .int y)] := hl
  refine lv_iload_n hx hb dX6_registerOf_0 rfl (lv_at hl 1 rfl) ?_
  refine r_callS X hw (ws' := ([([xB D o ha ta (L 0) (M 0) b0 u0 (nI k) (rows4 HL) tx (nI T), chipB D L w1 w2 s.v s.f s.g s.r s.av s.mk s.cm s.ar s.fl s.en s.la s.zs s.se s.ph s.tk s.pc s.rc s.wc s.bc s.tc, hsB D HL HW1 HW2 hs] : List va_W).flatten, ([chipB D M y1 y2 t.v t.f t.g t.r t.av t.mk t.cm t.ar t.fl t.en t.la t.zs t.se t.ph t.tk t.pc t.rc t.wc t.bc t.tc, buB D b0 b1 b2 b3 bw en tb sh n0, orB D u0 u1 nu lt br le] : List va_W).flatten] : List va_W).flatten) (As := [.int x]) (rest := []) lk_X6_53 (c_X6_isRegister l D _ x) Foc.nil rfl hl.1 (Nat.le_of_ble_eq_true rfl) ⟨Nat.le_of_ble_eq_true rfl, Nat.le_of_ble_eq_true rfl⟩ rfl dX6_registerOf_1 ⟨Nat.le_refl _, Nat.le_refl _⟩ (fun H locs hw => ?_)
  refine lv_if_eq (tgt := 17) hx hb dX6_registerOf_4 (by decide) (fun h => absurd h h9) (fun _ => ?_)
  refine lv_iload_n hx hb dX6_registerOf_7 rfl (lv_at hl 2 rfl) ?_
  refine lv_iconst (v := 0) hx hb dX6_registerOf_8 (by decide) ?_
  refine lv_bipush (v := 6) hx hb dX6_registerOf_9 (by decide) ?_
  refine r_callS X hw (ws' := ([([xB D o ha ta (L 0) (M 0) b0 u0 (nI k) (rows4 HL) tx (nI T), chipB D L w1 w2 s.v s.f s.g s.r s.av s.mk s.cm s.ar s.fl s.en s.la s.zs s.se s.ph s.tk s.pc s.rc s.wc s.bc s.tc, hsB D HL HW1 HW2 hs] : List va_W).flatten, ([chipB D M y1 y2 t.v t.f t.g t.r t.av t.mk t.cm t.ar t.fl t.en t.la t.zs t.se t.ph t.tk t.pc t.rc t.wc t.bc t.tc, buB D b0 b1 b2 b3 bw en tb sh n0, orB D u0 u1 nu lt br le] : List va_W).flatten] : List va_W).flatten) (As := [.int y, .int 0, .int 6]) (rest := []) lk_X6_95 (c_X6_isWithin l D _ y 0 6) Foc.nil rfl hl.1 (Nat.le_of_ble_eq_true rfl) ⟨Nat.le_of_ble_eq_true rfl, Nat.le_of_ble_eq_true rfl⟩ rfl dX6_registerOf_11 ⟨Nat.le_refl _, Nat.le_refl _⟩ (fun H locs hw => ?_)
  refine lv_if_ne (tgt := 20) hx hb dX6_registerOf_14 (by decide) (fun h => absurd h8 h) (fun _ => ?_)
  refine lv_ldc (v := (-1000001)) hx hb hown (hts _ kc_X6_45) dX6_registerOf_17 ?_
  exact r_ret X hw hk hret rfl rfl rfl dX6_registerOf_19

noncomputable def sp_X6_count0 (s : ChS) (k T : Nat) : Int32 := s.ph
set_option maxRecDepth 100000 in
set_option maxHeartbeats 4000000 in
theorem c_X6_count0 (l : Launch) (D : va_G) (sz : Nat) (o ha ta : Nat) (L w1 w2 M y1 y2 : Nat → Nat) (HL HW1 HW2 : Nat → Nat → Nat) (b0 b1 b2 b3 : Nat) (bw : Nat → Nat) (u0 u1 : Nat) (tx : Row) (T : Nat) (s t : ChS) (hs : Nat → ChS) (en tb : Row) (sh : Nat → Row) (n0 : Int32) (nu : Row) (lt br le : Int32) (k : Nat) (hk4 : k ≤ 4) (hT : T ≤ 60) : MI l yX6_count cX6_count 2 (some .int) 1 22 D sz [.ref o, .int 0] (([([xB D o ha ta (L 0) (M 0) b0 u0 (nI k) (rows4 HL) tx (nI T), chipB D L w1 w2 s.v s.f s.g s.r s.av s.mk s.cm s.ar s.fl s.en s.la s.zs s.se s.ph s.tk s.pc s.rc s.wc s.bc s.tc, hsB D HL HW1 HW2 hs] : List va_W).flatten, ([chipB D M y1 y2 t.v t.f t.g t.r t.av t.mk t.cm t.ar t.fl t.en t.la t.zs t.se t.ph t.tk t.pc t.rc t.wc t.bc t.tc, buB D b0 b1 b2 b3 bw en tb sh n0, orB D u0 u1 nu lt br le] : List va_W).flatten] : List va_W).flatten) (sp_X6_count0 s k T) (([([xB D o ha ta (L 0) (M 0) b0 u0 (nI k) (rows4 HL) tx (nI T), chipB D L w1 w2 s.v s.f s.g s.r s.av s.mk s.cm s.ar s.fl s.en s.la s.zs s.se s.ph s.tk s.pc s.rc s.wc s.bc s.tc, hsB D HL HW1 HW2 hs] : List va_W).flatten, ([chipB D M y1 y2 t.v t.f t.g t.r t.av t.mk t.cm t.ar t.fl t.en t.la t.zs t.se t.ph t.tk t.pc t.rc t.wc t.bc t.tc, buB D b0 b1 b2 b3 bw en tb sh n0, orB D u0 u1 nu lt br le] : List va_W).flatten] : List va_W).flatten) := by
  refine r_enterI (by decide) (Nat.le_of_ble_eq_true rfl) ?_
  intro p e st m args below meth c ls A X hret hk hw hl
  have X : CX D p m c cX6_count 2 st args RX6 A := X
  have hx := X.1.1
  have hb := X.1.2.1
  have hown := X.1.2.2.2.1
  have hts := X.1.2.2.2.2
  have hl : lv_has ls 2 [(0, .ref o), (1, .int 0)] := hl
  refine lv_iload_n hx hb dX6_count_0 rfl (lv_at hl 1 rfl) ?_
  refine lv_bipush (v := 20) hx hb dX6_count_1 (by decide) ?_
  refine lv_bipush (v := 22) hx hb dX6_count_3 (by decide) ?_
  refine r_callS X hw (ws' := ([([xB D o ha ta (L 0) (M 0) b0 u0 (nI k) (rows4 HL) tx (nI T), chipB D L w1 w2 s.v s.f s.g s.r s.av s.mk s.cm s.ar s.fl s.en s.la s.zs s.se s.ph s.tk s.pc s.rc s.wc s.bc s.tc, hsB D HL HW1 HW2 hs] : List va_W).flatten, ([chipB D M y1 y2 t.v t.f t.g t.r t.av t.mk t.cm t.ar t.fl t.en t.la t.zs t.se t.ph t.tk t.pc t.rc t.wc t.bc t.tc, buB D b0 b1 b2 b3 bw en tb sh n0, orB D u0 u1 nu lt br le] : List va_W).flatten] : List va_W).flatten) (As := [.int 0, .int 20, .int 22]) (rest := []) lk_X6_95 (c_X6_isWithin l D _ 0 20 22) Foc.nil rfl hl.1 (Nat.le_of_ble_eq_true rfl) ⟨Nat.le_of_ble_eq_true rfl, Nat.le_of_ble_eq_true rfl⟩ rfl dX6_count_5 ⟨Nat.le_refl _, Nat.le_refl _⟩ (fun H locs hw => ?_)
  refine lv_if_eq (tgt := 24) hx hb dX6_count_8 (by decide) (fun _ => ?_) (fun h => absurd (by decide) h)
  refine lv_iload_n hx hb dX6_count_24 rfl (lv_at hl 1 rfl) ?_
  refine r_tabIn (tgt := 96) hx hb 0 rfl dX6_count_25 (by decide) (by decide) rfl (by decide) ?_
  refine lv_aload_n hx hb dX6_count_96 rfl (lv_at hl 0 rfl) ?_
  refine r_get X hw (v := .ref (L 0)) fl_X6_10 (m_fl 0 rfl (m_fl 0 rfl (m_at 0 rfl))) rfl dX6_count_97 ?_
  refine r_get X hw (v := .int s.ph) fl_X6_213 (m_fl 0 rfl (m_fl 1 rfl (m_fl 0 rfl (m_at 0 rfl)))) rfl dX6_count_100 ?_
  exact r_ret X hw hk hret rfl (rfl) rfl dX6_count_103

noncomputable def sp_X6_count1 (s : ChS) (k T : Nat) : Int32 := s.tk
set_option maxRecDepth 100000 in
set_option maxHeartbeats 4000000 in
theorem c_X6_count1 (l : Launch) (D : va_G) (sz : Nat) (o ha ta : Nat) (L w1 w2 M y1 y2 : Nat → Nat) (HL HW1 HW2 : Nat → Nat → Nat) (b0 b1 b2 b3 : Nat) (bw : Nat → Nat) (u0 u1 : Nat) (tx : Row) (T : Nat) (s t : ChS) (hs : Nat → ChS) (en tb : Row) (sh : Nat → Row) (n0 : Int32) (nu : Row) (lt br le : Int32) (k : Nat) (hk4 : k ≤ 4) (hT : T ≤ 60) : MI l yX6_count cX6_count 2 (some .int) 1 22 D sz [.ref o, .int 1] (([([xB D o ha ta (L 0) (M 0) b0 u0 (nI k) (rows4 HL) tx (nI T), chipB D L w1 w2 s.v s.f s.g s.r s.av s.mk s.cm s.ar s.fl s.en s.la s.zs s.se s.ph s.tk s.pc s.rc s.wc s.bc s.tc, hsB D HL HW1 HW2 hs] : List va_W).flatten, ([chipB D M y1 y2 t.v t.f t.g t.r t.av t.mk t.cm t.ar t.fl t.en t.la t.zs t.se t.ph t.tk t.pc t.rc t.wc t.bc t.tc, buB D b0 b1 b2 b3 bw en tb sh n0, orB D u0 u1 nu lt br le] : List va_W).flatten] : List va_W).flatten) (sp_X6_count1 s k T) (([([xB D o ha ta (L 0) (M 0) b0 u0 (nI k) (rows4 HL) tx (nI T), chipB D L w1 w2 s.v s.f s.g s.r s.av s.mk s.cm s.ar s.fl s.en s.la s.zs s.se s.ph s.tk s.pc s.rc s.wc s.bc s.tc, hsB D HL HW1 HW2 hs] : List va_W).flatten, ([chipB D M y1 y2 t.v t.f t.g t.r t.av t.mk t.cm t.ar t.fl t.en t.la t.zs t.se t.ph t.tk t.pc t.rc t.wc t.bc t.tc, buB D b0 b1 b2 b3 bw en tb sh n0, orB D u0 u1 nu lt br le] : List va_W).flatten] : List va_W).flatten) := by
  refine r_enterI (by decide) (Nat.le_of_ble_eq_true rfl) ?_
  intro p e st m args below meth c ls A X hret hk hw hl
  have X : CX D p m c cX6_count 2 st args RX6 A := X
  have hx := X.1.1
  have hb := X.1.2.1
  have hown := X.1.2.2.2.1
  have hts := X.1.2.2.2.2
  have hl : lv_has ls 2 [(0, .ref o), (1, .int 1)] := hl
  refine lv_iload_n hx hb dX6_count_0 rfl (lv_at hl 1 rfl) ?_
  refine lv_bipush (v := 20) hx hb dX6_count_1 (by decide) ?_
  refine lv_bipush (v := 22) hx hb dX6_count_3 (by decide) ?_
  refine r_callS X hw (ws' := ([([xB D o ha ta (L 0) (M 0) b0 u0 (nI k) (rows4 HL) tx (nI T), chipB D L w1 w2 s.v s.f s.g s.r s.av s.mk s.cm s.ar s.fl s.en s.la s.zs s.se s.ph s.tk s.pc s.rc s.wc s.bc s.tc, hsB D HL HW1 HW2 hs] : List va_W).flatten, ([chipB D M y1 y2 t.v t.f t.g t.r t.av t.mk t.cm t.ar t.fl t.en t.la t.zs t.se t.ph t.tk t.pc t.rc t.wc t.bc t.tc, buB D b0 b1 b2 b3 bw en tb sh n0, orB D u0 u1 nu lt br le] : List va_W).flatten] : List va_W).flatten) (As := [.int 1, .int 20, .int 22]) (rest := []) lk_X6_95 (c_X6_isWithin l D _ 1 20 22) Foc.nil rfl hl.1 (Nat.le_of_ble_eq_true rfl) ⟨Nat.le_of_ble_eq_true rfl, Nat.le_of_ble_eq_true rfl⟩ rfl dX6_count_5 ⟨Nat.le_refl _, Nat.le_refl _⟩ (fun H locs hw => ?_)
  refine lv_if_eq (tgt := 24) hx hb dX6_count_8 (by decide) (fun _ => ?_) (fun h => absurd (by decide) h)
  refine lv_iload_n hx hb dX6_count_24 rfl (lv_at hl 1 rfl) ?_
  refine r_tabIn (tgt := 104) hx hb 1 rfl dX6_count_25 (by decide) (by decide) rfl (by decide) ?_
  refine lv_aload_n hx hb dX6_count_104 rfl (lv_at hl 0 rfl) ?_
  refine r_get X hw (v := .ref (L 0)) fl_X6_10 (m_fl 0 rfl (m_fl 0 rfl (m_at 0 rfl))) rfl dX6_count_105 ?_
  refine r_get X hw (v := .int s.tk) fl_X6_236 (m_fl 0 rfl (m_fl 1 rfl (m_fl 0 rfl (m_at 0 rfl)))) rfl dX6_count_108 ?_
  exact r_ret X hw hk hret rfl (rfl) rfl dX6_count_111

noncomputable def sp_X6_count2 (s : ChS) (k T : Nat) : Int32 := cwN s.v 7
set_option maxRecDepth 100000 in
set_option maxHeartbeats 4000000 in
theorem c_X6_count2 (l : Launch) (D : va_G) (sz : Nat) (o ha ta : Nat) (L w1 w2 M y1 y2 : Nat → Nat) (HL HW1 HW2 : Nat → Nat → Nat) (b0 b1 b2 b3 : Nat) (bw : Nat → Nat) (u0 u1 : Nat) (tx : Row) (T : Nat) (s t : ChS) (hs : Nat → ChS) (en tb : Row) (sh : Nat → Row) (n0 : Int32) (nu : Row) (lt br le : Int32) (k : Nat) (hk4 : k ≤ 4) (hT : T ≤ 60) : MI l yX6_count cX6_count 2 (some .int) 4 87 D sz [.ref o, .int 2] (([([xB D o ha ta (L 0) (M 0) b0 u0 (nI k) (rows4 HL) tx (nI T), chipB D L w1 w2 s.v s.f s.g s.r s.av s.mk s.cm s.ar s.fl s.en s.la s.zs s.se s.ph s.tk s.pc s.rc s.wc s.bc s.tc, hsB D HL HW1 HW2 hs] : List va_W).flatten, ([chipB D M y1 y2 t.v t.f t.g t.r t.av t.mk t.cm t.ar t.fl t.en t.la t.zs t.se t.ph t.tk t.pc t.rc t.wc t.bc t.tc, buB D b0 b1 b2 b3 bw en tb sh n0, orB D u0 u1 nu lt br le] : List va_W).flatten] : List va_W).flatten) (sp_X6_count2 s k T) (([([xB D o ha ta (L 0) (M 0) b0 u0 (nI k) (rows4 HL) tx (nI T), chipB D L w1 w2 s.v s.f s.g s.r s.av s.mk s.cm s.ar s.fl s.en s.la s.zs s.se s.ph s.tk s.pc s.rc s.wc s.bc s.tc, hsB D HL HW1 HW2 hs] : List va_W).flatten, ([chipB D M y1 y2 t.v t.f t.g t.r t.av t.mk t.cm t.ar t.fl t.en t.la t.zs t.se t.ph t.tk t.pc t.rc t.wc t.bc t.tc, buB D b0 b1 b2 b3 bw en tb sh n0, orB D u0 u1 nu lt br le] : List va_W).flatten] : List va_W).flatten) := by
  refine r_enterI (by decide) (Nat.le_of_ble_eq_true rfl) ?_
  intro p e st m args below meth c ls A X hret hk hw hl
  have X : CX D p m c cX6_count 2 st args RX6 A := X
  have hx := X.1.1
  have hb := X.1.2.1
  have hown := X.1.2.2.2.1
  have hts := X.1.2.2.2.2
  have hl : lv_has ls 2 [(0, .ref o), (1, .int 2)] := hl
  refine lv_iload_n hx hb dX6_count_0 rfl (lv_at hl 1 rfl) ?_
  refine lv_bipush (v := 20) hx hb dX6_count_1 (by decide) ?_
  refine lv_bipush (v := 22) hx hb dX6_count_3 (by decide) ?_
  refine r_callS X hw (ws' := ([([xB D o ha ta (L 0) (M 0) b0 u0 (nI k) (rows4 HL) tx (nI T), chipB D L w1 w2 s.v s.f s.g s.r s.av s.mk s.cm s.ar s.fl s.en s.la s.zs s.se s.ph s.tk s.pc s.rc s.wc s.bc s.tc, hsB D HL HW1 HW2 hs] : List va_W).flatten, ([chipB D M y1 y2 t.v t.f t.g t.r t.av t.mk t.cm t.ar t.fl t.en t.la t.zs t.se t.ph t.tk t.pc t.rc t.wc t.bc t.tc, buB D b0 b1 b2 b3 bw en tb sh n0, orB D u0 u1 nu lt br le] : List va_W).flatten] : List va_W).flatten) (As := [.int 2, .int 20, .int 22]) (rest := []) lk_X6_95 (c_X6_isWithin l D _ 2 20 22) Foc.nil rfl hl.1 (Nat.le_of_ble_eq_true rfl) ⟨Nat.le_of_ble_eq_true rfl, Nat.le_of_ble_eq_true rfl⟩ rfl dX6_count_5 ⟨Nat.le_refl _, Nat.le_refl _⟩ (fun H locs hw => ?_)
  refine lv_if_eq (tgt := 24) hx hb dX6_count_8 (by decide) (fun _ => ?_) (fun h => absurd (by decide) h)
  refine lv_iload_n hx hb dX6_count_24 rfl (lv_at hl 1 rfl) ?_
  refine r_tabIn (tgt := 112) hx hb 2 rfl dX6_count_25 (by decide) (by decide) rfl (by decide) ?_
  refine lv_aload_n hx hb dX6_count_112 rfl (lv_at hl 0 rfl) ?_
  refine r_get X hw (v := .ref (L 0)) fl_X6_10 (m_fl 0 rfl (m_fl 0 rfl (m_at 0 rfl))) rfl dX6_count_113 ?_
  refine r_get X hw (v := .ref (L 1)) fl_X6_108 (m_fl 0 rfl (m_fl 1 rfl (m_fl 0 rfl (m_at 0 rfl)))) rfl dX6_count_116 ?_
  refine r_callV X hw (ws' := ([([xB D o ha ta (L 0) (M 0) b0 u0 (nI k) (rows4 HL) tx (nI T), chipB D L w1 w2 s.v s.f s.g s.r s.av s.mk s.cm s.ar s.fl s.en s.la s.zs s.se s.ph s.tk s.pc s.rc s.wc s.bc s.tc, hsB D HL HW1 HW2 hs] : List va_W).flatten, ([chipB D M y1 y2 t.v t.f t.g t.r t.av t.mk t.cm t.ar t.fl t.en t.la t.zs t.se t.ph t.tk t.pc t.rc t.wc t.bc t.tc, buB D b0 b1 b2 b3 bw en tb sh n0, orB D u0 u1 nu lt br le] : List va_W).flatten] : List va_W).flatten) (As := []) (rest := []) lk_X6_239 (c_X5_wrongOnes l D _ (L 1) (L 2) (L 3) (L 4) (L 5) s.v s.f s.g s.r) (Foc.trans (Foc.at1 0 rfl rfl (ce rfl rfl)) (Foc.trans (Foc.at1 1 rfl rfl (ce rfl (ce rfl rfl))) (Foc.at1 1 rfl rfl (ce rfl (ce rfl (ce rfl (ce rfl rfl))))))) (m_fl 0 rfl (m_fl 1 rfl (m_fl 1 rfl (m_at 0 rfl)))) rfl hl.1 (Nat.le_of_ble_eq_true rfl) ⟨Nat.le_of_ble_eq_true rfl, Nat.le_of_ble_eq_true rfl⟩ rfl dX6_count_119 ⟨Nat.le_refl _, Nat.le_refl _⟩ (fun H locs hw => ?_)
  exact r_ret X hw hk hret rfl (rfl) rfl dX6_count_122

noncomputable def sp_X6_count3 (s : ChS) (k T : Nat) : Int32 := s.fl
set_option maxRecDepth 100000 in
set_option maxHeartbeats 4000000 in
theorem c_X6_count3 (l : Launch) (D : va_G) (sz : Nat) (o ha ta : Nat) (L w1 w2 M y1 y2 : Nat → Nat) (HL HW1 HW2 : Nat → Nat → Nat) (b0 b1 b2 b3 : Nat) (bw : Nat → Nat) (u0 u1 : Nat) (tx : Row) (T : Nat) (s t : ChS) (hs : Nat → ChS) (en tb : Row) (sh : Nat → Row) (n0 : Int32) (nu : Row) (lt br le : Int32) (k : Nat) (hk4 : k ≤ 4) (hT : T ≤ 60) : MI l yX6_count cX6_count 2 (some .int) 1 22 D sz [.ref o, .int 3] (([([xB D o ha ta (L 0) (M 0) b0 u0 (nI k) (rows4 HL) tx (nI T), chipB D L w1 w2 s.v s.f s.g s.r s.av s.mk s.cm s.ar s.fl s.en s.la s.zs s.se s.ph s.tk s.pc s.rc s.wc s.bc s.tc, hsB D HL HW1 HW2 hs] : List va_W).flatten, ([chipB D M y1 y2 t.v t.f t.g t.r t.av t.mk t.cm t.ar t.fl t.en t.la t.zs t.se t.ph t.tk t.pc t.rc t.wc t.bc t.tc, buB D b0 b1 b2 b3 bw en tb sh n0, orB D u0 u1 nu lt br le] : List va_W).flatten] : List va_W).flatten) (sp_X6_count3 s k T) (([([xB D o ha ta (L 0) (M 0) b0 u0 (nI k) (rows4 HL) tx (nI T), chipB D L w1 w2 s.v s.f s.g s.r s.av s.mk s.cm s.ar s.fl s.en s.la s.zs s.se s.ph s.tk s.pc s.rc s.wc s.bc s.tc, hsB D HL HW1 HW2 hs] : List va_W).flatten, ([chipB D M y1 y2 t.v t.f t.g t.r t.av t.mk t.cm t.ar t.fl t.en t.la t.zs t.se t.ph t.tk t.pc t.rc t.wc t.bc t.tc, buB D b0 b1 b2 b3 bw en tb sh n0, orB D u0 u1 nu lt br le] : List va_W).flatten] : List va_W).flatten) := by
  refine r_enterI (by decide) (Nat.le_of_ble_eq_true rfl) ?_
  intro p e st m args below meth c ls A X hret hk hw hl
  have X : CX D p m c cX6_count 2 st args RX6 A := X
  have hx := X.1.1
  have hb := X.1.2.1
  have hown := X.1.2.2.2.1
  have hts := X.1.2.2.2.2
  have hl : lv_has ls 2 [(0, .ref o), (1, .int 3)] := hl
  refine lv_iload_n hx hb dX6_count_0 rfl (lv_at hl 1 rfl) ?_
  refine lv_bipush (v := 20) hx hb dX6_count_1 (by decide) ?_
  refine lv_bipush (v := 22) hx hb dX6_count_3 (by decide) ?_
  refine r_callS X hw (ws' := ([([xB D o ha ta (L 0) (M 0) b0 u0 (nI k) (rows4 HL) tx (nI T), chipB D L w1 w2 s.v s.f s.g s.r s.av s.mk s.cm s.ar s.fl s.en s.la s.zs s.se s.ph s.tk s.pc s.rc s.wc s.bc s.tc, hsB D HL HW1 HW2 hs] : List va_W).flatten, ([chipB D M y1 y2 t.v t.f t.g t.r t.av t.mk t.cm t.ar t.fl t.en t.la t.zs t.se t.ph t.tk t.pc t.rc t.wc t.bc t.tc, buB D b0 b1 b2 b3 bw en tb sh n0, orB D u0 u1 nu lt br le] : List va_W).flatten] : List va_W).flatten) (As := [.int 3, .int 20, .int 22]) (rest := []) lk_X6_95 (c_X6_isWithin l D _ 3 20 22) Foc.nil rfl hl.1 (Nat.le_of_ble_eq_true rfl) ⟨Nat.le_of_ble_eq_true rfl, Nat.le_of_ble_eq_true rfl⟩ rfl dX6_count_5 ⟨Nat.le_refl _, Nat.le_refl _⟩ (fun H locs hw => ?_)
  refine lv_if_eq (tgt := 24) hx hb dX6_count_8 (by decide) (fun _ => ?_) (fun h => absurd (by decide) h)
  refine lv_iload_n hx hb dX6_count_24 rfl (lv_at hl 1 rfl) ?_
  refine r_tabIn (tgt := 123) hx hb 3 rfl dX6_count_25 (by decide) (by decide) rfl (by decide) ?_
  refine lv_aload_n hx hb dX6_count_123 rfl (lv_at hl 0 rfl) ?_
  refine r_get X hw (v := .ref (L 0)) fl_X6_10 (m_fl 0 rfl (m_fl 0 rfl (m_at 0 rfl))) rfl dX6_count_124 ?_
  refine r_get X hw (v := .ref (L 6)) fl_X6_82 (m_fl 0 rfl (m_fl 1 rfl (m_fl 0 rfl (m_at 0 rfl)))) rfl dX6_count_127 ?_
  refine r_get X hw (v := .int s.fl) fl_X6_101 (m_fl 0 rfl (m_fl 1 rfl (m_fl 2 rfl (m_at 0 rfl)))) rfl dX6_count_130 ?_
  exact r_ret X hw hk hret rfl (rfl) rfl dX6_count_133

noncomputable def sp_X6_count4 (s : ChS) (k T : Nat) : Int32 := caN s.cm 3
set_option maxRecDepth 100000 in
set_option maxHeartbeats 4000000 in
theorem c_X6_count4 (l : Launch) (D : va_G) (sz : Nat) (o ha ta : Nat) (L w1 w2 M y1 y2 : Nat → Nat) (HL HW1 HW2 : Nat → Nat → Nat) (b0 b1 b2 b3 : Nat) (bw : Nat → Nat) (u0 u1 : Nat) (tx : Row) (T : Nat) (s t : ChS) (hs : Nat → ChS) (en tb : Row) (sh : Nat → Row) (n0 : Int32) (nu : Row) (lt br le : Int32) (k : Nat) (hk4 : k ≤ 4) (hT : T ≤ 60) : MI l yX6_count cX6_count 2 (some .int) 1 22 D sz [.ref o, .int 4] (([([xB D o ha ta (L 0) (M 0) b0 u0 (nI k) (rows4 HL) tx (nI T), chipB D L w1 w2 s.v s.f s.g s.r s.av s.mk s.cm s.ar s.fl s.en s.la s.zs s.se s.ph s.tk s.pc s.rc s.wc s.bc s.tc, hsB D HL HW1 HW2 hs] : List va_W).flatten, ([chipB D M y1 y2 t.v t.f t.g t.r t.av t.mk t.cm t.ar t.fl t.en t.la t.zs t.se t.ph t.tk t.pc t.rc t.wc t.bc t.tc, buB D b0 b1 b2 b3 bw en tb sh n0, orB D u0 u1 nu lt br le] : List va_W).flatten] : List va_W).flatten) (sp_X6_count4 s k T) (([([xB D o ha ta (L 0) (M 0) b0 u0 (nI k) (rows4 HL) tx (nI T), chipB D L w1 w2 s.v s.f s.g s.r s.av s.mk s.cm s.ar s.fl s.en s.la s.zs s.se s.ph s.tk s.pc s.rc s.wc s.bc s.tc, hsB D HL HW1 HW2 hs] : List va_W).flatten, ([chipB D M y1 y2 t.v t.f t.g t.r t.av t.mk t.cm t.ar t.fl t.en t.la t.zs t.se t.ph t.tk t.pc t.rc t.wc t.bc t.tc, buB D b0 b1 b2 b3 bw en tb sh n0, orB D u0 u1 nu lt br le] : List va_W).flatten] : List va_W).flatten) := by
  refine r_enterI (by decide) (Nat.le_of_ble_eq_true rfl) ?_
  intro p e st m args below meth c ls A X hret hk hw hl
  have X : CX D p m c cX6_count 2 st args RX6 A := X
  have hx := X.1.1
  have hb := X.1.2.1
  have hown := X.1.2.2.2.1
  have hts := X.1.2.2.2.2
  have hl : lv_has ls 2 [(0, .ref o), (1, .int 4)] := hl
  refine lv_iload_n hx hb dX6_count_0 rfl (lv_at hl 1 rfl) ?_
  refine lv_bipush (v := 20) hx hb dX6_count_1 (by decide) ?_
  refine lv_bipush (v := 22) hx hb dX6_count_3 (by decide) ?_
  refine r_callS X hw (ws' := ([([xB D o ha ta (L 0) (M 0) b0 u0 (nI k) (rows4 HL) tx (nI T), chipB D L w1 w2 s.v s.f s.g s.r s.av s.mk s.cm s.ar s.fl s.en s.la s.zs s.se s.ph s.tk s.pc s.rc s.wc s.bc s.tc, hsB D HL HW1 HW2 hs] : List va_W).flatten, ([chipB D M y1 y2 t.v t.f t.g t.r t.av t.mk t.cm t.ar t.fl t.en t.la t.zs t.se t.ph t.tk t.pc t.rc t.wc t.bc t.tc, buB D b0 b1 b2 b3 bw en tb sh n0, orB D u0 u1 nu lt br le] : List va_W).flatten] : List va_W).flatten) (As := [.int 4, .int 20, .int 22]) (rest := []) lk_X6_95 (c_X6_isWithin l D _ 4 20 22) Foc.nil rfl hl.1 (Nat.le_of_ble_eq_true rfl) ⟨Nat.le_of_ble_eq_true rfl, Nat.le_of_ble_eq_true rfl⟩ rfl dX6_count_5 ⟨Nat.le_refl _, Nat.le_refl _⟩ (fun H locs hw => ?_)
  refine lv_if_eq (tgt := 24) hx hb dX6_count_8 (by decide) (fun _ => ?_) (fun h => absurd (by decide) h)
  refine lv_iload_n hx hb dX6_count_24 rfl (lv_at hl 1 rfl) ?_
  refine r_tabIn (tgt := 134) hx hb 4 rfl dX6_count_25 (by decide) (by decide) rfl (by decide) ?_
  refine lv_aload_n hx hb dX6_count_134 rfl (lv_at hl 0 rfl) ?_
  refine r_get X hw (v := .ref (L 0)) fl_X6_10 (m_fl 0 rfl (m_fl 0 rfl (m_at 0 rfl))) rfl dX6_count_135 ?_
  refine r_get X hw (v := .ref (L 6)) fl_X6_82 (m_fl 0 rfl (m_fl 1 rfl (m_fl 0 rfl (m_at 0 rfl)))) rfl dX6_count_138 ?_
  refine r_callV X hw (ws' := ([([xB D o ha ta (L 0) (M 0) b0 u0 (nI k) (rows4 HL) tx (nI T), chipB D L w1 w2 s.v s.f s.g s.r s.av s.mk s.cm s.ar s.fl s.en s.la s.zs s.se s.ph s.tk s.pc s.rc s.wc s.bc s.tc, hsB D HL HW1 HW2 hs] : List va_W).flatten, ([chipB D M y1 y2 t.v t.f t.g t.r t.av t.mk t.cm t.ar t.fl t.en t.la t.zs t.se t.ph t.tk t.pc t.rc t.wc t.bc t.tc, buB D b0 b1 b2 b3 bw en tb sh n0, orB D u0 u1 nu lt br le] : List va_W).flatten] : List va_W).flatten) (As := []) (rest := []) lk_X6_242 (c_X0_cameInAll l D _ (L 6) (L 7) (L 8) (L 9) w1 s.av s.mk s.cm s.ar s.fl) (Foc.trans (Foc.at1 0 rfl rfl (ce rfl rfl)) (Foc.trans (Foc.at1 1 rfl rfl (ce rfl (ce rfl rfl))) (Foc.at1 2 rfl rfl (ce rfl (ce rfl (ce rfl (ce rfl rfl))))))) (m_fl 0 rfl (m_fl 1 rfl (m_fl 2 rfl (m_at 0 rfl)))) rfl hl.1 (Nat.le_of_ble_eq_true rfl) ⟨Nat.le_of_ble_eq_true rfl, Nat.le_of_ble_eq_true rfl⟩ rfl dX6_count_141 ⟨Nat.le_refl _, Nat.le_refl _⟩ (fun H locs hw => ?_)
  exact r_ret X hw hk hret rfl (rfl) rfl dX6_count_144

noncomputable def sp_X6_count5 (s : ChS) (k T : Nat) : Int32 := cfN s.f 7
set_option maxRecDepth 100000 in
set_option maxHeartbeats 4000000 in
theorem c_X6_count5 (l : Launch) (D : va_G) (sz : Nat) (o ha ta : Nat) (L w1 w2 M y1 y2 : Nat → Nat) (HL HW1 HW2 : Nat → Nat → Nat) (b0 b1 b2 b3 : Nat) (bw : Nat → Nat) (u0 u1 : Nat) (tx : Row) (T : Nat) (s t : ChS) (hs : Nat → ChS) (en tb : Row) (sh : Nat → Row) (n0 : Int32) (nu : Row) (lt br le : Int32) (k : Nat) (hk4 : k ≤ 4) (hT : T ≤ 60) : MI l yX6_count cX6_count 2 (some .int) 2 42 D sz [.ref o, .int 5] (([([xB D o ha ta (L 0) (M 0) b0 u0 (nI k) (rows4 HL) tx (nI T), chipB D L w1 w2 s.v s.f s.g s.r s.av s.mk s.cm s.ar s.fl s.en s.la s.zs s.se s.ph s.tk s.pc s.rc s.wc s.bc s.tc, hsB D HL HW1 HW2 hs] : List va_W).flatten, ([chipB D M y1 y2 t.v t.f t.g t.r t.av t.mk t.cm t.ar t.fl t.en t.la t.zs t.se t.ph t.tk t.pc t.rc t.wc t.bc t.tc, buB D b0 b1 b2 b3 bw en tb sh n0, orB D u0 u1 nu lt br le] : List va_W).flatten] : List va_W).flatten) (sp_X6_count5 s k T) (([([xB D o ha ta (L 0) (M 0) b0 u0 (nI k) (rows4 HL) tx (nI T), chipB D L w1 w2 s.v s.f s.g s.r s.av s.mk s.cm s.ar s.fl s.en s.la s.zs s.se s.ph s.tk s.pc s.rc s.wc s.bc s.tc, hsB D HL HW1 HW2 hs] : List va_W).flatten, ([chipB D M y1 y2 t.v t.f t.g t.r t.av t.mk t.cm t.ar t.fl t.en t.la t.zs t.se t.ph t.tk t.pc t.rc t.wc t.bc t.tc, buB D b0 b1 b2 b3 bw en tb sh n0, orB D u0 u1 nu lt br le] : List va_W).flatten] : List va_W).flatten) := by
  refine r_enterI (by decide) (Nat.le_of_ble_eq_true rfl) ?_
  intro p e st m args below meth c ls A X hret hk hw hl
  have X : CX D p m c cX6_count 2 st args RX6 A := X
  have hx := X.1.1
  have hb := X.1.2.1
  have hown := X.1.2.2.2.1
  have hts := X.1.2.2.2.2
  have hl : lv_has ls 2 [(0, .ref o), (1, .int 5)] := hl
  refine lv_iload_n hx hb dX6_count_0 rfl (lv_at hl 1 rfl) ?_
  refine lv_bipush (v := 20) hx hb dX6_count_1 (by decide) ?_
  refine lv_bipush (v := 22) hx hb dX6_count_3 (by decide) ?_
  refine r_callS X hw (ws' := ([([xB D o ha ta (L 0) (M 0) b0 u0 (nI k) (rows4 HL) tx (nI T), chipB D L w1 w2 s.v s.f s.g s.r s.av s.mk s.cm s.ar s.fl s.en s.la s.zs s.se s.ph s.tk s.pc s.rc s.wc s.bc s.tc, hsB D HL HW1 HW2 hs] : List va_W).flatten, ([chipB D M y1 y2 t.v t.f t.g t.r t.av t.mk t.cm t.ar t.fl t.en t.la t.zs t.se t.ph t.tk t.pc t.rc t.wc t.bc t.tc, buB D b0 b1 b2 b3 bw en tb sh n0, orB D u0 u1 nu lt br le] : List va_W).flatten] : List va_W).flatten) (As := [.int 5, .int 20, .int 22]) (rest := []) lk_X6_95 (c_X6_isWithin l D _ 5 20 22) Foc.nil rfl hl.1 (Nat.le_of_ble_eq_true rfl) ⟨Nat.le_of_ble_eq_true rfl, Nat.le_of_ble_eq_true rfl⟩ rfl dX6_count_5 ⟨Nat.le_refl _, Nat.le_refl _⟩ (fun H locs hw => ?_)
  refine lv_if_eq (tgt := 24) hx hb dX6_count_8 (by decide) (fun _ => ?_) (fun h => absurd (by decide) h)
  refine lv_iload_n hx hb dX6_count_24 rfl (lv_at hl 1 rfl) ?_
  refine r_tabIn (tgt := 145) hx hb 5 rfl dX6_count_25 (by decide) (by decide) rfl (by decide) ?_
  refine lv_aload_n hx hb dX6_count_145 rfl (lv_at hl 0 rfl) ?_
  refine r_get X hw (v := .ref (L 0)) fl_X6_10 (m_fl 0 rfl (m_fl 0 rfl (m_at 0 rfl))) rfl dX6_count_146 ?_
  refine r_get X hw (v := .ref (L 1)) fl_X6_108 (m_fl 0 rfl (m_fl 1 rfl (m_fl 0 rfl (m_at 0 rfl)))) rfl dX6_count_149 ?_
  refine r_callV X hw (ws' := ([([xB D o ha ta (L 0) (M 0) b0 u0 (nI k) (rows4 HL) tx (nI T), chipB D L w1 w2 s.v s.f s.g s.r s.av s.mk s.cm s.ar s.fl s.en s.la s.zs s.se s.ph s.tk s.pc s.rc s.wc s.bc s.tc, hsB D HL HW1 HW2 hs] : List va_W).flatten, ([chipB D M y1 y2 t.v t.f t.g t.r t.av t.mk t.cm t.ar t.fl t.en t.la t.zs t.se t.ph t.tk t.pc t.rc t.wc t.bc t.tc, buB D b0 b1 b2 b3 bw en tb sh n0, orB D u0 u1 nu lt br le] : List va_W).flatten] : List va_W).flatten) (As := []) (rest := []) lk_X6_125 (c_X5_failedCells l D _ (L 1) (L 2) (L 3) (L 4) (L 5) s.v s.f s.g s.r) (Foc.trans (Foc.at1 0 rfl rfl (ce rfl rfl)) (Foc.trans (Foc.at1 1 rfl rfl (ce rfl (ce rfl rfl))) (Foc.at1 1 rfl rfl (ce rfl (ce rfl (ce rfl (ce rfl rfl))))))) (m_fl 0 rfl (m_fl 1 rfl (m_fl 1 rfl (m_at 0 rfl)))) rfl hl.1 (Nat.le_of_ble_eq_true rfl) ⟨Nat.le_of_ble_eq_true rfl, Nat.le_of_ble_eq_true rfl⟩ rfl dX6_count_152 ⟨Nat.le_refl _, Nat.le_refl _⟩ (fun H locs hw => ?_)
  exact r_ret X hw hk hret rfl (rfl) rfl dX6_count_155

noncomputable def sp_X6_count6 (s : ChS) (k T : Nat) : Int32 := s.bc
set_option maxRecDepth 100000 in
set_option maxHeartbeats 4000000 in
theorem c_X6_count6 (l : Launch) (D : va_G) (sz : Nat) (o ha ta : Nat) (L w1 w2 M y1 y2 : Nat → Nat) (HL HW1 HW2 : Nat → Nat → Nat) (b0 b1 b2 b3 : Nat) (bw : Nat → Nat) (u0 u1 : Nat) (tx : Row) (T : Nat) (s t : ChS) (hs : Nat → ChS) (en tb : Row) (sh : Nat → Row) (n0 : Int32) (nu : Row) (lt br le : Int32) (k : Nat) (hk4 : k ≤ 4) (hT : T ≤ 60) : MI l yX6_count cX6_count 2 (some .int) 1 22 D sz [.ref o, .int 6] (([([xB D o ha ta (L 0) (M 0) b0 u0 (nI k) (rows4 HL) tx (nI T), chipB D L w1 w2 s.v s.f s.g s.r s.av s.mk s.cm s.ar s.fl s.en s.la s.zs s.se s.ph s.tk s.pc s.rc s.wc s.bc s.tc, hsB D HL HW1 HW2 hs] : List va_W).flatten, ([chipB D M y1 y2 t.v t.f t.g t.r t.av t.mk t.cm t.ar t.fl t.en t.la t.zs t.se t.ph t.tk t.pc t.rc t.wc t.bc t.tc, buB D b0 b1 b2 b3 bw en tb sh n0, orB D u0 u1 nu lt br le] : List va_W).flatten] : List va_W).flatten) (sp_X6_count6 s k T) (([([xB D o ha ta (L 0) (M 0) b0 u0 (nI k) (rows4 HL) tx (nI T), chipB D L w1 w2 s.v s.f s.g s.r s.av s.mk s.cm s.ar s.fl s.en s.la s.zs s.se s.ph s.tk s.pc s.rc s.wc s.bc s.tc, hsB D HL HW1 HW2 hs] : List va_W).flatten, ([chipB D M y1 y2 t.v t.f t.g t.r t.av t.mk t.cm t.ar t.fl t.en t.la t.zs t.se t.ph t.tk t.pc t.rc t.wc t.bc t.tc, buB D b0 b1 b2 b3 bw en tb sh n0, orB D u0 u1 nu lt br le] : List va_W).flatten] : List va_W).flatten) := by
  refine r_enterI (by decide) (Nat.le_of_ble_eq_true rfl) ?_
  intro p e st m args below meth c ls A X hret hk hw hl
  have X : CX D p m c cX6_count 2 st args RX6 A := X
  have hx := X.1.1
  have hb := X.1.2.1
  have hown := X.1.2.2.2.1
  have hts := X.1.2.2.2.2
  have hl : lv_has ls 2 [(0, .ref o), (1, .int 6)] := hl
  refine lv_iload_n hx hb dX6_count_0 rfl (lv_at hl 1 rfl) ?_
  refine lv_bipush (v := 20) hx hb dX6_count_1 (by decide) ?_
  refine lv_bipush (v := 22) hx hb dX6_count_3 (by decide) ?_
  refine r_callS X hw (ws' := ([([xB D o ha ta (L 0) (M 0) b0 u0 (nI k) (rows4 HL) tx (nI T), chipB D L w1 w2 s.v s.f s.g s.r s.av s.mk s.cm s.ar s.fl s.en s.la s.zs s.se s.ph s.tk s.pc s.rc s.wc s.bc s.tc, hsB D HL HW1 HW2 hs] : List va_W).flatten, ([chipB D M y1 y2 t.v t.f t.g t.r t.av t.mk t.cm t.ar t.fl t.en t.la t.zs t.se t.ph t.tk t.pc t.rc t.wc t.bc t.tc, buB D b0 b1 b2 b3 bw en tb sh n0, orB D u0 u1 nu lt br le] : List va_W).flatten] : List va_W).flatten) (As := [.int 6, .int 20, .int 22]) (rest := []) lk_X6_95 (c_X6_isWithin l D _ 6 20 22) Foc.nil rfl hl.1 (Nat.le_of_ble_eq_true rfl) ⟨Nat.le_of_ble_eq_true rfl, Nat.le_of_ble_eq_true rfl⟩ rfl dX6_count_5 ⟨Nat.le_refl _, Nat.le_refl _⟩ (fun H locs hw => ?_)
  refine lv_if_eq (tgt := 24) hx hb dX6_count_8 (by decide) (fun _ => ?_) (fun h => absurd (by decide) h)
  refine lv_iload_n hx hb dX6_count_24 rfl (lv_at hl 1 rfl) ?_
  refine r_tabIn (tgt := 156) hx hb 6 rfl dX6_count_25 (by decide) (by decide) rfl (by decide) ?_
  refine lv_aload_n hx hb dX6_count_156 rfl (lv_at hl 0 rfl) ?_
  refine r_get X hw (v := .ref (L 0)) fl_X6_10 (m_fl 0 rfl (m_fl 0 rfl (m_at 0 rfl))) rfl dX6_count_157 ?_
  refine r_get X hw (v := .int s.bc) fl_X6_226 (m_fl 0 rfl (m_fl 1 rfl (m_fl 0 rfl (m_at 0 rfl)))) rfl dX6_count_160 ?_
  exact r_ret X hw hk hret rfl (rfl) rfl dX6_count_163

noncomputable def sp_X6_count7 (s : ChS) (k T : Nat) : Int32 := s.tc
set_option maxRecDepth 100000 in
set_option maxHeartbeats 4000000 in
theorem c_X6_count7 (l : Launch) (D : va_G) (sz : Nat) (o ha ta : Nat) (L w1 w2 M y1 y2 : Nat → Nat) (HL HW1 HW2 : Nat → Nat → Nat) (b0 b1 b2 b3 : Nat) (bw : Nat → Nat) (u0 u1 : Nat) (tx : Row) (T : Nat) (s t : ChS) (hs : Nat → ChS) (en tb : Row) (sh : Nat → Row) (n0 : Int32) (nu : Row) (lt br le : Int32) (k : Nat) (hk4 : k ≤ 4) (hT : T ≤ 60) : MI l yX6_count cX6_count 2 (some .int) 1 22 D sz [.ref o, .int 7] (([([xB D o ha ta (L 0) (M 0) b0 u0 (nI k) (rows4 HL) tx (nI T), chipB D L w1 w2 s.v s.f s.g s.r s.av s.mk s.cm s.ar s.fl s.en s.la s.zs s.se s.ph s.tk s.pc s.rc s.wc s.bc s.tc, hsB D HL HW1 HW2 hs] : List va_W).flatten, ([chipB D M y1 y2 t.v t.f t.g t.r t.av t.mk t.cm t.ar t.fl t.en t.la t.zs t.se t.ph t.tk t.pc t.rc t.wc t.bc t.tc, buB D b0 b1 b2 b3 bw en tb sh n0, orB D u0 u1 nu lt br le] : List va_W).flatten] : List va_W).flatten) (sp_X6_count7 s k T) (([([xB D o ha ta (L 0) (M 0) b0 u0 (nI k) (rows4 HL) tx (nI T), chipB D L w1 w2 s.v s.f s.g s.r s.av s.mk s.cm s.ar s.fl s.en s.la s.zs s.se s.ph s.tk s.pc s.rc s.wc s.bc s.tc, hsB D HL HW1 HW2 hs] : List va_W).flatten, ([chipB D M y1 y2 t.v t.f t.g t.r t.av t.mk t.cm t.ar t.fl t.en t.la t.zs t.se t.ph t.tk t.pc t.rc t.wc t.bc t.tc, buB D b0 b1 b2 b3 bw en tb sh n0, orB D u0 u1 nu lt br le] : List va_W).flatten] : List va_W).flatten) := by
  refine r_enterI (by decide) (Nat.le_of_ble_eq_true rfl) ?_
  intro p e st m args below meth c ls A X hret hk hw hl
  have X : CX D p m c cX6_count 2 st args RX6 A := X
  have hx := X.1.1
  have hb := X.1.2.1
  have hown := X.1.2.2.2.1
  have hts := X.1.2.2.2.2
  have hl : lv_has ls 2 [(0, .ref o), (1, .int 7)] := hl
  refine lv_iload_n hx hb dX6_count_0 rfl (lv_at hl 1 rfl) ?_
  refine lv_bipush (v := 20) hx hb dX6_count_1 (by decide) ?_
  refine lv_bipush (v := 22) hx hb dX6_count_3 (by decide) ?_
  refine r_callS X hw (ws' := ([([xB D o ha ta (L 0) (M 0) b0 u0 (nI k) (rows4 HL) tx (nI T), chipB D L w1 w2 s.v s.f s.g s.r s.av s.mk s.cm s.ar s.fl s.en s.la s.zs s.se s.ph s.tk s.pc s.rc s.wc s.bc s.tc, hsB D HL HW1 HW2 hs] : List va_W).flatten, ([chipB D M y1 y2 t.v t.f t.g t.r t.av t.mk t.cm t.ar t.fl t.en t.la t.zs t.se t.ph t.tk t.pc t.rc t.wc t.bc t.tc, buB D b0 b1 b2 b3 bw en tb sh n0, orB D u0 u1 nu lt br le] : List va_W).flatten] : List va_W).flatten) (As := [.int 7, .int 20, .int 22]) (rest := []) lk_X6_95 (c_X6_isWithin l D _ 7 20 22) Foc.nil rfl hl.1 (Nat.le_of_ble_eq_true rfl) ⟨Nat.le_of_ble_eq_true rfl, Nat.le_of_ble_eq_true rfl⟩ rfl dX6_count_5 ⟨Nat.le_refl _, Nat.le_refl _⟩ (fun H locs hw => ?_)
  refine lv_if_eq (tgt := 24) hx hb dX6_count_8 (by decide) (fun _ => ?_) (fun h => absurd (by decide) h)
  refine lv_iload_n hx hb dX6_count_24 rfl (lv_at hl 1 rfl) ?_
  refine r_tabIn (tgt := 164) hx hb 7 rfl dX6_count_25 (by decide) (by decide) rfl (by decide) ?_
  refine lv_aload_n hx hb dX6_count_164 rfl (lv_at hl 0 rfl) ?_
  refine r_get X hw (v := .ref (L 0)) fl_X6_10 (m_fl 0 rfl (m_fl 0 rfl (m_at 0 rfl))) rfl dX6_count_165 ?_
  refine r_get X hw (v := .int s.tc) fl_X6_229 (m_fl 0 rfl (m_fl 1 rfl (m_fl 0 rfl (m_at 0 rfl)))) rfl dX6_count_168 ?_
  exact r_ret X hw hk hret rfl (rfl) rfl dX6_count_171

noncomputable def sp_X6_count8 (s : ChS) (k T : Nat) : Int32 := s.rc
set_option maxRecDepth 100000 in
set_option maxHeartbeats 4000000 in
theorem c_X6_count8 (l : Launch) (D : va_G) (sz : Nat) (o ha ta : Nat) (L w1 w2 M y1 y2 : Nat → Nat) (HL HW1 HW2 : Nat → Nat → Nat) (b0 b1 b2 b3 : Nat) (bw : Nat → Nat) (u0 u1 : Nat) (tx : Row) (T : Nat) (s t : ChS) (hs : Nat → ChS) (en tb : Row) (sh : Nat → Row) (n0 : Int32) (nu : Row) (lt br le : Int32) (k : Nat) (hk4 : k ≤ 4) (hT : T ≤ 60) : MI l yX6_count cX6_count 2 (some .int) 1 22 D sz [.ref o, .int 8] (([([xB D o ha ta (L 0) (M 0) b0 u0 (nI k) (rows4 HL) tx (nI T), chipB D L w1 w2 s.v s.f s.g s.r s.av s.mk s.cm s.ar s.fl s.en s.la s.zs s.se s.ph s.tk s.pc s.rc s.wc s.bc s.tc, hsB D HL HW1 HW2 hs] : List va_W).flatten, ([chipB D M y1 y2 t.v t.f t.g t.r t.av t.mk t.cm t.ar t.fl t.en t.la t.zs t.se t.ph t.tk t.pc t.rc t.wc t.bc t.tc, buB D b0 b1 b2 b3 bw en tb sh n0, orB D u0 u1 nu lt br le] : List va_W).flatten] : List va_W).flatten) (sp_X6_count8 s k T) (([([xB D o ha ta (L 0) (M 0) b0 u0 (nI k) (rows4 HL) tx (nI T), chipB D L w1 w2 s.v s.f s.g s.r s.av s.mk s.cm s.ar s.fl s.en s.la s.zs s.se s.ph s.tk s.pc s.rc s.wc s.bc s.tc, hsB D HL HW1 HW2 hs] : List va_W).flatten, ([chipB D M y1 y2 t.v t.f t.g t.r t.av t.mk t.cm t.ar t.fl t.en t.la t.zs t.se t.ph t.tk t.pc t.rc t.wc t.bc t.tc, buB D b0 b1 b2 b3 bw en tb sh n0, orB D u0 u1 nu lt br le] : List va_W).flatten] : List va_W).flatten) := by
  refine r_enterI (by decide) (Nat.le_of_ble_eq_true rfl) ?_
  intro p e st m args below meth c ls A X hret hk hw hl
  have X : CX D p m c cX6_count 2 st args RX6 A := X
  have hx := X.1.1
  have hb := X.1.2.1
  have hown := X.1.2.2.2.1
  have hts := X.1.2.2.2.2
  have hl : lv_has ls 2 [(0, .ref o), (1, .int 8)] := hl
  refine lv_iload_n hx hb dX6_count_0 rfl (lv_at hl 1 rfl) ?_
  refine lv_bipush (v := 20) hx hb dX6_count_1 (by decide) ?_
  refine lv_bipush (v := 22) hx hb dX6_count_3 (by decide) ?_
  refine r_callS X hw (ws' := ([([xB D o ha ta (L 0) (M 0) b0 u0 (nI k) (rows4 HL) tx (nI T), chipB D L w1 w2 s.v s.f s.g s.r s.av s.mk s.cm s.ar s.fl s.en s.la s.zs s.se s.ph s.tk s.pc s.rc s.wc s.bc s.tc, hsB D HL HW1 HW2 hs] : List va_W).flatten, ([chipB D M y1 y2 t.v t.f t.g t.r t.av t.mk t.cm t.ar t.fl t.en t.la t.zs t.se t.ph t.tk t.pc t.rc t.wc t.bc t.tc, buB D b0 b1 b2 b3 bw en tb sh n0, orB D u0 u1 nu lt br le] : List va_W).flatten] : List va_W).flatten) (As := [.int 8, .int 20, .int 22]) (rest := []) lk_X6_95 (c_X6_isWithin l D _ 8 20 22) Foc.nil rfl hl.1 (Nat.le_of_ble_eq_true rfl) ⟨Nat.le_of_ble_eq_true rfl, Nat.le_of_ble_eq_true rfl⟩ rfl dX6_count_5 ⟨Nat.le_refl _, Nat.le_refl _⟩ (fun H locs hw => ?_)
  refine lv_if_eq (tgt := 24) hx hb dX6_count_8 (by decide) (fun _ => ?_) (fun h => absurd (by decide) h)
  refine lv_iload_n hx hb dX6_count_24 rfl (lv_at hl 1 rfl) ?_
  refine r_tabIn (tgt := 172) hx hb 8 rfl dX6_count_25 (by decide) (by decide) rfl (by decide) ?_
  refine lv_aload_n hx hb dX6_count_172 rfl (lv_at hl 0 rfl) ?_
  refine r_get X hw (v := .ref (L 0)) fl_X6_10 (m_fl 0 rfl (m_fl 0 rfl (m_at 0 rfl))) rfl dX6_count_173 ?_
  refine r_get X hw (v := .int s.rc) fl_X6_245 (m_fl 0 rfl (m_fl 1 rfl (m_fl 0 rfl (m_at 0 rfl)))) rfl dX6_count_176 ?_
  exact r_ret X hw hk hret rfl (rfl) rfl dX6_count_179

noncomputable def sp_X6_count9 (s : ChS) (k T : Nat) : Int32 := s.wc
set_option maxRecDepth 100000 in
set_option maxHeartbeats 4000000 in
theorem c_X6_count9 (l : Launch) (D : va_G) (sz : Nat) (o ha ta : Nat) (L w1 w2 M y1 y2 : Nat → Nat) (HL HW1 HW2 : Nat → Nat → Nat) (b0 b1 b2 b3 : Nat) (bw : Nat → Nat) (u0 u1 : Nat) (tx : Row) (T : Nat) (s t : ChS) (hs : Nat → ChS) (en tb : Row) (sh : Nat → Row) (n0 : Int32) (nu : Row) (lt br le : Int32) (k : Nat) (hk4 : k ≤ 4) (hT : T ≤ 60) : MI l yX6_count cX6_count 2 (some .int) 1 22 D sz [.ref o, .int 9] (([([xB D o ha ta (L 0) (M 0) b0 u0 (nI k) (rows4 HL) tx (nI T), chipB D L w1 w2 s.v s.f s.g s.r s.av s.mk s.cm s.ar s.fl s.en s.la s.zs s.se s.ph s.tk s.pc s.rc s.wc s.bc s.tc, hsB D HL HW1 HW2 hs] : List va_W).flatten, ([chipB D M y1 y2 t.v t.f t.g t.r t.av t.mk t.cm t.ar t.fl t.en t.la t.zs t.se t.ph t.tk t.pc t.rc t.wc t.bc t.tc, buB D b0 b1 b2 b3 bw en tb sh n0, orB D u0 u1 nu lt br le] : List va_W).flatten] : List va_W).flatten) (sp_X6_count9 s k T) (([([xB D o ha ta (L 0) (M 0) b0 u0 (nI k) (rows4 HL) tx (nI T), chipB D L w1 w2 s.v s.f s.g s.r s.av s.mk s.cm s.ar s.fl s.en s.la s.zs s.se s.ph s.tk s.pc s.rc s.wc s.bc s.tc, hsB D HL HW1 HW2 hs] : List va_W).flatten, ([chipB D M y1 y2 t.v t.f t.g t.r t.av t.mk t.cm t.ar t.fl t.en t.la t.zs t.se t.ph t.tk t.pc t.rc t.wc t.bc t.tc, buB D b0 b1 b2 b3 bw en tb sh n0, orB D u0 u1 nu lt br le] : List va_W).flatten] : List va_W).flatten) := by
  refine r_enterI (by decide) (Nat.le_of_ble_eq_true rfl) ?_
  intro p e st m args below meth c ls A X hret hk hw hl
  have X : CX D p m c cX6_count 2 st args RX6 A := X
  have hx := X.1.1
  have hb := X.1.2.1
  have hown := X.1.2.2.2.1
  have hts := X.1.2.2.2.2
  have hl : lv_has ls 2 [(0, .ref o), (1, .int 9)] := hl
  refine lv_iload_n hx hb dX6_count_0 rfl (lv_at hl 1 rfl) ?_
  refine lv_bipush (v := 20) hx hb dX6_count_1 (by decide) ?_
  refine lv_bipush (v := 22) hx hb dX6_count_3 (by decide) ?_
  refine r_callS X hw (ws' := ([([xB D o ha ta (L 0) (M 0) b0 u0 (nI k) (rows4 HL) tx (nI T), chipB D L w1 w2 s.v s.f s.g s.r s.av s.mk s.cm s.ar s.fl s.en s.la s.zs s.se s.ph s.tk s.pc s.rc s.wc s.bc s.tc, hsB D HL HW1 HW2 hs] : List va_W).flatten, ([chipB D M y1 y2 t.v t.f t.g t.r t.av t.mk t.cm t.ar t.fl t.en t.la t.zs t.se t.ph t.tk t.pc t.rc t.wc t.bc t.tc, buB D b0 b1 b2 b3 bw en tb sh n0, orB D u0 u1 nu lt br le] : List va_W).flatten] : List va_W).flatten) (As := [.int 9, .int 20, .int 22]) (rest := []) lk_X6_95 (c_X6_isWithin l D _ 9 20 22) Foc.nil rfl hl.1 (Nat.le_of_ble_eq_true rfl) ⟨Nat.le_of_ble_eq_true rfl, Nat.le_of_ble_eq_true rfl⟩ rfl dX6_count_5 ⟨Nat.le_refl _, Nat.le_refl _⟩ (fun H locs hw => ?_)
  refine lv_if_eq (tgt := 24) hx hb dX6_count_8 (by decide) (fun _ => ?_) (fun h => absurd (by decide) h)
  refine lv_iload_n hx hb dX6_count_24 rfl (lv_at hl 1 rfl) ?_
  refine r_tabIn (tgt := 180) hx hb 9 rfl dX6_count_25 (by decide) (by decide) rfl (by decide) ?_
  refine lv_aload_n hx hb dX6_count_180 rfl (lv_at hl 0 rfl) ?_
  refine r_get X hw (v := .ref (L 0)) fl_X6_10 (m_fl 0 rfl (m_fl 0 rfl (m_at 0 rfl))) rfl dX6_count_181 ?_
  refine r_get X hw (v := .int s.wc) fl_X6_248 (m_fl 0 rfl (m_fl 1 rfl (m_fl 0 rfl (m_at 0 rfl)))) rfl dX6_count_184 ?_
  exact r_ret X hw hk hret rfl (rfl) rfl dX6_count_187

noncomputable def sp_X6_count10 (s : ChS) (k T : Nat) : Int32 := s.pc
set_option maxRecDepth 100000 in
set_option maxHeartbeats 4000000 in
theorem c_X6_count10 (l : Launch) (D : va_G) (sz : Nat) (o ha ta : Nat) (L w1 w2 M y1 y2 : Nat → Nat) (HL HW1 HW2 : Nat → Nat → Nat) (b0 b1 b2 b3 : Nat) (bw : Nat → Nat) (u0 u1 : Nat) (tx : Row) (T : Nat) (s t : ChS) (hs : Nat → ChS) (en tb : Row) (sh : Nat → Row) (n0 : Int32) (nu : Row) (lt br le : Int32) (k : Nat) (hk4 : k ≤ 4) (hT : T ≤ 60) : MI l yX6_count cX6_count 2 (some .int) 1 22 D sz [.ref o, .int 10] (([([xB D o ha ta (L 0) (M 0) b0 u0 (nI k) (rows4 HL) tx (nI T), chipB D L w1 w2 s.v s.f s.g s.r s.av s.mk s.cm s.ar s.fl s.en s.la s.zs s.se s.ph s.tk s.pc s.rc s.wc s.bc s.tc, hsB D HL HW1 HW2 hs] : List va_W).flatten, ([chipB D M y1 y2 t.v t.f t.g t.r t.av t.mk t.cm t.ar t.fl t.en t.la t.zs t.se t.ph t.tk t.pc t.rc t.wc t.bc t.tc, buB D b0 b1 b2 b3 bw en tb sh n0, orB D u0 u1 nu lt br le] : List va_W).flatten] : List va_W).flatten) (sp_X6_count10 s k T) (([([xB D o ha ta (L 0) (M 0) b0 u0 (nI k) (rows4 HL) tx (nI T), chipB D L w1 w2 s.v s.f s.g s.r s.av s.mk s.cm s.ar s.fl s.en s.la s.zs s.se s.ph s.tk s.pc s.rc s.wc s.bc s.tc, hsB D HL HW1 HW2 hs] : List va_W).flatten, ([chipB D M y1 y2 t.v t.f t.g t.r t.av t.mk t.cm t.ar t.fl t.en t.la t.zs t.se t.ph t.tk t.pc t.rc t.wc t.bc t.tc, buB D b0 b1 b2 b3 bw en tb sh n0, orB D u0 u1 nu lt br le] : List va_W).flatten] : List va_W).flatten) := by
  refine r_enterI (by decide) (Nat.le_of_ble_eq_true rfl) ?_
  intro p e st m args below meth c ls A X hret hk hw hl
  have X : CX D p m c cX6_count 2 st args RX6 A := X
  have hx := X.1.1
  have hb := X.1.2.1
  have hown := X.1.2.2.2.1
  have hts := X.1.2.2.2.2
  have hl : lv_has ls 2 [(0, .ref o), (1, .int 10)] := hl
  refine lv_iload_n hx hb dX6_count_0 rfl (lv_at hl 1 rfl) ?_
  refine lv_bipush (v := 20) hx hb dX6_count_1 (by decide) ?_
  refine lv_bipush (v := 22) hx hb dX6_count_3 (by decide) ?_
  refine r_callS X hw (ws' := ([([xB D o ha ta (L 0) (M 0) b0 u0 (nI k) (rows4 HL) tx (nI T), chipB D L w1 w2 s.v s.f s.g s.r s.av s.mk s.cm s.ar s.fl s.en s.la s.zs s.se s.ph s.tk s.pc s.rc s.wc s.bc s.tc, hsB D HL HW1 HW2 hs] : List va_W).flatten, ([chipB D M y1 y2 t.v t.f t.g t.r t.av t.mk t.cm t.ar t.fl t.en t.la t.zs t.se t.ph t.tk t.pc t.rc t.wc t.bc t.tc, buB D b0 b1 b2 b3 bw en tb sh n0, orB D u0 u1 nu lt br le] : List va_W).flatten] : List va_W).flatten) (As := [.int 10, .int 20, .int 22]) (rest := []) lk_X6_95 (c_X6_isWithin l D _ 10 20 22) Foc.nil rfl hl.1 (Nat.le_of_ble_eq_true rfl) ⟨Nat.le_of_ble_eq_true rfl, Nat.le_of_ble_eq_true rfl⟩ rfl dX6_count_5 ⟨Nat.le_refl _, Nat.le_refl _⟩ (fun H locs hw => ?_)
  refine lv_if_eq (tgt := 24) hx hb dX6_count_8 (by decide) (fun _ => ?_) (fun h => absurd (by decide) h)
  refine lv_iload_n hx hb dX6_count_24 rfl (lv_at hl 1 rfl) ?_
  refine r_tabIn (tgt := 188) hx hb 10 rfl dX6_count_25 (by decide) (by decide) rfl (by decide) ?_
  refine lv_aload_n hx hb dX6_count_188 rfl (lv_at hl 0 rfl) ?_
  refine r_get X hw (v := .ref (L 0)) fl_X6_10 (m_fl 0 rfl (m_fl 0 rfl (m_at 0 rfl))) rfl dX6_count_189 ?_
  refine r_get X hw (v := .int s.pc) fl_X6_251 (m_fl 0 rfl (m_fl 1 rfl (m_fl 0 rfl (m_at 0 rfl)))) rfl dX6_count_192 ?_
  exact r_ret X hw hk hret rfl (rfl) rfl dX6_count_195

noncomputable def sp_X6_count11 (s : ChS) (k T : Nat) : Int32 := s.zs
set_option maxRecDepth 100000 in
set_option maxHeartbeats 4000000 in
theorem c_X6_count11 (l : Launch) (D : va_G) (sz : Nat) (o ha ta : Nat) (L w1 w2 M y1 y2 : Nat → Nat) (HL HW1 HW2 : Nat → Nat → Nat) (b0 b1 b2 b3 : Nat) (bw : Nat → Nat) (u0 u1 : Nat) (tx : Row) (T : Nat) (s t : ChS) (hs : Nat → ChS) (en tb : Row) (sh : Nat → Row) (n0 : Int32) (nu : Row) (lt br le : Int32) (k : Nat) (hk4 : k ≤ 4) (hT : T ≤ 60) : MI l yX6_count cX6_count 2 (some .int) 1 22 D sz [.ref o, .int 11] (([([xB D o ha ta (L 0) (M 0) b0 u0 (nI k) (rows4 HL) tx (nI T), chipB D L w1 w2 s.v s.f s.g s.r s.av s.mk s.cm s.ar s.fl s.en s.la s.zs s.se s.ph s.tk s.pc s.rc s.wc s.bc s.tc, hsB D HL HW1 HW2 hs] : List va_W).flatten, ([chipB D M y1 y2 t.v t.f t.g t.r t.av t.mk t.cm t.ar t.fl t.en t.la t.zs t.se t.ph t.tk t.pc t.rc t.wc t.bc t.tc, buB D b0 b1 b2 b3 bw en tb sh n0, orB D u0 u1 nu lt br le] : List va_W).flatten] : List va_W).flatten) (sp_X6_count11 s k T) (([([xB D o ha ta (L 0) (M 0) b0 u0 (nI k) (rows4 HL) tx (nI T), chipB D L w1 w2 s.v s.f s.g s.r s.av s.mk s.cm s.ar s.fl s.en s.la s.zs s.se s.ph s.tk s.pc s.rc s.wc s.bc s.tc, hsB D HL HW1 HW2 hs] : List va_W).flatten, ([chipB D M y1 y2 t.v t.f t.g t.r t.av t.mk t.cm t.ar t.fl t.en t.la t.zs t.se t.ph t.tk t.pc t.rc t.wc t.bc t.tc, buB D b0 b1 b2 b3 bw en tb sh n0, orB D u0 u1 nu lt br le] : List va_W).flatten] : List va_W).flatten) := by
  refine r_enterI (by decide) (Nat.le_of_ble_eq_true rfl) ?_
  intro p e st m args below meth c ls A X hret hk hw hl
  have X : CX D p m c cX6_count 2 st args RX6 A := X
  have hx := X.1.1
  have hb := X.1.2.1
  have hown := X.1.2.2.2.1
  have hts := X.1.2.2.2.2
  have hl : lv_has ls 2 [(0, .ref o), (1, .int 11)] := hl
  refine lv_iload_n hx hb dX6_count_0 rfl (lv_at hl 1 rfl) ?_
  refine lv_bipush (v := 20) hx hb dX6_count_1 (by decide) ?_
  refine lv_bipush (v := 22) hx hb dX6_count_3 (by decide) ?_
  refine r_callS X hw (ws' := ([([xB D o ha ta (L 0) (M 0) b0 u0 (nI k) (rows4 HL) tx (nI T), chipB D L w1 w2 s.v s.f s.g s.r s.av s.mk s.cm s.ar s.fl s.en s.la s.zs s.se s.ph s.tk s.pc s.rc s.wc s.bc s.tc, hsB D HL HW1 HW2 hs] : List va_W).flatten, ([chipB D M y1 y2 t.v t.f t.g t.r t.av t.mk t.cm t.ar t.fl t.en t.la t.zs t.se t.ph t.tk t.pc t.rc t.wc t.bc t.tc, buB D b0 b1 b2 b3 bw en tb sh n0, orB D u0 u1 nu lt br le] : List va_W).flatten] : List va_W).flatten) (As := [.int 11, .int 20, .int 22]) (rest := []) lk_X6_95 (c_X6_isWithin l D _ 11 20 22) Foc.nil rfl hl.1 (Nat.le_of_ble_eq_true rfl) ⟨Nat.le_of_ble_eq_true rfl, Nat.le_of_ble_eq_true rfl⟩ rfl dX6_count_5 ⟨Nat.le_refl _, Nat.le_refl _⟩ (fun H locs hw => ?_)
  refine lv_if_eq (tgt := 24) hx hb dX6_count_8 (by decide) (fun _ => ?_) (fun h => absurd (by decide) h)
  refine lv_iload_n hx hb dX6_count_24 rfl (lv_at hl 1 rfl) ?_
  refine r_tabIn (tgt := 196) hx hb 11 rfl dX6_count_25 (by decide) (by decide) rfl (by decide) ?_
  refine lv_aload_n hx hb dX6_count_196 rfl (lv_at hl 0 rfl) ?_
  refine r_get X hw (v := .ref (L 0)) fl_X6_10 (m_fl 0 rfl (m_fl 0 rfl (m_at 0 rfl))) rfl dX6_count_197 ?_
  refine r_get X hw (v := .ref (L 10)) fl_X6_198 (m_fl 0 rfl (m_fl 1 rfl (m_fl 0 rfl (m_at 0 rfl)))) rfl dX6_count_200 ?_
  refine r_get X hw (v := .int s.zs) fl_X6_202 (m_fl 0 rfl (m_fl 1 rfl (m_fl 3 rfl (m_at 0 rfl)))) rfl dX6_count_203 ?_
  exact r_ret X hw hk hret rfl (rfl) rfl dX6_count_206

noncomputable def sp_X6_count12 (s : ChS) (k T : Nat) : Int32 := nI k
set_option maxRecDepth 100000 in
set_option maxHeartbeats 4000000 in
theorem c_X6_count12 (l : Launch) (D : va_G) (sz : Nat) (o ha ta : Nat) (L w1 w2 M y1 y2 : Nat → Nat) (HL HW1 HW2 : Nat → Nat → Nat) (b0 b1 b2 b3 : Nat) (bw : Nat → Nat) (u0 u1 : Nat) (tx : Row) (T : Nat) (s t : ChS) (hs : Nat → ChS) (en tb : Row) (sh : Nat → Row) (n0 : Int32) (nu : Row) (lt br le : Int32) (k : Nat) (hk4 : k ≤ 4) (hT : T ≤ 60) : MI l yX6_count cX6_count 2 (some .int) 1 22 D sz [.ref o, .int 12] (([([xB D o ha ta (L 0) (M 0) b0 u0 (nI k) (rows4 HL) tx (nI T), chipB D L w1 w2 s.v s.f s.g s.r s.av s.mk s.cm s.ar s.fl s.en s.la s.zs s.se s.ph s.tk s.pc s.rc s.wc s.bc s.tc, hsB D HL HW1 HW2 hs] : List va_W).flatten, ([chipB D M y1 y2 t.v t.f t.g t.r t.av t.mk t.cm t.ar t.fl t.en t.la t.zs t.se t.ph t.tk t.pc t.rc t.wc t.bc t.tc, buB D b0 b1 b2 b3 bw en tb sh n0, orB D u0 u1 nu lt br le] : List va_W).flatten] : List va_W).flatten) (sp_X6_count12 s k T) (([([xB D o ha ta (L 0) (M 0) b0 u0 (nI k) (rows4 HL) tx (nI T), chipB D L w1 w2 s.v s.f s.g s.r s.av s.mk s.cm s.ar s.fl s.en s.la s.zs s.se s.ph s.tk s.pc s.rc s.wc s.bc s.tc, hsB D HL HW1 HW2 hs] : List va_W).flatten, ([chipB D M y1 y2 t.v t.f t.g t.r t.av t.mk t.cm t.ar t.fl t.en t.la t.zs t.se t.ph t.tk t.pc t.rc t.wc t.bc t.tc, buB D b0 b1 b2 b3 bw en tb sh n0, orB D u0 u1 nu lt br le] : List va_W).flatten] : List va_W).flatten) := by
  refine r_enterI (by decide) (Nat.le_of_ble_eq_true rfl) ?_
  intro p e st m args below meth c ls A X hret hk hw hl
  have X : CX D p m c cX6_count 2 st args RX6 A := X
  have hx := X.1.1
  have hb := X.1.2.1
  have hown := X.1.2.2.2.1
  have hts := X.1.2.2.2.2
  have hl : lv_has ls 2 [(0, .ref o), (1, .int 12)] := hl
  refine lv_iload_n hx hb dX6_count_0 rfl (lv_at hl 1 rfl) ?_
  refine lv_bipush (v := 20) hx hb dX6_count_1 (by decide) ?_
  refine lv_bipush (v := 22) hx hb dX6_count_3 (by decide) ?_
  refine r_callS X hw (ws' := ([([xB D o ha ta (L 0) (M 0) b0 u0 (nI k) (rows4 HL) tx (nI T), chipB D L w1 w2 s.v s.f s.g s.r s.av s.mk s.cm s.ar s.fl s.en s.la s.zs s.se s.ph s.tk s.pc s.rc s.wc s.bc s.tc, hsB D HL HW1 HW2 hs] : List va_W).flatten, ([chipB D M y1 y2 t.v t.f t.g t.r t.av t.mk t.cm t.ar t.fl t.en t.la t.zs t.se t.ph t.tk t.pc t.rc t.wc t.bc t.tc, buB D b0 b1 b2 b3 bw en tb sh n0, orB D u0 u1 nu lt br le] : List va_W).flatten] : List va_W).flatten) (As := [.int 12, .int 20, .int 22]) (rest := []) lk_X6_95 (c_X6_isWithin l D _ 12 20 22) Foc.nil rfl hl.1 (Nat.le_of_ble_eq_true rfl) ⟨Nat.le_of_ble_eq_true rfl, Nat.le_of_ble_eq_true rfl⟩ rfl dX6_count_5 ⟨Nat.le_refl _, Nat.le_refl _⟩ (fun H locs hw => ?_)
  refine lv_if_eq (tgt := 24) hx hb dX6_count_8 (by decide) (fun _ => ?_) (fun h => absurd (by decide) h)
  refine lv_iload_n hx hb dX6_count_24 rfl (lv_at hl 1 rfl) ?_
  refine r_tabIn (tgt := 207) hx hb 12 rfl dX6_count_25 (by decide) (by decide) rfl (by decide) ?_
  refine lv_aload_n hx hb dX6_count_207 rfl (lv_at hl 0 rfl) ?_
  refine r_get X hw (v := .int (nI k)) fl_X6_254 (m_fl 0 rfl (m_fl 0 rfl (m_at 0 rfl))) rfl dX6_count_208 ?_
  exact r_ret X hw hk hret rfl (rfl) rfl dX6_count_211

noncomputable def sp_X6_count13 (s : ChS) (k T : Nat) : Int32 := nI T
set_option maxRecDepth 100000 in
set_option maxHeartbeats 4000000 in
theorem c_X6_count13 (l : Launch) (D : va_G) (sz : Nat) (o ha ta : Nat) (L w1 w2 M y1 y2 : Nat → Nat) (HL HW1 HW2 : Nat → Nat → Nat) (b0 b1 b2 b3 : Nat) (bw : Nat → Nat) (u0 u1 : Nat) (tx : Row) (T : Nat) (s t : ChS) (hs : Nat → ChS) (en tb : Row) (sh : Nat → Row) (n0 : Int32) (nu : Row) (lt br le : Int32) (k : Nat) (hk4 : k ≤ 4) (hT : T ≤ 60) : MI l yX6_count cX6_count 2 (some .int) 1 22 D sz [.ref o, .int 13] (([([xB D o ha ta (L 0) (M 0) b0 u0 (nI k) (rows4 HL) tx (nI T), chipB D L w1 w2 s.v s.f s.g s.r s.av s.mk s.cm s.ar s.fl s.en s.la s.zs s.se s.ph s.tk s.pc s.rc s.wc s.bc s.tc, hsB D HL HW1 HW2 hs] : List va_W).flatten, ([chipB D M y1 y2 t.v t.f t.g t.r t.av t.mk t.cm t.ar t.fl t.en t.la t.zs t.se t.ph t.tk t.pc t.rc t.wc t.bc t.tc, buB D b0 b1 b2 b3 bw en tb sh n0, orB D u0 u1 nu lt br le] : List va_W).flatten] : List va_W).flatten) (sp_X6_count13 s k T) (([([xB D o ha ta (L 0) (M 0) b0 u0 (nI k) (rows4 HL) tx (nI T), chipB D L w1 w2 s.v s.f s.g s.r s.av s.mk s.cm s.ar s.fl s.en s.la s.zs s.se s.ph s.tk s.pc s.rc s.wc s.bc s.tc, hsB D HL HW1 HW2 hs] : List va_W).flatten, ([chipB D M y1 y2 t.v t.f t.g t.r t.av t.mk t.cm t.ar t.fl t.en t.la t.zs t.se t.ph t.tk t.pc t.rc t.wc t.bc t.tc, buB D b0 b1 b2 b3 bw en tb sh n0, orB D u0 u1 nu lt br le] : List va_W).flatten] : List va_W).flatten) := by
  refine r_enterI (by decide) (Nat.le_of_ble_eq_true rfl) ?_
  intro p e st m args below meth c ls A X hret hk hw hl
  have X : CX D p m c cX6_count 2 st args RX6 A := X
  have hx := X.1.1
  have hb := X.1.2.1
  have hown := X.1.2.2.2.1
  have hts := X.1.2.2.2.2
  have hl : lv_has ls 2 [(0, .ref o), (1, .int 13)] := hl
  refine lv_iload_n hx hb dX6_count_0 rfl (lv_at hl 1 rfl) ?_
  refine lv_bipush (v := 20) hx hb dX6_count_1 (by decide) ?_
  refine lv_bipush (v := 22) hx hb dX6_count_3 (by decide) ?_
  refine r_callS X hw (ws' := ([([xB D o ha ta (L 0) (M 0) b0 u0 (nI k) (rows4 HL) tx (nI T), chipB D L w1 w2 s.v s.f s.g s.r s.av s.mk s.cm s.ar s.fl s.en s.la s.zs s.se s.ph s.tk s.pc s.rc s.wc s.bc s.tc, hsB D HL HW1 HW2 hs] : List va_W).flatten, ([chipB D M y1 y2 t.v t.f t.g t.r t.av t.mk t.cm t.ar t.fl t.en t.la t.zs t.se t.ph t.tk t.pc t.rc t.wc t.bc t.tc, buB D b0 b1 b2 b3 bw en tb sh n0, orB D u0 u1 nu lt br le] : List va_W).flatten] : List va_W).flatten) (As := [.int 13, .int 20, .int 22]) (rest := []) lk_X6_95 (c_X6_isWithin l D _ 13 20 22) Foc.nil rfl hl.1 (Nat.le_of_ble_eq_true rfl) ⟨Nat.le_of_ble_eq_true rfl, Nat.le_of_ble_eq_true rfl⟩ rfl dX6_count_5 ⟨Nat.le_refl _, Nat.le_refl _⟩ (fun H locs hw => ?_)
  refine lv_if_eq (tgt := 24) hx hb dX6_count_8 (by decide) (fun _ => ?_) (fun h => absurd (by decide) h)
  refine lv_iload_n hx hb dX6_count_24 rfl (lv_at hl 1 rfl) ?_
  refine r_tabIn (tgt := 212) hx hb 13 rfl dX6_count_25 (by decide) (by decide) rfl (by decide) ?_
  refine lv_aload_n hx hb dX6_count_212 rfl (lv_at hl 0 rfl) ?_
  refine r_get X hw (v := .int (nI T)) fl_X6_257 (m_fl 0 rfl (m_fl 0 rfl (m_at 0 rfl))) rfl dX6_count_213 ?_
  exact r_ret X hw hk hret rfl (rfl) rfl dX6_count_216

noncomputable def sp_X6_count20 (s : ChS) (k T : Nat) : Int32 := s.se 0
set_option maxRecDepth 100000 in
set_option maxHeartbeats 4000000 in
theorem c_X6_count20 (l : Launch) (D : va_G) (sz : Nat) (o ha ta : Nat) (L w1 w2 M y1 y2 : Nat → Nat) (HL HW1 HW2 : Nat → Nat → Nat) (b0 b1 b2 b3 : Nat) (bw : Nat → Nat) (u0 u1 : Nat) (tx : Row) (T : Nat) (s t : ChS) (hs : Nat → ChS) (en tb : Row) (sh : Nat → Row) (n0 : Int32) (nu : Row) (lt br le : Int32) (k : Nat) (hk4 : k ≤ 4) (hT : T ≤ 60) : MI l yX6_count cX6_count 2 (some .int) 1 22 D sz [.ref o, .int 20] (([([xB D o ha ta (L 0) (M 0) b0 u0 (nI k) (rows4 HL) tx (nI T), chipB D L w1 w2 s.v s.f s.g s.r s.av s.mk s.cm s.ar s.fl s.en s.la s.zs s.se s.ph s.tk s.pc s.rc s.wc s.bc s.tc, hsB D HL HW1 HW2 hs] : List va_W).flatten, ([chipB D M y1 y2 t.v t.f t.g t.r t.av t.mk t.cm t.ar t.fl t.en t.la t.zs t.se t.ph t.tk t.pc t.rc t.wc t.bc t.tc, buB D b0 b1 b2 b3 bw en tb sh n0, orB D u0 u1 nu lt br le] : List va_W).flatten] : List va_W).flatten) (sp_X6_count20 s k T) (([([xB D o ha ta (L 0) (M 0) b0 u0 (nI k) (rows4 HL) tx (nI T), chipB D L w1 w2 s.v s.f s.g s.r s.av s.mk s.cm s.ar s.fl s.en s.la s.zs s.se s.ph s.tk s.pc s.rc s.wc s.bc s.tc, hsB D HL HW1 HW2 hs] : List va_W).flatten, ([chipB D M y1 y2 t.v t.f t.g t.r t.av t.mk t.cm t.ar t.fl t.en t.la t.zs t.se t.ph t.tk t.pc t.rc t.wc t.bc t.tc, buB D b0 b1 b2 b3 bw en tb sh n0, orB D u0 u1 nu lt br le] : List va_W).flatten] : List va_W).flatten) := by
  refine r_enterI (by decide) (Nat.le_of_ble_eq_true rfl) ?_
  intro p e st m args below meth c ls A X hret hk hw hl
  have X : CX D p m c cX6_count 2 st args RX6 A := X
  have hx := X.1.1
  have hb := X.1.2.1
  have hown := X.1.2.2.2.1
  have hts := X.1.2.2.2.2
  have hl : lv_has ls 2 [(0, .ref o), (1, .int 20)] := hl
  refine lv_iload_n hx hb dX6_count_0 rfl (lv_at hl 1 rfl) ?_
  refine lv_bipush (v := 20) hx hb dX6_count_1 (by decide) ?_
  refine lv_bipush (v := 22) hx hb dX6_count_3 (by decide) ?_
  refine r_callS X hw (ws' := ([([xB D o ha ta (L 0) (M 0) b0 u0 (nI k) (rows4 HL) tx (nI T), chipB D L w1 w2 s.v s.f s.g s.r s.av s.mk s.cm s.ar s.fl s.en s.la s.zs s.se s.ph s.tk s.pc s.rc s.wc s.bc s.tc, hsB D HL HW1 HW2 hs] : List va_W).flatten, ([chipB D M y1 y2 t.v t.f t.g t.r t.av t.mk t.cm t.ar t.fl t.en t.la t.zs t.se t.ph t.tk t.pc t.rc t.wc t.bc t.tc, buB D b0 b1 b2 b3 bw en tb sh n0, orB D u0 u1 nu lt br le] : List va_W).flatten] : List va_W).flatten) (As := [.int 20, .int 20, .int 22]) (rest := []) lk_X6_95 (c_X6_isWithin l D _ 20 20 22) Foc.nil rfl hl.1 (Nat.le_of_ble_eq_true rfl) ⟨Nat.le_of_ble_eq_true rfl, Nat.le_of_ble_eq_true rfl⟩ rfl dX6_count_5 ⟨Nat.le_refl _, Nat.le_refl _⟩ (fun H locs hw => ?_)
  refine lv_if_eq (tgt := 24) hx hb dX6_count_8 (by decide) (fun h => absurd h (by decide)) (fun _ => ?_)
  refine lv_aload_n hx hb dX6_count_11 rfl (lv_at hl 0 rfl) ?_
  refine r_get X hw (v := .ref (L 0)) fl_X6_10 (m_fl 0 rfl (m_fl 0 rfl (m_at 0 rfl))) rfl dX6_count_12 ?_
  refine r_get X hw (v := .ref (L 12)) fl_X6_210 (m_fl 0 rfl (m_fl 1 rfl (m_fl 0 rfl (m_at 0 rfl)))) rfl dX6_count_15 ?_
  refine lv_iload_n hx hb dX6_count_18 rfl (lv_at hl 1 rfl) ?_
  refine lv_bipush (v := 20) hx hb dX6_count_19 (by decide) ?_
  refine r_subN hx hb 20 20 rfl rfl (by decide) dX6_count_21 ?_
  refine r_iald X hw (f := s.se) 0 (m_fl 0 rfl (m_fl 1 rfl (m_fl 4 rfl (m_at 0 rfl)))) rfl (by decide) (by decide) dX6_count_22 ?_
  exact r_ret X hw hk hret rfl (rfl) rfl dX6_count_23

noncomputable def sp_X6_count21 (s : ChS) (k T : Nat) : Int32 := s.se 1
set_option maxRecDepth 100000 in
set_option maxHeartbeats 4000000 in
theorem c_X6_count21 (l : Launch) (D : va_G) (sz : Nat) (o ha ta : Nat) (L w1 w2 M y1 y2 : Nat → Nat) (HL HW1 HW2 : Nat → Nat → Nat) (b0 b1 b2 b3 : Nat) (bw : Nat → Nat) (u0 u1 : Nat) (tx : Row) (T : Nat) (s t : ChS) (hs : Nat → ChS) (en tb : Row) (sh : Nat → Row) (n0 : Int32) (nu : Row) (lt br le : Int32) (k : Nat) (hk4 : k ≤ 4) (hT : T ≤ 60) : MI l yX6_count cX6_count 2 (some .int) 1 22 D sz [.ref o, .int 21] (([([xB D o ha ta (L 0) (M 0) b0 u0 (nI k) (rows4 HL) tx (nI T), chipB D L w1 w2 s.v s.f s.g s.r s.av s.mk s.cm s.ar s.fl s.en s.la s.zs s.se s.ph s.tk s.pc s.rc s.wc s.bc s.tc, hsB D HL HW1 HW2 hs] : List va_W).flatten, ([chipB D M y1 y2 t.v t.f t.g t.r t.av t.mk t.cm t.ar t.fl t.en t.la t.zs t.se t.ph t.tk t.pc t.rc t.wc t.bc t.tc, buB D b0 b1 b2 b3 bw en tb sh n0, orB D u0 u1 nu lt br le] : List va_W).flatten] : List va_W).flatten) (sp_X6_count21 s k T) (([([xB D o ha ta (L 0) (M 0) b0 u0 (nI k) (rows4 HL) tx (nI T), chipB D L w1 w2 s.v s.f s.g s.r s.av s.mk s.cm s.ar s.fl s.en s.la s.zs s.se s.ph s.tk s.pc s.rc s.wc s.bc s.tc, hsB D HL HW1 HW2 hs] : List va_W).flatten, ([chipB D M y1 y2 t.v t.f t.g t.r t.av t.mk t.cm t.ar t.fl t.en t.la t.zs t.se t.ph t.tk t.pc t.rc t.wc t.bc t.tc, buB D b0 b1 b2 b3 bw en tb sh n0, orB D u0 u1 nu lt br le] : List va_W).flatten] : List va_W).flatten) := by
  refine r_enterI (by decide) (Nat.le_of_ble_eq_true rfl) ?_
  intro p e st m args below meth c ls A X hret hk hw hl
  have X : CX D p m c cX6_count 2 st args RX6 A := X
  have hx := X.1.1
  have hb := X.1.2.1
  have hown := X.1.2.2.2.1
  have hts := X.1.2.2.2.2
  have hl : lv_has ls 2 [(0, .ref o), (1, .int 21)] := hl
  refine lv_iload_n hx hb dX6_count_0 rfl (lv_at hl 1 rfl) ?_
  refine lv_bipush (v := 20) hx hb dX6_count_1 (by decide) ?_
  refine lv_bipush (v := 22) hx hb dX6_count_3 (by decide) ?_
  refine r_callS X hw (ws' := ([([xB D o ha ta (L 0) (M 0) b0 u0 (nI k) (rows4 HL) tx (nI T), chipB D L w1 w2 s.v s.f s.g s.r s.av s.mk s.cm s.ar s.fl s.en s.la s.zs s.se s.ph s.tk s.pc s.rc s.wc s.bc s.tc, hsB D HL HW1 HW2 hs] : List va_W).flatten, ([chipB D M y1 y2 t.v t.f t.g t.r t.av t.mk t.cm t.ar t.fl t.en t.la t.zs t.se t.ph t.tk t.pc t.rc t.wc t.bc t.tc, buB D b0 b1 b2 b3 bw en tb sh n0, orB D u0 u1 nu lt br le] : List va_W).flatten] : List va_W).flatten) (As := [.int 21, .int 20, .int 22]) (rest := []) lk_X6_95 (c_X6_isWithin l D _ 21 20 22) Foc.nil rfl hl.1 (Nat.le_of_ble_eq_true rfl) ⟨Nat.le_of_ble_eq_true rfl, Nat.le_of_ble_eq_true rfl⟩ rfl dX6_count_5 ⟨Nat.le_refl _, Nat.le_refl _⟩ (fun H locs hw => ?_)
  refine lv_if_eq (tgt := 24) hx hb dX6_count_8 (by decide) (fun h => absurd h (by decide)) (fun _ => ?_)
  refine lv_aload_n hx hb dX6_count_11 rfl (lv_at hl 0 rfl) ?_
  refine r_get X hw (v := .ref (L 0)) fl_X6_10 (m_fl 0 rfl (m_fl 0 rfl (m_at 0 rfl))) rfl dX6_count_12 ?_
  refine r_get X hw (v := .ref (L 12)) fl_X6_210 (m_fl 0 rfl (m_fl 1 rfl (m_fl 0 rfl (m_at 0 rfl)))) rfl dX6_count_15 ?_
  refine lv_iload_n hx hb dX6_count_18 rfl (lv_at hl 1 rfl) ?_
  refine lv_bipush (v := 20) hx hb dX6_count_19 (by decide) ?_
  refine r_subN hx hb 21 20 rfl rfl (by decide) dX6_count_21 ?_
  refine r_iald X hw (f := s.se) 1 (m_fl 0 rfl (m_fl 1 rfl (m_fl 4 rfl (m_at 0 rfl)))) rfl (by decide) (by decide) dX6_count_22 ?_
  exact r_ret X hw hk hret rfl (rfl) rfl dX6_count_23

noncomputable def sp_X6_count22 (s : ChS) (k T : Nat) : Int32 := s.se 2
set_option maxRecDepth 100000 in
set_option maxHeartbeats 4000000 in
theorem c_X6_count22 (l : Launch) (D : va_G) (sz : Nat) (o ha ta : Nat) (L w1 w2 M y1 y2 : Nat → Nat) (HL HW1 HW2 : Nat → Nat → Nat) (b0 b1 b2 b3 : Nat) (bw : Nat → Nat) (u0 u1 : Nat) (tx : Row) (T : Nat) (s t : ChS) (hs : Nat → ChS) (en tb : Row) (sh : Nat → Row) (n0 : Int32) (nu : Row) (lt br le : Int32) (k : Nat) (hk4 : k ≤ 4) (hT : T ≤ 60) : MI l yX6_count cX6_count 2 (some .int) 1 22 D sz [.ref o, .int 22] (([([xB D o ha ta (L 0) (M 0) b0 u0 (nI k) (rows4 HL) tx (nI T), chipB D L w1 w2 s.v s.f s.g s.r s.av s.mk s.cm s.ar s.fl s.en s.la s.zs s.se s.ph s.tk s.pc s.rc s.wc s.bc s.tc, hsB D HL HW1 HW2 hs] : List va_W).flatten, ([chipB D M y1 y2 t.v t.f t.g t.r t.av t.mk t.cm t.ar t.fl t.en t.la t.zs t.se t.ph t.tk t.pc t.rc t.wc t.bc t.tc, buB D b0 b1 b2 b3 bw en tb sh n0, orB D u0 u1 nu lt br le] : List va_W).flatten] : List va_W).flatten) (sp_X6_count22 s k T) (([([xB D o ha ta (L 0) (M 0) b0 u0 (nI k) (rows4 HL) tx (nI T), chipB D L w1 w2 s.v s.f s.g s.r s.av s.mk s.cm s.ar s.fl s.en s.la s.zs s.se s.ph s.tk s.pc s.rc s.wc s.bc s.tc, hsB D HL HW1 HW2 hs] : List va_W).flatten, ([chipB D M y1 y2 t.v t.f t.g t.r t.av t.mk t.cm t.ar t.fl t.en t.la t.zs t.se t.ph t.tk t.pc t.rc t.wc t.bc t.tc, buB D b0 b1 b2 b3 bw en tb sh n0, orB D u0 u1 nu lt br le] : List va_W).flatten] : List va_W).flatten) := by
  refine r_enterI (by decide) (Nat.le_of_ble_eq_true rfl) ?_
  intro p e st m args below meth c ls A X hret hk hw hl
  have X : CX D p m c cX6_count 2 st args RX6 A := X
  have hx := X.1.1
  have hb := X.1.2.1
  have hown := X.1.2.2.2.1
  have hts := X.1.2.2.2.2
  have hl : lv_has ls 2 [(0, .ref o), (1, .int 22)] := hl
  refine lv_iload_n hx hb dX6_count_0 rfl (lv_at hl 1 rfl) ?_
  refine lv_bipush (v := 20) hx hb dX6_count_1 (by decide) ?_
  refine lv_bipush (v := 22) hx hb dX6_count_3 (by decide) ?_
  refine r_callS X hw (ws' := ([([xB D o ha ta (L 0) (M 0) b0 u0 (nI k) (rows4 HL) tx (nI T), chipB D L w1 w2 s.v s.f s.g s.r s.av s.mk s.cm s.ar s.fl s.en s.la s.zs s.se s.ph s.tk s.pc s.rc s.wc s.bc s.tc, hsB D HL HW1 HW2 hs] : List va_W).flatten, ([chipB D M y1 y2 t.v t.f t.g t.r t.av t.mk t.cm t.ar t.fl t.en t.la t.zs t.se t.ph t.tk t.pc t.rc t.wc t.bc t.tc, buB D b0 b1 b2 b3 bw en tb sh n0, orB D u0 u1 nu lt br le] : List va_W).flatten] : List va_W).flatten) (As := [.int 22, .int 20, .int 22]) (rest := []) lk_X6_95 (c_X6_isWithin l D _ 22 20 22) Foc.nil rfl hl.1 (Nat.le_of_ble_eq_true rfl) ⟨Nat.le_of_ble_eq_true rfl, Nat.le_of_ble_eq_true rfl⟩ rfl dX6_count_5 ⟨Nat.le_refl _, Nat.le_refl _⟩ (fun H locs hw => ?_)
  refine lv_if_eq (tgt := 24) hx hb dX6_count_8 (by decide) (fun h => absurd h (by decide)) (fun _ => ?_)
  refine lv_aload_n hx hb dX6_count_11 rfl (lv_at hl 0 rfl) ?_
  refine r_get X hw (v := .ref (L 0)) fl_X6_10 (m_fl 0 rfl (m_fl 0 rfl (m_at 0 rfl))) rfl dX6_count_12 ?_
  refine r_get X hw (v := .ref (L 12)) fl_X6_210 (m_fl 0 rfl (m_fl 1 rfl (m_fl 0 rfl (m_at 0 rfl)))) rfl dX6_count_15 ?_
  refine lv_iload_n hx hb dX6_count_18 rfl (lv_at hl 1 rfl) ?_
  refine lv_bipush (v := 20) hx hb dX6_count_19 (by decide) ?_
  refine r_subN hx hb 22 20 rfl rfl (by decide) dX6_count_21 ?_
  refine r_iald X hw (f := s.se) 2 (m_fl 0 rfl (m_fl 1 rfl (m_fl 4 rfl (m_at 0 rfl)))) rfl (by decide) (by decide) dX6_count_22 ?_
  exact r_ret X hw hk hret rfl (rfl) rfl dX6_count_23
