set_option maxRecDepth 100000 in
set_option maxHeartbeats 4000000 in
theorem c_X6_fail (l : Launch) (D : va_G) (sz : Nat) (o ha ta : Nat) (L w1 w2 M y1 y2 : Nat → Nat) (HL HW1 HW2 : Nat → Nat → Nat) (b0 b1 b2 b3 : Nat) (bw : Nat → Nat) (u0 u1 : Nat) (tx : Row) (T : Nat) (s t : ChS) (hs : Nat → ChS) (en tb : Row) (sh : Nat → Row) (n0 : Int32) (nu : Row) (lt br le : Int32) (k : Nat) (hk4 : k ≤ 4) (hT : T ≤ 60) (i q : Nat) (hi : i < 7) (hq8 : q < 8) (x : Nat) (hx2 : x < 2) (h9 : ¬ sp_X6_isCell (nI i) (nI q) = 0) (h8 : ¬ sp_X6_isWithin (nI x) 0 1 = 0) (h7 : sp_X5_hasFailed s.f i q = 0) : MI l yX6_fail cX6_fail 4 (some .int) 4 125 D sz [.ref o, .int (nI i), .int (nI q), .int (nI x)] (([([xB D o ha ta (L 0) (M 0) b0 u0 (nI k) (rows4 HL) tx (nI T), chipB D L w1 w2 s.v s.f s.g s.r s.av s.mk s.cm s.ar s.fl s.en s.la s.zs s.se s.ph s.tk s.pc s.rc s.wc s.bc s.tc, hsB D HL HW1 HW2 hs] : List va_W).flatten, ([chipB D M y1 y2 t.v t.f t.g t.r t.av t.mk t.cm t.ar t.fl t.en t.la t.zs t.se t.ph t.tk t.pc t.rc t.wc t.bc t.tc, buB D b0 b1 b2 b3 bw en tb sh n0, orB D u0 u1 nu lt br le] : List va_W).flatten] : List va_W).flatten) ((sp_X5_failCell s.v s.f s.g i q x).1) (([([xB D o ha ta (L 0) (M 0) b0 u0 (nI (khN k)) (rows4 (roN k HL)) tx (nI T), chipB D L w1 w2 ((ChS.new ((sp_X5_failCell s.v s.f s.g i q x).2.1) ((sp_X5_failCell s.v s.f s.g i q x).2.2.1) ((sp_X5_failCell s.v s.f s.g i q x).2.2.2) s.r s.av s.mk s.cm s.ar s.fl s.en s.la s.zs s.se s.ph s.tk s.pc s.rc s.wc s.bc s.tc).v) ((ChS.new ((sp_X5_failCell s.v s.f s.g i q x).2.1) ((sp_X5_failCell s.v s.f s.g i q x).2.2.1) ((sp_X5_failCell s.v s.f s.g i q x).2.2.2) s.r s.av s.mk s.cm s.ar s.fl s.en s.la s.zs s.se s.ph s.tk s.pc s.rc s.wc s.bc s.tc).f) ((ChS.new ((sp_X5_failCell s.v s.f s.g i q x).2.1) ((sp_X5_failCell s.v s.f s.g i q x).2.2.1) ((sp_X5_failCell s.v s.f s.g i q x).2.2.2) s.r s.av s.mk s.cm s.ar s.fl s.en s.la s.zs s.se s.ph s.tk s.pc s.rc s.wc s.bc s.tc).g) ((ChS.new ((sp_X5_failCell s.v s.f s.g i q x).2.1) ((sp_X5_failCell s.v s.f s.g i q x).2.2.1) ((sp_X5_failCell s.v s.f s.g i q x).2.2.2) s.r s.av s.mk s.cm s.ar s.fl s.en s.la s.zs s.se s.ph s.tk s.pc s.rc s.wc s.bc s.tc).r) ((ChS.new ((sp_X5_failCell s.v s.f s.g i q x).2.1) ((sp_X5_failCell s.v s.f s.g i q x).2.2.1) ((sp_X5_failCell s.v s.f s.g i q x).2.2.2) s.r s.av s.mk s.cm s.ar s.fl s.en s.la s.zs s.se s.ph s.tk s.pc s.rc s.wc s.bc s.tc).av) ((ChS.new ((sp_X5_failCell s.v s.f s.g i q x).2.1) ((sp_X5_failCell s.v s.f s.g i q x).2.2.1) ((sp_X5_failCell s.v s.f s.g i q x).2.2.2) s.r s.av s.mk s.cm s.ar s.fl s.en s.la s.zs s.se s.ph s.tk s.pc s.rc s.wc s.bc s.tc).mk) ((ChS.new ((sp_X5_failCell s.v s.f s.g i q x).2.1) ((sp_X5_failCell s.v s.f s.g i q x).2.2.1) ((sp_X5_failCell s.v s.f s.g i q x).2.2.2) s.r s.av s.mk s.cm s.ar s.fl s.en s.la s.zs s.se s.ph s.tk s.pc s.rc s.wc s.bc s.tc).cm) ((ChS.new ((sp_X5_failCell s.v s.f s.g i q x).2.1) ((sp_X5_failCell s.v s.f s.g i q x).2.2.1) ((sp_X5_failCell s.v s.f s.g i q x).2.2.2) s.r s.av s.mk s.cm s.ar s.fl s.en s.la s.zs s.se s.ph s.tk s.pc s.rc s.wc s.bc s.tc).ar) ((ChS.new ((sp_X5_failCell s.v s.f s.g i q x).2.1) ((sp_X5_failCell s.v s.f s.g i q x).2.2.1) ((sp_X5_failCell s.v s.f s.g i q x).2.2.2) s.r s.av s.mk s.cm s.ar s.fl s.en s.la s.zs s.se s.ph s.tk s.pc s.rc s.wc s.bc s.tc).fl) ((ChS.new ((sp_X5_failCell s.v s.f s.g i q x).2.1) ((sp_X5_failCell s.v s.f s.g i q x).2.2.1) ((sp_X5_failCell s.v s.f s.g i q x).2.2.2) s.r s.av s.mk s.cm s.ar s.fl s.en s.la s.zs s.se s.ph s.tk s.pc s.rc s.wc s.bc s.tc).en) ((ChS.new ((sp_X5_failCell s.v s.f s.g i q x).2.1) ((sp_X5_failCell s.v s.f s.g i q x).2.2.1) ((sp_X5_failCell s.v s.f s.g i q x).2.2.2) s.r s.av s.mk s.cm s.ar s.fl s.en s.la s.zs s.se s.ph s.tk s.pc s.rc s.wc s.bc s.tc).la) ((ChS.new ((sp_X5_failCell s.v s.f s.g i q x).2.1) ((sp_X5_failCell s.v s.f s.g i q x).2.2.1) ((sp_X5_failCell s.v s.f s.g i q x).2.2.2) s.r s.av s.mk s.cm s.ar s.fl s.en s.la s.zs s.se s.ph s.tk s.pc s.rc s.wc s.bc s.tc).zs) ((ChS.new ((sp_X5_failCell s.v s.f s.g i q x).2.1) ((sp_X5_failCell s.v s.f s.g i q x).2.2.1) ((sp_X5_failCell s.v s.f s.g i q x).2.2.2) s.r s.av s.mk s.cm s.ar s.fl s.en s.la s.zs s.se s.ph s.tk s.pc s.rc s.wc s.bc s.tc).se) ((ChS.new ((sp_X5_failCell s.v s.f s.g i q x).2.1) ((sp_X5_failCell s.v s.f s.g i q x).2.2.1) ((sp_X5_failCell s.v s.f s.g i q x).2.2.2) s.r s.av s.mk s.cm s.ar s.fl s.en s.la s.zs s.se s.ph s.tk s.pc s.rc s.wc s.bc s.tc).ph) ((ChS.new ((sp_X5_failCell s.v s.f s.g i q x).2.1) ((sp_X5_failCell s.v s.f s.g i q x).2.2.1) ((sp_X5_failCell s.v s.f s.g i q x).2.2.2) s.r s.av s.mk s.cm s.ar s.fl s.en s.la s.zs s.se s.ph s.tk s.pc s.rc s.wc s.bc s.tc).tk) ((ChS.new ((sp_X5_failCell s.v s.f s.g i q x).2.1) ((sp_X5_failCell s.v s.f s.g i q x).2.2.1) ((sp_X5_failCell s.v s.f s.g i q x).2.2.2) s.r s.av s.mk s.cm s.ar s.fl s.en s.la s.zs s.se s.ph s.tk s.pc s.rc s.wc s.bc s.tc).pc) ((ChS.new ((sp_X5_failCell s.v s.f s.g i q x).2.1) ((sp_X5_failCell s.v s.f s.g i q x).2.2.1) ((sp_X5_failCell s.v s.f s.g i q x).2.2.2) s.r s.av s.mk s.cm s.ar s.fl s.en s.la s.zs s.se s.ph s.tk s.pc s.rc s.wc s.bc s.tc).rc) ((ChS.new ((sp_X5_failCell s.v s.f s.g i q x).2.1) ((sp_X5_failCell s.v s.f s.g i q x).2.2.1) ((sp_X5_failCell s.v s.f s.g i q x).2.2.2) s.r s.av s.mk s.cm s.ar s.fl s.en s.la s.zs s.se s.ph s.tk s.pc s.rc s.wc s.bc s.tc).wc) ((ChS.new ((sp_X5_failCell s.v s.f s.g i q x).2.1) ((sp_X5_failCell s.v s.f s.g i q x).2.2.1) ((sp_X5_failCell s.v s.f s.g i q x).2.2.2) s.r s.av s.mk s.cm s.ar s.fl s.en s.la s.zs s.se s.ph s.tk s.pc s.rc s.wc s.bc s.tc).bc) ((ChS.new ((sp_X5_failCell s.v s.f s.g i q x).2.1) ((sp_X5_failCell s.v s.f s.g i q x).2.2.1) ((sp_X5_failCell s.v s.f s.g i q x).2.2.2) s.r s.av s.mk s.cm s.ar s.fl s.en s.la s.zs s.se s.ph s.tk s.pc s.rc s.wc s.bc s.tc).tc), hsB D (roN k HL) (roN k HW1) (roN k HW2) (khS k hs s)] : List va_W).flatten, ([chipB D M y1 y2 t.v t.f t.g t.r t.av t.mk t.cm t.ar t.fl t.en t.la t.zs t.se t.ph t.tk t.pc t.rc t.wc t.bc t.tc, buB D b0 b1 b2 b3 bw en tb sh n0, orB D u0 u1 nu lt br le] : List va_W).flatten] : List va_W).flatten) := by
  refine r_enterI (by decide) (Nat.le_of_ble_eq_true rfl) ?_
  intro p e st m args below meth c ls A X hret hk hw hl
  have X : CX D p m c cX6_fail 4 st args RX6 A := X
  have hx := X.1.1
  have hb := X.1.2.1
  have hown := X.1.2.2.2.1
  have hts := X.1.2.2.2.2
  have hl : lv_has ls 4 [(0, .ref o), (1, .int (nI i)), (2, .int (nI q)), (3, .int (nI x))] := hl
  refine lv_iload_n hx hb dX6_fail_0 rfl (lv_at hl 1 rfl) ?_
  refine lv_iload_n hx hb dX6_fail_1 rfl (lv_at hl 2 rfl) ?_
  refine r_callS X hw (ws' := ([([xB D o ha ta (L 0) (M 0) b0 u0 (nI k) (rows4 HL) tx (nI T), chipB D L w1 w2 s.v s.f s.g s.r s.av s.mk s.cm s.ar s.fl s.en s.la s.zs s.se s.ph s.tk s.pc s.rc s.wc s.bc s.tc, hsB D HL HW1 HW2 hs] : List va_W).flatten, ([chipB D M y1 y2 t.v t.f t.g t.r t.av t.mk t.cm t.ar t.fl t.en t.la t.zs t.se t.ph t.tk t.pc t.rc t.wc t.bc t.tc, buB D b0 b1 b2 b3 bw en tb sh n0, orB D u0 u1 nu lt br le] : List va_W).flatten] : List va_W).flatten) (As := [.int (nI i), .int (nI q)]) (rest := []) lk_X6_105 (c_X6_isCell l D _ (nI i) (nI q)) Foc.nil rfl hl.1 (Nat.le_of_ble_eq_true rfl) ⟨Nat.le_of_ble_eq_true rfl, Nat.le_of_ble_eq_true rfl⟩ rfl dX6_fail_2 ⟨Nat.le_refl _, Nat.le_refl _⟩ (fun H locs hw => ?_)
  refine lv_if_eq (tgt := 17) hx hb dX6_fail_5 (by decide) (fun h => absurd h h9) (fun _ => ?_)
  refine lv_iload_n hx hb dX6_fail_8 rfl (lv_at hl 3 rfl) ?_
  refine lv_iconst (v := 0) hx hb dX6_fail_9 (by decide) ?_
  refine lv_iconst (v := 1) hx hb dX6_fail_10 (by decide) ?_
  refine r_callS X hw (ws' := ([([xB D o ha ta (L 0) (M 0) b0 u0 (nI k) (rows4 HL) tx (nI T), chipB D L w1 w2 s.v s.f s.g s.r s.av s.mk s.cm s.ar s.fl s.en s.la s.zs s.se s.ph s.tk s.pc s.rc s.wc s.bc s.tc, hsB D HL HW1 HW2 hs] : List va_W).flatten, ([chipB D M y1 y2 t.v t.f t.g t.r t.av t.mk t.cm t.ar t.fl t.en t.la t.zs t.se t.ph t.tk t.pc t.rc t.wc t.bc t.tc, buB D b0 b1 b2 b3 bw en tb sh n0, orB D u0 u1 nu lt br le] : List va_W).flatten] : List va_W).flatten) (As := [.int (nI x), .int 0, .int 1]) (rest := []) lk_X6_95 (c_X6_isWithin l D _ (nI x) 0 1) Foc.nil rfl hl.1 (Nat.le_of_ble_eq_true rfl) ⟨Nat.le_of_ble_eq_true rfl, Nat.le_of_ble_eq_true rfl⟩ rfl dX6_fail_11 ⟨Nat.le_refl _, Nat.le_refl _⟩ (fun H locs hw => ?_)
  refine lv_if_ne (tgt := 20) hx hb dX6_fail_14 (by decide) (fun _ => ?_) (fun h => absurd h h8)
  refine lv_aload_n hx hb dX6_fail_20 rfl (lv_at hl 0 rfl) ?_
  refine r_get X hw (v := .ref (L 0)) fl_X6_10 (m_fl 0 rfl (m_fl 0 rfl (m_at 0 rfl))) rfl dX6_fail_21 ?_
  refine r_get X hw (v := .ref (L 1)) fl_X6_108 (m_fl 0 rfl (m_fl 1 rfl (m_fl 0 rfl (m_at 0 rfl)))) rfl dX6_fail_24 ?_
  refine lv_iload_n hx hb dX6_fail_27 rfl (lv_at hl 1 rfl) ?_
  refine lv_iload_n hx hb dX6_fail_28 rfl (lv_at hl 2 rfl) ?_
  refine r_callV X hw (ws' := ([([xB D o ha ta (L 0) (M 0) b0 u0 (nI k) (rows4 HL) tx (nI T), chipB D L w1 w2 s.v s.f s.g s.r s.av s.mk s.cm s.ar s.fl s.en s.la s.zs s.se s.ph s.tk s.pc s.rc s.wc s.bc s.tc, hsB D HL HW1 HW2 hs] : List va_W).flatten, ([chipB D M y1 y2 t.v t.f t.g t.r t.av t.mk t.cm t.ar t.fl t.en t.la t.zs t.se t.ph t.tk t.pc t.rc t.wc t.bc t.tc, buB D b0 b1 b2 b3 bw en tb sh n0, orB D u0 u1 nu lt br le] : List va_W).flatten] : List va_W).flatten) (As := [.int (nI i), .int (nI q)]) (rest := []) lk_X6_112 (c_X5_hasFailed l D _ (L 1) (L 2) (L 3) (L 4) (L 5) s.v s.f s.g s.r i q (by omega) (by omega)) (Foc.trans (Foc.at1 0 rfl rfl (ce rfl rfl)) (Foc.trans (Foc.at1 1 rfl rfl (ce rfl (ce rfl rfl))) (Foc.at1 1 rfl rfl (ce rfl (ce rfl (ce rfl (ce rfl rfl))))))) (m_fl 0 rfl (m_fl 1 rfl (m_fl 1 rfl (m_at 0 rfl)))) rfl hl.1 (Nat.le_of_ble_eq_true rfl) ⟨Nat.le_of_ble_eq_true rfl, Nat.le_of_ble_eq_true rfl⟩ rfl dX6_fail_29 ⟨Nat.le_refl _, Nat.le_refl _⟩ (fun H locs hw => ?_)
  refine lv_if_eq (tgt := 38) hx hb dX6_fail_32 (by decide) (fun _ => ?_) (fun h => absurd h7 h)
  refine lv_aload_n hx hb dX6_fail_38 rfl (lv_at hl 0 rfl) ?_
  refine r_callVv X hw (ws' := ([([xB D o ha ta (L 0) (M 0) b0 u0 (nI (khN k)) (rows4 (roN k HL)) tx (nI T), chipB D L w1 w2 s.v s.f s.g s.r s.av s.mk s.cm s.ar s.fl s.en s.la s.zs s.se s.ph s.tk s.pc s.rc s.wc s.bc s.tc, hsB D (roN k HL) (roN k HW1) (roN k HW2) (khS k hs s)] : List va_W).flatten, ([chipB D M y1 y2 t.v t.f t.g t.r t.av t.mk t.cm t.ar t.fl t.en t.la t.zs t.se t.ph t.tk t.pc t.rc t.wc t.bc t.tc, buB D b0 b1 b2 b3 bw en tb sh n0, orB D u0 u1 nu lt br le] : List va_W).flatten] : List va_W).flatten) (As := []) (rest := []) lk_X6_46 (c_X6_keepState l D _ o ha ta (M 0) b0 u0 tx (nI T) L w1 w2 s HL HW1 HW2 hs k hk4) (Foc.at1 0 rfl rfl (ce rfl rfl)) (m_fl 0 rfl (m_fl 0 rfl (m_at 0 rfl))) rfl hl.1 (Nat.le_of_ble_eq_true rfl) ⟨Nat.le_of_ble_eq_true rfl, Nat.le_of_ble_eq_true rfl⟩ rfl dX6_fail_39 ⟨Nat.le_refl _, Nat.le_refl _⟩ (fun H locs hw => ?_)
  refine lv_aload_n hx hb dX6_fail_42 rfl (lv_at hl 0 rfl) ?_
  refine r_get X hw (v := .ref (L 0)) fl_X6_10 (m_fl 0 rfl (m_fl 0 rfl (m_at 0 rfl))) rfl dX6_fail_43 ?_
  refine r_get X hw (v := .ref (L 1)) fl_X6_108 (m_fl 0 rfl (m_fl 1 rfl (m_fl 0 rfl (m_at 0 rfl)))) rfl dX6_fail_46 ?_
  refine lv_iload_n hx hb dX6_fail_49 rfl (lv_at hl 1 rfl) ?_
  refine lv_iload_n hx hb dX6_fail_50 rfl (lv_at hl 2 rfl) ?_
  refine lv_iload_n hx hb dX6_fail_51 rfl (lv_at hl 3 rfl) ?_
  refine r_callV X hw (ws' := ([([xB D o ha ta (L 0) (M 0) b0 u0 (nI (khN k)) (rows4 (roN k HL)) tx (nI T), chipB D L w1 w2 ((sp_X5_failCell s.v s.f s.g i q x).2.1) ((sp_X5_failCell s.v s.f s.g i q x).2.2.1) ((sp_X5_failCell s.v s.f s.g i q x).2.2.2) s.r s.av s.mk s.cm s.ar s.fl s.en s.la s.zs s.se s.ph s.tk s.pc s.rc s.wc s.bc s.tc, hsB D (roN k HL) (roN k HW1) (roN k HW2) (khS k hs s)] : List va_W).flatten, ([chipB D M y1 y2 t.v t.f t.g t.r t.av t.mk t.cm t.ar t.fl t.en t.la t.zs t.se t.ph t.tk t.pc t.rc t.wc t.bc t.tc, buB D b0 b1 b2 b3 bw en tb sh n0, orB D u0 u1 nu lt br le] : List va_W).flatten] : List va_W).flatten) (As := [.int (nI i), .int (nI q), .int (nI x)]) (rest := []) lk_X6_118 (c_X5_failCell l D _ (L 1) (L 2) (L 3) (L 4) (L 5) s.v s.f s.g s.r i q x (by omega) (by omega) (by omega)) (Foc.trans (Foc.at1 0 rfl rfl (ce rfl rfl)) (Foc.trans (Foc.at1 1 rfl rfl (ce rfl (ce rfl rfl))) (Foc.at1 1 rfl rfl (ce rfl (ce rfl (ce rfl (ce rfl rfl))))))) (m_fl 0 rfl (m_fl 1 rfl (m_fl 1 rfl (m_at 0 rfl)))) rfl hl.1 (Nat.le_of_ble_eq_true rfl) ⟨Nat.le_of_ble_eq_true rfl, Nat.le_of_ble_eq_true rfl⟩ rfl dX6_fail_52 ⟨Nat.le_refl _, Nat.le_refl _⟩ (fun H locs hw => ?_)
  exact r_ret X hw hk hret rfl rfl rfl dX6_fail_55

set_option maxRecDepth 100000 in
set_option maxHeartbeats 4000000 in
theorem c_X6_failN (l : Launch) (D : va_G) (sz : Nat) (o ha ta : Nat) (L w1 w2 M y1 y2 : Nat → Nat) (HL HW1 HW2 : Nat → Nat → Nat) (b0 b1 b2 b3 : Nat) (bw : Nat → Nat) (u0 u1 : Nat) (tx : Row) (T : Nat) (s t : ChS) (hs : Nat → ChS) (en tb : Row) (sh : Nat → Row) (n0 : Int32) (nu : Row) (lt br le : Int32) (k : Nat) (hk4 : k ≤ 4) (hT : T ≤ 60) (i q : Nat) (hi : i < 7) (hq8 : q < 8) (x : Nat) (hx2 : x < 2) (h9 : ¬ sp_X6_isCell (nI i) (nI q) = 0) (h8 : ¬ sp_X6_isWithin (nI x) 0 1 = 0) (h7 : ¬ sp_X5_hasFailed s.f i q = 0) : MI l yX6_fail cX6_fail 4 (some .int) 3 63 D sz [.ref o, .int (nI i), .int (nI q), .int (nI x)] (([([xB D o ha ta (L 0) (M 0) b0 u0 (nI k) (rows4 HL) tx (nI T), chipB D L w1 w2 s.v s.f s.g s.r s.av s.mk s.cm s.ar s.fl s.en s.la s.zs s.se s.ph s.tk s.pc s.rc s.wc s.bc s.tc, hsB D HL HW1 HW2 hs] : List va_W).flatten, ([chipB D M y1 y2 t.v t.f t.g t.r t.av t.mk t.cm t.ar t.fl t.en t.la t.zs t.se t.ph t.tk t.pc t.rc t.wc t.bc t.tc, buB D b0 b1 b2 b3 bw en tb sh n0, orB D u0 u1 nu lt br le] : List va_W).flatten] : List va_W).flatten) (-1000002) (([([xB D o ha ta (L 0) (M 0) b0 u0 (nI k) (rows4 HL) tx (nI T), chipB D L w1 w2 s.v s.f s.g s.r s.av s.mk s.cm s.ar s.fl s.en s.la s.zs s.se s.ph s.tk s.pc s.rc s.wc s.bc s.tc, hsB D HL HW1 HW2 hs] : List va_W).flatten, ([chipB D M y1 y2 t.v t.f t.g t.r t.av t.mk t.cm t.ar t.fl t.en t.la t.zs t.se t.ph t.tk t.pc t.rc t.wc t.bc t.tc, buB D b0 b1 b2 b3 bw en tb sh n0, orB D u0 u1 nu lt br le] : List va_W).flatten] : List va_W).flatten) := by
  refine r_enterI (by decide) (Nat.le_of_ble_eq_true rfl) ?_
  intro p e st m args below meth c ls A X hret hk hw hl
  have X : CX D p m c cX6_fail 4 st args RX6 A := X
  have hx := X.1.1
  have hb := X.1.2.1
  have hown := X.1.2.2.2.1
  have hts := X.1.2.2.2.2
  have hl : lv_has ls 4 [(0, .ref o), (1, .int (nI i)), (2, .int (nI q)), (3, .int (nI x))] := hl
  refine lv_iload_n hx hb dX6_fail_0 rfl (lv_at hl 1 rfl) ?_
  refine lv_iload_n hx hb dX6_fail_1 rfl (lv_at hl 2 rfl) ?_
  refine r_callS X hw (ws' := ([([xB D o ha ta (L 0) (M 0) b0 u0 (nI k) (rows4 HL) tx (nI T), chipB D L w1 w2 s.v s.f s.g s.r s.av s.mk s.cm s.ar s.fl s.en s.la s.zs s.se s.ph s.tk s.pc s.rc s.wc s.bc s.tc, hsB D HL HW1 HW2 hs] : List va_W).flatten, ([chipB D M y1 y2 t.v t.f t.g t.r t.av t.mk t.cm t.ar t.fl t.en t.la t.zs t.se t.ph t.tk t.pc t.rc t.wc t.bc t.tc, buB D b0 b1 b2 b3 bw en tb sh n0, orB D u0 u1 nu lt br le] : List va_W).flatten] : List va_W).flatten) (As := [.int (nI i), .int (nI q)]) (rest := []) lk_X6_105 (c_X6_isCell l D _ (nI i) (nI q)) Foc.nil rfl hl.1 (Nat.le_of_ble_eq_true rfl) ⟨Nat.le_of_ble_eq_true rfl, Nat.le_of_ble_eq_true rfl⟩ rfl dX6_fail_2 ⟨Nat.le_refl _, Nat.le_refl _⟩ (fun H locs hw => ?_)
  refine lv_if_eq (tgt := 17) hx hb dX6_fail_5 (by decide) (fun h => absurd h h9) (fun _ => ?_)
  refine lv_iload_n hx hb dX6_fail_8 rfl (lv_at hl 3 rfl) ?_
  refine lv_iconst (v := 0) hx hb dX6_fail_9 (by decide) ?_
  refine lv_iconst (v := 1) hx hb dX6_fail_10 (by decide) ?_
  refine r_callS X hw (ws' := ([([xB D o ha ta (L 0) (M 0) b0 u0 (nI k) (rows4 HL) tx (nI T), chipB D L w1 w2 s.v s.f s.g s.r s.av s.mk s.cm s.ar s.fl s.en s.la s.zs s.se s.ph s.tk s.pc s.rc s.wc s.bc s.tc, hsB D HL HW1 HW2 hs] : List va_W).flatten, ([chipB D M y1 y2 t.v t.f t.g t.r t.av t.mk t.cm t.ar t.fl t.en t.la t.zs t.se t.ph t.tk t.pc t.rc t.wc t.bc t.tc, buB D b0 b1 b2 b3 bw en tb sh n0, orB D u0 u1 nu lt br le] : List va_W).flatten] : List va_W).flatten) (As := [.int (nI x), .int 0, .int 1]) (rest := []) lk_X6_95 (c_X6_isWithin l D _ (nI x) 0 1) Foc.nil rfl hl.1 (Nat.le_of_ble_eq_true rfl) ⟨Nat.le_of_ble_eq_true rfl, Nat.le_of_ble_eq_true rfl⟩ rfl dX6_fail_11 ⟨Nat.le_refl _, Nat.le_refl _⟩ (fun H locs hw => ?_)
  refine lv_if_ne (tgt := 20) hx hb dX6_fail_14 (by decide) (fun _ => ?_) (fun h => absurd h h8)
  refine lv_aload_n hx hb dX6_fail_20 rfl (lv_at hl 0 rfl) ?_
  refine r_get X hw (v := .ref (L 0)) fl_X6_10 (m_fl 0 rfl (m_fl 0 rfl (m_at 0 rfl))) rfl dX6_fail_21 ?_
  refine r_get X hw (v := .ref (L 1)) fl_X6_108 (m_fl 0 rfl (m_fl 1 rfl (m_fl 0 rfl (m_at 0 rfl)))) rfl dX6_fail_24 ?_
  refine lv_iload_n hx hb dX6_fail_27 rfl (lv_at hl 1 rfl) ?_
  refine lv_iload_n hx hb dX6_fail_28 rfl (lv_at hl 2 rfl) ?_
  refine r_callV X hw (ws' := ([([xB D o ha ta (L 0) (M 0) b0 u0 (nI k) (rows4 HL) tx (nI T), chipB D L w1 w2 s.v s.f s.g s.r s.av s.mk s.cm s.ar s.fl s.en s.la s.zs s.se s.ph s.tk s.pc s.rc s.wc s.bc s.tc, hsB D HL HW1 HW2 hs] : List va_W).flatten, ([chipB D M y1 y2 t.v t.f t.g t.r t.av t.mk t.cm t.ar t.fl t.en t.la t.zs t.se t.ph t.tk t.pc t.rc t.wc t.bc t.tc, buB D b0 b1 b2 b3 bw en tb sh n0, orB D u0 u1 nu lt br le] : List va_W).flatten] : List va_W).flatten) (As := [.int (nI i), .int (nI q)]) (rest := []) lk_X6_112 (c_X5_hasFailed l D _ (L 1) (L 2) (L 3) (L 4) (L 5) s.v s.f s.g s.r i q (by omega) (by omega)) (Foc.trans (Foc.at1 0 rfl rfl (ce rfl rfl)) (Foc.trans (Foc.at1 1 rfl rfl (ce rfl (ce rfl rfl))) (Foc.at1 1 rfl rfl (ce rfl (ce rfl (ce rfl (ce rfl rfl))))))) (m_fl 0 rfl (m_fl 1 rfl (m_fl 1 rfl (m_at 0 rfl)))) rfl hl.1 (Nat.le_of_ble_eq_true rfl) ⟨Nat.le_of_ble_eq_true rfl, Nat.le_of_ble_eq_true rfl⟩ rfl dX6_fail_29 ⟨Nat.le_refl _, Nat.le_refl _⟩ (fun H locs hw => ?_)
  refine lv_if_eq (tgt := 38) hx hb dX6_fail_32 (by decide) (fun h => absurd h h7) (fun _ => ?_)
  refine lv_ldc (v := (-1000002)) hx hb hown (hts _ kc_X6_117) dX6_fail_35 ?_
  exact r_ret X hw hk hret rfl rfl rfl dX6_fail_37

set_option maxRecDepth 100000 in
set_option maxHeartbeats 4000000 in
theorem c_X6_failB (l : Launch) (D : va_G) (sz : Nat) (o ha ta : Nat) (L w1 w2 M y1 y2 : Nat → Nat) (HL HW1 HW2 : Nat → Nat → Nat) (b0 b1 b2 b3 : Nat) (bw : Nat → Nat) (u0 u1 : Nat) (tx : Row) (T : Nat) (s t : ChS) (hs : Nat → ChS) (en tb : Row) (sh : Nat → Row) (n0 : Int32) (nu : Row) (lt br le : Int32) (k : Nat) (hk4 : k ≤ 4) (hT : T ≤ 60) (x y z : Int32) (h9 : sp_X6_isCell x y = 0) : MI l yX6_fail cX6_fail 4 (some .int) 3 63 D sz [.ref o, .int x, .int y, .int z] (([([xB D o ha ta (L 0) (M 0) b0 u0 (nI k) (rows4 HL) tx (nI T), chipB D L w1 w2 s.v s.f s.g s.r s.av s.mk s.cm s.ar s.fl s.en s.la s.zs s.se s.ph s.tk s.pc s.rc s.wc s.bc s.tc, hsB D HL HW1 HW2 hs] : List va_W).flatten, ([chipB D M y1 y2 t.v t.f t.g t.r t.av t.mk t.cm t.ar t.fl t.en t.la t.zs t.se t.ph t.tk t.pc t.rc t.wc t.bc t.tc, buB D b0 b1 b2 b3 bw en tb sh n0, orB D u0 u1 nu lt br le] : List va_W).flatten] : List va_W).flatten) (-1000001) (([([xB D o ha ta (L 0) (M 0) b0 u0 (nI k) (rows4 HL) tx (nI T), chipB D L w1 w2 s.v s.f s.g s.r s.av s.mk s.cm s.ar s.fl s.en s.la s.zs s.se s.ph s.tk s.pc s.rc s.wc s.bc s.tc, hsB D HL HW1 HW2 hs] : List va_W).flatten, ([chipB D M y1 y2 t.v t.f t.g t.r t.av t.mk t.cm t.ar t.fl t.en t.la t.zs t.se t.ph t.tk t.pc t.rc t.wc t.bc t.tc, buB D b0 b1 b2 b3 bw en tb sh n0, orB D u0 u1 nu lt br le] : List va_W).flatten] : List va_W).flatten) := by
  refine r_enterI (by decide) (Nat.le_of_ble_eq_true rfl) ?_
  intro p e st m args below meth c ls A X hret hk hw hl
  have X : CX D p m c cX6_fail 4 st args RX6 A := X
  have hx := X.1.1
  have hb := X.1.2.1
  have hown := X.1.2.2.2.1
  have hts := X.1.2.2.2.2
  have hl : lv_has ls 4 [(0, .ref o), (1, .int x), (2, .int y), (3, .int z)] := hl
  refine lv_iload_n hx hb dX6_fail_0 rfl (lv_at hl 1 rfl) ?_
  refine lv_iload_n hx hb dX6_fail_1 rfl (lv_at hl 2 rfl) ?_
  refine r_callS X hw (ws' := ([([xB D o ha ta (L 0) (M 0) b0 u0 (nI k) (rows4 HL) tx (nI T), chipB D L w1 w2 s.v s.f s.g s.r s.av s.mk s.cm s.ar s.fl s.en s.la s.zs s.se s.ph s.tk s.pc s.rc s.wc s.bc s.tc, hsB D HL HW1 HW2 hs] : List va_W).flatten, ([chipB D M y1 y2 t.v t.f t.g t.r t.av t.mk t.cm t.ar t.fl t.en t.la t.zs t.se t.ph t.tk t.pc t.rc t.wc t.bc t.tc, buB D b0 b1 b2 b3 bw en tb sh n0, orB D u0 u1 nu lt br le] : List va_W).flatten] : List va_W).flatten) (As := [.int x, .int y]) (rest := []) lk_X6_105 (c_X6_isCell l D _ x y) Foc.nil rfl hl.1 (Nat.le_of_ble_eq_true rfl) ⟨Nat.le_of_ble_eq_true rfl, Nat.le_of_ble_eq_true rfl⟩ rfl dX6_fail_2 ⟨Nat.le_refl _, Nat.le_refl _⟩ (fun H locs hw => ?_)
  refine lv_if_eq (tgt := 17) hx hb dX6_fail_5 (by decide) (fun _ => ?_) (fun h => absurd h9 h)
  refine lv_ldc (v := (-1000001)) hx hb hown (hts _ kc_X6_45) dX6_fail_17 ?_
  exact r_ret X hw hk hret rfl rfl rfl dX6_fail_19

set_option maxRecDepth 100000 in
set_option maxHeartbeats 4000000 in
theorem c_X6_failC (l : Launch) (D : va_G) (sz : Nat) (o ha ta : Nat) (L w1 w2 M y1 y2 : Nat → Nat) (HL HW1 HW2 : Nat → Nat → Nat) (b0 b1 b2 b3 : Nat) (bw : Nat → Nat) (u0 u1 : Nat) (tx : Row) (T : Nat) (s t : ChS) (hs : Nat → ChS) (en tb : Row) (sh : Nat → Row) (n0 : Int32) (nu : Row) (lt br le : Int32) (k : Nat) (hk4 : k ≤ 4) (hT : T ≤ 60) (x y z : Int32) (h9 : ¬ sp_X6_isCell x y = 0) (h8 : sp_X6_isWithin z 0 1 = 0) : MI l yX6_fail cX6_fail 4 (some .int) 3 63 D sz [.ref o, .int x, .int y, .int z] (([([xB D o ha ta (L 0) (M 0) b0 u0 (nI k) (rows4 HL) tx (nI T), chipB D L w1 w2 s.v s.f s.g s.r s.av s.mk s.cm s.ar s.fl s.en s.la s.zs s.se s.ph s.tk s.pc s.rc s.wc s.bc s.tc, hsB D HL HW1 HW2 hs] : List va_W).flatten, ([chipB D M y1 y2 t.v t.f t.g t.r t.av t.mk t.cm t.ar t.fl t.en t.la t.zs t.se t.ph t.tk t.pc t.rc t.wc t.bc t.tc, buB D b0 b1 b2 b3 bw en tb sh n0, orB D u0 u1 nu lt br le] : List va_W).flatten] : List va_W).flatten) (-1000001) (([([xB D o ha ta (L 0) (M 0) b0 u0 (nI k) (rows4 HL) tx (nI T), chipB D L w1 w2 s.v s.f s.g s.r s.av s.mk s.cm s.ar s.fl s.en s.la s.zs s.se s.ph s.tk s.pc s.rc s.wc s.bc s.tc, hsB D HL HW1 HW2 hs] : List va_W).flatten, ([chipB D M y1 y2 t.v t.f t.g t.r t.av t.mk t.cm t.ar t.fl t.en t.la t.zs t.se t.ph t.tk t.pc t.rc t.wc t.bc t.tc, buB D b0 b1 b2 b3 bw en tb sh n0, orB D u0 u1 nu lt br le] : List va_W).flatten] : List va_W).flatten) := by
  refine r_enterI (by decide) (Nat.le_of_ble_eq_true rfl) ?_
  intro p e st m args below meth c ls A X hret hk hw hl
  have X : CX D p m c cX6_fail 4 st args RX6 A := X
  have hx := X.1.1
  have hb := X.1.2.1
  have hown := X.1.2.2.2.1
  have hts := X.1.2.2.2.2
  have hl : lv_has ls 4 [(0, .ref o), (1, .int x), (2, .int y), (3, .int z)] := hl
  refine lv_iload_n hx hb dX6_fail_0 rfl (lv_at hl 1 rfl) ?_
  refine lv_iload_n hx hb dX6_fail_1 rfl (lv_at hl 2 rfl) ?_
  refine r_callS X hw (ws' := ([([xB D o ha ta (L 0) (M 0) b0 u0 (nI k) (rows4 HL) tx (nI T), chipB D L w1 w2 s.v s.f s.g s.r s.av s.mk s.cm s.ar s.fl s.en s.la s.zs s.se s.ph s.tk s.pc s.rc s.wc s.bc s.tc, hsB D HL HW1 HW2 hs] : List va_W).flatten, ([chipB D M y1 y2 t.v t.f t.g t.r t.av t.mk t.cm t.ar t.fl t.en t.la t.zs t.se t.ph t.tk t.pc t.rc t.wc t.bc t.tc, buB D b0 b1 b2 b3 bw en tb sh n0, orB D u0 u1 nu lt br le] : List va_W).flatten] : List va_W).flatten) (As := [.int x, .int y]) (rest := []) lk_X6_105 (c_X6_isCell l D _ x y) Foc.nil rfl hl.1 (Nat.le_of_ble_eq_true rfl) ⟨Nat.le_of_ble_eq_true rfl, Nat.le_of_ble_eq_true rfl⟩ rfl dX6_fail_2 ⟨Nat.le_refl _, Nat.le_refl _⟩ (fun H locs hw => ?_)
  refine lv_if_eq (tgt := 17) hx hb dX6_fail_5 (by decide) (fun h => absurd h h9) (fun _ => ?_)
  refine lv_iload_n hx hb dX6_fail_8 rfl (lv_at hl 3 rfl) ?_
  refine lv_iconst (v := 0) hx hb dX6_fail_9 (by decide) ?_
  refine lv_iconst (v := 1) hx hb dX6_fail_10 (by decide) ?_
  refine r_callS X hw (ws' := ([([xB D o ha ta (L 0) (M 0) b0 u0 (nI k) (rows4 HL) tx (nI T), chipB D L w1 w2 s.v s.f s.g s.r s.av s.mk s.cm s.ar s.fl s.en s.la s.zs s.se s.ph s.tk s.pc s.rc s.wc s.bc s.tc, hsB D HL HW1 HW2 hs] : List va_W).flatten, ([chipB D M y1 y2 t.v t.f t.g t.r t.av t.mk t.cm t.ar t.fl t.en t.la t.zs t.se t.ph t.tk t.pc t.rc t.wc t.bc t.tc, buB D b0 b1 b2 b3 bw en tb sh n0, orB D u0 u1 nu lt br le] : List va_W).flatten] : List va_W).flatten) (As := [.int z, .int 0, .int 1]) (rest := []) lk_X6_95 (c_X6_isWithin l D _ z 0 1) Foc.nil rfl hl.1 (Nat.le_of_ble_eq_true rfl) ⟨Nat.le_of_ble_eq_true rfl, Nat.le_of_ble_eq_true rfl⟩ rfl dX6_fail_11 ⟨Nat.le_refl _, Nat.le_refl _⟩ (fun H locs hw => ?_)
  refine lv_if_ne (tgt := 20) hx hb dX6_fail_14 (by decide) (fun h => absurd h8 h) (fun _ => ?_)
  refine lv_ldc (v := (-1000001)) hx hb hown (hts _ kc_X6_45) dX6_fail_17 ?_
  exact r_ret X hw hk hret rfl rfl rfl dX6_fail_19

set_option maxRecDepth 100000 in
set_option maxHeartbeats 4000000 in
theorem c_X6_heal (l : Launch) (D : va_G) (sz : Nat) (o ha ta : Nat) (L w1 w2 M y1 y2 : Nat → Nat) (HL HW1 HW2 : Nat → Nat → Nat) (b0 b1 b2 b3 : Nat) (bw : Nat → Nat) (u0 u1 : Nat) (tx : Row) (T : Nat) (s t : ChS) (hs : Nat → ChS) (en tb : Row) (sh : Nat → Row) (n0 : Int32) (nu : Row) (lt br le : Int32) (k : Nat) (hk4 : k ≤ 4) (hT : T ≤ 60) (i q : Nat) (hi : i < 7) (hq8 : q < 8) (h9 : ¬ sp_X6_isCell (nI i) (nI q) = 0) (h7 : ¬ sp_X5_hasFailed s.f i q = 0) : MI l yX6_heal cX6_heal 3 (some .int) 4 125 D sz [.ref o, .int (nI i), .int (nI q)] (([([xB D o ha ta (L 0) (M 0) b0 u0 (nI k) (rows4 HL) tx (nI T), chipB D L w1 w2 s.v s.f s.g s.r s.av s.mk s.cm s.ar s.fl s.en s.la s.zs s.se s.ph s.tk s.pc s.rc s.wc s.bc s.tc, hsB D HL HW1 HW2 hs] : List va_W).flatten, ([chipB D M y1 y2 t.v t.f t.g t.r t.av t.mk t.cm t.ar t.fl t.en t.la t.zs t.se t.ph t.tk t.pc t.rc t.wc t.bc t.tc, buB D b0 b1 b2 b3 bw en tb sh n0, orB D u0 u1 nu lt br le] : List va_W).flatten] : List va_W).flatten) (cfN (sp_X5_healCell s.f s.g i q).1 7) (([([xB D o ha ta (L 0) (M 0) b0 u0 (nI (khN k)) (rows4 (roN k HL)) tx (nI T), chipB D L w1 w2 ((ChS.new s.v ((sp_X5_healCell s.f s.g i q).1) ((sp_X5_healCell s.f s.g i q).2) s.r s.av s.mk s.cm s.ar s.fl s.en s.la s.zs s.se s.ph s.tk s.pc s.rc s.wc s.bc s.tc).v) ((ChS.new s.v ((sp_X5_healCell s.f s.g i q).1) ((sp_X5_healCell s.f s.g i q).2) s.r s.av s.mk s.cm s.ar s.fl s.en s.la s.zs s.se s.ph s.tk s.pc s.rc s.wc s.bc s.tc).f) ((ChS.new s.v ((sp_X5_healCell s.f s.g i q).1) ((sp_X5_healCell s.f s.g i q).2) s.r s.av s.mk s.cm s.ar s.fl s.en s.la s.zs s.se s.ph s.tk s.pc s.rc s.wc s.bc s.tc).g) ((ChS.new s.v ((sp_X5_healCell s.f s.g i q).1) ((sp_X5_healCell s.f s.g i q).2) s.r s.av s.mk s.cm s.ar s.fl s.en s.la s.zs s.se s.ph s.tk s.pc s.rc s.wc s.bc s.tc).r) ((ChS.new s.v ((sp_X5_healCell s.f s.g i q).1) ((sp_X5_healCell s.f s.g i q).2) s.r s.av s.mk s.cm s.ar s.fl s.en s.la s.zs s.se s.ph s.tk s.pc s.rc s.wc s.bc s.tc).av) ((ChS.new s.v ((sp_X5_healCell s.f s.g i q).1) ((sp_X5_healCell s.f s.g i q).2) s.r s.av s.mk s.cm s.ar s.fl s.en s.la s.zs s.se s.ph s.tk s.pc s.rc s.wc s.bc s.tc).mk) ((ChS.new s.v ((sp_X5_healCell s.f s.g i q).1) ((sp_X5_healCell s.f s.g i q).2) s.r s.av s.mk s.cm s.ar s.fl s.en s.la s.zs s.se s.ph s.tk s.pc s.rc s.wc s.bc s.tc).cm) ((ChS.new s.v ((sp_X5_healCell s.f s.g i q).1) ((sp_X5_healCell s.f s.g i q).2) s.r s.av s.mk s.cm s.ar s.fl s.en s.la s.zs s.se s.ph s.tk s.pc s.rc s.wc s.bc s.tc).ar) ((ChS.new s.v ((sp_X5_healCell s.f s.g i q).1) ((sp_X5_healCell s.f s.g i q).2) s.r s.av s.mk s.cm s.ar s.fl s.en s.la s.zs s.se s.ph s.tk s.pc s.rc s.wc s.bc s.tc).fl) ((ChS.new s.v ((sp_X5_healCell s.f s.g i q).1) ((sp_X5_healCell s.f s.g i q).2) s.r s.av s.mk s.cm s.ar s.fl s.en s.la s.zs s.se s.ph s.tk s.pc s.rc s.wc s.bc s.tc).en) ((ChS.new s.v ((sp_X5_healCell s.f s.g i q).1) ((sp_X5_healCell s.f s.g i q).2) s.r s.av s.mk s.cm s.ar s.fl s.en s.la s.zs s.se s.ph s.tk s.pc s.rc s.wc s.bc s.tc).la) ((ChS.new s.v ((sp_X5_healCell s.f s.g i q).1) ((sp_X5_healCell s.f s.g i q).2) s.r s.av s.mk s.cm s.ar s.fl s.en s.la s.zs s.se s.ph s.tk s.pc s.rc s.wc s.bc s.tc).zs) ((ChS.new s.v ((sp_X5_healCell s.f s.g i q).1) ((sp_X5_healCell s.f s.g i q).2) s.r s.av s.mk s.cm s.ar s.fl s.en s.la s.zs s.se s.ph s.tk s.pc s.rc s.wc s.bc s.tc).se) ((ChS.new s.v ((sp_X5_healCell s.f s.g i q).1) ((sp_X5_healCell s.f s.g i q).2) s.r s.av s.mk s.cm s.ar s.fl s.en s.la s.zs s.se s.ph s.tk s.pc s.rc s.wc s.bc s.tc).ph) ((ChS.new s.v ((sp_X5_healCell s.f s.g i q).1) ((sp_X5_healCell s.f s.g i q).2) s.r s.av s.mk s.cm s.ar s.fl s.en s.la s.zs s.se s.ph s.tk s.pc s.rc s.wc s.bc s.tc).tk) ((ChS.new s.v ((sp_X5_healCell s.f s.g i q).1) ((sp_X5_healCell s.f s.g i q).2) s.r s.av s.mk s.cm s.ar s.fl s.en s.la s.zs s.se s.ph s.tk s.pc s.rc s.wc s.bc s.tc).pc) ((ChS.new s.v ((sp_X5_healCell s.f s.g i q).1) ((sp_X5_healCell s.f s.g i q).2) s.r s.av s.mk s.cm s.ar s.fl s.en s.la s.zs s.se s.ph s.tk s.pc s.rc s.wc s.bc s.tc).rc) ((ChS.new s.v ((sp_X5_healCell s.f s.g i q).1) ((sp_X5_healCell s.f s.g i q).2) s.r s.av s.mk s.cm s.ar s.fl s.en s.la s.zs s.se s.ph s.tk s.pc s.rc s.wc s.bc s.tc).wc) ((ChS.new s.v ((sp_X5_healCell s.f s.g i q).1) ((sp_X5_healCell s.f s.g i q).2) s.r s.av s.mk s.cm s.ar s.fl s.en s.la s.zs s.se s.ph s.tk s.pc s.rc s.wc s.bc s.tc).bc) ((ChS.new s.v ((sp_X5_healCell s.f s.g i q).1) ((sp_X5_healCell s.f s.g i q).2) s.r s.av s.mk s.cm s.ar s.fl s.en s.la s.zs s.se s.ph s.tk s.pc s.rc s.wc s.bc s.tc).tc), hsB D (roN k HL) (roN k HW1) (roN k HW2) (khS k hs s)] : List va_W).flatten, ([chipB D M y1 y2 t.v t.f t.g t.r t.av t.mk t.cm t.ar t.fl t.en t.la t.zs t.se t.ph t.tk t.pc t.rc t.wc t.bc t.tc, buB D b0 b1 b2 b3 bw en tb sh n0, orB D u0 u1 nu lt br le] : List va_W).flatten] : List va_W).flatten) := by
  refine r_enterI (by decide) (Nat.le_of_ble_eq_true rfl) ?_
  intro p e st m args below meth c ls A X hret hk hw hl
  have X : CX D p m c cX6_heal 3 st args RX6 A := X
  have hx := X.1.1
  have hb := X.1.2.1
  have hown := X.1.2.2.2.1
  have hts := X.1.2.2.2.2
  have hl : lv_has ls 3 [(0, .ref o), (1, .int (nI i)), (2, .int (nI q))] := hl
  refine lv_iload_n hx hb dX6_heal_0 rfl (lv_at hl 1 rfl) ?_
  refine lv_iload_n hx hb dX6_heal_1 rfl (lv_at hl 2 rfl) ?_
  refine r_callS X hw (ws' := ([([xB D o ha ta (L 0) (M 0) b0 u0 (nI k) (rows4 HL) tx (nI T), chipB D L w1 w2 s.v s.f s.g s.r s.av s.mk s.cm s.ar s.fl s.en s.la s.zs s.se s.ph s.tk s.pc s.rc s.wc s.bc s.tc, hsB D HL HW1 HW2 hs] : List va_W).flatten, ([chipB D M y1 y2 t.v t.f t.g t.r t.av t.mk t.cm t.ar t.fl t.en t.la t.zs t.se t.ph t.tk t.pc t.rc t.wc t.bc t.tc, buB D b0 b1 b2 b3 bw en tb sh n0, orB D u0 u1 nu lt br le] : List va_W).flatten] : List va_W).flatten) (As := [.int (nI i), .int (nI q)]) (rest := []) lk_X6_105 (c_X6_isCell l D _ (nI i) (nI q)) Foc.nil rfl hl.1 (Nat.le_of_ble_eq_true rfl) ⟨Nat.le_of_ble_eq_true rfl, Nat.le_of_ble_eq_true rfl⟩ rfl dX6_heal_2 ⟨Nat.le_refl _, Nat.le_refl _⟩ (fun H locs hw => ?_)
  refine lv_if_ne (tgt := 11) hx hb dX6_heal_5 (by decide) (fun _ => ?_) (fun h => absurd h h9)
  refine lv_aload_n hx hb dX6_heal_11 rfl (lv_at hl 0 rfl) ?_
  refine r_get X hw (v := .ref (L 0)) fl_X6_10 (m_fl 0 rfl (m_fl 0 rfl (m_at 0 rfl))) rfl dX6_heal_12 ?_
  refine r_get X hw (v := .ref (L 1)) fl_X6_108 (m_fl 0 rfl (m_fl 1 rfl (m_fl 0 rfl (m_at 0 rfl)))) rfl dX6_heal_15 ?_
  refine lv_iload_n hx hb dX6_heal_18 rfl (lv_at hl 1 rfl) ?_
  refine lv_iload_n hx hb dX6_heal_19 rfl (lv_at hl 2 rfl) ?_
  refine r_callV X hw (ws' := ([([xB D o ha ta (L 0) (M 0) b0 u0 (nI k) (rows4 HL) tx (nI T), chipB D L w1 w2 s.v s.f s.g s.r s.av s.mk s.cm s.ar s.fl s.en s.la s.zs s.se s.ph s.tk s.pc s.rc s.wc s.bc s.tc, hsB D HL HW1 HW2 hs] : List va_W).flatten, ([chipB D M y1 y2 t.v t.f t.g t.r t.av t.mk t.cm t.ar t.fl t.en t.la t.zs t.se t.ph t.tk t.pc t.rc t.wc t.bc t.tc, buB D b0 b1 b2 b3 bw en tb sh n0, orB D u0 u1 nu lt br le] : List va_W).flatten] : List va_W).flatten) (As := [.int (nI i), .int (nI q)]) (rest := []) lk_X6_112 (c_X5_hasFailed l D _ (L 1) (L 2) (L 3) (L 4) (L 5) s.v s.f s.g s.r i q (by omega) (by omega)) (Foc.trans (Foc.at1 0 rfl rfl (ce rfl rfl)) (Foc.trans (Foc.at1 1 rfl rfl (ce rfl (ce rfl rfl))) (Foc.at1 1 rfl rfl (ce rfl (ce rfl (ce rfl (ce rfl rfl))))))) (m_fl 0 rfl (m_fl 1 rfl (m_fl 1 rfl (m_at 0 rfl)))) rfl hl.1 (Nat.le_of_ble_eq_true rfl) ⟨Nat.le_of_ble_eq_true rfl, Nat.le_of_ble_eq_true rfl⟩ rfl dX6_heal_20 ⟨Nat.le_refl _, Nat.le_refl _⟩ (fun H locs hw => ?_)
  refine lv_if_ne (tgt := 29) hx hb dX6_heal_23 (by decide) (fun _ => ?_) (fun h => absurd h h7)
  refine lv_aload_n hx hb dX6_heal_29 rfl (lv_at hl 0 rfl) ?_
  refine r_callVv X hw (ws' := ([([xB D o ha ta (L 0) (M 0) b0 u0 (nI (khN k)) (rows4 (roN k HL)) tx (nI T), chipB D L w1 w2 s.v s.f s.g s.r s.av s.mk s.cm s.ar s.fl s.en s.la s.zs s.se s.ph s.tk s.pc s.rc s.wc s.bc s.tc, hsB D (roN k HL) (roN k HW1) (roN k HW2) (khS k hs s)] : List va_W).flatten, ([chipB D M y1 y2 t.v t.f t.g t.r t.av t.mk t.cm t.ar t.fl t.en t.la t.zs t.se t.ph t.tk t.pc t.rc t.wc t.bc t.tc, buB D b0 b1 b2 b3 bw en tb sh n0, orB D u0 u1 nu lt br le] : List va_W).flatten] : List va_W).flatten) (As := []) (rest := []) lk_X6_46 (c_X6_keepState l D _ o ha ta (M 0) b0 u0 tx (nI T) L w1 w2 s HL HW1 HW2 hs k hk4) (Foc.at1 0 rfl rfl (ce rfl rfl)) (m_fl 0 rfl (m_fl 0 rfl (m_at 0 rfl))) rfl hl.1 (Nat.le_of_ble_eq_true rfl) ⟨Nat.le_of_ble_eq_true rfl, Nat.le_of_ble_eq_true rfl⟩ rfl dX6_heal_30 ⟨Nat.le_refl _, Nat.le_refl _⟩ (fun H locs hw => ?_)
  refine lv_aload_n hx hb dX6_heal_33 rfl (lv_at hl 0 rfl) ?_
  refine r_get X hw (v := .ref (L 0)) fl_X6_10 (m_fl 0 rfl (m_fl 0 rfl (m_at 0 rfl))) rfl dX6_heal_34 ?_
  refine r_get X hw (v := .ref (L 1)) fl_X6_108 (m_fl 0 rfl (m_fl 1 rfl (m_fl 0 rfl (m_at 0 rfl)))) rfl dX6_heal_37 ?_
  refine lv_iload_n hx hb dX6_heal_40 rfl (lv_at hl 1 rfl) ?_
  refine lv_iload_n hx hb dX6_heal_41 rfl (lv_at hl 2 rfl) ?_
  refine r_callVv X hw (ws' := ([([xB D o ha ta (L 0) (M 0) b0 u0 (nI (khN k)) (rows4 (roN k HL)) tx (nI T), chipB D L w1 w2 s.v ((sp_X5_healCell s.f s.g i q).1) ((sp_X5_healCell s.f s.g i q).2) s.r s.av s.mk s.cm s.ar s.fl s.en s.la s.zs s.se s.ph s.tk s.pc s.rc s.wc s.bc s.tc, hsB D (roN k HL) (roN k HW1) (roN k HW2) (khS k hs s)] : List va_W).flatten, ([chipB D M y1 y2 t.v t.f t.g t.r t.av t.mk t.cm t.ar t.fl t.en t.la t.zs t.se t.ph t.tk t.pc t.rc t.wc t.bc t.tc, buB D b0 b1 b2 b3 bw en tb sh n0, orB D u0 u1 nu lt br le] : List va_W).flatten] : List va_W).flatten) (As := [.int (nI i), .int (nI q)]) (rest := []) lk_X6_121 (c_X5_healCell l D _ (L 1) (L 2) (L 3) (L 4) (L 5) s.v s.f s.g s.r i q (by omega) (by omega)) (Foc.trans (Foc.at1 0 rfl rfl (ce rfl rfl)) (Foc.trans (Foc.at1 1 rfl rfl (ce rfl (ce rfl rfl))) (Foc.at1 1 rfl rfl (ce rfl (ce rfl (ce rfl (ce rfl rfl))))))) (m_fl 0 rfl (m_fl 1 rfl (m_fl 1 rfl (m_at 0 rfl)))) rfl hl.1 (Nat.le_of_ble_eq_true rfl) ⟨Nat.le_of_ble_eq_true rfl, Nat.le_of_ble_eq_true rfl⟩ rfl dX6_heal_42 ⟨Nat.le_refl _, Nat.le_refl _⟩ (fun H locs hw => ?_)
  refine lv_aload_n hx hb dX6_heal_45 rfl (lv_at hl 0 rfl) ?_
  refine r_get X hw (v := .ref (L 0)) fl_X6_10 (m_fl 0 rfl (m_fl 0 rfl (m_at 0 rfl))) rfl dX6_heal_46 ?_
  refine r_get X hw (v := .ref (L 1)) fl_X6_108 (m_fl 0 rfl (m_fl 1 rfl (m_fl 0 rfl (m_at 0 rfl)))) rfl dX6_heal_49 ?_
  refine r_callV X hw (ws' := ([([xB D o ha ta (L 0) (M 0) b0 u0 (nI (khN k)) (rows4 (roN k HL)) tx (nI T), chipB D L w1 w2 s.v ((sp_X5_healCell s.f s.g i q).1) ((sp_X5_healCell s.f s.g i q).2) s.r s.av s.mk s.cm s.ar s.fl s.en s.la s.zs s.se s.ph s.tk s.pc s.rc s.wc s.bc s.tc, hsB D (roN k HL) (roN k HW1) (roN k HW2) (khS k hs s)] : List va_W).flatten, ([chipB D M y1 y2 t.v t.f t.g t.r t.av t.mk t.cm t.ar t.fl t.en t.la t.zs t.se t.ph t.tk t.pc t.rc t.wc t.bc t.tc, buB D b0 b1 b2 b3 bw en tb sh n0, orB D u0 u1 nu lt br le] : List va_W).flatten] : List va_W).flatten) (As := []) (rest := []) lk_X6_125 (c_X5_failedCells l D _ (L 1) (L 2) (L 3) (L 4) (L 5) s.v ((sp_X5_healCell s.f s.g i q).1) ((sp_X5_healCell s.f s.g i q).2) s.r) (Foc.trans (Foc.at1 0 rfl rfl (ce rfl rfl)) (Foc.trans (Foc.at1 1 rfl rfl (ce rfl (ce rfl rfl))) (Foc.at1 1 rfl rfl (ce rfl (ce rfl (ce rfl (ce rfl rfl))))))) (m_fl 0 rfl (m_fl 1 rfl (m_fl 1 rfl (m_at 0 rfl)))) rfl hl.1 (Nat.le_of_ble_eq_true rfl) ⟨Nat.le_of_ble_eq_true rfl, Nat.le_of_ble_eq_true rfl⟩ rfl dX6_heal_52 ⟨Nat.le_refl _, Nat.le_refl _⟩ (fun H locs hw => ?_)
  exact r_ret X hw hk hret rfl rfl rfl dX6_heal_55

set_option maxRecDepth 100000 in
set_option maxHeartbeats 4000000 in
theorem c_X6_healN (l : Launch) (D : va_G) (sz : Nat) (o ha ta : Nat) (L w1 w2 M y1 y2 : Nat → Nat) (HL HW1 HW2 : Nat → Nat → Nat) (b0 b1 b2 b3 : Nat) (bw : Nat → Nat) (u0 u1 : Nat) (tx : Row) (T : Nat) (s t : ChS) (hs : Nat → ChS) (en tb : Row) (sh : Nat → Row) (n0 : Int32) (nu : Row) (lt br le : Int32) (k : Nat) (hk4 : k ≤ 4) (hT : T ≤ 60) (i q : Nat) (hi : i < 7) (hq8 : q < 8) (h9 : ¬ sp_X6_isCell (nI i) (nI q) = 0) (h7 : sp_X5_hasFailed s.f i q = 0) : MI l yX6_heal cX6_heal 3 (some .int) 3 63 D sz [.ref o, .int (nI i), .int (nI q)] (([([xB D o ha ta (L 0) (M 0) b0 u0 (nI k) (rows4 HL) tx (nI T), chipB D L w1 w2 s.v s.f s.g s.r s.av s.mk s.cm s.ar s.fl s.en s.la s.zs s.se s.ph s.tk s.pc s.rc s.wc s.bc s.tc, hsB D HL HW1 HW2 hs] : List va_W).flatten, ([chipB D M y1 y2 t.v t.f t.g t.r t.av t.mk t.cm t.ar t.fl t.en t.la t.zs t.se t.ph t.tk t.pc t.rc t.wc t.bc t.tc, buB D b0 b1 b2 b3 bw en tb sh n0, orB D u0 u1 nu lt br le] : List va_W).flatten] : List va_W).flatten) (-1000002) (([([xB D o ha ta (L 0) (M 0) b0 u0 (nI k) (rows4 HL) tx (nI T), chipB D L w1 w2 s.v s.f s.g s.r s.av s.mk s.cm s.ar s.fl s.en s.la s.zs s.se s.ph s.tk s.pc s.rc s.wc s.bc s.tc, hsB D HL HW1 HW2 hs] : List va_W).flatten, ([chipB D M y1 y2 t.v t.f t.g t.r t.av t.mk t.cm t.ar t.fl t.en t.la t.zs t.se t.ph t.tk t.pc t.rc t.wc t.bc t.tc, buB D b0 b1 b2 b3 bw en tb sh n0, orB D u0 u1 nu lt br le] : List va_W).flatten] : List va_W).flatten) := by
  refine r_enterI (by decide) (Nat.le_of_ble_eq_true rfl) ?_
  intro p e st m args below meth c ls A X hret hk hw hl
  have X : CX D p m c cX6_heal 3 st args RX6 A := X
  have hx := X.1.1
  have hb := X.1.2.1
  have hown := X.1.2.2.2.1
  have hts := X.1.2.2.2.2
  have hl : lv_has ls 3 [(0, .ref o), (1, .int (nI i)), (2, .int (nI q))] := hl
  refine lv_iload_n hx hb dX6_heal_0 rfl (lv_at hl 1 rfl) ?_
  refine lv_iload_n hx hb dX6_heal_1 rfl (lv_at hl 2 rfl) ?_
  refine r_callS X hw (ws' := ([([xB D o ha ta (L 0) (M 0) b0 u0 (nI k) (rows4 HL) tx (nI T), chipB D L w1 w2 s.v s.f s.g s.r s.av s.mk s.cm s.ar s.fl s.en s.la s.zs s.se s.ph s.tk s.pc s.rc s.wc s.bc s.tc, hsB D HL HW1 HW2 hs] : List va_W).flatten, ([chipB D M y1 y2 t.v t.f t.g t.r t.av t.mk t.cm t.ar t.fl t.en t.la t.zs t.se t.ph t.tk t.pc t.rc t.wc t.bc t.tc, buB D b0 b1 b2 b3 bw en tb sh n0, orB D u0 u1 nu lt br le] : List va_W).flatten] : List va_W).flatten) (As := [.int (nI i), .int (nI q)]) (rest := []) lk_X6_105 (c_X6_isCell l D _ (nI i) (nI q)) Foc.nil rfl hl.1 (Nat.le_of_ble_eq_true rfl) ⟨Nat.le_of_ble_eq_true rfl, Nat.le_of_ble_eq_true rfl⟩ rfl dX6_heal_2 ⟨Nat.le_refl _, Nat.le_refl _⟩ (fun H locs hw => ?_)
  refine lv_if_ne (tgt := 11) hx hb dX6_heal_5 (by decide) (fun _ => ?_) (fun h => absurd h h9)
  refine lv_aload_n hx hb dX6_heal_11 rfl (lv_at hl 0 rfl) ?_
  refine r_get X hw (v := .ref (L 0)) fl_X6_10 (m_fl 0 rfl (m_fl 0 rfl (m_at 0 rfl))) rfl dX6_heal_12 ?_
  refine r_get X hw (v := .ref (L 1)) fl_X6_108 (m_fl 0 rfl (m_fl 1 rfl (m_fl 0 rfl (m_at 0 rfl)))) rfl dX6_heal_15 ?_
  refine lv_iload_n hx hb dX6_heal_18 rfl (lv_at hl 1 rfl) ?_
  refine lv_iload_n hx hb dX6_heal_19 rfl (lv_at hl 2 rfl) ?_
  refine r_callV X hw (ws' := ([([xB D o ha ta (L 0) (M 0) b0 u0 (nI k) (rows4 HL) tx (nI T), chipB D L w1 w2 s.v s.f s.g s.r s.av s.mk s.cm s.ar s.fl s.en s.la s.zs s.se s.ph s.tk s.pc s.rc s.wc s.bc s.tc, hsB D HL HW1 HW2 hs] : List va_W).flatten, ([chipB D M y1 y2 t.v t.f t.g t.r t.av t.mk t.cm t.ar t.fl t.en t.la t.zs t.se t.ph t.tk t.pc t.rc t.wc t.bc t.tc, buB D b0 b1 b2 b3 bw en tb sh n0, orB D u0 u1 nu lt br le] : List va_W).flatten] : List va_W).flatten) (As := [.int (nI i), .int (nI q)]) (rest := []) lk_X6_112 (c_X5_hasFailed l D _ (L 1) (L 2) (L 3) (L 4) (L 5) s.v s.f s.g s.r i q (by omega) (by omega)) (Foc.trans (Foc.at1 0 rfl rfl (ce rfl rfl)) (Foc.trans (Foc.at1 1 rfl rfl (ce rfl (ce rfl rfl))) (Foc.at1 1 rfl rfl (ce rfl (ce rfl (ce rfl (ce rfl rfl))))))) (m_fl 0 rfl (m_fl 1 rfl (m_fl 1 rfl (m_at 0 rfl)))) rfl hl.1 (Nat.le_of_ble_eq_true rfl) ⟨Nat.le_of_ble_eq_true rfl, Nat.le_of_ble_eq_true rfl⟩ rfl dX6_heal_20 ⟨Nat.le_refl _, Nat.le_refl _⟩ (fun H locs hw => ?_)
  refine lv_if_ne (tgt := 29) hx hb dX6_heal_23 (by decide) (fun h => absurd h7 h) (fun _ => ?_)
  refine lv_ldc (v := (-1000002)) hx hb hown (hts _ kc_X6_117) dX6_heal_26 ?_
  exact r_ret X hw hk hret rfl rfl rfl dX6_heal_28

set_option maxRecDepth 100000 in
set_option maxHeartbeats 4000000 in
theorem c_X6_healB (l : Launch) (D : va_G) (sz : Nat) (o ha ta : Nat) (L w1 w2 M y1 y2 : Nat → Nat) (HL HW1 HW2 : Nat → Nat → Nat) (b0 b1 b2 b3 : Nat) (bw : Nat → Nat) (u0 u1 : Nat) (tx : Row) (T : Nat) (s t : ChS) (hs : Nat → ChS) (en tb : Row) (sh : Nat → Row) (n0 : Int32) (nu : Row) (lt br le : Int32) (k : Nat) (hk4 : k ≤ 4) (hT : T ≤ 60) (x y : Int32) (h9 : sp_X6_isCell x y = 0) : MI l yX6_heal cX6_heal 3 (some .int) 3 63 D sz [.ref o, .int x, .int y] (([([xB D o ha ta (L 0) (M 0) b0 u0 (nI k) (rows4 HL) tx (nI T), chipB D L w1 w2 s.v s.f s.g s.r s.av s.mk s.cm s.ar s.fl s.en s.la s.zs s.se s.ph s.tk s.pc s.rc s.wc s.bc s.tc, hsB D HL HW1 HW2 hs] : List va_W).flatten, ([chipB D M y1 y2 t.v t.f t.g t.r t.av t.mk t.cm t.ar t.fl t.en t.la t.zs t.se t.ph t.tk t.pc t.rc t.wc t.bc t.tc, buB D b0 b1 b2 b3 bw en tb sh n0, orB D u0 u1 nu lt br le] : List va_W).flatten] : List va_W).flatten) (-1000001) (([([xB D o ha ta (L 0) (M 0) b0 u0 (nI k) (rows4 HL) tx (nI T), chipB D L w1 w2 s.v s.f s.g s.r s.av s.mk s.cm s.ar s.fl s.en s.la s.zs s.se s.ph s.tk s.pc s.rc s.wc s.bc s.tc, hsB D HL HW1 HW2 hs] : List va_W).flatten, ([chipB D M y1 y2 t.v t.f t.g t.r t.av t.mk t.cm t.ar t.fl t.en t.la t.zs t.se t.ph t.tk t.pc t.rc t.wc t.bc t.tc, buB D b0 b1 b2 b3 bw en tb sh n0, orB D u0 u1 nu lt br le] : List va_W).flatten] : List va_W).flatten) := by
  refine r_enterI (by decide) (Nat.le_of_ble_eq_true rfl) ?_
  intro p e st m args below meth c ls A X hret hk hw hl
  have X : CX D p m c cX6_heal 3 st args RX6 A := X
  have hx := X.1.1
  have hb := X.1.2.1
  have hown := X.1.2.2.2.1
  have hts := X.1.2.2.2.2
  have hl : lv_has ls 3 [(0, .ref o), (1, .int x), (2, .int y)] := hl
  refine lv_iload_n hx hb dX6_heal_0 rfl (lv_at hl 1 rfl) ?_
  refine lv_iload_n hx hb dX6_heal_1 rfl (lv_at hl 2 rfl) ?_
  refine r_callS X hw (ws' := ([([xB D o ha ta (L 0) (M 0) b0 u0 (nI k) (rows4 HL) tx (nI T), chipB D L w1 w2 s.v s.f s.g s.r s.av s.mk s.cm s.ar s.fl s.en s.la s.zs s.se s.ph s.tk s.pc s.rc s.wc s.bc s.tc, hsB D HL HW1 HW2 hs] : List va_W).flatten, ([chipB D M y1 y2 t.v t.f t.g t.r t.av t.mk t.cm t.ar t.fl t.en t.la t.zs t.se t.ph t.tk t.pc t.rc t.wc t.bc t.tc, buB D b0 b1 b2 b3 bw en tb sh n0, orB D u0 u1 nu lt br le] : List va_W).flatten] : List va_W).flatten) (As := [.int x, .int y]) (rest := []) lk_X6_105 (c_X6_isCell l D _ x y) Foc.nil rfl hl.1 (Nat.le_of_ble_eq_true rfl) ⟨Nat.le_of_ble_eq_true rfl, Nat.le_of_ble_eq_true rfl⟩ rfl dX6_heal_2 ⟨Nat.le_refl _, Nat.le_refl _⟩ (fun H locs hw => ?_)
  refine lv_if_ne (tgt := 11) hx hb dX6_heal_5 (by decide) (fun h => absurd h9 h) (fun _ => ?_)
  refine lv_ldc (v := (-1000001)) hx hb hown (hts _ kc_X6_45) dX6_heal_8 ?_
  exact r_ret X hw hk hret rfl rfl rfl dX6_heal_10

set_option maxRecDepth 100000 in
set_option maxHeartbeats 4000000 in
theorem c_X6_set (l : Launch) (D : va_G) (sz : Nat) (o ha ta : Nat) (L w1 w2 M y1 y2 : Nat → Nat) (HL HW1 HW2 : Nat → Nat → Nat) (b0 b1 b2 b3 : Nat) (bw : Nat → Nat) (u0 u1 : Nat) (tx : Row) (T : Nat) (s t : ChS) (hs : Nat → ChS) (en tb : Row) (sh : Nat → Row) (n0 : Int32) (nu : Row) (lt br le : Int32) (k : Nat) (hk4 : k ≤ 4) (hT : T ≤ 60) (i : Nat) (y : Int32) (hi : i < 3) (h9 : ¬ sp_X6_isWithin (nI i) 0 2 = 0) (h8 : ¬ sp_X6_isWithin y (kf k_least i) (kf k_most i) = 0) : MI l yX6_set cX6_set 3 (some .int) 4 125 D sz [.ref o, .int (nI i), .int y] (([([xB D o ha ta (L 0) (M 0) b0 u0 (nI k) (rows4 HL) tx (nI T), chipB D L w1 w2 s.v s.f s.g s.r s.av s.mk s.cm s.ar s.fl s.en s.la s.zs s.se s.ph s.tk s.pc s.rc s.wc s.bc s.tc, hsB D HL HW1 HW2 hs] : List va_W).flatten, ([chipB D M y1 y2 t.v t.f t.g t.r t.av t.mk t.cm t.ar t.fl t.en t.la t.zs t.se t.ph t.tk t.pc t.rc t.wc t.bc t.tc, buB D b0 b1 b2 b3 bw en tb sh n0, orB D u0 u1 nu lt br le] : List va_W).flatten] : List va_W).flatten) ((sp_X3_changeSetting s i y).1) (([([xB D o ha ta (L 0) (M 0) b0 u0 (nI (khN k)) (rows4 (roN k HL)) tx (nI T), chipB D L w1 w2 (((sp_X3_changeSetting s i y).2).v) (((sp_X3_changeSetting s i y).2).f) (((sp_X3_changeSetting s i y).2).g) (((sp_X3_changeSetting s i y).2).r) (((sp_X3_changeSetting s i y).2).av) (((sp_X3_changeSetting s i y).2).mk) (((sp_X3_changeSetting s i y).2).cm) (((sp_X3_changeSetting s i y).2).ar) (((sp_X3_changeSetting s i y).2).fl) (((sp_X3_changeSetting s i y).2).en) (((sp_X3_changeSetting s i y).2).la) (((sp_X3_changeSetting s i y).2).zs) (((sp_X3_changeSetting s i y).2).se) (((sp_X3_changeSetting s i y).2).ph) (((sp_X3_changeSetting s i y).2).tk) (((sp_X3_changeSetting s i y).2).pc) (((sp_X3_changeSetting s i y).2).rc) (((sp_X3_changeSetting s i y).2).wc) (((sp_X3_changeSetting s i y).2).bc) (((sp_X3_changeSetting s i y).2).tc), hsB D (roN k HL) (roN k HW1) (roN k HW2) (khS k hs s)] : List va_W).flatten, ([chipB D M y1 y2 t.v t.f t.g t.r t.av t.mk t.cm t.ar t.fl t.en t.la t.zs t.se t.ph t.tk t.pc t.rc t.wc t.bc t.tc, buB D b0 b1 b2 b3 bw en tb sh n0, orB D u0 u1 nu lt br le] : List va_W).flatten] : List va_W).flatten) := by
  refine r_enterI (by decide) (Nat.le_of_ble_eq_true rfl) ?_
  intro p e st m args below meth c ls A X hret hk hw hl
  have X : CX D p m c cX6_set 3 st args RX6 A := X
  have hx := X.1.1
  have hb := X.1.2.1
  have hown := X.1.2.2.2.1
  have hts := X.1.2.2.2.2
  have hl : lv_has ls 3 [(0, .ref o), (1, .int (nI i)), (2, .int y)] := hl
  refine lv_iload_n hx hb dX6_set_0 rfl (lv_at hl 1 rfl) ?_
  refine lv_iconst (v := 0) hx hb dX6_set_1 (by decide) ?_
  refine lv_iconst (v := 2) hx hb dX6_set_2 (by decide) ?_
  refine r_callS X hw (ws' := ([([xB D o ha ta (L 0) (M 0) b0 u0 (nI k) (rows4 HL) tx (nI T), chipB D L w1 w2 s.v s.f s.g s.r s.av s.mk s.cm s.ar s.fl s.en s.la s.zs s.se s.ph s.tk s.pc s.rc s.wc s.bc s.tc, hsB D HL HW1 HW2 hs] : List va_W).flatten, ([chipB D M y1 y2 t.v t.f t.g t.r t.av t.mk t.cm t.ar t.fl t.en t.la t.zs t.se t.ph t.tk t.pc t.rc t.wc t.bc t.tc, buB D b0 b1 b2 b3 bw en tb sh n0, orB D u0 u1 nu lt br le] : List va_W).flatten] : List va_W).flatten) (As := [.int (nI i), .int 0, .int 2]) (rest := []) lk_X6_95 (c_X6_isWithin l D _ (nI i) 0 2) Foc.nil rfl hl.1 (Nat.le_of_ble_eq_true rfl) ⟨Nat.le_of_ble_eq_true rfl, Nat.le_of_ble_eq_true rfl⟩ rfl dX6_set_3 ⟨Nat.le_refl _, Nat.le_refl _⟩ (fun H locs hw => ?_)
  refine lv_if_eq (tgt := 26) hx hb dX6_set_6 (by decide) (fun h => absurd h h9) (fun _ => ?_)
  refine lv_iload_n hx hb dX6_set_9 rfl (lv_at hl 2 rfl) ?_
  refine r_gets X hw X.2.2.1.2.2.1 sw_X6_129 dX6_set_10 (fun t1 ht1 => ?_)
  refine lv_iload_n hx hb dX6_set_13 rfl (lv_at hl 1 rfl) ?_
  refine r_tiald X hw i ht1 rfl (show i < 3 from by omega) (by decide) dX6_set_14 ?_
  refine r_gets X hw X.2.2.1.2.2.2.1 sw_X6_132 dX6_set_15 (fun t2 ht2 => ?_)
  refine lv_iload_n hx hb dX6_set_18 rfl (lv_at hl 1 rfl) ?_
  refine r_tiald X hw i ht2 rfl (show i < 3 from by omega) (by decide) dX6_set_19 ?_
  refine r_callS X hw (ws' := ([([xB D o ha ta (L 0) (M 0) b0 u0 (nI k) (rows4 HL) tx (nI T), chipB D L w1 w2 s.v s.f s.g s.r s.av s.mk s.cm s.ar s.fl s.en s.la s.zs s.se s.ph s.tk s.pc s.rc s.wc s.bc s.tc, hsB D HL HW1 HW2 hs] : List va_W).flatten, ([chipB D M y1 y2 t.v t.f t.g t.r t.av t.mk t.cm t.ar t.fl t.en t.la t.zs t.se t.ph t.tk t.pc t.rc t.wc t.bc t.tc, buB D b0 b1 b2 b3 bw en tb sh n0, orB D u0 u1 nu lt br le] : List va_W).flatten] : List va_W).flatten) (As := [.int y, .int (kf k_least i), .int (kf k_most i)]) (rest := []) lk_X6_95 (c_X6_isWithin l D _ y (kf k_least i) (kf k_most i)) Foc.nil rfl hl.1 (Nat.le_of_ble_eq_true rfl) ⟨Nat.le_of_ble_eq_true rfl, Nat.le_of_ble_eq_true rfl⟩ rfl dX6_set_20 ⟨Nat.le_refl _, Nat.le_refl _⟩ (fun H locs hw => ?_)
  refine lv_if_ne (tgt := 29) hx hb dX6_set_23 (by decide) (fun _ => ?_) (fun h => absurd h h8)
  refine lv_aload_n hx hb dX6_set_29 rfl (lv_at hl 0 rfl) ?_
  refine r_callVv X hw (ws' := ([([xB D o ha ta (L 0) (M 0) b0 u0 (nI (khN k)) (rows4 (roN k HL)) tx (nI T), chipB D L w1 w2 s.v s.f s.g s.r s.av s.mk s.cm s.ar s.fl s.en s.la s.zs s.se s.ph s.tk s.pc s.rc s.wc s.bc s.tc, hsB D (roN k HL) (roN k HW1) (roN k HW2) (khS k hs s)] : List va_W).flatten, ([chipB D M y1 y2 t.v t.f t.g t.r t.av t.mk t.cm t.ar t.fl t.en t.la t.zs t.se t.ph t.tk t.pc t.rc t.wc t.bc t.tc, buB D b0 b1 b2 b3 bw en tb sh n0, orB D u0 u1 nu lt br le] : List va_W).flatten] : List va_W).flatten) (As := []) (rest := []) lk_X6_46 (c_X6_keepState l D _ o ha ta (M 0) b0 u0 tx (nI T) L w1 w2 s HL HW1 HW2 hs k hk4) (Foc.at1 0 rfl rfl (ce rfl rfl)) (m_fl 0 rfl (m_fl 0 rfl (m_at 0 rfl))) rfl hl.1 (Nat.le_of_ble_eq_true rfl) ⟨Nat.le_of_ble_eq_true rfl, Nat.le_of_ble_eq_true rfl⟩ rfl dX6_set_30 ⟨Nat.le_refl _, Nat.le_refl _⟩ (fun H locs hw => ?_)
  refine lv_aload_n hx hb dX6_set_33 rfl (lv_at hl 0 rfl) ?_
  refine r_get X hw (v := .ref (L 0)) fl_X6_10 (m_fl 0 rfl (m_fl 0 rfl (m_at 0 rfl))) rfl dX6_set_34 ?_
  refine lv_iload_n hx hb dX6_set_37 rfl (lv_at hl 1 rfl) ?_
  refine lv_iload_n hx hb dX6_set_38 rfl (lv_at hl 2 rfl) ?_
  refine r_callV X hw (ws' := ([([xB D o ha ta (L 0) (M 0) b0 u0 (nI (khN k)) (rows4 (roN k HL)) tx (nI T), chipB D L w1 w2 (((sp_X3_changeSetting s i y).2).v) (((sp_X3_changeSetting s i y).2).f) (((sp_X3_changeSetting s i y).2).g) (((sp_X3_changeSetting s i y).2).r) (((sp_X3_changeSetting s i y).2).av) (((sp_X3_changeSetting s i y).2).mk) (((sp_X3_changeSetting s i y).2).cm) (((sp_X3_changeSetting s i y).2).ar) (((sp_X3_changeSetting s i y).2).fl) (((sp_X3_changeSetting s i y).2).en) (((sp_X3_changeSetting s i y).2).la) (((sp_X3_changeSetting s i y).2).zs) (((sp_X3_changeSetting s i y).2).se) (((sp_X3_changeSetting s i y).2).ph) (((sp_X3_changeSetting s i y).2).tk) (((sp_X3_changeSetting s i y).2).pc) (((sp_X3_changeSetting s i y).2).rc) (((sp_X3_changeSetting s i y).2).wc) (((sp_X3_changeSetting s i y).2).bc) (((sp_X3_changeSetting s i y).2).tc), hsB D (roN k HL) (roN k HW1) (roN k HW2) (khS k hs s)] : List va_W).flatten, ([chipB D M y1 y2 t.v t.f t.g t.r t.av t.mk t.cm t.ar t.fl t.en t.la t.zs t.se t.ph t.tk t.pc t.rc t.wc t.bc t.tc, buB D b0 b1 b2 b3 bw en tb sh n0, orB D u0 u1 nu lt br le] : List va_W).flatten] : List va_W).flatten) (As := [.int (nI i), .int y]) (rest := []) lk_X6_135 (c_X3_changeSetting l D _ L w1 w2 s i y (by omega)) (Foc.trans (Foc.at1 0 rfl rfl (ce rfl rfl)) (Foc.at1 1 rfl rfl (ce rfl (ce rfl rfl)))) (m_fl 0 rfl (m_fl 1 rfl (m_fl 0 rfl (m_at 0 rfl)))) rfl hl.1 (Nat.le_of_ble_eq_true rfl) ⟨Nat.le_of_ble_eq_true rfl, Nat.le_of_ble_eq_true rfl⟩ rfl dX6_set_39 ⟨Nat.le_refl _, Nat.le_refl _⟩ (fun H locs hw => ?_)
  exact r_ret X hw hk hret rfl rfl rfl dX6_set_42

set_option maxRecDepth 100000 in
set_option maxHeartbeats 4000000 in
theorem c_X6_setB (l : Launch) (D : va_G) (sz : Nat) (o ha ta : Nat) (L w1 w2 M y1 y2 : Nat → Nat) (HL HW1 HW2 : Nat → Nat → Nat) (b0 b1 b2 b3 : Nat) (bw : Nat → Nat) (u0 u1 : Nat) (tx : Row) (T : Nat) (s t : ChS) (hs : Nat → ChS) (en tb : Row) (sh : Nat → Row) (n0 : Int32) (nu : Row) (lt br le : Int32) (k : Nat) (hk4 : k ≤ 4) (hT : T ≤ 60) (x y : Int32) (h9 : sp_X6_isWithin x 0 2 = 0) : MI l yX6_set cX6_set 3 (some .int) 1 22 D sz [.ref o, .int x, .int y] (([([xB D o ha ta (L 0) (M 0) b0 u0 (nI k) (rows4 HL) tx (nI T), chipB D L w1 w2 s.v s.f s.g s.r s.av s.mk s.cm s.ar s.fl s.en s.la s.zs s.se s.ph s.tk s.pc s.rc s.wc s.bc s.tc, hsB D HL HW1 HW2 hs] : List va_W).flatten, ([chipB D M y1 y2 t.v t.f t.g t.r t.av t.mk t.cm t.ar t.fl t.en t.la t.zs t.se t.ph t.tk t.pc t.rc t.wc t.bc t.tc, buB D b0 b1 b2 b3 bw en tb sh n0, orB D u0 u1 nu lt br le] : List va_W).flatten] : List va_W).flatten) (-1000001) (([([xB D o ha ta (L 0) (M 0) b0 u0 (nI k) (rows4 HL) tx (nI T), chipB D L w1 w2 s.v s.f s.g s.r s.av s.mk s.cm s.ar s.fl s.en s.la s.zs s.se s.ph s.tk s.pc s.rc s.wc s.bc s.tc, hsB D HL HW1 HW2 hs] : List va_W).flatten, ([chipB D M y1 y2 t.v t.f t.g t.r t.av t.mk t.cm t.ar t.fl t.en t.la t.zs t.se t.ph t.tk t.pc t.rc t.wc t.bc t.tc, buB D b0 b1 b2 b3 bw en tb sh n0, orB D u0 u1 nu lt br le] : List va_W).flatten] : List va_W).flatten) := by
  refine r_enterI (by decide) (Nat.le_of_ble_eq_true rfl) ?_
  intro p e st m args below meth c ls A X hret hk hw hl
  have X : CX D p m c cX6_set 3 st args RX6 A := X
  have hx := X.1.1
  have hb := X.1.2.1
  have hown := X.1.2.2.2.1
  have hts := X.1.2.2.2.2
  have hl : lv_has ls 3 [(0, .ref o), (1, .int x), (2, .int y)] := hl
  refine lv_iload_n hx hb dX6_set_0 rfl (lv_at hl 1 rfl) ?_
  refine lv_iconst (v := 0) hx hb dX6_set_1 (by decide) ?_
  refine lv_iconst (v := 2) hx hb dX6_set_2 (by decide) ?_
  refine r_callS X hw (ws' := ([([xB D o ha ta (L 0) (M 0) b0 u0 (nI k) (rows4 HL) tx (nI T), chipB D L w1 w2 s.v s.f s.g s.r s.av s.mk s.cm s.ar s.fl s.en s.la s.zs s.se s.ph s.tk s.pc s.rc s.wc s.bc s.tc, hsB D HL HW1 HW2 hs] : List va_W).flatten, ([chipB D M y1 y2 t.v t.f t.g t.r t.av t.mk t.cm t.ar t.fl t.en t.la t.zs t.se t.ph t.tk t.pc t.rc t.wc t.bc t.tc, buB D b0 b1 b2 b3 bw en tb sh n0, orB D u0 u1 nu lt br le] : List va_W).flatten] : List va_W).flatten) (As := [.int x, .int 0, .int 2]) (rest := []) lk_X6_95 (c_X6_isWithin l D _ x 0 2) Foc.nil rfl hl.1 (Nat.le_of_ble_eq_true rfl) ⟨Nat.le_of_ble_eq_true rfl, Nat.le_of_ble_eq_true rfl⟩ rfl dX6_set_3 ⟨Nat.le_refl _, Nat.le_refl _⟩ (fun H locs hw => ?_)
  refine lv_if_eq (tgt := 26) hx hb dX6_set_6 (by decide) (fun _ => ?_) (fun h => absurd h9 h)
  refine lv_ldc (v := (-1000001)) hx hb hown (hts _ kc_X6_45) dX6_set_26 ?_
  exact r_ret X hw hk hret rfl rfl rfl dX6_set_28

set_option maxRecDepth 100000 in
set_option maxHeartbeats 4000000 in
theorem c_X6_setC (l : Launch) (D : va_G) (sz : Nat) (o ha ta : Nat) (L w1 w2 M y1 y2 : Nat → Nat) (HL HW1 HW2 : Nat → Nat → Nat) (b0 b1 b2 b3 : Nat) (bw : Nat → Nat) (u0 u1 : Nat) (tx : Row) (T : Nat) (s t : ChS) (hs : Nat → ChS) (en tb : Row) (sh : Nat → Row) (n0 : Int32) (nu : Row) (lt br le : Int32) (k : Nat) (hk4 : k ≤ 4) (hT : T ≤ 60) (i : Nat) (y : Int32) (hi : i < 3) (h9 : ¬ sp_X6_isWithin (nI i) 0 2 = 0) (h8 : sp_X6_isWithin y (kf k_least i) (kf k_most i) = 0) : MI l yX6_set cX6_set 3 (some .int) 1 22 D sz [.ref o, .int (nI i), .int y] (([([xB D o ha ta (L 0) (M 0) b0 u0 (nI k) (rows4 HL) tx (nI T), chipB D L w1 w2 s.v s.f s.g s.r s.av s.mk s.cm s.ar s.fl s.en s.la s.zs s.se s.ph s.tk s.pc s.rc s.wc s.bc s.tc, hsB D HL HW1 HW2 hs] : List va_W).flatten, ([chipB D M y1 y2 t.v t.f t.g t.r t.av t.mk t.cm t.ar t.fl t.en t.la t.zs t.se t.ph t.tk t.pc t.rc t.wc t.bc t.tc, buB D b0 b1 b2 b3 bw en tb sh n0, orB D u0 u1 nu lt br le] : List va_W).flatten] : List va_W).flatten) (-1000001) (([([xB D o ha ta (L 0) (M 0) b0 u0 (nI k) (rows4 HL) tx (nI T), chipB D L w1 w2 s.v s.f s.g s.r s.av s.mk s.cm s.ar s.fl s.en s.la s.zs s.se s.ph s.tk s.pc s.rc s.wc s.bc s.tc, hsB D HL HW1 HW2 hs] : List va_W).flatten, ([chipB D M y1 y2 t.v t.f t.g t.r t.av t.mk t.cm t.ar t.fl t.en t.la t.zs t.se t.ph t.tk t.pc t.rc t.wc t.bc t.tc, buB D b0 b1 b2 b3 bw en tb sh n0, orB D u0 u1 nu lt br le] : List va_W).flatten] : List va_W).flatten) := by
  refine r_enterI (by decide) (Nat.le_of_ble_eq_true rfl) ?_
  intro p e st m args below meth c ls A X hret hk hw hl
  have X : CX D p m c cX6_set 3 st args RX6 A := X
  have hx := X.1.1
  have hb := X.1.2.1
  have hown := X.1.2.2.2.1
  have hts := X.1.2.2.2.2
  have hl : lv_has ls 3 [(0, .ref o), (1, .int (nI i)), (2, .int y)] := hl
  refine lv_iload_n hx hb dX6_set_0 rfl (lv_at hl 1 rfl) ?_
  refine lv_iconst (v := 0) hx hb dX6_set_1 (by decide) ?_
  refine lv_iconst (v := 2) hx hb dX6_set_2 (by decide) ?_
  refine r_callS X hw (ws' := ([([xB D o ha ta (L 0) (M 0) b0 u0 (nI k) (rows4 HL) tx (nI T), chipB D L w1 w2 s.v s.f s.g s.r s.av s.mk s.cm s.ar s.fl s.en s.la s.zs s.se s.ph s.tk s.pc s.rc s.wc s.bc s.tc, hsB D HL HW1 HW2 hs] : List va_W).flatten, ([chipB D M y1 y2 t.v t.f t.g t.r t.av t.mk t.cm t.ar t.fl t.en t.la t.zs t.se t.ph t.tk t.pc t.rc t.wc t.bc t.tc, buB D b0 b1 b2 b3 bw en tb sh n0, orB D u0 u1 nu lt br le] : List va_W).flatten] : List va_W).flatten) (As := [.int (nI i), .int 0, .int 2]) (rest := []) lk_X6_95 (c_X6_isWithin l D _ (nI i) 0 2) Foc.nil rfl hl.1 (Nat.le_of_ble_eq_true rfl) ⟨Nat.le_of_ble_eq_true rfl, Nat.le_of_ble_eq_true rfl⟩ rfl dX6_set_3 ⟨Nat.le_refl _, Nat.le_refl _⟩ (fun H locs hw => ?_)
  refine lv_if_eq (tgt := 26) hx hb dX6_set_6 (by decide) (fun h => absurd h h9) (fun _ => ?_)
  refine lv_iload_n hx hb dX6_set_9 rfl (lv_at hl 2 rfl) ?_
  refine r_gets X hw X.2.2.1.2.2.1 sw_X6_129 dX6_set_10 (fun t1 ht1 => ?_)
  refine lv_iload_n hx hb dX6_set_13 rfl (lv_at hl 1 rfl) ?_
  refine r_tiald X hw i ht1 rfl (show i < 3 from by omega) (by decide) dX6_set_14 ?_
  refine r_gets X hw X.2.2.1.2.2.2.1 sw_X6_132 dX6_set_15 (fun t2 ht2 => ?_)
  refine lv_iload_n hx hb dX6_set_18 rfl (lv_at hl 1 rfl) ?_
  refine r_tiald X hw i ht2 rfl (show i < 3 from by omega) (by decide) dX6_set_19 ?_
  refine r_callS X hw (ws' := ([([xB D o ha ta (L 0) (M 0) b0 u0 (nI k) (rows4 HL) tx (nI T), chipB D L w1 w2 s.v s.f s.g s.r s.av s.mk s.cm s.ar s.fl s.en s.la s.zs s.se s.ph s.tk s.pc s.rc s.wc s.bc s.tc, hsB D HL HW1 HW2 hs] : List va_W).flatten, ([chipB D M y1 y2 t.v t.f t.g t.r t.av t.mk t.cm t.ar t.fl t.en t.la t.zs t.se t.ph t.tk t.pc t.rc t.wc t.bc t.tc, buB D b0 b1 b2 b3 bw en tb sh n0, orB D u0 u1 nu lt br le] : List va_W).flatten] : List va_W).flatten) (As := [.int y, .int (kf k_least i), .int (kf k_most i)]) (rest := []) lk_X6_95 (c_X6_isWithin l D _ y (kf k_least i) (kf k_most i)) Foc.nil rfl hl.1 (Nat.le_of_ble_eq_true rfl) ⟨Nat.le_of_ble_eq_true rfl, Nat.le_of_ble_eq_true rfl⟩ rfl dX6_set_20 ⟨Nat.le_refl _, Nat.le_refl _⟩ (fun H locs hw => ?_)
  refine lv_if_ne (tgt := 29) hx hb dX6_set_23 (by decide) (fun h => absurd h8 h) (fun _ => ?_)
  refine lv_ldc (v := (-1000001)) hx hb hown (hts _ kc_X6_45) dX6_set_26 ?_
  exact r_ret X hw hk hret rfl rfl rfl dX6_set_28

set_option maxRecDepth 100000 in
set_option maxHeartbeats 4000000 in
theorem c_X6_log (l : Launch) (D : va_G) (sz : Nat) (o ha ta : Nat) (L w1 w2 M y1 y2 : Nat → Nat) (HL HW1 HW2 : Nat → Nat → Nat) (b0 b1 b2 b3 : Nat) (bw : Nat → Nat) (u0 u1 : Nat) (tx : Row) (T : Nat) (s t : ChS) (hs : Nat → ChS) (en tb : Row) (sh : Nat → Row) (n0 : Int32) (nu : Row) (lt br le : Int32) (k : Nat) (hk4 : k ≤ 4) (hT : T ≤ 60) (a : Nat) (hla : s.la = nI a) (ha6 : a < 6) (q w : Nat) (hq6 : q < 6) (hw10 : w < 10) (h8 : ¬ sp_X6_isWithin (nI w) 0 9 = 0) (h7 : nI q < s.zs) : MI l yX6_log cX6_log 3 (some .int) 1 23 D sz [.ref o, .int (nI q), .int (nI w)] (([([xB D o ha ta (L 0) (M 0) b0 u0 (nI k) (rows4 HL) tx (nI T), chipB D L w1 w2 s.v s.f s.g s.r s.av s.mk s.cm s.ar s.fl s.en s.la s.zs s.se s.ph s.tk s.pc s.rc s.wc s.bc s.tc, hsB D HL HW1 HW2 hs] : List va_W).flatten, ([chipB D M y1 y2 t.v t.f t.g t.r t.av t.mk t.cm t.ar t.fl t.en t.la t.zs t.se t.ph t.tk t.pc t.rc t.wc t.bc t.tc, buB D b0 b1 b2 b3 bw en tb sh n0, orB D u0 u1 nu lt br le] : List va_W).flatten] : List va_W).flatten) (s.en (agoA a q) w) (([([xB D o ha ta (L 0) (M 0) b0 u0 (nI k) (rows4 HL) tx (nI T), chipB D L w1 w2 s.v s.f s.g s.r s.av s.mk s.cm s.ar s.fl s.en s.la s.zs s.se s.ph s.tk s.pc s.rc s.wc s.bc s.tc, hsB D HL HW1 HW2 hs] : List va_W).flatten, ([chipB D M y1 y2 t.v t.f t.g t.r t.av t.mk t.cm t.ar t.fl t.en t.la t.zs t.se t.ph t.tk t.pc t.rc t.wc t.bc t.tc, buB D b0 b1 b2 b3 bw en tb sh n0, orB D u0 u1 nu lt br le] : List va_W).flatten] : List va_W).flatten) := by
  refine r_enterI (by decide) (Nat.le_of_ble_eq_true rfl) ?_
  intro p e st m args below meth c ls A X hret hk hw hl
  have X : CX D p m c cX6_log 3 st args RX6 A := X
  have hx := X.1.1
  have hb := X.1.2.1
  have hown := X.1.2.2.2.1
  have hts := X.1.2.2.2.2
  have hl : lv_has ls 3 [(0, .ref o), (1, .int (nI q)), (2, .int (nI w))] := hl
  refine lv_iload_n hx hb dX6_log_0 rfl (lv_at hl 1 rfl) ?_
  refine lv_if_lt (tgt := 14) hx hb dX6_log_1 (by decide) (fun h => absurd h (nI_pos (by omega))) (fun _ => ?_)
  refine lv_iload_n hx hb dX6_log_4 rfl (lv_at hl 2 rfl) ?_
  refine lv_iconst (v := 0) hx hb dX6_log_5 (by decide) ?_
  refine lv_bipush (v := 9) hx hb dX6_log_6 (by decide) ?_
  refine r_callS X hw (ws' := ([([xB D o ha ta (L 0) (M 0) b0 u0 (nI k) (rows4 HL) tx (nI T), chipB D L w1 w2 s.v s.f s.g s.r s.av s.mk s.cm s.ar s.fl s.en s.la s.zs s.se s.ph s.tk s.pc s.rc s.wc s.bc s.tc, hsB D HL HW1 HW2 hs] : List va_W).flatten, ([chipB D M y1 y2 t.v t.f t.g t.r t.av t.mk t.cm t.ar t.fl t.en t.la t.zs t.se t.ph t.tk t.pc t.rc t.wc t.bc t.tc, buB D b0 b1 b2 b3 bw en tb sh n0, orB D u0 u1 nu lt br le] : List va_W).flatten] : List va_W).flatten) (As := [.int (nI w), .int 0, .int 9]) (rest := []) lk_X6_95 (c_X6_isWithin l D _ (nI w) 0 9) Foc.nil rfl hl.1 (Nat.le_of_ble_eq_true rfl) ⟨Nat.le_of_ble_eq_true rfl, Nat.le_of_ble_eq_true rfl⟩ rfl dX6_log_8 ⟨Nat.le_refl _, Nat.le_refl _⟩ (fun H locs hw => ?_)
  refine lv_if_ne (tgt := 17) hx hb dX6_log_11 (by decide) (fun _ => ?_) (fun h => absurd h h8)
  refine lv_iload_n hx hb dX6_log_17 rfl (lv_at hl 1 rfl) ?_
  refine lv_aload_n hx hb dX6_log_18 rfl (lv_at hl 0 rfl) ?_
  refine r_get X hw (v := .ref (L 0)) fl_X6_10 (m_fl 0 rfl (m_fl 0 rfl (m_at 0 rfl))) rfl dX6_log_19 ?_
  refine r_get X hw (v := .ref (L 10)) fl_X6_198 (m_fl 0 rfl (m_fl 1 rfl (m_fl 0 rfl (m_at 0 rfl)))) rfl dX6_log_22 ?_
  refine r_get X hw (v := .int s.zs) fl_X6_202 (m_fl 0 rfl (m_fl 1 rfl (m_fl 3 rfl (m_at 0 rfl)))) rfl dX6_log_25 ?_
  refine lv_icmp_lt (tgt := 34) hx hb dX6_log_28 (by decide) (fun _ => ?_) (fun h => absurd h7 h)
  refine lv_aload_n hx hb dX6_log_34 rfl (lv_at hl 0 rfl) ?_
  refine r_get X hw (v := .ref (L 0)) fl_X6_10 (m_fl 0 rfl (m_fl 0 rfl (m_at 0 rfl))) rfl dX6_log_35 ?_
  refine r_get X hw (v := .ref (L 10)) fl_X6_198 (m_fl 0 rfl (m_fl 1 rfl (m_fl 0 rfl (m_at 0 rfl)))) rfl dX6_log_38 ?_
  refine lv_iload_n hx hb dX6_log_41 rfl (lv_at hl 1 rfl) ?_
  refine lv_iload_n hx hb dX6_log_42 rfl (lv_at hl 2 rfl) ?_
  refine r_callV X hw (ws' := ([([xB D o ha ta (L 0) (M 0) b0 u0 (nI k) (rows4 HL) tx (nI T), chipB D L w1 w2 s.v s.f s.g s.r s.av s.mk s.cm s.ar s.fl s.en s.la s.zs s.se s.ph s.tk s.pc s.rc s.wc s.bc s.tc, hsB D HL HW1 HW2 hs] : List va_W).flatten, ([chipB D M y1 y2 t.v t.f t.g t.r t.av t.mk t.cm t.ar t.fl t.en t.la t.zs t.se t.ph t.tk t.pc t.rc t.wc t.bc t.tc, buB D b0 b1 b2 b3 bw en tb sh n0, orB D u0 u1 nu lt br le] : List va_W).flatten] : List va_W).flatten) (As := [.int (nI q), .int (nI w)]) (rest := []) lk_X6_207 (c_X2_told l D _ (L 10) (L 11) w2 s.en s.la s.zs a q w hla ha6 (by omega) (by omega)) (Foc.trans (Foc.at1 0 rfl rfl (ce rfl rfl)) (Foc.trans (Foc.at1 1 rfl rfl (ce rfl (ce rfl rfl))) (Foc.at1 3 rfl rfl (ce rfl (ce rfl (ce rfl (ce rfl rfl))))))) (m_fl 0 rfl (m_fl 1 rfl (m_fl 3 rfl (m_at 0 rfl)))) rfl hl.1 (Nat.le_of_ble_eq_true rfl) ⟨Nat.le_of_ble_eq_true rfl, Nat.le_of_ble_eq_true rfl⟩ rfl dX6_log_43 ⟨Nat.le_refl _, Nat.le_refl _⟩ (fun H locs hw => ?_)
  exact r_ret X hw hk hret rfl rfl rfl dX6_log_46

set_option maxRecDepth 100000 in
set_option maxHeartbeats 4000000 in
theorem c_X6_logN (l : Launch) (D : va_G) (sz : Nat) (o ha ta : Nat) (L w1 w2 M y1 y2 : Nat → Nat) (HL HW1 HW2 : Nat → Nat → Nat) (b0 b1 b2 b3 : Nat) (bw : Nat → Nat) (u0 u1 : Nat) (tx : Row) (T : Nat) (s t : ChS) (hs : Nat → ChS) (en tb : Row) (sh : Nat → Row) (n0 : Int32) (nu : Row) (lt br le : Int32) (k : Nat) (hk4 : k ≤ 4) (hT : T ≤ 60) (x y : Int32) (h9 : ¬ x < 0) (h8 : ¬ sp_X6_isWithin y 0 9 = 0) (h7 : ¬ x < s.zs) : MI l yX6_log cX6_log 3 (some .int) 1 22 D sz [.ref o, .int x, .int y] (([([xB D o ha ta (L 0) (M 0) b0 u0 (nI k) (rows4 HL) tx (nI T), chipB D L w1 w2 s.v s.f s.g s.r s.av s.mk s.cm s.ar s.fl s.en s.la s.zs s.se s.ph s.tk s.pc s.rc s.wc s.bc s.tc, hsB D HL HW1 HW2 hs] : List va_W).flatten, ([chipB D M y1 y2 t.v t.f t.g t.r t.av t.mk t.cm t.ar t.fl t.en t.la t.zs t.se t.ph t.tk t.pc t.rc t.wc t.bc t.tc, buB D b0 b1 b2 b3 bw en tb sh n0, orB D u0 u1 nu lt br le] : List va_W).flatten] : List va_W).flatten) (-1000004) (([([xB D o ha ta (L 0) (M 0) b0 u0 (nI k) (rows4 HL) tx (nI T), chipB D L w1 w2 s.v s.f s.g s.r s.av s.mk s.cm s.ar s.fl s.en s.la s.zs s.se s.ph s.tk s.pc s.rc s.wc s.bc s.tc, hsB D HL HW1 HW2 hs] : List va_W).flatten, ([chipB D M y1 y2 t.v t.f t.g t.r t.av t.mk t.cm t.ar t.fl t.en t.la t.zs t.se t.ph t.tk t.pc t.rc t.wc t.bc t.tc, buB D b0 b1 b2 b3 bw en tb sh n0, orB D u0 u1 nu lt br le] : List va_W).flatten] : List va_W).flatten) := by
  refine r_enterI (by decide) (Nat.le_of_ble_eq_true rfl) ?_
  intro p e st m args below meth c ls A X hret hk hw hl
  have X : CX D p m c cX6_log 3 st args RX6 A := X
  have hx := X.1.1
  have hb := X.1.2.1
  have hown := X.1.2.2.2.1
  have hts := X.1.2.2.2.2
  have hl : lv_has ls 3 [(0, .ref o), (1, .int x), (2, .int y)] := hl
  refine lv_iload_n hx hb dX6_log_0 rfl (lv_at hl 1 rfl) ?_
  refine lv_if_lt (tgt := 14) hx hb dX6_log_1 (by decide) (fun h => absurd h h9) (fun _ => ?_)
  refine lv_iload_n hx hb dX6_log_4 rfl (lv_at hl 2 rfl) ?_
  refine lv_iconst (v := 0) hx hb dX6_log_5 (by decide) ?_
  refine lv_bipush (v := 9) hx hb dX6_log_6 (by decide) ?_
  refine r_callS X hw (ws' := ([([xB D o ha ta (L 0) (M 0) b0 u0 (nI k) (rows4 HL) tx (nI T), chipB D L w1 w2 s.v s.f s.g s.r s.av s.mk s.cm s.ar s.fl s.en s.la s.zs s.se s.ph s.tk s.pc s.rc s.wc s.bc s.tc, hsB D HL HW1 HW2 hs] : List va_W).flatten, ([chipB D M y1 y2 t.v t.f t.g t.r t.av t.mk t.cm t.ar t.fl t.en t.la t.zs t.se t.ph t.tk t.pc t.rc t.wc t.bc t.tc, buB D b0 b1 b2 b3 bw en tb sh n0, orB D u0 u1 nu lt br le] : List va_W).flatten] : List va_W).flatten) (As := [.int y, .int 0, .int 9]) (rest := []) lk_X6_95 (c_X6_isWithin l D _ y 0 9) Foc.nil rfl hl.1 (Nat.le_of_ble_eq_true rfl) ⟨Nat.le_of_ble_eq_true rfl, Nat.le_of_ble_eq_true rfl⟩ rfl dX6_log_8 ⟨Nat.le_refl _, Nat.le_refl _⟩ (fun H locs hw => ?_)
  refine lv_if_ne (tgt := 17) hx hb dX6_log_11 (by decide) (fun _ => ?_) (fun h => absurd h h8)
  refine lv_iload_n hx hb dX6_log_17 rfl (lv_at hl 1 rfl) ?_
  refine lv_aload_n hx hb dX6_log_18 rfl (lv_at hl 0 rfl) ?_
  refine r_get X hw (v := .ref (L 0)) fl_X6_10 (m_fl 0 rfl (m_fl 0 rfl (m_at 0 rfl))) rfl dX6_log_19 ?_
  refine r_get X hw (v := .ref (L 10)) fl_X6_198 (m_fl 0 rfl (m_fl 1 rfl (m_fl 0 rfl (m_at 0 rfl)))) rfl dX6_log_22 ?_
  refine r_get X hw (v := .int s.zs) fl_X6_202 (m_fl 0 rfl (m_fl 1 rfl (m_fl 3 rfl (m_at 0 rfl)))) rfl dX6_log_25 ?_
  refine lv_icmp_lt (tgt := 34) hx hb dX6_log_28 (by decide) (fun h => absurd h h7) (fun _ => ?_)
  refine lv_ldc (v := (-1000004)) hx hb hown (hts _ kc_X6_185) dX6_log_31 ?_
  exact r_ret X hw hk hret rfl rfl rfl dX6_log_33

set_option maxRecDepth 100000 in
set_option maxHeartbeats 4000000 in
theorem c_X6_logB (l : Launch) (D : va_G) (sz : Nat) (o ha ta : Nat) (L w1 w2 M y1 y2 : Nat → Nat) (HL HW1 HW2 : Nat → Nat → Nat) (b0 b1 b2 b3 : Nat) (bw : Nat → Nat) (u0 u1 : Nat) (tx : Row) (T : Nat) (s t : ChS) (hs : Nat → ChS) (en tb : Row) (sh : Nat → Row) (n0 : Int32) (nu : Row) (lt br le : Int32) (k : Nat) (hk4 : k ≤ 4) (hT : T ≤ 60) (x y : Int32) (h9 : x < 0) : MI l yX6_log cX6_log 3 (some .int) 0 0 D sz [.ref o, .int x, .int y] (([([xB D o ha ta (L 0) (M 0) b0 u0 (nI k) (rows4 HL) tx (nI T), chipB D L w1 w2 s.v s.f s.g s.r s.av s.mk s.cm s.ar s.fl s.en s.la s.zs s.se s.ph s.tk s.pc s.rc s.wc s.bc s.tc, hsB D HL HW1 HW2 hs] : List va_W).flatten, ([chipB D M y1 y2 t.v t.f t.g t.r t.av t.mk t.cm t.ar t.fl t.en t.la t.zs t.se t.ph t.tk t.pc t.rc t.wc t.bc t.tc, buB D b0 b1 b2 b3 bw en tb sh n0, orB D u0 u1 nu lt br le] : List va_W).flatten] : List va_W).flatten) (-1000001) (([([xB D o ha ta (L 0) (M 0) b0 u0 (nI k) (rows4 HL) tx (nI T), chipB D L w1 w2 s.v s.f s.g s.r s.av s.mk s.cm s.ar s.fl s.en s.la s.zs s.se s.ph s.tk s.pc s.rc s.wc s.bc s.tc, hsB D HL HW1 HW2 hs] : List va_W).flatten, ([chipB D M y1 y2 t.v t.f t.g t.r t.av t.mk t.cm t.ar t.fl t.en t.la t.zs t.se t.ph t.tk t.pc t.rc t.wc t.bc t.tc, buB D b0 b1 b2 b3 bw en tb sh n0, orB D u0 u1 nu lt br le] : List va_W).flatten] : List va_W).flatten) := by
  refine r_enterI (by decide) (Nat.le_of_ble_eq_true rfl) ?_
  intro p e st m args below meth c ls A X hret hk hw hl
  have X : CX D p m c cX6_log 3 st args RX6 A := X
  have hx := X.1.1
  have hb := X.1.2.1
  have hown := X.1.2.2.2.1
  have hts := X.1.2.2.2.2
  have hl : lv_has ls 3 [(0, .ref o), (1, .int x), (2, .int y)] := hl
  refine lv_iload_n hx hb dX6_log_0 rfl (lv_at hl 1 rfl) ?_
  refine lv_if_lt (tgt := 14) hx hb dX6_log_1 (by decide) (fun _ => ?_) (fun h => absurd h9 h)
  refine lv_ldc (v := (-1000001)) hx hb hown (hts _ kc_X6_45) dX6_log_14 ?_
  exact r_ret X hw hk hret rfl rfl rfl dX6_log_16

set_option maxRecDepth 100000 in
set_option maxHeartbeats 4000000 in
theorem c_X6_logC (l : Launch) (D : va_G) (sz : Nat) (o ha ta : Nat) (L w1 w2 M y1 y2 : Nat → Nat) (HL HW1 HW2 : Nat → Nat → Nat) (b0 b1 b2 b3 : Nat) (bw : Nat → Nat) (u0 u1 : Nat) (tx : Row) (T : Nat) (s t : ChS) (hs : Nat → ChS) (en tb : Row) (sh : Nat → Row) (n0 : Int32) (nu : Row) (lt br le : Int32) (k : Nat) (hk4 : k ≤ 4) (hT : T ≤ 60) (x y : Int32) (h9 : ¬ x < 0) (h8 : sp_X6_isWithin y 0 9 = 0) : MI l yX6_log cX6_log 3 (some .int) 1 22 D sz [.ref o, .int x, .int y] (([([xB D o ha ta (L 0) (M 0) b0 u0 (nI k) (rows4 HL) tx (nI T), chipB D L w1 w2 s.v s.f s.g s.r s.av s.mk s.cm s.ar s.fl s.en s.la s.zs s.se s.ph s.tk s.pc s.rc s.wc s.bc s.tc, hsB D HL HW1 HW2 hs] : List va_W).flatten, ([chipB D M y1 y2 t.v t.f t.g t.r t.av t.mk t.cm t.ar t.fl t.en t.la t.zs t.se t.ph t.tk t.pc t.rc t.wc t.bc t.tc, buB D b0 b1 b2 b3 bw en tb sh n0, orB D u0 u1 nu lt br le] : List va_W).flatten] : List va_W).flatten) (-1000001) (([([xB D o ha ta (L 0) (M 0) b0 u0 (nI k) (rows4 HL) tx (nI T), chipB D L w1 w2 s.v s.f s.g s.r s.av s.mk s.cm s.ar s.fl s.en s.la s.zs s.se s.ph s.tk s.pc s.rc s.wc s.bc s.tc, hsB D HL HW1 HW2 hs] : List va_W).flatten, ([chipB D M y1 y2 t.v t.f t.g t.r t.av t.mk t.cm t.ar t.fl t.en t.la t.zs t.se t.ph t.tk t.pc t.rc t.wc t.bc t.tc, buB D b0 b1 b2 b3 bw en tb sh n0, orB D u0 u1 nu lt br le] : List va_W).flatten] : List va_W).flatten) := by
  refine r_enterI (by decide) (Nat.le_of_ble_eq_true rfl) ?_
  intro p e st m args below meth c ls A X hret hk hw hl
  have X : CX D p m c cX6_log 3 st args RX6 A := X
  have hx := X.1.1
  have hb := X.1.2.1
  have hown := X.1.2.2.2.1
  have hts := X.1.2.2.2.2
  have hl : lv_has ls 3 [(0, .ref o), (1, .int x), (2, .int y)] := hl
  refine lv_iload_n hx hb dX6_log_0 rfl (lv_at hl 1 rfl) ?_
  refine lv_if_lt (tgt := 14) hx hb dX6_log_1 (by decide) (fun h => absurd h h9) (fun _ => ?_)
  refine lv_iload_n hx hb dX6_log_4 rfl (lv_at hl 2 rfl) ?_
  refine lv_iconst (v := 0) hx hb dX6_log_5 (by decide) ?_
  refine lv_bipush (v := 9) hx hb dX6_log_6 (by decide) ?_
  refine r_callS X hw (ws' := ([([xB D o ha ta (L 0) (M 0) b0 u0 (nI k) (rows4 HL) tx (nI T), chipB D L w1 w2 s.v s.f s.g s.r s.av s.mk s.cm s.ar s.fl s.en s.la s.zs s.se s.ph s.tk s.pc s.rc s.wc s.bc s.tc, hsB D HL HW1 HW2 hs] : List va_W).flatten, ([chipB D M y1 y2 t.v t.f t.g t.r t.av t.mk t.cm t.ar t.fl t.en t.la t.zs t.se t.ph t.tk t.pc t.rc t.wc t.bc t.tc, buB D b0 b1 b2 b3 bw en tb sh n0, orB D u0 u1 nu lt br le] : List va_W).flatten] : List va_W).flatten) (As := [.int y, .int 0, .int 9]) (rest := []) lk_X6_95 (c_X6_isWithin l D _ y 0 9) Foc.nil rfl hl.1 (Nat.le_of_ble_eq_true rfl) ⟨Nat.le_of_ble_eq_true rfl, Nat.le_of_ble_eq_true rfl⟩ rfl dX6_log_8 ⟨Nat.le_refl _, Nat.le_refl _⟩ (fun H locs hw => ?_)
  refine lv_if_ne (tgt := 17) hx hb dX6_log_11 (by decide) (fun h => absurd h8 h) (fun _ => ?_)
  refine lv_ldc (v := (-1000001)) hx hb hown (hts _ kc_X6_45) dX6_log_14 ?_
  exact r_ret X hw hk hret rfl rfl rfl dX6_log_16
