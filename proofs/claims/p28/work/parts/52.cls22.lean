noncomputable def sp_X6_date0 (s : ChS) (Mo : Nat) : Int32 := sp_X5_daysFromStart s.v Mo
set_option maxRecDepth 100000 in
set_option maxHeartbeats 4000000 in
theorem c_X6_date0 (l : Launch) (D : va_G) (sz : Nat) (o ha ta : Nat) (L w1 w2 M y1 y2 : Nat → Nat) (HL HW1 HW2 : Nat → Nat → Nat) (b0 b1 b2 b3 : Nat) (bw : Nat → Nat) (u0 u1 : Nat) (tx : Row) (T : Nat) (s t : ChS) (hs : Nat → ChS) (en tb : Row) (sh : Nat → Row) (n0 : Int32) (nu : Row) (lt br le : Int32) (k : Nat) (hk4 : k ≤ 4) (hT : T ≤ 60) (h9 : ¬ sp_X5_isDateRight s.v = 0) (Mo : Nat) (hMo : sp_X6_numberOf (s.v 5) = nI Mo) (hMo1 : 1 ≤ Mo) (hMo2 : Mo ≤ 12) : MI l yX6_date cX6_date 3 (some .int) 4 85 D sz [.ref o, .int 0] (([([xB D o ha ta (L 0) (M 0) b0 u0 (nI k) (rows4 HL) tx (nI T), chipB D L w1 w2 s.v s.f s.g s.r s.av s.mk s.cm s.ar s.fl s.en s.la s.zs s.se s.ph s.tk s.pc s.rc s.wc s.bc s.tc, hsB D HL HW1 HW2 hs] : List va_W).flatten, ([chipB D M y1 y2 t.v t.f t.g t.r t.av t.mk t.cm t.ar t.fl t.en t.la t.zs t.se t.ph t.tk t.pc t.rc t.wc t.bc t.tc, buB D b0 b1 b2 b3 bw en tb sh n0, orB D u0 u1 nu lt br le] : List va_W).flatten] : List va_W).flatten) (sp_X6_date0 s Mo) (([([xB D o ha ta (L 0) (M 0) b0 u0 (nI k) (rows4 HL) tx (nI T), chipB D L w1 w2 s.v s.f s.g s.r s.av s.mk s.cm s.ar s.fl s.en s.la s.zs s.se s.ph s.tk s.pc s.rc s.wc s.bc s.tc, hsB D HL HW1 HW2 hs] : List va_W).flatten, ([chipB D M y1 y2 t.v t.f t.g t.r t.av t.mk t.cm t.ar t.fl t.en t.la t.zs t.se t.ph t.tk t.pc t.rc t.wc t.bc t.tc, buB D b0 b1 b2 b3 bw en tb sh n0, orB D u0 u1 nu lt br le] : List va_W).flatten] : List va_W).flatten) := by
  refine r_enterI (by decide) (Nat.le_of_ble_eq_true rfl) ?_
  intro p e st m args below meth c ls A X hret hk hw hl
  have X : CX D p m c cX6_date 3 st args RX6 A := X
  have hx := X.1.1
  have hb := X.1.2.1
  have hown := X.1.2.2.2.1
  have hts := X.1.2.2.2.2
  have hl : lv_has ls 3 [(0, .ref o), (1, .int 0)] := hl
  refine lv_iload_n hx hb dX6_date_0 rfl (lv_at hl 1 rfl) ?_
  refine lv_iconst (v := 0) hx hb dX6_date_1 (by decide) ?_
  refine lv_iconst (v := 4) hx hb dX6_date_2 (by decide) ?_
  refine r_callS X hw (ws' := ([([xB D o ha ta (L 0) (M 0) b0 u0 (nI k) (rows4 HL) tx (nI T), chipB D L w1 w2 s.v s.f s.g s.r s.av s.mk s.cm s.ar s.fl s.en s.la s.zs s.se s.ph s.tk s.pc s.rc s.wc s.bc s.tc, hsB D HL HW1 HW2 hs] : List va_W).flatten, ([chipB D M y1 y2 t.v t.f t.g t.r t.av t.mk t.cm t.ar t.fl t.en t.la t.zs t.se t.ph t.tk t.pc t.rc t.wc t.bc t.tc, buB D b0 b1 b2 b3 bw en tb sh n0, orB D u0 u1 nu lt br le] : List va_W).flatten] : List va_W).flatten) (As := [.int 0, .int 0, .int 4]) (rest := []) lk_X6_95 (c_X6_isWithin l D _ 0 0 4) Foc.nil rfl hl.1 (Nat.le_of_ble_eq_true rfl) ⟨Nat.le_of_ble_eq_true rfl, Nat.le_of_ble_eq_true rfl⟩ rfl dX6_date_3 ⟨Nat.le_refl _, Nat.le_refl _⟩ (fun H locs hw => ?_)
  refine lv_if_ne (tgt := 12) hx hb dX6_date_6 (by decide) (fun _ => ?_) (fun h => absurd h (by decide))
  refine lv_aload_n hx hb dX6_date_12 rfl (lv_at hl 0 rfl) ?_
  refine r_get X hw (v := .ref (L 0)) fl_X6_10 (m_fl 0 rfl (m_fl 0 rfl (m_at 0 rfl))) rfl dX6_date_13 ?_
  refine r_get X hw (v := .ref (L 1)) fl_X6_108 (m_fl 0 rfl (m_fl 1 rfl (m_fl 0 rfl (m_at 0 rfl)))) rfl dX6_date_16 ?_
  refine lv_astore_n (lv' := [(2, .ref (L 1)), (0, .ref o), (1, .int 0)]) hx hb dX6_date_19 rfl hl (by decide) rfl (fun ls hl => ?_)
  refine lv_iload_n hx hb dX6_date_20 rfl (lv_at hl 2 rfl) ?_
  refine lv_iconst (v := 3) hx hb dX6_date_21 (by decide) ?_
  refine lv_icmp_ne (tgt := 34) hx hb dX6_date_22 (by decide) (fun _ => ?_) (fun h => absurd h (by decide))
  refine lv_aload_n hx hb dX6_date_34 rfl (lv_at hl 0 rfl) ?_
  refine r_callV X hw (ws' := ([([xB D o ha ta (L 0) (M 0) b0 u0 (nI k) (rows4 HL) tx (nI T), chipB D L w1 w2 s.v s.f s.g s.r s.av s.mk s.cm s.ar s.fl s.en s.la s.zs s.se s.ph s.tk s.pc s.rc s.wc s.bc s.tc, hsB D HL HW1 HW2 hs] : List va_W).flatten, ([chipB D M y1 y2 t.v t.f t.g t.r t.av t.mk t.cm t.ar t.fl t.en t.la t.zs t.se t.ph t.tk t.pc t.rc t.wc t.bc t.tc, buB D b0 b1 b2 b3 bw en tb sh n0, orB D u0 u1 nu lt br le] : List va_W).flatten] : List va_W).flatten) (As := []) (rest := []) lk_X6_181 (c_X5_isDateRight l D _ (L 1) (L 2) (L 3) (L 4) (L 5) s.v s.f s.g s.r) (Foc.trans (Foc.at1 0 rfl rfl (ce rfl rfl)) (Foc.trans (Foc.at1 1 rfl rfl (ce rfl (ce rfl rfl))) (Foc.at1 1 rfl rfl (ce rfl (ce rfl (ce rfl (ce rfl rfl))))))) (m_fl 0 rfl (m_fl 1 rfl (m_fl 1 rfl (m_at 0 rfl)))) rfl hl.1 (Nat.le_of_ble_eq_true rfl) ⟨Nat.le_of_ble_eq_true rfl, Nat.le_of_ble_eq_true rfl⟩ rfl dX6_date_35 ⟨Nat.le_refl _, Nat.le_refl _⟩ (fun H locs hw => ?_)
  refine lv_if_ne (tgt := 44) hx hb dX6_date_38 (by decide) (fun _ => ?_) (fun h => absurd h h9)
  refine lv_iload_n hx hb dX6_date_44 rfl (lv_at hl 2 rfl) ?_
  refine r_tabIn (tgt := 72) hx hb 0 rfl dX6_date_45 (by decide) (by decide) rfl (by decide) ?_
  refine lv_aload_n hx hb dX6_date_72 rfl (lv_at hl 0 rfl) ?_
  refine r_callV X hw (ws' := ([([xB D o ha ta (L 0) (M 0) b0 u0 (nI k) (rows4 HL) tx (nI T), chipB D L w1 w2 s.v s.f s.g s.r s.av s.mk s.cm s.ar s.fl s.en s.la s.zs s.se s.ph s.tk s.pc s.rc s.wc s.bc s.tc, hsB D HL HW1 HW2 hs] : List va_W).flatten, ([chipB D M y1 y2 t.v t.f t.g t.r t.av t.mk t.cm t.ar t.fl t.en t.la t.zs t.se t.ph t.tk t.pc t.rc t.wc t.bc t.tc, buB D b0 b1 b2 b3 bw en tb sh n0, orB D u0 u1 nu lt br le] : List va_W).flatten] : List va_W).flatten) (As := []) (rest := []) lk_X6_186 (c_X5_daysFromStart l D _ (L 1) (L 2) (L 3) (L 4) (L 5) s.v s.f s.g s.r Mo hMo hMo1 hMo2) (Foc.trans (Foc.at1 0 rfl rfl (ce rfl rfl)) (Foc.trans (Foc.at1 1 rfl rfl (ce rfl (ce rfl rfl))) (Foc.at1 1 rfl rfl (ce rfl (ce rfl (ce rfl (ce rfl rfl))))))) (m_fl 0 rfl (m_fl 1 rfl (m_fl 1 rfl (m_at 0 rfl)))) rfl hl.1 (Nat.le_of_ble_eq_true rfl) ⟨Nat.le_of_ble_eq_true rfl, Nat.le_of_ble_eq_true rfl⟩ rfl dX6_date_73 ⟨Nat.le_refl _, Nat.le_refl _⟩ (fun H locs hw => ?_)
  exact r_ret X hw hk hret rfl (rfl) rfl dX6_date_76

noncomputable def sp_X6_date1 (s : ChS) (Mo : Nat) : Int32 := sp_X5_weekdayByDate s.v Mo
set_option maxRecDepth 100000 in
set_option maxHeartbeats 4000000 in
theorem c_X6_date1 (l : Launch) (D : va_G) (sz : Nat) (o ha ta : Nat) (L w1 w2 M y1 y2 : Nat → Nat) (HL HW1 HW2 : Nat → Nat → Nat) (b0 b1 b2 b3 : Nat) (bw : Nat → Nat) (u0 u1 : Nat) (tx : Row) (T : Nat) (s t : ChS) (hs : Nat → ChS) (en tb : Row) (sh : Nat → Row) (n0 : Int32) (nu : Row) (lt br le : Int32) (k : Nat) (hk4 : k ≤ 4) (hT : T ≤ 60) (h9 : ¬ sp_X5_isDateRight s.v = 0) (Mo : Nat) (hMo : sp_X6_numberOf (s.v 5) = nI Mo) (hMo1 : 1 ≤ Mo) (hMo2 : Mo ≤ 12) : MI l yX6_date cX6_date 3 (some .int) 4 86 D sz [.ref o, .int 1] (([([xB D o ha ta (L 0) (M 0) b0 u0 (nI k) (rows4 HL) tx (nI T), chipB D L w1 w2 s.v s.f s.g s.r s.av s.mk s.cm s.ar s.fl s.en s.la s.zs s.se s.ph s.tk s.pc s.rc s.wc s.bc s.tc, hsB D HL HW1 HW2 hs] : List va_W).flatten, ([chipB D M y1 y2 t.v t.f t.g t.r t.av t.mk t.cm t.ar t.fl t.en t.la t.zs t.se t.ph t.tk t.pc t.rc t.wc t.bc t.tc, buB D b0 b1 b2 b3 bw en tb sh n0, orB D u0 u1 nu lt br le] : List va_W).flatten] : List va_W).flatten) (sp_X6_date1 s Mo) (([([xB D o ha ta (L 0) (M 0) b0 u0 (nI k) (rows4 HL) tx (nI T), chipB D L w1 w2 s.v s.f s.g s.r s.av s.mk s.cm s.ar s.fl s.en s.la s.zs s.se s.ph s.tk s.pc s.rc s.wc s.bc s.tc, hsB D HL HW1 HW2 hs] : List va_W).flatten, ([chipB D M y1 y2 t.v t.f t.g t.r t.av t.mk t.cm t.ar t.fl t.en t.la t.zs t.se t.ph t.tk t.pc t.rc t.wc t.bc t.tc, buB D b0 b1 b2 b3 bw en tb sh n0, orB D u0 u1 nu lt br le] : List va_W).flatten] : List va_W).flatten) := by
  refine r_enterI (by decide) (Nat.le_of_ble_eq_true rfl) ?_
  intro p e st m args below meth c ls A X hret hk hw hl
  have X : CX D p m c cX6_date 3 st args RX6 A := X
  have hx := X.1.1
  have hb := X.1.2.1
  have hown := X.1.2.2.2.1
  have hts := X.1.2.2.2.2
  have hl : lv_has ls 3 [(0, .ref o), (1, .int 1)] := hl
  refine lv_iload_n hx hb dX6_date_0 rfl (lv_at hl 1 rfl) ?_
  refine lv_iconst (v := 0) hx hb dX6_date_1 (by decide) ?_
  refine lv_iconst (v := 4) hx hb dX6_date_2 (by decide) ?_
  refine r_callS X hw (ws' := ([([xB D o ha ta (L 0) (M 0) b0 u0 (nI k) (rows4 HL) tx (nI T), chipB D L w1 w2 s.v s.f s.g s.r s.av s.mk s.cm s.ar s.fl s.en s.la s.zs s.se s.ph s.tk s.pc s.rc s.wc s.bc s.tc, hsB D HL HW1 HW2 hs] : List va_W).flatten, ([chipB D M y1 y2 t.v t.f t.g t.r t.av t.mk t.cm t.ar t.fl t.en t.la t.zs t.se t.ph t.tk t.pc t.rc t.wc t.bc t.tc, buB D b0 b1 b2 b3 bw en tb sh n0, orB D u0 u1 nu lt br le] : List va_W).flatten] : List va_W).flatten) (As := [.int 1, .int 0, .int 4]) (rest := []) lk_X6_95 (c_X6_isWithin l D _ 1 0 4) Foc.nil rfl hl.1 (Nat.le_of_ble_eq_true rfl) ⟨Nat.le_of_ble_eq_true rfl, Nat.le_of_ble_eq_true rfl⟩ rfl dX6_date_3 ⟨Nat.le_refl _, Nat.le_refl _⟩ (fun H locs hw => ?_)
  refine lv_if_ne (tgt := 12) hx hb dX6_date_6 (by decide) (fun _ => ?_) (fun h => absurd h (by decide))
  refine lv_aload_n hx hb dX6_date_12 rfl (lv_at hl 0 rfl) ?_
  refine r_get X hw (v := .ref (L 0)) fl_X6_10 (m_fl 0 rfl (m_fl 0 rfl (m_at 0 rfl))) rfl dX6_date_13 ?_
  refine r_get X hw (v := .ref (L 1)) fl_X6_108 (m_fl 0 rfl (m_fl 1 rfl (m_fl 0 rfl (m_at 0 rfl)))) rfl dX6_date_16 ?_
  refine lv_astore_n (lv' := [(2, .ref (L 1)), (0, .ref o), (1, .int 1)]) hx hb dX6_date_19 rfl hl (by decide) rfl (fun ls hl => ?_)
  refine lv_iload_n hx hb dX6_date_20 rfl (lv_at hl 2 rfl) ?_
  refine lv_iconst (v := 3) hx hb dX6_date_21 (by decide) ?_
  refine lv_icmp_ne (tgt := 34) hx hb dX6_date_22 (by decide) (fun _ => ?_) (fun h => absurd h (by decide))
  refine lv_aload_n hx hb dX6_date_34 rfl (lv_at hl 0 rfl) ?_
  refine r_callV X hw (ws' := ([([xB D o ha ta (L 0) (M 0) b0 u0 (nI k) (rows4 HL) tx (nI T), chipB D L w1 w2 s.v s.f s.g s.r s.av s.mk s.cm s.ar s.fl s.en s.la s.zs s.se s.ph s.tk s.pc s.rc s.wc s.bc s.tc, hsB D HL HW1 HW2 hs] : List va_W).flatten, ([chipB D M y1 y2 t.v t.f t.g t.r t.av t.mk t.cm t.ar t.fl t.en t.la t.zs t.se t.ph t.tk t.pc t.rc t.wc t.bc t.tc, buB D b0 b1 b2 b3 bw en tb sh n0, orB D u0 u1 nu lt br le] : List va_W).flatten] : List va_W).flatten) (As := []) (rest := []) lk_X6_181 (c_X5_isDateRight l D _ (L 1) (L 2) (L 3) (L 4) (L 5) s.v s.f s.g s.r) (Foc.trans (Foc.at1 0 rfl rfl (ce rfl rfl)) (Foc.trans (Foc.at1 1 rfl rfl (ce rfl (ce rfl rfl))) (Foc.at1 1 rfl rfl (ce rfl (ce rfl (ce rfl (ce rfl rfl))))))) (m_fl 0 rfl (m_fl 1 rfl (m_fl 1 rfl (m_at 0 rfl)))) rfl hl.1 (Nat.le_of_ble_eq_true rfl) ⟨Nat.le_of_ble_eq_true rfl, Nat.le_of_ble_eq_true rfl⟩ rfl dX6_date_35 ⟨Nat.le_refl _, Nat.le_refl _⟩ (fun H locs hw => ?_)
  refine lv_if_ne (tgt := 44) hx hb dX6_date_38 (by decide) (fun _ => ?_) (fun h => absurd h h9)
  refine lv_iload_n hx hb dX6_date_44 rfl (lv_at hl 2 rfl) ?_
  refine r_tabIn (tgt := 77) hx hb 1 rfl dX6_date_45 (by decide) (by decide) rfl (by decide) ?_
  refine lv_aload_n hx hb dX6_date_77 rfl (lv_at hl 0 rfl) ?_
  refine r_callV X hw (ws' := ([([xB D o ha ta (L 0) (M 0) b0 u0 (nI k) (rows4 HL) tx (nI T), chipB D L w1 w2 s.v s.f s.g s.r s.av s.mk s.cm s.ar s.fl s.en s.la s.zs s.se s.ph s.tk s.pc s.rc s.wc s.bc s.tc, hsB D HL HW1 HW2 hs] : List va_W).flatten, ([chipB D M y1 y2 t.v t.f t.g t.r t.av t.mk t.cm t.ar t.fl t.en t.la t.zs t.se t.ph t.tk t.pc t.rc t.wc t.bc t.tc, buB D b0 b1 b2 b3 bw en tb sh n0, orB D u0 u1 nu lt br le] : List va_W).flatten] : List va_W).flatten) (As := []) (rest := []) lk_X6_189 (c_X5_weekdayByDate l D _ (L 1) (L 2) (L 3) (L 4) (L 5) s.v s.f s.g s.r Mo hMo hMo1 hMo2) (Foc.trans (Foc.at1 0 rfl rfl (ce rfl rfl)) (Foc.trans (Foc.at1 1 rfl rfl (ce rfl (ce rfl rfl))) (Foc.at1 1 rfl rfl (ce rfl (ce rfl (ce rfl (ce rfl rfl))))))) (m_fl 0 rfl (m_fl 1 rfl (m_fl 1 rfl (m_at 0 rfl)))) rfl hl.1 (Nat.le_of_ble_eq_true rfl) ⟨Nat.le_of_ble_eq_true rfl, Nat.le_of_ble_eq_true rfl⟩ rfl dX6_date_78 ⟨Nat.le_refl _, Nat.le_refl _⟩ (fun H locs hw => ?_)
  exact r_ret X hw hk hret rfl (rfl) rfl dX6_date_81

noncomputable def sp_X6_date2 (s : ChS) (Mo : Nat) : Int32 := (if (sp_X6_numberOf (s.v 3)) = (sp_X5_weekdayByDate s.v Mo) then 1 else 0)
set_option maxRecDepth 100000 in
set_option maxHeartbeats 4000000 in
theorem c_X6_date2 (l : Launch) (D : va_G) (sz : Nat) (o ha ta : Nat) (L w1 w2 M y1 y2 : Nat → Nat) (HL HW1 HW2 : Nat → Nat → Nat) (b0 b1 b2 b3 : Nat) (bw : Nat → Nat) (u0 u1 : Nat) (tx : Row) (T : Nat) (s t : ChS) (hs : Nat → ChS) (en tb : Row) (sh : Nat → Row) (n0 : Int32) (nu : Row) (lt br le : Int32) (k : Nat) (hk4 : k ≤ 4) (hT : T ≤ 60) (h9 : ¬ sp_X5_isDateRight s.v = 0) (Mo : Nat) (hMo : sp_X6_numberOf (s.v 5) = nI Mo) (hMo1 : 1 ≤ Mo) (hMo2 : Mo ≤ 12) : MI l yX6_date cX6_date 3 (some .int) 4 86 D sz [.ref o, .int 2] (([([xB D o ha ta (L 0) (M 0) b0 u0 (nI k) (rows4 HL) tx (nI T), chipB D L w1 w2 s.v s.f s.g s.r s.av s.mk s.cm s.ar s.fl s.en s.la s.zs s.se s.ph s.tk s.pc s.rc s.wc s.bc s.tc, hsB D HL HW1 HW2 hs] : List va_W).flatten, ([chipB D M y1 y2 t.v t.f t.g t.r t.av t.mk t.cm t.ar t.fl t.en t.la t.zs t.se t.ph t.tk t.pc t.rc t.wc t.bc t.tc, buB D b0 b1 b2 b3 bw en tb sh n0, orB D u0 u1 nu lt br le] : List va_W).flatten] : List va_W).flatten) (sp_X6_date2 s Mo) (([([xB D o ha ta (L 0) (M 0) b0 u0 (nI k) (rows4 HL) tx (nI T), chipB D L w1 w2 s.v s.f s.g s.r s.av s.mk s.cm s.ar s.fl s.en s.la s.zs s.se s.ph s.tk s.pc s.rc s.wc s.bc s.tc, hsB D HL HW1 HW2 hs] : List va_W).flatten, ([chipB D M y1 y2 t.v t.f t.g t.r t.av t.mk t.cm t.ar t.fl t.en t.la t.zs t.se t.ph t.tk t.pc t.rc t.wc t.bc t.tc, buB D b0 b1 b2 b3 bw en tb sh n0, orB D u0 u1 nu lt br le] : List va_W).flatten] : List va_W).flatten) := by
  refine r_enterI (by decide) (Nat.le_of_ble_eq_true rfl) ?_
  intro p e st m args below meth c ls A X hret hk hw hl
  have X : CX D p m c cX6_date 3 st args RX6 A := X
  have hx := X.1.1
  have hb := X.1.2.1
  have hown := X.1.2.2.2.1
  have hts := X.1.2.2.2.2
  have hl : lv_has ls 3 [(0, .ref o), (1, .int 2)] := hl
  refine lv_iload_n hx hb dX6_date_0 rfl (lv_at hl 1 rfl) ?_
  refine lv_iconst (v := 0) hx hb dX6_date_1 (by decide) ?_
  refine lv_iconst (v := 4) hx hb dX6_date_2 (by decide) ?_
  refine r_callS X hw (ws' := ([([xB D o ha ta (L 0) (M 0) b0 u0 (nI k) (rows4 HL) tx (nI T), chipB D L w1 w2 s.v s.f s.g s.r s.av s.mk s.cm s.ar s.fl s.en s.la s.zs s.se s.ph s.tk s.pc s.rc s.wc s.bc s.tc, hsB D HL HW1 HW2 hs] : List va_W).flatten, ([chipB D M y1 y2 t.v t.f t.g t.r t.av t.mk t.cm t.ar t.fl t.en t.la t.zs t.se t.ph t.tk t.pc t.rc t.wc t.bc t.tc, buB D b0 b1 b2 b3 bw en tb sh n0, orB D u0 u1 nu lt br le] : List va_W).flatten] : List va_W).flatten) (As := [.int 2, .int 0, .int 4]) (rest := []) lk_X6_95 (c_X6_isWithin l D _ 2 0 4) Foc.nil rfl hl.1 (Nat.le_of_ble_eq_true rfl) ⟨Nat.le_of_ble_eq_true rfl, Nat.le_of_ble_eq_true rfl⟩ rfl dX6_date_3 ⟨Nat.le_refl _, Nat.le_refl _⟩ (fun H locs hw => ?_)
  refine lv_if_ne (tgt := 12) hx hb dX6_date_6 (by decide) (fun _ => ?_) (fun h => absurd h (by decide))
  refine lv_aload_n hx hb dX6_date_12 rfl (lv_at hl 0 rfl) ?_
  refine r_get X hw (v := .ref (L 0)) fl_X6_10 (m_fl 0 rfl (m_fl 0 rfl (m_at 0 rfl))) rfl dX6_date_13 ?_
  refine r_get X hw (v := .ref (L 1)) fl_X6_108 (m_fl 0 rfl (m_fl 1 rfl (m_fl 0 rfl (m_at 0 rfl)))) rfl dX6_date_16 ?_
  refine lv_astore_n (lv' := [(2, .ref (L 1)), (0, .ref o), (1, .int 2)]) hx hb dX6_date_19 rfl hl (by decide) rfl (fun ls hl => ?_)
  refine lv_iload_n hx hb dX6_date_20 rfl (lv_at hl 2 rfl) ?_
  refine lv_iconst (v := 3) hx hb dX6_date_21 (by decide) ?_
  refine lv_icmp_ne (tgt := 34) hx hb dX6_date_22 (by decide) (fun _ => ?_) (fun h => absurd h (by decide))
  refine lv_aload_n hx hb dX6_date_34 rfl (lv_at hl 0 rfl) ?_
  refine r_callV X hw (ws' := ([([xB D o ha ta (L 0) (M 0) b0 u0 (nI k) (rows4 HL) tx (nI T), chipB D L w1 w2 s.v s.f s.g s.r s.av s.mk s.cm s.ar s.fl s.en s.la s.zs s.se s.ph s.tk s.pc s.rc s.wc s.bc s.tc, hsB D HL HW1 HW2 hs] : List va_W).flatten, ([chipB D M y1 y2 t.v t.f t.g t.r t.av t.mk t.cm t.ar t.fl t.en t.la t.zs t.se t.ph t.tk t.pc t.rc t.wc t.bc t.tc, buB D b0 b1 b2 b3 bw en tb sh n0, orB D u0 u1 nu lt br le] : List va_W).flatten] : List va_W).flatten) (As := []) (rest := []) lk_X6_181 (c_X5_isDateRight l D _ (L 1) (L 2) (L 3) (L 4) (L 5) s.v s.f s.g s.r) (Foc.trans (Foc.at1 0 rfl rfl (ce rfl rfl)) (Foc.trans (Foc.at1 1 rfl rfl (ce rfl (ce rfl rfl))) (Foc.at1 1 rfl rfl (ce rfl (ce rfl (ce rfl (ce rfl rfl))))))) (m_fl 0 rfl (m_fl 1 rfl (m_fl 1 rfl (m_at 0 rfl)))) rfl hl.1 (Nat.le_of_ble_eq_true rfl) ⟨Nat.le_of_ble_eq_true rfl, Nat.le_of_ble_eq_true rfl⟩ rfl dX6_date_35 ⟨Nat.le_refl _, Nat.le_refl _⟩ (fun H locs hw => ?_)
  refine lv_if_ne (tgt := 44) hx hb dX6_date_38 (by decide) (fun _ => ?_) (fun h => absurd h h9)
  refine lv_iload_n hx hb dX6_date_44 rfl (lv_at hl 2 rfl) ?_
  refine r_tabIn (tgt := 82) hx hb 2 rfl dX6_date_45 (by decide) (by decide) rfl (by decide) ?_
  refine lv_aload_n hx hb dX6_date_82 rfl (lv_at hl 0 rfl) ?_
  refine r_get X hw (v := .ref (L 2)) fl_X6_141 (m_fl 0 rfl (m_fl 1 rfl (m_fl 1 rfl (m_at 0 rfl)))) rfl dX6_date_83 ?_
  refine lv_iconst (v := 3) hx hb dX6_date_86 (by decide) ?_
  refine r_iald X hw (f := s.v) 3 (m_fl 0 rfl (m_fl 1 rfl (m_fl 1 rfl (m_at 1 rfl)))) rfl (by decide) (by decide) dX6_date_87 ?_
  refine r_callS X hw (ws' := ([([xB D o ha ta (L 0) (M 0) b0 u0 (nI k) (rows4 HL) tx (nI T), chipB D L w1 w2 s.v s.f s.g s.r s.av s.mk s.cm s.ar s.fl s.en s.la s.zs s.se s.ph s.tk s.pc s.rc s.wc s.bc s.tc, hsB D HL HW1 HW2 hs] : List va_W).flatten, ([chipB D M y1 y2 t.v t.f t.g t.r t.av t.mk t.cm t.ar t.fl t.en t.la t.zs t.se t.ph t.tk t.pc t.rc t.wc t.bc t.tc, buB D b0 b1 b2 b3 bw en tb sh n0, orB D u0 u1 nu lt br le] : List va_W).flatten] : List va_W).flatten) (As := [.int (s.v 3)]) (rest := []) lk_X6_144 (c_X6_numberOf l D _ (s.v 3)) Foc.nil rfl hl.1 (Nat.le_of_ble_eq_true rfl) ⟨Nat.le_of_ble_eq_true rfl, Nat.le_of_ble_eq_true rfl⟩ rfl dX6_date_88 ⟨Nat.le_refl _, Nat.le_refl _⟩ (fun H locs hw => ?_)
  refine lv_aload_n hx hb dX6_date_91 rfl (lv_at hl 0 rfl) ?_
  refine r_callV X hw (ws' := ([([xB D o ha ta (L 0) (M 0) b0 u0 (nI k) (rows4 HL) tx (nI T), chipB D L w1 w2 s.v s.f s.g s.r s.av s.mk s.cm s.ar s.fl s.en s.la s.zs s.se s.ph s.tk s.pc s.rc s.wc s.bc s.tc, hsB D HL HW1 HW2 hs] : List va_W).flatten, ([chipB D M y1 y2 t.v t.f t.g t.r t.av t.mk t.cm t.ar t.fl t.en t.la t.zs t.se t.ph t.tk t.pc t.rc t.wc t.bc t.tc, buB D b0 b1 b2 b3 bw en tb sh n0, orB D u0 u1 nu lt br le] : List va_W).flatten] : List va_W).flatten) (As := []) (rest := [.int (sp_X6_numberOf (s.v 3))]) lk_X6_189 (c_X5_weekdayByDate l D _ (L 1) (L 2) (L 3) (L 4) (L 5) s.v s.f s.g s.r Mo hMo hMo1 hMo2) (Foc.trans (Foc.at1 0 rfl rfl (ce rfl rfl)) (Foc.trans (Foc.at1 1 rfl rfl (ce rfl (ce rfl rfl))) (Foc.at1 1 rfl rfl (ce rfl (ce rfl (ce rfl (ce rfl rfl))))))) (m_fl 0 rfl (m_fl 1 rfl (m_fl 1 rfl (m_at 0 rfl)))) rfl hl.1 (Nat.le_of_ble_eq_true rfl) ⟨Nat.le_of_ble_eq_true rfl, Nat.le_of_ble_eq_true rfl⟩ rfl dX6_date_92 ⟨Nat.le_refl _, Nat.le_refl _⟩ (fun H locs hw => ?_)
  refine lv_icmp_ne (tgt := 102) hx hb dX6_date_95 (by decide) (fun c1 => ?_) (fun c1 => ?_)
  · skip
    refine lv_iconst (v := 0) hx hb dX6_date_102 (by decide) ?_
    exact r_ret X hw hk hret rfl (by unfold sp_X6_date2; rw [if_neg c1]) rfl dX6_date_103
  · skip
    refine lv_iconst (v := 1) hx hb dX6_date_98 (by decide) ?_
    refine lv_goto (tgt := 103) hx hb dX6_date_99 (by decide) ?_
    exact r_ret X hw hk hret rfl (by unfold sp_X6_date2; rw [if_pos c1]) rfl dX6_date_103

noncomputable def sp_X6_date4 (s : ChS) (Mo : Nat) : Int32 := ((sp_X5_daysOfYear s.v) - 1) - (sp_X5_dayOfYear s.v Mo)
set_option maxRecDepth 100000 in
set_option maxHeartbeats 4000000 in
theorem c_X6_date4 (l : Launch) (D : va_G) (sz : Nat) (o ha ta : Nat) (L w1 w2 M y1 y2 : Nat → Nat) (HL HW1 HW2 : Nat → Nat → Nat) (b0 b1 b2 b3 : Nat) (bw : Nat → Nat) (u0 u1 : Nat) (tx : Row) (T : Nat) (s t : ChS) (hs : Nat → ChS) (en tb : Row) (sh : Nat → Row) (n0 : Int32) (nu : Row) (lt br le : Int32) (k : Nat) (hk4 : k ≤ 4) (hT : T ≤ 60) (h9 : ¬ sp_X5_isDateRight s.v = 0) (Mo : Nat) (hMo : sp_X6_numberOf (s.v 5) = nI Mo) (hMo1 : 1 ≤ Mo) (hMo2 : Mo ≤ 12) : MI l yX6_date cX6_date 3 (some .int) 4 85 D sz [.ref o, .int 4] (([([xB D o ha ta (L 0) (M 0) b0 u0 (nI k) (rows4 HL) tx (nI T), chipB D L w1 w2 s.v s.f s.g s.r s.av s.mk s.cm s.ar s.fl s.en s.la s.zs s.se s.ph s.tk s.pc s.rc s.wc s.bc s.tc, hsB D HL HW1 HW2 hs] : List va_W).flatten, ([chipB D M y1 y2 t.v t.f t.g t.r t.av t.mk t.cm t.ar t.fl t.en t.la t.zs t.se t.ph t.tk t.pc t.rc t.wc t.bc t.tc, buB D b0 b1 b2 b3 bw en tb sh n0, orB D u0 u1 nu lt br le] : List va_W).flatten] : List va_W).flatten) (sp_X6_date4 s Mo) (([([xB D o ha ta (L 0) (M 0) b0 u0 (nI k) (rows4 HL) tx (nI T), chipB D L w1 w2 s.v s.f s.g s.r s.av s.mk s.cm s.ar s.fl s.en s.la s.zs s.se s.ph s.tk s.pc s.rc s.wc s.bc s.tc, hsB D HL HW1 HW2 hs] : List va_W).flatten, ([chipB D M y1 y2 t.v t.f t.g t.r t.av t.mk t.cm t.ar t.fl t.en t.la t.zs t.se t.ph t.tk t.pc t.rc t.wc t.bc t.tc, buB D b0 b1 b2 b3 bw en tb sh n0, orB D u0 u1 nu lt br le] : List va_W).flatten] : List va_W).flatten) := by
  refine r_enterI (by decide) (Nat.le_of_ble_eq_true rfl) ?_
  intro p e st m args below meth c ls A X hret hk hw hl
  have X : CX D p m c cX6_date 3 st args RX6 A := X
  have hx := X.1.1
  have hb := X.1.2.1
  have hown := X.1.2.2.2.1
  have hts := X.1.2.2.2.2
  have hl : lv_has ls 3 [(0, .ref o), (1, .int 4)] := hl
  refine lv_iload_n hx hb dX6_date_0 rfl (lv_at hl 1 rfl) ?_
  refine lv_iconst (v := 0) hx hb dX6_date_1 (by decide) ?_
  refine lv_iconst (v := 4) hx hb dX6_date_2 (by decide) ?_
  refine r_callS X hw (ws' := ([([xB D o ha ta (L 0) (M 0) b0 u0 (nI k) (rows4 HL) tx (nI T), chipB D L w1 w2 s.v s.f s.g s.r s.av s.mk s.cm s.ar s.fl s.en s.la s.zs s.se s.ph s.tk s.pc s.rc s.wc s.bc s.tc, hsB D HL HW1 HW2 hs] : List va_W).flatten, ([chipB D M y1 y2 t.v t.f t.g t.r t.av t.mk t.cm t.ar t.fl t.en t.la t.zs t.se t.ph t.tk t.pc t.rc t.wc t.bc t.tc, buB D b0 b1 b2 b3 bw en tb sh n0, orB D u0 u1 nu lt br le] : List va_W).flatten] : List va_W).flatten) (As := [.int 4, .int 0, .int 4]) (rest := []) lk_X6_95 (c_X6_isWithin l D _ 4 0 4) Foc.nil rfl hl.1 (Nat.le_of_ble_eq_true rfl) ⟨Nat.le_of_ble_eq_true rfl, Nat.le_of_ble_eq_true rfl⟩ rfl dX6_date_3 ⟨Nat.le_refl _, Nat.le_refl _⟩ (fun H locs hw => ?_)
  refine lv_if_ne (tgt := 12) hx hb dX6_date_6 (by decide) (fun _ => ?_) (fun h => absurd h (by decide))
  refine lv_aload_n hx hb dX6_date_12 rfl (lv_at hl 0 rfl) ?_
  refine r_get X hw (v := .ref (L 0)) fl_X6_10 (m_fl 0 rfl (m_fl 0 rfl (m_at 0 rfl))) rfl dX6_date_13 ?_
  refine r_get X hw (v := .ref (L 1)) fl_X6_108 (m_fl 0 rfl (m_fl 1 rfl (m_fl 0 rfl (m_at 0 rfl)))) rfl dX6_date_16 ?_
  refine lv_astore_n (lv' := [(2, .ref (L 1)), (0, .ref o), (1, .int 4)]) hx hb dX6_date_19 rfl hl (by decide) rfl (fun ls hl => ?_)
  refine lv_iload_n hx hb dX6_date_20 rfl (lv_at hl 2 rfl) ?_
  refine lv_iconst (v := 3) hx hb dX6_date_21 (by decide) ?_
  refine lv_icmp_ne (tgt := 34) hx hb dX6_date_22 (by decide) (fun _ => ?_) (fun h => absurd h (by decide))
  refine lv_aload_n hx hb dX6_date_34 rfl (lv_at hl 0 rfl) ?_
  refine r_callV X hw (ws' := ([([xB D o ha ta (L 0) (M 0) b0 u0 (nI k) (rows4 HL) tx (nI T), chipB D L w1 w2 s.v s.f s.g s.r s.av s.mk s.cm s.ar s.fl s.en s.la s.zs s.se s.ph s.tk s.pc s.rc s.wc s.bc s.tc, hsB D HL HW1 HW2 hs] : List va_W).flatten, ([chipB D M y1 y2 t.v t.f t.g t.r t.av t.mk t.cm t.ar t.fl t.en t.la t.zs t.se t.ph t.tk t.pc t.rc t.wc t.bc t.tc, buB D b0 b1 b2 b3 bw en tb sh n0, orB D u0 u1 nu lt br le] : List va_W).flatten] : List va_W).flatten) (As := []) (rest := []) lk_X6_181 (c_X5_isDateRight l D _ (L 1) (L 2) (L 3) (L 4) (L 5) s.v s.f s.g s.r) (Foc.trans (Foc.at1 0 rfl rfl (ce rfl rfl)) (Foc.trans (Foc.at1 1 rfl rfl (ce rfl (ce rfl rfl))) (Foc.at1 1 rfl rfl (ce rfl (ce rfl (ce rfl (ce rfl rfl))))))) (m_fl 0 rfl (m_fl 1 rfl (m_fl 1 rfl (m_at 0 rfl)))) rfl hl.1 (Nat.le_of_ble_eq_true rfl) ⟨Nat.le_of_ble_eq_true rfl, Nat.le_of_ble_eq_true rfl⟩ rfl dX6_date_35 ⟨Nat.le_refl _, Nat.le_refl _⟩ (fun H locs hw => ?_)
  refine lv_if_ne (tgt := 44) hx hb dX6_date_38 (by decide) (fun _ => ?_) (fun h => absurd h h9)
  refine lv_iload_n hx hb dX6_date_44 rfl (lv_at hl 2 rfl) ?_
  refine lv_tableOut (tgt := 104) hx hb dX6_date_45 (by decide) (by decide) ?_
  refine lv_aload_n hx hb dX6_date_104 rfl (lv_at hl 0 rfl) ?_
  refine r_callV X hw (ws' := ([([xB D o ha ta (L 0) (M 0) b0 u0 (nI k) (rows4 HL) tx (nI T), chipB D L w1 w2 s.v s.f s.g s.r s.av s.mk s.cm s.ar s.fl s.en s.la s.zs s.se s.ph s.tk s.pc s.rc s.wc s.bc s.tc, hsB D HL HW1 HW2 hs] : List va_W).flatten, ([chipB D M y1 y2 t.v t.f t.g t.r t.av t.mk t.cm t.ar t.fl t.en t.la t.zs t.se t.ph t.tk t.pc t.rc t.wc t.bc t.tc, buB D b0 b1 b2 b3 bw en tb sh n0, orB D u0 u1 nu lt br le] : List va_W).flatten] : List va_W).flatten) (As := []) (rest := []) lk_X6_192 (c_X5_daysOfYear l D _ (L 1) (L 2) (L 3) (L 4) (L 5) s.v s.f s.g s.r) (Foc.trans (Foc.at1 0 rfl rfl (ce rfl rfl)) (Foc.trans (Foc.at1 1 rfl rfl (ce rfl (ce rfl rfl))) (Foc.at1 1 rfl rfl (ce rfl (ce rfl (ce rfl (ce rfl rfl))))))) (m_fl 0 rfl (m_fl 1 rfl (m_fl 1 rfl (m_at 0 rfl)))) rfl hl.1 (Nat.le_of_ble_eq_true rfl) ⟨Nat.le_of_ble_eq_true rfl, Nat.le_of_ble_eq_true rfl⟩ rfl dX6_date_105 ⟨Nat.le_refl _, Nat.le_refl _⟩ (fun H locs hw => ?_)
  refine lv_iconst (v := 1) hx hb dX6_date_108 (by decide) ?_
  refine lv_isub hx hb dX6_date_109 ?_
  refine lv_aload_n hx hb dX6_date_110 rfl (lv_at hl 0 rfl) ?_
  refine r_callV X hw (ws' := ([([xB D o ha ta (L 0) (M 0) b0 u0 (nI k) (rows4 HL) tx (nI T), chipB D L w1 w2 s.v s.f s.g s.r s.av s.mk s.cm s.ar s.fl s.en s.la s.zs s.se s.ph s.tk s.pc s.rc s.wc s.bc s.tc, hsB D HL HW1 HW2 hs] : List va_W).flatten, ([chipB D M y1 y2 t.v t.f t.g t.r t.av t.mk t.cm t.ar t.fl t.en t.la t.zs t.se t.ph t.tk t.pc t.rc t.wc t.bc t.tc, buB D b0 b1 b2 b3 bw en tb sh n0, orB D u0 u1 nu lt br le] : List va_W).flatten] : List va_W).flatten) (As := []) (rest := [.int ((sp_X5_daysOfYear s.v) - 1)]) lk_X6_195 (c_X5_dayOfYear l D _ (L 1) (L 2) (L 3) (L 4) (L 5) s.v s.f s.g s.r Mo hMo hMo1 hMo2) (Foc.trans (Foc.at1 0 rfl rfl (ce rfl rfl)) (Foc.trans (Foc.at1 1 rfl rfl (ce rfl (ce rfl rfl))) (Foc.at1 1 rfl rfl (ce rfl (ce rfl (ce rfl (ce rfl rfl))))))) (m_fl 0 rfl (m_fl 1 rfl (m_fl 1 rfl (m_at 0 rfl)))) rfl hl.1 (Nat.le_of_ble_eq_true rfl) ⟨Nat.le_of_ble_eq_true rfl, Nat.le_of_ble_eq_true rfl⟩ rfl dX6_date_111 ⟨Nat.le_refl _, Nat.le_refl _⟩ (fun H locs hw => ?_)
  refine lv_isub hx hb dX6_date_114 ?_
  exact r_ret X hw hk hret rfl (rfl) rfl dX6_date_115

noncomputable def sp_X6_date3 (s : ChS) : Int32 := sp_X6_numberOf (sp_X5_lastValue s.v 4)
set_option maxRecDepth 100000 in
set_option maxHeartbeats 4000000 in
theorem c_X6_date3 (l : Launch) (D : va_G) (sz : Nat) (o ha ta : Nat) (L w1 w2 M y1 y2 : Nat → Nat) (HL HW1 HW2 : Nat → Nat → Nat) (b0 b1 b2 b3 : Nat) (bw : Nat → Nat) (u0 u1 : Nat) (tx : Row) (T : Nat) (s t : ChS) (hs : Nat → ChS) (en tb : Row) (sh : Nat → Row) (n0 : Int32) (nu : Row) (lt br le : Int32) (k : Nat) (hk4 : k ≤ 4) (hT : T ≤ 60) : MI l yX6_date cX6_date 3 (some .int) 2 43 D sz [.ref o, .int 3] (([([xB D o ha ta (L 0) (M 0) b0 u0 (nI k) (rows4 HL) tx (nI T), chipB D L w1 w2 s.v s.f s.g s.r s.av s.mk s.cm s.ar s.fl s.en s.la s.zs s.se s.ph s.tk s.pc s.rc s.wc s.bc s.tc, hsB D HL HW1 HW2 hs] : List va_W).flatten, ([chipB D M y1 y2 t.v t.f t.g t.r t.av t.mk t.cm t.ar t.fl t.en t.la t.zs t.se t.ph t.tk t.pc t.rc t.wc t.bc t.tc, buB D b0 b1 b2 b3 bw en tb sh n0, orB D u0 u1 nu lt br le] : List va_W).flatten] : List va_W).flatten) (sp_X6_date3 s) (([([xB D o ha ta (L 0) (M 0) b0 u0 (nI k) (rows4 HL) tx (nI T), chipB D L w1 w2 s.v s.f s.g s.r s.av s.mk s.cm s.ar s.fl s.en s.la s.zs s.se s.ph s.tk s.pc s.rc s.wc s.bc s.tc, hsB D HL HW1 HW2 hs] : List va_W).flatten, ([chipB D M y1 y2 t.v t.f t.g t.r t.av t.mk t.cm t.ar t.fl t.en t.la t.zs t.se t.ph t.tk t.pc t.rc t.wc t.bc t.tc, buB D b0 b1 b2 b3 bw en tb sh n0, orB D u0 u1 nu lt br le] : List va_W).flatten] : List va_W).flatten) := by
  refine r_enterI (by decide) (Nat.le_of_ble_eq_true rfl) ?_
  intro p e st m args below meth c ls A X hret hk hw hl
  have X : CX D p m c cX6_date 3 st args RX6 A := X
  have hx := X.1.1
  have hb := X.1.2.1
  have hown := X.1.2.2.2.1
  have hts := X.1.2.2.2.2
  have hl : lv_has ls 3 [(0, .ref o), (1, .int 3)] := hl
  refine lv_iload_n hx hb dX6_date_0 rfl (lv_at hl 1 rfl) ?_
  refine lv_iconst (v := 0) hx hb dX6_date_1 (by decide) ?_
  refine lv_iconst (v := 4) hx hb dX6_date_2 (by decide) ?_
  refine r_callS X hw (ws' := ([([xB D o ha ta (L 0) (M 0) b0 u0 (nI k) (rows4 HL) tx (nI T), chipB D L w1 w2 s.v s.f s.g s.r s.av s.mk s.cm s.ar s.fl s.en s.la s.zs s.se s.ph s.tk s.pc s.rc s.wc s.bc s.tc, hsB D HL HW1 HW2 hs] : List va_W).flatten, ([chipB D M y1 y2 t.v t.f t.g t.r t.av t.mk t.cm t.ar t.fl t.en t.la t.zs t.se t.ph t.tk t.pc t.rc t.wc t.bc t.tc, buB D b0 b1 b2 b3 bw en tb sh n0, orB D u0 u1 nu lt br le] : List va_W).flatten] : List va_W).flatten) (As := [.int 3, .int 0, .int 4]) (rest := []) lk_X6_95 (c_X6_isWithin l D _ 3 0 4) Foc.nil rfl hl.1 (Nat.le_of_ble_eq_true rfl) ⟨Nat.le_of_ble_eq_true rfl, Nat.le_of_ble_eq_true rfl⟩ rfl dX6_date_3 ⟨Nat.le_refl _, Nat.le_refl _⟩ (fun H locs hw => ?_)
  refine lv_if_ne (tgt := 12) hx hb dX6_date_6 (by decide) (fun _ => ?_) (fun h => absurd h (by decide))
  refine lv_aload_n hx hb dX6_date_12 rfl (lv_at hl 0 rfl) ?_
  refine r_get X hw (v := .ref (L 0)) fl_X6_10 (m_fl 0 rfl (m_fl 0 rfl (m_at 0 rfl))) rfl dX6_date_13 ?_
  refine r_get X hw (v := .ref (L 1)) fl_X6_108 (m_fl 0 rfl (m_fl 1 rfl (m_fl 0 rfl (m_at 0 rfl)))) rfl dX6_date_16 ?_
  refine lv_astore_n (lv' := [(2, .ref (L 1)), (0, .ref o), (1, .int 3)]) hx hb dX6_date_19 rfl hl (by decide) rfl (fun ls hl => ?_)
  refine lv_iload_n hx hb dX6_date_20 rfl (lv_at hl 2 rfl) ?_
  refine lv_iconst (v := 3) hx hb dX6_date_21 (by decide) ?_
  refine lv_icmp_ne (tgt := 34) hx hb dX6_date_22 (by decide) (fun h => absurd (by decide) h) (fun _ => ?_)
  refine lv_aload_n hx hb dX6_date_25 rfl (lv_at hl 0 rfl) ?_
  refine lv_iconst (v := 4) hx hb dX6_date_26 (by decide) ?_
  refine r_callV X hw (ws' := ([([xB D o ha ta (L 0) (M 0) b0 u0 (nI k) (rows4 HL) tx (nI T), chipB D L w1 w2 s.v s.f s.g s.r s.av s.mk s.cm s.ar s.fl s.en s.la s.zs s.se s.ph s.tk s.pc s.rc s.wc s.bc s.tc, hsB D HL HW1 HW2 hs] : List va_W).flatten, ([chipB D M y1 y2 t.v t.f t.g t.r t.av t.mk t.cm t.ar t.fl t.en t.la t.zs t.se t.ph t.tk t.pc t.rc t.wc t.bc t.tc, buB D b0 b1 b2 b3 bw en tb sh n0, orB D u0 u1 nu lt br le] : List va_W).flatten] : List va_W).flatten) (As := [.int 4]) (rest := []) lk_X6_138 (c_X5_lastValue l D _ (L 1) (L 2) (L 3) (L 4) (L 5) s.v s.f s.g s.r 4 (by omega)) (Foc.trans (Foc.at1 0 rfl rfl (ce rfl rfl)) (Foc.trans (Foc.at1 1 rfl rfl (ce rfl (ce rfl rfl))) (Foc.at1 1 rfl rfl (ce rfl (ce rfl (ce rfl (ce rfl rfl))))))) (m_fl 0 rfl (m_fl 1 rfl (m_fl 1 rfl (m_at 0 rfl)))) rfl hl.1 (Nat.le_of_ble_eq_true rfl) ⟨Nat.le_of_ble_eq_true rfl, Nat.le_of_ble_eq_true rfl⟩ rfl dX6_date_27 ⟨Nat.le_refl _, Nat.le_refl _⟩ (fun H locs hw => ?_)
  refine r_callS X hw (ws' := ([([xB D o ha ta (L 0) (M 0) b0 u0 (nI k) (rows4 HL) tx (nI T), chipB D L w1 w2 s.v s.f s.g s.r s.av s.mk s.cm s.ar s.fl s.en s.la s.zs s.se s.ph s.tk s.pc s.rc s.wc s.bc s.tc, hsB D HL HW1 HW2 hs] : List va_W).flatten, ([chipB D M y1 y2 t.v t.f t.g t.r t.av t.mk t.cm t.ar t.fl t.en t.la t.zs t.se t.ph t.tk t.pc t.rc t.wc t.bc t.tc, buB D b0 b1 b2 b3 bw en tb sh n0, orB D u0 u1 nu lt br le] : List va_W).flatten] : List va_W).flatten) (As := [.int (sp_X5_lastValue s.v 4)]) (rest := []) lk_X6_144 (c_X6_numberOf l D _ (sp_X5_lastValue s.v 4)) Foc.nil rfl hl.1 (Nat.le_of_ble_eq_true rfl) ⟨Nat.le_of_ble_eq_true rfl, Nat.le_of_ble_eq_true rfl⟩ rfl dX6_date_30 ⟨Nat.le_refl _, Nat.le_refl _⟩ (fun H locs hw => ?_)
  exact r_ret X hw hk hret rfl (rfl) rfl dX6_date_33

set_option maxRecDepth 100000 in
set_option maxHeartbeats 4000000 in
theorem c_X6_dateB (l : Launch) (D : va_G) (sz : Nat) (o ha ta : Nat) (L w1 w2 M y1 y2 : Nat → Nat) (HL HW1 HW2 : Nat → Nat → Nat) (b0 b1 b2 b3 : Nat) (bw : Nat → Nat) (u0 u1 : Nat) (tx : Row) (T : Nat) (s t : ChS) (hs : Nat → ChS) (en tb : Row) (sh : Nat → Row) (n0 : Int32) (nu : Row) (lt br le : Int32) (k : Nat) (hk4 : k ≤ 4) (hT : T ≤ 60) (x : Int32) (h9 : sp_X6_isWithin x 0 4 = 0) : MI l yX6_date cX6_date 3 (some .int) 1 22 D sz [.ref o, .int x] (([([xB D o ha ta (L 0) (M 0) b0 u0 (nI k) (rows4 HL) tx (nI T), chipB D L w1 w2 s.v s.f s.g s.r s.av s.mk s.cm s.ar s.fl s.en s.la s.zs s.se s.ph s.tk s.pc s.rc s.wc s.bc s.tc, hsB D HL HW1 HW2 hs] : List va_W).flatten, ([chipB D M y1 y2 t.v t.f t.g t.r t.av t.mk t.cm t.ar t.fl t.en t.la t.zs t.se t.ph t.tk t.pc t.rc t.wc t.bc t.tc, buB D b0 b1 b2 b3 bw en tb sh n0, orB D u0 u1 nu lt br le] : List va_W).flatten] : List va_W).flatten) (-1000001) (([([xB D o ha ta (L 0) (M 0) b0 u0 (nI k) (rows4 HL) tx (nI T), chipB D L w1 w2 s.v s.f s.g s.r s.av s.mk s.cm s.ar s.fl s.en s.la s.zs s.se s.ph s.tk s.pc s.rc s.wc s.bc s.tc, hsB D HL HW1 HW2 hs] : List va_W).flatten, ([chipB D M y1 y2 t.v t.f t.g t.r t.av t.mk t.cm t.ar t.fl t.en t.la t.zs t.se t.ph t.tk t.pc t.rc t.wc t.bc t.tc, buB D b0 b1 b2 b3 bw en tb sh n0, orB D u0 u1 nu lt br le] : List va_W).flatten] : List va_W).flatten) := by
  refine r_enterI (by decide) (Nat.le_of_ble_eq_true rfl) ?_
  intro p e st m args below meth c ls A X hret hk hw hl
  have X : CX D p m c cX6_date 3 st args RX6 A := X
  have hx := X.1.1
  have hb := X.1.2.1
  have hown := X.1.2.2.2.1
  have hts := X.1.2.2.2.2
  have hl : lv_has ls 3 [(0, .ref o), (1, .int x)] := hl
  refine lv_iload_n hx hb dX6_date_0 rfl (lv_at hl 1 rfl) ?_
  refine lv_iconst (v := 0) hx hb dX6_date_1 (by decide) ?_
  refine lv_iconst (v := 4) hx hb dX6_date_2 (by decide) ?_
  refine r_callS X hw (ws' := ([([xB D o ha ta (L 0) (M 0) b0 u0 (nI k) (rows4 HL) tx (nI T), chipB D L w1 w2 s.v s.f s.g s.r s.av s.mk s.cm s.ar s.fl s.en s.la s.zs s.se s.ph s.tk s.pc s.rc s.wc s.bc s.tc, hsB D HL HW1 HW2 hs] : List va_W).flatten, ([chipB D M y1 y2 t.v t.f t.g t.r t.av t.mk t.cm t.ar t.fl t.en t.la t.zs t.se t.ph t.tk t.pc t.rc t.wc t.bc t.tc, buB D b0 b1 b2 b3 bw en tb sh n0, orB D u0 u1 nu lt br le] : List va_W).flatten] : List va_W).flatten) (As := [.int x, .int 0, .int 4]) (rest := []) lk_X6_95 (c_X6_isWithin l D _ x 0 4) Foc.nil rfl hl.1 (Nat.le_of_ble_eq_true rfl) ⟨Nat.le_of_ble_eq_true rfl, Nat.le_of_ble_eq_true rfl⟩ rfl dX6_date_3 ⟨Nat.le_refl _, Nat.le_refl _⟩ (fun H locs hw => ?_)
  refine lv_if_ne (tgt := 12) hx hb dX6_date_6 (by decide) (fun h => absurd h9 h) (fun _ => ?_)
  refine lv_ldc (v := (-1000001)) hx hb hown (hts _ kc_X6_45) dX6_date_9 ?_
  exact r_ret X hw hk hret rfl rfl rfl dX6_date_11

set_option maxRecDepth 100000 in
set_option maxHeartbeats 4000000 in
theorem c_X6_dateN (l : Launch) (D : va_G) (sz : Nat) (o ha ta : Nat) (L w1 w2 M y1 y2 : Nat → Nat) (HL HW1 HW2 : Nat → Nat → Nat) (b0 b1 b2 b3 : Nat) (bw : Nat → Nat) (u0 u1 : Nat) (tx : Row) (T : Nat) (s t : ChS) (hs : Nat → ChS) (en tb : Row) (sh : Nat → Row) (n0 : Int32) (nu : Row) (lt br le : Int32) (k : Nat) (hk4 : k ≤ 4) (hT : T ≤ 60) (x : Int32) (h8 : ¬ sp_X6_isWithin x 0 4 = 0) (h7 : ¬ x = 3) (h9 : sp_X5_isDateRight s.v = 0) : MI l yX6_date cX6_date 3 (some .int) 4 85 D sz [.ref o, .int x] (([([xB D o ha ta (L 0) (M 0) b0 u0 (nI k) (rows4 HL) tx (nI T), chipB D L w1 w2 s.v s.f s.g s.r s.av s.mk s.cm s.ar s.fl s.en s.la s.zs s.se s.ph s.tk s.pc s.rc s.wc s.bc s.tc, hsB D HL HW1 HW2 hs] : List va_W).flatten, ([chipB D M y1 y2 t.v t.f t.g t.r t.av t.mk t.cm t.ar t.fl t.en t.la t.zs t.se t.ph t.tk t.pc t.rc t.wc t.bc t.tc, buB D b0 b1 b2 b3 bw en tb sh n0, orB D u0 u1 nu lt br le] : List va_W).flatten] : List va_W).flatten) (-1000004) (([([xB D o ha ta (L 0) (M 0) b0 u0 (nI k) (rows4 HL) tx (nI T), chipB D L w1 w2 s.v s.f s.g s.r s.av s.mk s.cm s.ar s.fl s.en s.la s.zs s.se s.ph s.tk s.pc s.rc s.wc s.bc s.tc, hsB D HL HW1 HW2 hs] : List va_W).flatten, ([chipB D M y1 y2 t.v t.f t.g t.r t.av t.mk t.cm t.ar t.fl t.en t.la t.zs t.se t.ph t.tk t.pc t.rc t.wc t.bc t.tc, buB D b0 b1 b2 b3 bw en tb sh n0, orB D u0 u1 nu lt br le] : List va_W).flatten] : List va_W).flatten) := by
  refine r_enterI (by decide) (Nat.le_of_ble_eq_true rfl) ?_
  intro p e st m args below meth c ls A X hret hk hw hl
  have X : CX D p m c cX6_date 3 st args RX6 A := X
  have hx := X.1.1
  have hb := X.1.2.1
  have hown := X.1.2.2.2.1
  have hts := X.1.2.2.2.2
  have hl : lv_has ls 3 [(0, .ref o), (1, .int x)] := hl
  refine lv_iload_n hx hb dX6_date_0 rfl (lv_at hl 1 rfl) ?_
  refine lv_iconst (v := 0) hx hb dX6_date_1 (by decide) ?_
  refine lv_iconst (v := 4) hx hb dX6_date_2 (by decide) ?_
  refine r_callS X hw (ws' := ([([xB D o ha ta (L 0) (M 0) b0 u0 (nI k) (rows4 HL) tx (nI T), chipB D L w1 w2 s.v s.f s.g s.r s.av s.mk s.cm s.ar s.fl s.en s.la s.zs s.se s.ph s.tk s.pc s.rc s.wc s.bc s.tc, hsB D HL HW1 HW2 hs] : List va_W).flatten, ([chipB D M y1 y2 t.v t.f t.g t.r t.av t.mk t.cm t.ar t.fl t.en t.la t.zs t.se t.ph t.tk t.pc t.rc t.wc t.bc t.tc, buB D b0 b1 b2 b3 bw en tb sh n0, orB D u0 u1 nu lt br le] : List va_W).flatten] : List va_W).flatten) (As := [.int x, .int 0, .int 4]) (rest := []) lk_X6_95 (c_X6_isWithin l D _ x 0 4) Foc.nil rfl hl.1 (Nat.le_of_ble_eq_true rfl) ⟨Nat.le_of_ble_eq_true rfl, Nat.le_of_ble_eq_true rfl⟩ rfl dX6_date_3 ⟨Nat.le_refl _, Nat.le_refl _⟩ (fun H locs hw => ?_)
  refine lv_if_ne (tgt := 12) hx hb dX6_date_6 (by decide) (fun _ => ?_) (fun h => absurd h h8)
  refine lv_aload_n hx hb dX6_date_12 rfl (lv_at hl 0 rfl) ?_
  refine r_get X hw (v := .ref (L 0)) fl_X6_10 (m_fl 0 rfl (m_fl 0 rfl (m_at 0 rfl))) rfl dX6_date_13 ?_
  refine r_get X hw (v := .ref (L 1)) fl_X6_108 (m_fl 0 rfl (m_fl 1 rfl (m_fl 0 rfl (m_at 0 rfl)))) rfl dX6_date_16 ?_
  refine lv_astore_n (lv' := [(2, .ref (L 1)), (0, .ref o), (1, .int x)]) hx hb dX6_date_19 rfl hl (by decide) rfl (fun ls hl => ?_)
  refine lv_iload_n hx hb dX6_date_20 rfl (lv_at hl 2 rfl) ?_
  refine lv_iconst (v := 3) hx hb dX6_date_21 (by decide) ?_
  refine lv_icmp_ne (tgt := 34) hx hb dX6_date_22 (by decide) (fun _ => ?_) (fun h => absurd h h7)
  refine lv_aload_n hx hb dX6_date_34 rfl (lv_at hl 0 rfl) ?_
  refine r_callV X hw (ws' := ([([xB D o ha ta (L 0) (M 0) b0 u0 (nI k) (rows4 HL) tx (nI T), chipB D L w1 w2 s.v s.f s.g s.r s.av s.mk s.cm s.ar s.fl s.en s.la s.zs s.se s.ph s.tk s.pc s.rc s.wc s.bc s.tc, hsB D HL HW1 HW2 hs] : List va_W).flatten, ([chipB D M y1 y2 t.v t.f t.g t.r t.av t.mk t.cm t.ar t.fl t.en t.la t.zs t.se t.ph t.tk t.pc t.rc t.wc t.bc t.tc, buB D b0 b1 b2 b3 bw en tb sh n0, orB D u0 u1 nu lt br le] : List va_W).flatten] : List va_W).flatten) (As := []) (rest := []) lk_X6_181 (c_X5_isDateRight l D _ (L 1) (L 2) (L 3) (L 4) (L 5) s.v s.f s.g s.r) (Foc.trans (Foc.at1 0 rfl rfl (ce rfl rfl)) (Foc.trans (Foc.at1 1 rfl rfl (ce rfl (ce rfl rfl))) (Foc.at1 1 rfl rfl (ce rfl (ce rfl (ce rfl (ce rfl rfl))))))) (m_fl 0 rfl (m_fl 1 rfl (m_fl 1 rfl (m_at 0 rfl)))) rfl hl.1 (Nat.le_of_ble_eq_true rfl) ⟨Nat.le_of_ble_eq_true rfl, Nat.le_of_ble_eq_true rfl⟩ rfl dX6_date_35 ⟨Nat.le_refl _, Nat.le_refl _⟩ (fun H locs hw => ?_)
  refine lv_if_ne (tgt := 44) hx hb dX6_date_38 (by decide) (fun h => absurd h9 h) (fun _ => ?_)
  refine lv_ldc (v := (-1000004)) hx hb hown (hts _ kc_X6_185) dX6_date_41 ?_
  exact r_ret X hw hk hret rfl rfl rfl dX6_date_43
