/-- a chip's state, as the program keeps it -/
abbrev ChS : Type := Row × Row × Row × Row × (Nat → Row) × Row × Row × Int32 × Int32 × (Nat → Row) × Int32 × Int32 × Row × Int32 × Int32 × Int32 × Int32 × Int32 × Int32 × Int32
abbrev ChS.v (s : ChS) : Row := s.1
abbrev ChS.f (s : ChS) : Row := s.2.1
abbrev ChS.g (s : ChS) : Row := s.2.2.1
abbrev ChS.r (s : ChS) : Row := s.2.2.2.1
abbrev ChS.av (s : ChS) : Nat → Row := s.2.2.2.2.1
abbrev ChS.mk (s : ChS) : Row := s.2.2.2.2.2.1
abbrev ChS.cm (s : ChS) : Row := s.2.2.2.2.2.2.1
abbrev ChS.ar (s : ChS) : Int32 := s.2.2.2.2.2.2.2.1
abbrev ChS.fl (s : ChS) : Int32 := s.2.2.2.2.2.2.2.2.1
abbrev ChS.en (s : ChS) : Nat → Row := s.2.2.2.2.2.2.2.2.2.1
abbrev ChS.la (s : ChS) : Int32 := s.2.2.2.2.2.2.2.2.2.2.1
abbrev ChS.zs (s : ChS) : Int32 := s.2.2.2.2.2.2.2.2.2.2.2.1
abbrev ChS.se (s : ChS) : Row := s.2.2.2.2.2.2.2.2.2.2.2.2.1
abbrev ChS.ph (s : ChS) : Int32 := s.2.2.2.2.2.2.2.2.2.2.2.2.2.1
abbrev ChS.tk (s : ChS) : Int32 := s.2.2.2.2.2.2.2.2.2.2.2.2.2.2.1
abbrev ChS.pc (s : ChS) : Int32 := s.2.2.2.2.2.2.2.2.2.2.2.2.2.2.2.1
abbrev ChS.rc (s : ChS) : Int32 := s.2.2.2.2.2.2.2.2.2.2.2.2.2.2.2.2.1
abbrev ChS.wc (s : ChS) : Int32 := s.2.2.2.2.2.2.2.2.2.2.2.2.2.2.2.2.2.1
abbrev ChS.bc (s : ChS) : Int32 := s.2.2.2.2.2.2.2.2.2.2.2.2.2.2.2.2.2.2.1
abbrev ChS.tc (s : ChS) : Int32 := s.2.2.2.2.2.2.2.2.2.2.2.2.2.2.2.2.2.2.2
abbrev ChS.mk (v : Row) (f : Row) (g : Row) (r : Row) (av : Nat → Row) (mk : Row) (cm : Row) (ar : Int32) (fl : Int32) (en : Nat → Row) (la : Int32) (zs : Int32) (se : Row) (ph : Int32) (tk : Int32) (pc : Int32) (rc : Int32) (wc : Int32) (bc : Int32) (tc : Int32) : ChS := (v, f, g, r, av, mk, cm, ar, fl, en, la, zs, se, ph, tk, pc, rc, wc, bc, tc)
noncomputable def sp_X3_passPhase (s : ChS) : Int32 × ChS := (if (s.se 2) ≤ (s.ph + 1) then (1, (ChS.mk ((sp_X5_tick s.v s.f s.g s.r).1) s.f s.g ((sp_X5_tick s.v s.f s.g s.r).2) s.av s.mk ((cmF s.av s.mk ((sp_X5_tick s.v s.f s.g s.r).1) s.ar (s.cm, s.fl) 3).1) s.ar ((cmF s.av s.mk ((sp_X5_tick s.v s.f s.g s.r).1) s.ar (s.cm, s.fl) 3).2) s.en s.la s.zs s.se 0 (s.tk + 1) (s.pc + 1) s.rc s.wc s.bc s.tc)) else (0, (ChS.mk s.v s.f s.g s.r s.av s.mk s.cm s.ar s.fl s.en s.la s.zs s.se (s.ph + 1) s.tk (s.pc + 1) s.rc s.wc s.bc s.tc)))
set_option maxRecDepth 100000 in
set_option maxHeartbeats 4000000 in
theorem c_X3_passPhase (l : Launch) (D : va_G) (sz : Nat) (L w1 w2 : Nat → Nat) (s : ChS) : MI l yX3_passPhase cX3_passPhase 1 (some .boolean) 3 67 D sz [.ref (L 0)] (chipB D L w1 w2 s.v s.f s.g s.r s.av s.mk s.cm s.ar s.fl s.en s.la s.zs s.se s.ph s.tk s.pc s.rc s.wc s.bc s.tc) ((sp_X3_passPhase s).1) (chipB D L w1 w2 (((sp_X3_passPhase s).2).v) (((sp_X3_passPhase s).2).f) (((sp_X3_passPhase s).2).g) (((sp_X3_passPhase s).2).r) (((sp_X3_passPhase s).2).av) (((sp_X3_passPhase s).2).mk) (((sp_X3_passPhase s).2).cm) (((sp_X3_passPhase s).2).ar) (((sp_X3_passPhase s).2).fl) (((sp_X3_passPhase s).2).en) (((sp_X3_passPhase s).2).la) (((sp_X3_passPhase s).2).zs) (((sp_X3_passPhase s).2).se) (((sp_X3_passPhase s).2).ph) (((sp_X3_passPhase s).2).tk) (((sp_X3_passPhase s).2).pc) (((sp_X3_passPhase s).2).rc) (((sp_X3_passPhase s).2).wc) (((sp_X3_passPhase s).2).bc) (((sp_X3_passPhase s).2).tc)) := by
  refine r_enterI (by decide) (Nat.le_of_ble_eq_true rfl) ?_
  intro p e st m args below meth c ls A X hret hk hw hl
  have X : CX D p m c cX3_passPhase 1 st args RX3 A := X
  have hx := X.1.1
  have hb := X.1.2.1
  have hown := X.1.2.2.2.1
  have hts := X.1.2.2.2.2
  have hl : lv_has ls 1 [(0, .ref (L 0))] := hl
  refine lv_aload_n hx hb dX3_passPhase_0 rfl (lv_at hl 0 rfl) ?_
  refine lv_dup hx hb dX3_passPhase_1 rfl ?_
  refine r_get X hw (v := .int s.pc) fl_X3_59 (m_fl 0 rfl (m_at 0 rfl)) rfl dX3_passPhase_2 ?_
  refine lv_iconst (v := 1) hx hb dX3_passPhase_5 (by decide) ?_
  refine lv_iadd hx hb dX3_passPhase_6 ?_
  refine r_puti X hw (ws' := chipB D L w1 w2 s.v s.f s.g s.r s.av s.mk s.cm s.ar s.fl s.en s.la s.zs s.se s.ph s.tk (s.pc + 1) s.rc s.wc s.bc s.tc) fp_X3_59 (Nat.le_of_ble_eq_true rfl) (Foc.trans (Foc.at1 0 rfl rfl (ce rfl (ce rfl (ce rfl (ce rfl rfl))))) (Foc.cell 0 rfl rfl rfl)) dX3_passPhase_7 (fun H locs hw => ?_)
  refine lv_aload_n hx hb dX3_passPhase_10 rfl (lv_at hl 0 rfl) ?_
  refine lv_dup hx hb dX3_passPhase_11 rfl ?_
  refine r_get X hw (v := .int s.ph) fl_X3_52 (m_fl 0 rfl (m_at 0 rfl)) rfl dX3_passPhase_12 ?_
  refine lv_iconst (v := 1) hx hb dX3_passPhase_15 (by decide) ?_
  refine lv_iadd hx hb dX3_passPhase_16 ?_
  refine r_puti X hw (ws' := chipB D L w1 w2 s.v s.f s.g s.r s.av s.mk s.cm s.ar s.fl s.en s.la s.zs s.se (s.ph + 1) s.tk (s.pc + 1) s.rc s.wc s.bc s.tc) fp_X3_52 (Nat.le_of_ble_eq_true rfl) (Foc.trans (Foc.at1 0 rfl rfl (ce rfl (ce rfl (ce rfl (ce rfl rfl))))) (Foc.cell 0 rfl rfl rfl)) dX3_passPhase_17 (fun H locs hw => ?_)
  refine lv_aload_n hx hb dX3_passPhase_20 rfl (lv_at hl 0 rfl) ?_
  refine r_get X hw (v := .int (s.ph + 1)) fl_X3_52 (m_fl 0 rfl (m_at 0 rfl)) rfl dX3_passPhase_21 ?_
  refine lv_aload_n hx hb dX3_passPhase_24 rfl (lv_at hl 0 rfl) ?_
  refine r_get X hw (v := .ref (L 12)) fl_X3_32 (m_fl 0 rfl (m_at 0 rfl)) rfl dX3_passPhase_25 ?_
  refine lv_iconst (v := 2) hx hb dX3_passPhase_28 (by decide) ?_
  refine r_iald X hw (f := s.se) 2 (m_fl 4 rfl (m_at 0 rfl)) rfl (by decide) (by decide) dX3_passPhase_29 ?_
  refine lv_icmp_ge (tgt := 35) hx hb dX3_passPhase_30 (by decide) (fun c1 => ?_) (fun c1 => ?_)
  · skip
    refine lv_aload_n hx hb dX3_passPhase_35 rfl (lv_at hl 0 rfl) ?_
    refine lv_iconst (v := 0) hx hb dX3_passPhase_36 (by decide) ?_
    refine r_puti X hw (ws' := chipB D L w1 w2 s.v s.f s.g s.r s.av s.mk s.cm s.ar s.fl s.en s.la s.zs s.se 0 s.tk (s.pc + 1) s.rc s.wc s.bc s.tc) fp_X3_52 (Nat.le_of_ble_eq_true rfl) (Foc.trans (Foc.at1 0 rfl rfl (ce rfl (ce rfl (ce rfl (ce rfl rfl))))) (Foc.cell 0 rfl rfl rfl)) dX3_passPhase_37 (fun H locs hw => ?_)
    refine lv_aload_n hx hb dX3_passPhase_40 rfl (lv_at hl 0 rfl) ?_
    refine lv_dup hx hb dX3_passPhase_41 rfl ?_
    refine r_get X hw (v := .int s.tk) fl_X3_56 (m_fl 0 rfl (m_at 0 rfl)) rfl dX3_passPhase_42 ?_
    refine lv_iconst (v := 1) hx hb dX3_passPhase_45 (by decide) ?_
    refine lv_iadd hx hb dX3_passPhase_46 ?_
    refine r_puti X hw (ws' := chipB D L w1 w2 s.v s.f s.g s.r s.av s.mk s.cm s.ar s.fl s.en s.la s.zs s.se 0 (s.tk + 1) (s.pc + 1) s.rc s.wc s.bc s.tc) fp_X3_56 (Nat.le_of_ble_eq_true rfl) (Foc.trans (Foc.at1 0 rfl rfl (ce rfl (ce rfl (ce rfl (ce rfl rfl))))) (Foc.cell 0 rfl rfl rfl)) dX3_passPhase_47 (fun H locs hw => ?_)
    refine lv_aload_n hx hb dX3_passPhase_50 rfl (lv_at hl 0 rfl) ?_
    refine r_get X hw (v := .ref (L 1)) fl_X3_12 (m_fl 0 rfl (m_at 0 rfl)) rfl dX3_passPhase_51 ?_
    refine r_callVv X hw (ws' := chipB D L w1 w2 ((sp_X5_tick s.v s.f s.g s.r).1) s.f s.g ((sp_X5_tick s.v s.f s.g s.r).2) s.av s.mk s.cm s.ar s.fl s.en s.la s.zs s.se 0 (s.tk + 1) (s.pc + 1) s.rc s.wc s.bc s.tc) (As := []) (rest := []) lk_X3_74 (c_X5_tick l D _ (L 1) (L 2) (L 3) (L 4) (L 5) s.v s.f s.g s.r) (Foc.at1 1 rfl rfl (ce rfl (ce rfl (ce rfl (ce rfl rfl))))) (m_fl 1 rfl (m_at 0 rfl)) rfl hl.1 (Nat.le_of_ble_eq_true rfl) ⟨Nat.le_of_ble_eq_true rfl, Nat.le_of_ble_eq_true rfl⟩ rfl dX3_passPhase_54 ⟨Nat.le_refl _, Nat.le_refl _⟩ (fun H locs hw => ?_)
    refine lv_aload_n hx hb dX3_passPhase_57 rfl (lv_at hl 0 rfl) ?_
    refine r_get X hw (v := .ref (L 6)) fl_X3_21 (m_fl 0 rfl (m_at 0 rfl)) rfl dX3_passPhase_58 ?_
    refine lv_aload_n hx hb dX3_passPhase_61 rfl (lv_at hl 0 rfl) ?_
    refine r_get X hw (v := .ref (L 1)) fl_X3_12 (m_fl 0 rfl (m_at 0 rfl)) rfl dX3_passPhase_62 ?_
    refine r_callVv X hw (ws' := chipB D L w1 w2 ((sp_X5_tick s.v s.f s.g s.r).1) s.f s.g ((sp_X5_tick s.v s.f s.g s.r).2) s.av s.mk ((cmF s.av s.mk ((sp_X5_tick s.v s.f s.g s.r).1) s.ar (s.cm, s.fl) 3).1) s.ar ((cmF s.av s.mk ((sp_X5_tick s.v s.f s.g s.r).1) s.ar (s.cm, s.fl) 3).2) s.en s.la s.zs s.se 0 (s.tk + 1) (s.pc + 1) s.rc s.wc s.bc s.tc) (As := [.ref (L 1)]) (rest := []) lk_X3_77 (c_X0_comeIfDue l D _ (L 6) (L 7) (L 8) (L 9) w1 s.av s.mk s.cm s.ar s.fl (L 1) (L 2) (L 3) (L 4) (L 5) ((sp_X5_tick s.v s.f s.g s.r).1) s.f s.g ((sp_X5_tick s.v s.f s.g s.r).2)) (Foc.at2 2 1 rfl rfl rfl rfl (ce rfl (ce rfl (ce rfl rfl)))) (m_fl 2 rfl (m_at 0 rfl)) rfl hl.1 (Nat.le_of_ble_eq_true rfl) ⟨Nat.le_of_ble_eq_true rfl, Nat.le_of_ble_eq_true rfl⟩ rfl dX3_passPhase_65 ⟨Nat.le_refl _, Nat.le_refl _⟩ (fun H locs hw => ?_)
    refine lv_iconst (v := 1) hx hb dX3_passPhase_68 (by decide) ?_
    exact r_ret X hw hk hret rfl (by unfold sp_X3_passPhase; rw [if_pos c1]) (by unfold sp_X3_passPhase; rw [if_pos c1]) dX3_passPhase_69
  · skip
    refine lv_iconst (v := 0) hx hb dX3_passPhase_33 (by decide) ?_
    exact r_ret X hw hk hret rfl (by unfold sp_X3_passPhase; rw [if_neg c1]) (by unfold sp_X3_passPhase; rw [if_neg c1]) dX3_passPhase_34
