/-- a chip's state, as the program keeps it -/
abbrev ChS : Type := Row × Row × Row × Row × (Nat → Row) × Row × Row × Int32 × Int32 × (Nat → Row) × Int32 × Int32 × Row × Int32 × Int32 × Int32 × Int32 × Int32 × Int32 × Int32
abbrev ChS.v (s : ChS) : Row := s.1
abbrev ChS.f (s : ChS) : Row := s.2.1
abbrev ChS.g (s : ChS) : Row := s.2.2.1
abbrev ChS.r (s : ChS) : Row := s.2.2.2.1
abbrev ChS.av (s : ChS) : Nat → Row := s.2.2.2.2.1
abbrev ChS.mk (s : ChS) : Row := s.2.2.2.2.2.1
abbrev ChS.cm (s : ChS) : Row := s.2.2.2.2.2.2.1
abbrev ChS.ar (s : ChS) : Int32 := s.2.2.2.2.2.2.2.1
abbrev ChS.fl (s : ChS) : Int32 := s.2.2.2.2.2.2.2.2.1
abbrev ChS.en (s : ChS) : Nat → Row := s.2.2.2.2.2.2.2.2.2.1
abbrev ChS.la (s : ChS) : Int32 := s.2.2.2.2.2.2.2.2.2.2.1
abbrev ChS.zs (s : ChS) : Int32 := s.2.2.2.2.2.2.2.2.2.2.2.1
abbrev ChS.se (s : ChS) : Row := s.2.2.2.2.2.2.2.2.2.2.2.2.1
abbrev ChS.ph (s : ChS) : Int32 := s.2.2.2.2.2.2.2.2.2.2.2.2.2.1
abbrev ChS.tk (s : ChS) : Int32 := s.2.2.2.2.2.2.2.2.2.2.2.2.2.2.1
abbrev ChS.pc (s : ChS) : Int32 := s.2.2.2.2.2.2.2.2.2.2.2.2.2.2.2.1
abbrev ChS.rc (s : ChS) : Int32 := s.2.2.2.2.2.2.2.2.2.2.2.2.2.2.2.2.1
abbrev ChS.wc (s : ChS) : Int32 := s.2.2.2.2.2.2.2.2.2.2.2.2.2.2.2.2.2.1
abbrev ChS.bc (s : ChS) : Int32 := s.2.2.2.2.2.2.2.2.2.2.2.2.2.2.2.2.2.2.1
abbrev ChS.tc (s : ChS) : Int32 := s.2.2.2.2.2.2.2.2.2.2.2.2.2.2.2.2.2.2.2
abbrev ChS.new (v : Row) (f : Row) (g : Row) (r : Row) (av : Nat → Row) (mk : Row) (cm : Row) (ar : Int32) (fl : Int32) (en : Nat → Row) (la : Int32) (zs : Int32) (se : Row) (ph : Int32) (tk : Int32) (pc : Int32) (rc : Int32) (wc : Int32) (bc : Int32) (tc : Int32) : ChS := (v, f, g, r, av, mk, cm, ar, fl, en, la, zs, se, ph, tk, pc, rc, wc, bc, tc)
noncomputable def sp_X3_passPhase (s : ChS) : Int32 × ChS := (if (s.se 2) ≤ (s.ph + 1) then (1, (ChS.new ((sp_X5_tick s.v s.f s.g s.r).1) s.f s.g ((sp_X5_tick s.v s.f s.g s.r).2) s.av s.mk ((cmF s.av s.mk ((sp_X5_tick s.v s.f s.g s.r).1) s.ar (s.cm, s.fl) 3).1) s.ar ((cmF s.av s.mk ((sp_X5_tick s.v s.f s.g s.r).1) s.ar (s.cm, s.fl) 3).2) s.en s.la s.zs s.se 0 (s.tk + 1) (s.pc + 1) s.rc s.wc s.bc s.tc)) else (0, (ChS.new s.v s.f s.g s.r s.av s.mk s.cm s.ar s.fl s.en s.la s.zs s.se (s.ph + 1) s.tk (s.pc + 1) s.rc s.wc s.bc s.tc)))
set_option maxRecDepth 100000 in
set_option maxHeartbeats 4000000 in
theorem c_X3_passPhase (l : Launch) (D : va_G) (sz : Nat) (L w1 w2 : Nat → Nat) (s : ChS) : MI l yX3_passPhase cX3_passPhase 1 (some .boolean) 3 67 D sz [.ref (L 0)] (chipB D L w1 w2 s.v s.f s.g s.r s.av s.mk s.cm s.ar s.fl s.en s.la s.zs s.se s.ph s.tk s.pc s.rc s.wc s.bc s.tc) ((sp_X3_passPhase s).1) (chipB D L w1 w2 (((sp_X3_passPhase s).2).v) (((sp_X3_passPhase s).2).f) (((sp_X3_passPhase s).2).g) (((sp_X3_passPhase s).2).r) (((sp_X3_passPhase s).2).av) (((sp_X3_passPhase s).2).mk) (((sp_X3_passPhase s).2).cm) (((sp_X3_passPhase s).2).ar) (((sp_X3_passPhase s).2).fl) (((sp_X3_passPhase s).2).en) (((sp_X3_passPhase s).2).la) (((sp_X3_passPhase s).2).zs) (((sp_X3_passPhase s).2).se) (((sp_X3_passPhase s).2).ph) (((sp_X3_passPhase s).2).tk) (((sp_X3_passPhase s).2).pc) (((sp_X3_passPhase s).2).rc) (((sp_X3_passPhase s).2).wc) (((sp_X3_passPhase s).2).bc) (((sp_X3_passPhase s).2).tc)) := by
  refine r_enterI (by decide) (Nat.le_of_ble_eq_true rfl) ?_
  intro p e st m args below meth c ls A X hret hk hw hl
  have X : CX D p m c cX3_passPhase 1 st args RX3 A := X
  have hx := X.1.1
  have hb := X.1.2.1
  have hown := X.1.2.2.2.1
  have hts := X.1.2.2.2.2
  have hl : lv_has ls 1 [(0, .ref (L 0))] := hl
  refine lv_aload_n hx hb dX3_passPhase_0 rfl (lv_at hl 0 rfl) ?_
  refine lv_dup hx hb dX3_passPhase_1 rfl ?_
  refine r_get X hw (v := .int s.pc) fl_X3_59 (m_fl 0 rfl (m_at 0 rfl)) rfl dX3_passPhase_2 ?_
  refine lv_iconst (v := 1) hx hb dX3_passPhase_5 (by decide) ?_
  refine lv_iadd hx hb dX3_passPhase_6 ?_
  refine r_puti X hw (ws' := chipB D L w1 w2 s.v s.f s.g s.r s.av s.mk s.cm s.ar s.fl s.en s.la s.zs s.se s.ph s.tk (s.pc + 1) s.rc s.wc s.bc s.tc) fp_X3_59 (Nat.le_of_ble_eq_true rfl) (Foc.trans (Foc.at1 0 rfl rfl (ce rfl (ce rfl (ce rfl (ce rfl rfl))))) (Foc.cell 0 rfl rfl rfl)) dX3_passPhase_7 (fun H locs hw => ?_)
  refine lv_aload_n hx hb dX3_passPhase_10 rfl (lv_at hl 0 rfl) ?_
  refine lv_dup hx hb dX3_passPhase_11 rfl ?_
  refine r_get X hw (v := .int s.ph) fl_X3_52 (m_fl 0 rfl (m_at 0 rfl)) rfl dX3_passPhase_12 ?_
  refine lv_iconst (v := 1) hx hb dX3_passPhase_15 (by decide) ?_
  refine lv_iadd hx hb dX3_passPhase_16 ?_
  refine r_puti X hw (ws' := chipB D L w1 w2 s.v s.f s.g s.r s.av s.mk s.cm s.ar s.fl s.en s.la s.zs s.se (s.ph + 1) s.tk (s.pc + 1) s.rc s.wc s.bc s.tc) fp_X3_52 (Nat.le_of_ble_eq_true rfl) (Foc.trans (Foc.at1 0 rfl rfl (ce rfl (ce rfl (ce rfl (ce rfl rfl))))) (Foc.cell 0 rfl rfl rfl)) dX3_passPhase_17 (fun H locs hw => ?_)
  refine lv_aload_n hx hb dX3_passPhase_20 rfl (lv_at hl 0 rfl) ?_
  refine r_get X hw (v := .int (s.ph + 1)) fl_X3_52 (m_fl 0 rfl (m_at 0 rfl)) rfl dX3_passPhase_21 ?_
  refine lv_aload_n hx hb dX3_passPhase_24 rfl (lv_at hl 0 rfl) ?_
  refine r_get X hw (v := .ref (L 12)) fl_X3_32 (m_fl 0 rfl (m_at 0 rfl)) rfl dX3_passPhase_25 ?_
  refine lv_iconst (v := 2) hx hb dX3_passPhase_28 (by decide) ?_
  refine r_iald X hw (f := s.se) 2 (m_fl 4 rfl (m_at 0 rfl)) rfl (by decide) (by decide) dX3_passPhase_29 ?_
  refine lv_icmp_ge (tgt := 35) hx hb dX3_passPhase_30 (by decide) (fun c1 => ?_) (fun c1 => ?_)
  · skip
    refine lv_aload_n hx hb dX3_passPhase_35 rfl (lv_at hl 0 rfl) ?_
    refine lv_iconst (v := 0) hx hb dX3_passPhase_36 (by decide) ?_
    refine r_puti X hw (ws' := chipB D L w1 w2 s.v s.f s.g s.r s.av s.mk s.cm s.ar s.fl s.en s.la s.zs s.se 0 s.tk (s.pc + 1) s.rc s.wc s.bc s.tc) fp_X3_52 (Nat.le_of_ble_eq_true rfl) (Foc.trans (Foc.at1 0 rfl rfl (ce rfl (ce rfl (ce rfl (ce rfl rfl))))) (Foc.cell 0 rfl rfl rfl)) dX3_passPhase_37 (fun H locs hw => ?_)
    refine lv_aload_n hx hb dX3_passPhase_40 rfl (lv_at hl 0 rfl) ?_
    refine lv_dup hx hb dX3_passPhase_41 rfl ?_
    refine r_get X hw (v := .int s.tk) fl_X3_56 (m_fl 0 rfl (m_at 0 rfl)) rfl dX3_passPhase_42 ?_
    refine lv_iconst (v := 1) hx hb dX3_passPhase_45 (by decide) ?_
    refine lv_iadd hx hb dX3_passPhase_46 ?_
    refine r_puti X hw (ws' := chipB D L w1 w2 s.v s.f s.g s.r s.av s.mk s.cm s.ar s.fl s.en s.la s.zs s.se 0 (s.tk + 1) (s.pc + 1) s.rc s.wc s.bc s.tc) fp_X3_56 (Nat.le_of_ble_eq_true rfl) (Foc.trans (Foc.at1 0 rfl rfl (ce rfl (ce rfl (ce rfl (ce rfl rfl))))) (Foc.cell 0 rfl rfl rfl)) dX3_passPhase_47 (fun H locs hw => ?_)
    refine lv_aload_n hx hb dX3_passPhase_50 rfl (lv_at hl 0 rfl) ?_
    refine r_get X hw (v := .ref (L 1)) fl_X3_12 (m_fl 0 rfl (m_at 0 rfl)) rfl dX3_passPhase_51 ?_
    refine r_callVv X hw (ws' := chipB D L w1 w2 ((sp_X5_tick s.v s.f s.g s.r).1) s.f s.g ((sp_X5_tick s.v s.f s.g s.r).2) s.av s.mk s.cm s.ar s.fl s.en s.la s.zs s.se 0 (s.tk + 1) (s.pc + 1) s.rc s.wc s.bc s.tc) (As := []) (rest := []) lk_X3_74 (c_X5_tick l D _ (L 1) (L 2) (L 3) (L 4) (L 5) s.v s.f s.g s.r) (Foc.at1 1 rfl rfl (ce rfl (ce rfl (ce rfl (ce rfl rfl))))) (m_fl 1 rfl (m_at 0 rfl)) rfl hl.1 (Nat.le_of_ble_eq_true rfl) ⟨Nat.le_of_ble_eq_true rfl, Nat.le_of_ble_eq_true rfl⟩ rfl dX3_passPhase_54 ⟨Nat.le_refl _, Nat.le_refl _⟩ (fun H locs hw => ?_)
    refine lv_aload_n hx hb dX3_passPhase_57 rfl (lv_at hl 0 rfl) ?_
    refine r_get X hw (v := .ref (L 6)) fl_X3_21 (m_fl 0 rfl (m_at 0 rfl)) rfl dX3_passPhase_58 ?_
    refine lv_aload_n hx hb dX3_passPhase_61 rfl (lv_at hl 0 rfl) ?_
    refine r_get X hw (v := .ref (L 1)) fl_X3_12 (m_fl 0 rfl (m_at 0 rfl)) rfl dX3_passPhase_62 ?_
    refine r_callVv X hw (ws' := chipB D L w1 w2 ((sp_X5_tick s.v s.f s.g s.r).1) s.f s.g ((sp_X5_tick s.v s.f s.g s.r).2) s.av s.mk ((cmF s.av s.mk ((sp_X5_tick s.v s.f s.g s.r).1) s.ar (s.cm, s.fl) 3).1) s.ar ((cmF s.av s.mk ((sp_X5_tick s.v s.f s.g s.r).1) s.ar (s.cm, s.fl) 3).2) s.en s.la s.zs s.se 0 (s.tk + 1) (s.pc + 1) s.rc s.wc s.bc s.tc) (As := [.ref (L 1)]) (rest := []) lk_X3_77 (c_X0_comeIfDue l D _ (L 6) (L 7) (L 8) (L 9) w1 s.av s.mk s.cm s.ar s.fl (L 1) (L 2) (L 3) (L 4) (L 5) ((sp_X5_tick s.v s.f s.g s.r).1) s.f s.g ((sp_X5_tick s.v s.f s.g s.r).2)) (Foc.at2 2 1 rfl rfl rfl rfl (ce rfl (ce rfl (ce rfl rfl)))) (m_fl 2 rfl (m_at 0 rfl)) rfl hl.1 (Nat.le_of_ble_eq_true rfl) ⟨Nat.le_of_ble_eq_true rfl, Nat.le_of_ble_eq_true rfl⟩ rfl dX3_passPhase_65 ⟨Nat.le_refl _, Nat.le_refl _⟩ (fun H locs hw => ?_)
    refine lv_iconst (v := 1) hx hb dX3_passPhase_68 (by decide) ?_
    exact r_ret X hw hk hret rfl (by unfold sp_X3_passPhase; rw [if_pos c1]) (by unfold sp_X3_passPhase; rw [if_pos c1]) dX3_passPhase_69
  · skip
    refine lv_iconst (v := 0) hx hb dX3_passPhase_33 (by decide) ?_
    exact r_ret X hw hk hret rfl (by unfold sp_X3_passPhase; rw [if_neg c1]) (by unfold sp_X3_passPhase; rw [if_neg c1]) dX3_passPhase_34

/-- a chip behind so many phases, and the ticks among them -/
noncomputable def ppF (s : ChS) : Nat → Int32 × ChS
  | 0 => (0, s)
  | i + 1 => (if (sp_X3_passPhase (ppF s i).2).1 = 0 then (ppF s i).1 else (ppF s i).1 + 1, (sp_X3_passPhase (ppF s i).2).2)

set_option maxRecDepth 100000 in
set_option maxHeartbeats 4000000 in
theorem c_X3_passPhases (l : Launch) (D : va_G) (sz : Nat) (L w1 w2 : Nat → Nat) (s : ChS) (n : Nat) (hn : n < 2147483648) : MI l yX3_passPhases cX3_passPhases 4 (some .int) 4 87 D sz [.ref (L 0), .int (nI n)] (chipB D L w1 w2 s.v s.f s.g s.r s.av s.mk s.cm s.ar s.fl s.en s.la s.zs s.se s.ph s.tk s.pc s.rc s.wc s.bc s.tc) ((ppF s n).1) (chipB D L w1 w2 (((ppF s n).2).v) (((ppF s n).2).f) (((ppF s n).2).g) (((ppF s n).2).r) (((ppF s n).2).av) (((ppF s n).2).mk) (((ppF s n).2).cm) (((ppF s n).2).ar) (((ppF s n).2).fl) (((ppF s n).2).en) (((ppF s n).2).la) (((ppF s n).2).zs) (((ppF s n).2).se) (((ppF s n).2).ph) (((ppF s n).2).tk) (((ppF s n).2).pc) (((ppF s n).2).rc) (((ppF s n).2).wc) (((ppF s n).2).bc) (((ppF s n).2).tc)) := by
  refine r_enterI (by decide) (Nat.le_of_ble_eq_true rfl) ?_
  intro p e st m args below meth c ls A X hret hk hw hl
  have X : CX D p m c cX3_passPhases 4 st args RX3 A := X
  have hx := X.1.1
  have hb := X.1.2.1
  have hown := X.1.2.2.2.1
  have hts := X.1.2.2.2.2
  have hl : lv_has ls 4 [(0, .ref (L 0)), (1, .int (nI n))] := hl
  refine lv_iconst (v := 0) hx hb dX3_passPhases_0 (by decide) ?_
  refine lv_istore_n (lv' := [(2, .int 0), (0, .ref (L 0)), (1, .int (nI n))]) hx hb dX3_passPhases_1 rfl hl (by decide) rfl (fun ls hl => ?_)
  refine lv_iconst (v := 0) hx hb dX3_passPhases_2 (by decide) ?_
  refine lv_istore_n (lv' := [(3, .int 0), (2, .int 0), (0, .ref (L 0)), (1, .int (nI n))]) hx hb dX3_passPhases_3 rfl hl (by decide) rfl (fun ls hl => ?_)
  have key4 : ∀ (n4 : Nat) (i : Nat), (i ≤ n) → (n - i < n4) → ∀ (H : Heap) (locs : List Loc) (ls : Array Slot), Wd D A st.heap H locs (chipB D L w1 w2 (((ppF s i).2).v) (((ppF s i).2).f) (((ppF s i).2).g) (((ppF s i).2).r) (((ppF s i).2).av) (((ppF s i).2).mk) (((ppF s i).2).cm) (((ppF s i).2).ar) (((ppF s i).2).fl) (((ppF s i).2).en) (((ppF s i).2).la) (((ppF s i).2).zs) (((ppF s i).2).se) (((ppF s i).2).ph) (((ppF s i).2).tk) (((ppF s i).2).pc) (((ppF s i).2).rc) (((ppF s i).2).wc) (((ppF s i).2).bc) (((ppF s i).2).tc)) → lv_has ls 4 [(0, .ref (L 0)), (1, .int (nI n)), (2, .int ((ppF s i).1)), (3, .int (nI i))] → W p l e (rmOf 4 0 0 87) st m args below meth c H locs 0 0 (QI below args st D A ((ppF s n).1) (chipB D L w1 w2 (((ppF s n).2).v) (((ppF s n).2).f) (((ppF s n).2).g) (((ppF s n).2).r) (((ppF s n).2).av) (((ppF s n).2).mk) (((ppF s n).2).cm) (((ppF s n).2).ar) (((ppF s n).2).fl) (((ppF s n).2).en) (((ppF s n).2).la) (((ppF s n).2).zs) (((ppF s n).2).se) (((ppF s n).2).ph) (((ppF s n).2).tk) (((ppF s n).2).pc) (((ppF s n).2).rc) (((ppF s n).2).wc) (((ppF s n).2).bc) (((ppF s n).2).tc))) (F0 m 4 ls []) := by
    intro n4
    induction n4 with
    | zero => intro i hi hm; omega
    | succ n4 ih4 =>
      intro i hi hm H locs ls hw hl
      refine lv_iload_n hx hb dX3_passPhases_4 rfl (lv_at hl 3 rfl) ?_
      refine lv_iload_n hx hb dX3_passPhases_5 rfl (lv_at hl 1 rfl) ?_
      refine r_geN (tgt := 25) hx hb i n rfl rfl (by omega) (by omega) dX3_passPhases_6 (by decide) (fun c1 => ?_) (fun c1 => ?_)
      · skip
        refine lv_iload_n hx hb dX3_passPhases_25 rfl (lv_at hl 2 rfl) ?_
        exact r_ret X hw hk hret rfl (by rw [show i = n from by omega]) (by rw [show i = n from by omega]) dX3_passPhases_26
      · skip
        refine lv_aload_n hx hb dX3_passPhases_9 rfl (lv_at hl 0 rfl) ?_
        refine r_callV X hw (ws' := chipB D L w1 w2 (((sp_X3_passPhase ((ppF s i).2)).2).v) (((sp_X3_passPhase ((ppF s i).2)).2).f) (((sp_X3_passPhase ((ppF s i).2)).2).g) (((sp_X3_passPhase ((ppF s i).2)).2).r) (((sp_X3_passPhase ((ppF s i).2)).2).av) (((sp_X3_passPhase ((ppF s i).2)).2).mk) (((sp_X3_passPhase ((ppF s i).2)).2).cm) (((sp_X3_passPhase ((ppF s i).2)).2).ar) (((sp_X3_passPhase ((ppF s i).2)).2).fl) (((sp_X3_passPhase ((ppF s i).2)).2).en) (((sp_X3_passPhase ((ppF s i).2)).2).la) (((sp_X3_passPhase ((ppF s i).2)).2).zs) (((sp_X3_passPhase ((ppF s i).2)).2).se) (((sp_X3_passPhase ((ppF s i).2)).2).ph) (((sp_X3_passPhase ((ppF s i).2)).2).tk) (((sp_X3_passPhase ((ppF s i).2)).2).pc) (((sp_X3_passPhase ((ppF s i).2)).2).rc) (((sp_X3_passPhase ((ppF s i).2)).2).wc) (((sp_X3_passPhase ((ppF s i).2)).2).bc) (((sp_X3_passPhase ((ppF s i).2)).2).tc)) (As := []) (rest := []) lk_X3_80 (c_X3_passPhase l D _ L w1 w2 ((ppF s i).2)) Foc.all (m_fl 0 rfl (m_at 0 rfl)) rfl hl.1 (Nat.le_of_ble_eq_true rfl) ⟨Nat.le_of_ble_eq_true rfl, Nat.le_of_ble_eq_true rfl⟩ rfl dX3_passPhases_10 ⟨Nat.le_refl _, Nat.le_refl _⟩ (fun H locs hw => ?_)
        refine lv_if_eq (tgt := 19) hx hb dX3_passPhases_13 (by decide) (fun c2 => ?_) (fun c2 => ?_)
        · skip
          rw [show (ppF s i).1 = (ppF s (i + 1)).1 from (by show _ = (if (sp_X3_passPhase (ppF s i).2).1 = 0 then (ppF s i).1 else (ppF s i).1 + 1); rw [if_pos c2])] at hl
          refine r_iincN (lv' := [(3, .int (nI (i + 1))), (0, .ref (L 0)), (1, .int (nI n)), (2, .int ((ppF s (i + 1)).1))]) hx hb i 1 rfl dX3_passPhases_19 hl (k := 3) rfl rfl (by decide) rfl (fun ls hl => ?_)
          refine lv_goto (tgt := 4) hx hb dX3_passPhases_22 (by decide) ?_
          exact ih4 (i + 1) (by omega) (by omega) _ _ _ (by rw [show (ppF s (i + 1)).2 = (sp_X3_passPhase (ppF s i).2).2 from rfl]; exact hw) (lv_sub hl [1, 2, 3, 0] rfl)
        · skip
          refine lv_iinc (v := ((ppF s i).1) + 1) (lv' := [(2, .int (((ppF s i).1) + 1)), (0, .ref (L 0)), (1, .int (nI n)), (3, .int (nI i))]) hx hb dX3_passPhases_16 hl (k := 2) rfl rfl (by decide) rfl (fun ls hl => ?_)
          rw [show ((ppF s i).1) + 1 = (ppF s (i + 1)).1 from (by show _ = (if (sp_X3_passPhase (ppF s i).2).1 = 0 then (ppF s i).1 else (ppF s i).1 + 1); rw [if_neg c2])] at hl
          refine r_iincN (lv' := [(3, .int (nI (i + 1))), (2, .int ((ppF s (i + 1)).1)), (0, .ref (L 0)), (1, .int (nI n))]) hx hb i 1 rfl dX3_passPhases_19 hl (k := 3) rfl rfl (by decide) rfl (fun ls hl => ?_)
          refine lv_goto (tgt := 4) hx hb dX3_passPhases_22 (by decide) ?_
          exact ih4 (i + 1) (by omega) (by omega) _ _ _ (by rw [show (ppF s (i + 1)).2 = (sp_X3_passPhase (ppF s i).2).2 from rfl]; exact hw) (lv_sub hl [2, 3, 1, 0] rfl)
  exact key4 (n + 1) 0 (by omega) (by omega) _ _ _ hw (lv_sub hl [2, 3, 1, 0] rfl)

noncomputable def sp_X3_writeRegister (s : ChS) (i : Nat) (x : Int32) : Int32 × ChS := ((upd s.v i (sp_X5_withCells s.f s.g i x)) i, (ChS.new (upd s.v i (sp_X5_withCells s.f s.g i x)) s.f s.g s.r s.av s.mk s.cm s.ar s.fl s.en s.la s.zs s.se s.ph s.tk s.pc s.rc (s.wc + 1) s.bc s.tc))
set_option maxRecDepth 100000 in
set_option maxHeartbeats 4000000 in
theorem c_X3_writeRegister (l : Launch) (D : va_G) (sz : Nat) (L w1 w2 : Nat → Nat) (s : ChS) (i : Nat) (x : Int32) (hi : i < 7) : MI l yX3_writeRegister cX3_writeRegister 3 (some .int) 1 22 D sz [.ref (L 0), .int (nI i), .int x] (chipB D L w1 w2 s.v s.f s.g s.r s.av s.mk s.cm s.ar s.fl s.en s.la s.zs s.se s.ph s.tk s.pc s.rc s.wc s.bc s.tc) ((sp_X3_writeRegister s i x).1) (chipB D L w1 w2 (((sp_X3_writeRegister s i x).2).v) (((sp_X3_writeRegister s i x).2).f) (((sp_X3_writeRegister s i x).2).g) (((sp_X3_writeRegister s i x).2).r) (((sp_X3_writeRegister s i x).2).av) (((sp_X3_writeRegister s i x).2).mk) (((sp_X3_writeRegister s i x).2).cm) (((sp_X3_writeRegister s i x).2).ar) (((sp_X3_writeRegister s i x).2).fl) (((sp_X3_writeRegister s i x).2).en) (((sp_X3_writeRegister s i x).2).la) (((sp_X3_writeRegister s i x).2).zs) (((sp_X3_writeRegister s i x).2).se) (((sp_X3_writeRegister s i x).2).ph) (((sp_X3_writeRegister s i x).2).tk) (((sp_X3_writeRegister s i x).2).pc) (((sp_X3_writeRegister s i x).2).rc) (((sp_X3_writeRegister s i x).2).wc) (((sp_X3_writeRegister s i x).2).bc) (((sp_X3_writeRegister s i x).2).tc)) := by
  refine r_enterI (by decide) (Nat.le_of_ble_eq_true rfl) ?_
  intro p e st m args below meth c ls A X hret hk hw hl
  have X : CX D p m c cX3_writeRegister 3 st args RX3 A := X
  have hx := X.1.1
  have hb := X.1.2.1
  have hown := X.1.2.2.2.1
  have hts := X.1.2.2.2.2
  have hl : lv_has ls 3 [(0, .ref (L 0)), (1, .int (nI i)), (2, .int x)] := hl
  refine lv_aload_n hx hb dX3_writeRegister_0 rfl (lv_at hl 0 rfl) ?_
  refine lv_dup hx hb dX3_writeRegister_1 rfl ?_
  refine r_get X hw (v := .int s.wc) fl_X3_65 (m_fl 0 rfl (m_at 0 rfl)) rfl dX3_writeRegister_2 ?_
  refine lv_iconst (v := 1) hx hb dX3_writeRegister_5 (by decide) ?_
  refine lv_iadd hx hb dX3_writeRegister_6 ?_
  refine r_puti X hw (ws' := chipB D L w1 w2 s.v s.f s.g s.r s.av s.mk s.cm s.ar s.fl s.en s.la s.zs s.se s.ph s.tk s.pc s.rc (s.wc + 1) s.bc s.tc) fp_X3_65 (Nat.le_of_ble_eq_true rfl) (Foc.trans (Foc.at1 0 rfl rfl (ce rfl (ce rfl (ce rfl (ce rfl rfl))))) (Foc.cell 0 rfl rfl rfl)) dX3_writeRegister_7 (fun H locs hw => ?_)
  refine lv_aload_n hx hb dX3_writeRegister_10 rfl (lv_at hl 0 rfl) ?_
  refine r_get X hw (v := .ref (L 1)) fl_X3_12 (m_fl 0 rfl (m_at 0 rfl)) rfl dX3_writeRegister_11 ?_
  refine r_get X hw (v := .ref (L 2)) fl_X3_84 (m_fl 1 rfl (m_at 0 rfl)) rfl dX3_writeRegister_14 ?_
  refine lv_iload_n hx hb dX3_writeRegister_17 rfl (lv_at hl 1 rfl) ?_
  refine lv_aload_n hx hb dX3_writeRegister_18 rfl (lv_at hl 0 rfl) ?_
  refine r_get X hw (v := .ref (L 1)) fl_X3_12 (m_fl 0 rfl (m_at 0 rfl)) rfl dX3_writeRegister_19 ?_
  refine lv_iload_n hx hb dX3_writeRegister_22 rfl (lv_at hl 1 rfl) ?_
  refine lv_iload_n hx hb dX3_writeRegister_23 rfl (lv_at hl 2 rfl) ?_
  refine r_callV X hw (ws' := chipB D L w1 w2 s.v s.f s.g s.r s.av s.mk s.cm s.ar s.fl s.en s.la s.zs s.se s.ph s.tk s.pc s.rc (s.wc + 1) s.bc s.tc) (As := [.int (nI i), .int x]) (rest := [.int (nI i), .ref (L 2)]) lk_X3_87 (c_X5_withCells l D _ (L 1) (L 2) (L 3) (L 4) (L 5) s.v s.f s.g s.r i x (by omega)) (Foc.at1 1 rfl rfl (ce rfl (ce rfl (ce rfl (ce rfl rfl))))) (m_fl 1 rfl (m_at 0 rfl)) rfl hl.1 (Nat.le_of_ble_eq_true rfl) ⟨Nat.le_of_ble_eq_true rfl, Nat.le_of_ble_eq_true rfl⟩ rfl dX3_writeRegister_24 ⟨Nat.le_refl _, Nat.le_refl _⟩ (fun H locs hw => ?_)
  refine r_iast X hw (ws' := chipB D L w1 w2 (upd s.v i (sp_X5_withCells s.f s.g i x)) s.f s.g s.r s.av s.mk s.cm s.ar s.fl s.en s.la s.zs s.se s.ph s.tk s.pc s.rc (s.wc + 1) s.bc s.tc) i rfl (by omega) (by decide) (Foc.trans (Foc.at1 1 rfl rfl (ce rfl (ce rfl (ce rfl (ce rfl rfl))))) (Foc.cell 1 rfl rfl (ce rfl (ce rfl (ce rfl (ce rfl rfl)))))) dX3_writeRegister_27 (fun H locs hw => ?_)
  refine lv_aload_n hx hb dX3_writeRegister_28 rfl (lv_at hl 0 rfl) ?_
  refine r_get X hw (v := .ref (L 1)) fl_X3_12 (m_fl 0 rfl (m_at 0 rfl)) rfl dX3_writeRegister_29 ?_
  refine r_get X hw (v := .ref (L 2)) fl_X3_84 (m_fl 1 rfl (m_at 0 rfl)) rfl dX3_writeRegister_32 ?_
  refine lv_iload_n hx hb dX3_writeRegister_35 rfl (lv_at hl 1 rfl) ?_
  refine r_iald X hw (f := upd s.v i (sp_X5_withCells s.f s.g i x)) i (m_fl 1 rfl (m_at 1 rfl)) rfl (by omega) (by decide) dX3_writeRegister_36 ?_
  exact r_ret X hw hk hret rfl (rfl) (rfl) dX3_writeRegister_37

noncomputable def sp_X3_changeSetting (s : ChS) (i : Nat) (x : Int32) : Int32 × ChS := (if s.ph < ((upd s.se i x) 2) then (s.se i, (ChS.new s.v s.f s.g s.r s.av s.mk s.cm s.ar s.fl s.en s.la s.zs (upd s.se i x) s.ph s.tk s.pc s.rc s.wc s.bc s.tc)) else (s.se i, (ChS.new s.v s.f s.g s.r s.av s.mk s.cm s.ar s.fl s.en s.la s.zs (upd s.se i x) (((upd s.se i x) 2) - 1) s.tk s.pc s.rc s.wc s.bc s.tc)))
set_option maxRecDepth 100000 in
set_option maxHeartbeats 4000000 in
theorem c_X3_changeSetting (l : Launch) (D : va_G) (sz : Nat) (L w1 w2 : Nat → Nat) (s : ChS) (i : Nat) (x : Int32) (hi : i < 3) : MI l yX3_changeSetting cX3_changeSetting 4 (some .int) 0 0 D sz [.ref (L 0), .int (nI i), .int x] (chipB D L w1 w2 s.v s.f s.g s.r s.av s.mk s.cm s.ar s.fl s.en s.la s.zs s.se s.ph s.tk s.pc s.rc s.wc s.bc s.tc) ((sp_X3_changeSetting s i x).1) (chipB D L w1 w2 (((sp_X3_changeSetting s i x).2).v) (((sp_X3_changeSetting s i x).2).f) (((sp_X3_changeSetting s i x).2).g) (((sp_X3_changeSetting s i x).2).r) (((sp_X3_changeSetting s i x).2).av) (((sp_X3_changeSetting s i x).2).mk) (((sp_X3_changeSetting s i x).2).cm) (((sp_X3_changeSetting s i x).2).ar) (((sp_X3_changeSetting s i x).2).fl) (((sp_X3_changeSetting s i x).2).en) (((sp_X3_changeSetting s i x).2).la) (((sp_X3_changeSetting s i x).2).zs) (((sp_X3_changeSetting s i x).2).se) (((sp_X3_changeSetting s i x).2).ph) (((sp_X3_changeSetting s i x).2).tk) (((sp_X3_changeSetting s i x).2).pc) (((sp_X3_changeSetting s i x).2).rc) (((sp_X3_changeSetting s i x).2).wc) (((sp_X3_changeSetting s i x).2).bc) (((sp_X3_changeSetting s i x).2).tc)) := by
  refine r_enterI (by decide) (Nat.le_of_ble_eq_true rfl) ?_
  intro p e st m args below meth c ls A X hret hk hw hl
  have X : CX D p m c cX3_changeSetting 4 st args RX3 A := X
  have hx := X.1.1
  have hb := X.1.2.1
  have hown := X.1.2.2.2.1
  have hts := X.1.2.2.2.2
  have hl : lv_has ls 4 [(0, .ref (L 0)), (1, .int (nI i)), (2, .int x)] := hl
  refine lv_aload_n hx hb dX3_changeSetting_0 rfl (lv_at hl 0 rfl) ?_
  refine r_get X hw (v := .ref (L 12)) fl_X3_32 (m_fl 0 rfl (m_at 0 rfl)) rfl dX3_changeSetting_1 ?_
  refine lv_iload_n hx hb dX3_changeSetting_4 rfl (lv_at hl 1 rfl) ?_
  refine r_iald X hw (f := s.se) i (m_fl 4 rfl (m_at 0 rfl)) rfl (by omega) (by decide) dX3_changeSetting_5 ?_
  refine lv_istore_n (lv' := [(3, .int (s.se i)), (0, .ref (L 0)), (1, .int (nI i)), (2, .int x)]) hx hb dX3_changeSetting_6 rfl hl (by decide) rfl (fun ls hl => ?_)
  refine lv_aload_n hx hb dX3_changeSetting_7 rfl (lv_at hl 1 rfl) ?_
  refine r_get X hw (v := .ref (L 12)) fl_X3_32 (m_fl 0 rfl (m_at 0 rfl)) rfl dX3_changeSetting_8 ?_
  refine lv_iload_n hx hb dX3_changeSetting_11 rfl (lv_at hl 2 rfl) ?_
  refine lv_iload_n hx hb dX3_changeSetting_12 rfl (lv_at hl 3 rfl) ?_
  refine r_iast X hw (ws' := chipB D L w1 w2 s.v s.f s.g s.r s.av s.mk s.cm s.ar s.fl s.en s.la s.zs (upd s.se i x) s.ph s.tk s.pc s.rc s.wc s.bc s.tc) i rfl (by omega) (by decide) (Foc.trans (Foc.at1 4 rfl rfl (ce rfl (ce rfl (ce rfl (ce rfl rfl))))) (Foc.cell 0 rfl rfl rfl)) dX3_changeSetting_13 (fun H locs hw => ?_)
  refine lv_aload_n hx hb dX3_changeSetting_14 rfl (lv_at hl 1 rfl) ?_
  refine r_get X hw (v := .int s.ph) fl_X3_52 (m_fl 0 rfl (m_at 0 rfl)) rfl dX3_changeSetting_15 ?_
  refine lv_aload_n hx hb dX3_changeSetting_18 rfl (lv_at hl 1 rfl) ?_
  refine r_get X hw (v := .ref (L 12)) fl_X3_32 (m_fl 0 rfl (m_at 0 rfl)) rfl dX3_changeSetting_19 ?_
  refine lv_iconst (v := 2) hx hb dX3_changeSetting_22 (by decide) ?_
  refine r_iald X hw (f := upd s.se i x) 2 (m_fl 4 rfl (m_at 0 rfl)) rfl (by decide) (by decide) dX3_changeSetting_23 ?_
  refine lv_icmp_lt (tgt := 39) hx hb dX3_changeSetting_24 (by decide) (fun c1 => ?_) (fun c1 => ?_)
  · skip
    refine lv_iload_n hx hb dX3_changeSetting_39 rfl (lv_at hl 0 rfl) ?_
    exact r_ret X hw hk hret rfl (by unfold sp_X3_changeSetting; rw [if_pos c1]) (by unfold sp_X3_changeSetting; rw [if_pos c1]) dX3_changeSetting_40
  · skip
    refine lv_aload_n hx hb dX3_changeSetting_27 rfl (lv_at hl 1 rfl) ?_
    refine lv_aload_n hx hb dX3_changeSetting_28 rfl (lv_at hl 1 rfl) ?_
    refine r_get X hw (v := .ref (L 12)) fl_X3_32 (m_fl 0 rfl (m_at 0 rfl)) rfl dX3_changeSetting_29 ?_
    refine lv_iconst (v := 2) hx hb dX3_changeSetting_32 (by decide) ?_
    refine r_iald X hw (f := upd s.se i x) 2 (m_fl 4 rfl (m_at 0 rfl)) rfl (by decide) (by decide) dX3_changeSetting_33 ?_
    refine lv_iconst (v := 1) hx hb dX3_changeSetting_34 (by decide) ?_
    refine lv_isub hx hb dX3_changeSetting_35 ?_
    refine r_puti X hw (ws' := chipB D L w1 w2 s.v s.f s.g s.r s.av s.mk s.cm s.ar s.fl s.en s.la s.zs (upd s.se i x) (((upd s.se i x) 2) - 1) s.tk s.pc s.rc s.wc s.bc s.tc) fp_X3_52 (Nat.le_of_ble_eq_true rfl) (Foc.trans (Foc.at1 0 rfl rfl (ce rfl (ce rfl (ce rfl (ce rfl rfl))))) (Foc.cell 0 rfl rfl rfl)) dX3_changeSetting_36 (fun H locs hw => ?_)
    refine lv_iload_n hx hb dX3_changeSetting_39 rfl (lv_at hl 0 rfl) ?_
    exact r_ret X hw hk hret rfl (by unfold sp_X3_changeSetting; rw [if_neg c1]) (by unfold sp_X3_changeSetting; rw [if_neg c1]) dX3_changeSetting_40

/-- a chip's state over another -/
noncomputable def cpC (s t : ChS) : ChS := ChS.new (va_cpy t.v s.v 0 0 7) (va_cpy t.f s.f 0 0 7) (va_cpy t.g s.g 0 0 7) (va_cpy t.r s.r 0 0 7) (cpR t.av s.av 5 3) (va_cpy t.mk s.mk 0 0 3) (va_cpy t.cm s.cm 0 0 3) t.ar t.fl (cpR t.en s.en 10 6) t.la t.zs (va_cpy t.se s.se 0 0 3) t.ph t.tk t.pc t.rc t.wc t.bc t.tc
set_option maxRecDepth 100000 in
set_option maxHeartbeats 4000000 in
theorem c_X3_copyFrom (l : Launch) (D : va_G) (sz : Nat) (L w1 w2 : Nat → Nat) (M y1 y2 : Nat → Nat) (s t : ChS) : MV l yX3_copyFrom cX3_copyFrom 2 2 82 D sz [.ref (L 0), .ref (M 0)] (([chipB D L w1 w2 s.v s.f s.g s.r s.av s.mk s.cm s.ar s.fl s.en s.la s.zs s.se s.ph s.tk s.pc s.rc s.wc s.bc s.tc, chipB D M y1 y2 t.v t.f t.g t.r t.av t.mk t.cm t.ar t.fl t.en t.la t.zs t.se t.ph t.tk t.pc t.rc t.wc t.bc t.tc] : List va_W).flatten) (([chipB D L w1 w2 ((cpC s t).v) ((cpC s t).f) ((cpC s t).g) ((cpC s t).r) ((cpC s t).av) ((cpC s t).mk) ((cpC s t).cm) ((cpC s t).ar) ((cpC s t).fl) ((cpC s t).en) ((cpC s t).la) ((cpC s t).zs) ((cpC s t).se) ((cpC s t).ph) ((cpC s t).tk) ((cpC s t).pc) ((cpC s t).rc) ((cpC s t).wc) ((cpC s t).bc) ((cpC s t).tc), chipB D M y1 y2 t.v t.f t.g t.r t.av t.mk t.cm t.ar t.fl t.en t.la t.zs t.se t.ph t.tk t.pc t.rc t.wc t.bc t.tc] : List va_W).flatten) := by
  refine r_enterV (by decide) (Nat.le_of_ble_eq_true rfl) ?_
  intro p e st m args below meth c ls A X hret hk hw hl
  have X : CX D p m c cX3_copyFrom 2 st args RX3 A := X
  have hx := X.1.1
  have hb := X.1.2.1
  have hown := X.1.2.2.2.1
  have hts := X.1.2.2.2.2
  have hl : lv_has ls 2 [(0, .ref (L 0)), (1, .ref (M 0))] := hl
  refine lv_aload_n hx hb dX3_copyFrom_0 rfl (lv_at hl 0 rfl) ?_
  refine r_get X hw (v := .ref (L 1)) fl_X3_12 (m_fl 0 rfl (m_fl 0 rfl (m_at 0 rfl))) rfl dX3_copyFrom_1 ?_
  refine lv_aload_n hx hb dX3_copyFrom_4 rfl (lv_at hl 1 rfl) ?_
  refine r_get X hw (v := .ref (M 1)) fl_X3_12 (m_fl 1 rfl (m_fl 0 rfl (m_at 0 rfl))) rfl dX3_copyFrom_5 ?_
  refine r_callVv X hw (ws' := ([chipB D L w1 w2 (va_cpy t.v s.v 0 0 7) (va_cpy t.f s.f 0 0 7) (va_cpy t.g s.g 0 0 7) (va_cpy t.r s.r 0 0 7) s.av s.mk s.cm s.ar s.fl s.en s.la s.zs s.se s.ph s.tk s.pc s.rc s.wc s.bc s.tc, chipB D M y1 y2 t.v t.f t.g t.r t.av t.mk t.cm t.ar t.fl t.en t.la t.zs t.se t.ph t.tk t.pc t.rc t.wc t.bc t.tc] : List va_W).flatten) (As := [.ref (M 1)]) (rest := []) lk_X3_36 (c_X5_copyFrom l D _ (L 1) (L 2) (L 3) (L 4) (L 5) s.v s.f s.g s.r (M 1) (M 2) (M 3) (M 4) (M 5) t.v t.f t.g t.r) (Foc.trans (Foc.at2 0 0 rfl rfl rfl rfl rfl) (Foc.pair (Foc.at1 1 rfl rfl (ce rfl (ce rfl (ce rfl (ce rfl rfl))))) (Foc.at1 1 rfl rfl (ce rfl (ce rfl (ce rfl (ce rfl rfl))))))) (m_fl 0 rfl (m_fl 1 rfl (m_at 0 rfl))) rfl hl.1 (Nat.le_of_ble_eq_true rfl) ⟨Nat.le_of_ble_eq_true rfl, Nat.le_of_ble_eq_true rfl⟩ rfl dX3_copyFrom_8 ⟨Nat.le_refl _, Nat.le_refl _⟩ (fun H locs hw => ?_)
  refine lv_aload_n hx hb dX3_copyFrom_11 rfl (lv_at hl 0 rfl) ?_
  refine r_get X hw (v := .ref (L 6)) fl_X3_21 (m_fl 0 rfl (m_fl 0 rfl (m_at 0 rfl))) rfl dX3_copyFrom_12 ?_
  refine lv_aload_n hx hb dX3_copyFrom_15 rfl (lv_at hl 1 rfl) ?_
  refine r_get X hw (v := .ref (M 6)) fl_X3_21 (m_fl 1 rfl (m_fl 0 rfl (m_at 0 rfl))) rfl dX3_copyFrom_16 ?_
  refine r_callVv X hw (ws' := ([chipB D L w1 w2 (va_cpy t.v s.v 0 0 7) (va_cpy t.f s.f 0 0 7) (va_cpy t.g s.g 0 0 7) (va_cpy t.r s.r 0 0 7) (cpR t.av s.av 5 3) (va_cpy t.mk s.mk 0 0 3) (va_cpy t.cm s.cm 0 0 3) t.ar t.fl s.en s.la s.zs s.se s.ph s.tk s.pc s.rc s.wc s.bc s.tc, chipB D M y1 y2 t.v t.f t.g t.r t.av t.mk t.cm t.ar t.fl t.en t.la t.zs t.se t.ph t.tk t.pc t.rc t.wc t.bc t.tc] : List va_W).flatten) (As := [.ref (M 6)]) (rest := []) lk_X3_40 (c_X0_copyFrom l D _ (L 6) (L 7) (L 8) (L 9) w1 s.av s.mk s.cm s.ar s.fl (M 6) (M 7) (M 8) (M 9) y1 t.av t.mk t.cm t.ar t.fl) (Foc.trans (Foc.at2 0 0 rfl rfl rfl rfl rfl) (Foc.pair (Foc.at1 2 rfl rfl (ce rfl (ce rfl (ce rfl (ce rfl rfl))))) (Foc.at1 2 rfl rfl (ce rfl (ce rfl (ce rfl (ce rfl rfl))))))) (m_fl 0 rfl (m_fl 2 rfl (m_at 0 rfl))) rfl hl.1 (Nat.le_of_ble_eq_true rfl) ⟨Nat.le_of_ble_eq_true rfl, Nat.le_of_ble_eq_true rfl⟩ rfl dX3_copyFrom_19 ⟨Nat.le_refl _, Nat.le_refl _⟩ (fun H locs hw => ?_)
  refine lv_aload_n hx hb dX3_copyFrom_22 rfl (lv_at hl 0 rfl) ?_
  refine r_get X hw (v := .ref (L 10)) fl_X3_28 (m_fl 0 rfl (m_fl 0 rfl (m_at 0 rfl))) rfl dX3_copyFrom_23 ?_
  refine lv_aload_n hx hb dX3_copyFrom_26 rfl (lv_at hl 1 rfl) ?_
  refine r_get X hw (v := .ref (M 10)) fl_X3_28 (m_fl 1 rfl (m_fl 0 rfl (m_at 0 rfl))) rfl dX3_copyFrom_27 ?_
  refine r_callVv X hw (ws' := ([chipB D L w1 w2 (va_cpy t.v s.v 0 0 7) (va_cpy t.f s.f 0 0 7) (va_cpy t.g s.g 0 0 7) (va_cpy t.r s.r 0 0 7) (cpR t.av s.av 5 3) (va_cpy t.mk s.mk 0 0 3) (va_cpy t.cm s.cm 0 0 3) t.ar t.fl (cpR t.en s.en 10 6) t.la t.zs s.se s.ph s.tk s.pc s.rc s.wc s.bc s.tc, chipB D M y1 y2 t.v t.f t.g t.r t.av t.mk t.cm t.ar t.fl t.en t.la t.zs t.se t.ph t.tk t.pc t.rc t.wc t.bc t.tc] : List va_W).flatten) (As := [.ref (M 10)]) (rest := []) lk_X3_43 (c_X2_copyFrom l D _ (L 10) (L 11) w2 s.en s.la s.zs (M 10) (M 11) y2 t.en t.la t.zs) (Foc.trans (Foc.at2 0 0 rfl rfl rfl rfl rfl) (Foc.pair (Foc.at1 3 rfl rfl (ce rfl (ce rfl (ce rfl (ce rfl rfl))))) (Foc.at1 3 rfl rfl (ce rfl (ce rfl (ce rfl (ce rfl rfl))))))) (m_fl 0 rfl (m_fl 3 rfl (m_at 0 rfl))) rfl hl.1 (Nat.le_of_ble_eq_true rfl) ⟨Nat.le_of_ble_eq_true rfl, Nat.le_of_ble_eq_true rfl⟩ rfl dX3_copyFrom_30 ⟨Nat.le_refl _, Nat.le_refl _⟩ (fun H locs hw => ?_)
  refine lv_aload_n hx hb dX3_copyFrom_33 rfl (lv_at hl 1 rfl) ?_
  refine r_get X hw (v := .ref (M 12)) fl_X3_32 (m_fl 1 rfl (m_fl 0 rfl (m_at 0 rfl))) rfl dX3_copyFrom_34 ?_
  refine lv_iconst (v := 0) hx hb dX3_copyFrom_37 (by decide) ?_
  refine lv_aload_n hx hb dX3_copyFrom_38 rfl (lv_at hl 0 rfl) ?_
  refine r_get X hw (v := .ref (L 12)) fl_X3_32 (m_fl 0 rfl (m_fl 0 rfl (m_at 0 rfl))) rfl dX3_copyFrom_39 ?_
  refine lv_iconst (v := 0) hx hb dX3_copyFrom_42 (by decide) ?_
  refine lv_iconst (v := 3) hx hb dX3_copyFrom_43 (by decide) ?_
  refine r_copy X hw (f := t.se) (ws' := ([chipB D L w1 w2 (va_cpy t.v s.v 0 0 7) (va_cpy t.f s.f 0 0 7) (va_cpy t.g s.g 0 0 7) (va_cpy t.r s.r 0 0 7) (cpR t.av s.av 5 3) (va_cpy t.mk s.mk 0 0 3) (va_cpy t.cm s.cm 0 0 3) t.ar t.fl (cpR t.en s.en 10 6) t.la t.zs (va_cpy t.se s.se 0 0 3) s.ph s.tk s.pc s.rc s.wc s.bc s.tc, chipB D M y1 y2 t.v t.f t.g t.r t.av t.mk t.cm t.ar t.fl t.en t.la t.zs t.se t.ph t.tk t.pc t.rc t.wc t.bc t.tc] : List va_W).flatten) 0 0 3 ac_X3_46 (m_fl 1 rfl (m_fl 4 rfl (m_at 0 rfl))) rfl rfl rfl (by decide) (by decide) (by decide) (by decide) (Foc.trans (Foc.at1 0 rfl rfl (ce rfl rfl)) (Foc.trans (Foc.at1 4 rfl rfl (ce rfl (ce rfl (ce rfl (ce rfl rfl))))) (Foc.cell 0 rfl rfl rfl))) hl.1 ⟨Nat.le_of_ble_eq_true rfl, by decide⟩ dX3_copyFrom_44 (fun H locs hw => ?_)
  refine lv_aload_n hx hb dX3_copyFrom_47 rfl (lv_at hl 0 rfl) ?_
  refine lv_aload_n hx hb dX3_copyFrom_48 rfl (lv_at hl 1 rfl) ?_
  refine r_get X hw (v := .int t.ph) fl_X3_52 (m_fl 1 rfl (m_fl 0 rfl (m_at 0 rfl))) rfl dX3_copyFrom_49 ?_
  refine r_puti X hw (ws' := ([chipB D L w1 w2 (va_cpy t.v s.v 0 0 7) (va_cpy t.f s.f 0 0 7) (va_cpy t.g s.g 0 0 7) (va_cpy t.r s.r 0 0 7) (cpR t.av s.av 5 3) (va_cpy t.mk s.mk 0 0 3) (va_cpy t.cm s.cm 0 0 3) t.ar t.fl (cpR t.en s.en 10 6) t.la t.zs (va_cpy t.se s.se 0 0 3) t.ph s.tk s.pc s.rc s.wc s.bc s.tc, chipB D M y1 y2 t.v t.f t.g t.r t.av t.mk t.cm t.ar t.fl t.en t.la t.zs t.se t.ph t.tk t.pc t.rc t.wc t.bc t.tc] : List va_W).flatten) fp_X3_52 (Nat.le_of_ble_eq_true rfl) (Foc.trans (Foc.at1 0 rfl rfl (ce rfl rfl)) (Foc.trans (Foc.at1 0 rfl rfl (ce rfl (ce rfl (ce rfl (ce rfl rfl))))) (Foc.cell 0 rfl rfl rfl))) dX3_copyFrom_52 (fun H locs hw => ?_)
  refine lv_aload_n hx hb dX3_copyFrom_55 rfl (lv_at hl 0 rfl) ?_
  refine lv_aload_n hx hb dX3_copyFrom_56 rfl (lv_at hl 1 rfl) ?_
  refine r_get X hw (v := .int t.tk) fl_X3_56 (m_fl 1 rfl (m_fl 0 rfl (m_at 0 rfl))) rfl dX3_copyFrom_57 ?_
  refine r_puti X hw (ws' := ([chipB D L w1 w2 (va_cpy t.v s.v 0 0 7) (va_cpy t.f s.f 0 0 7) (va_cpy t.g s.g 0 0 7) (va_cpy t.r s.r 0 0 7) (cpR t.av s.av 5 3) (va_cpy t.mk s.mk 0 0 3) (va_cpy t.cm s.cm 0 0 3) t.ar t.fl (cpR t.en s.en 10 6) t.la t.zs (va_cpy t.se s.se 0 0 3) t.ph t.tk s.pc s.rc s.wc s.bc s.tc, chipB D M y1 y2 t.v t.f t.g t.r t.av t.mk t.cm t.ar t.fl t.en t.la t.zs t.se t.ph t.tk t.pc t.rc t.wc t.bc t.tc] : List va_W).flatten) fp_X3_56 (Nat.le_of_ble_eq_true rfl) (Foc.trans (Foc.at1 0 rfl rfl (ce rfl rfl)) (Foc.trans (Foc.at1 0 rfl rfl (ce rfl (ce rfl (ce rfl (ce rfl rfl))))) (Foc.cell 0 rfl rfl rfl))) dX3_copyFrom_60 (fun H locs hw => ?_)
  refine lv_aload_n hx hb dX3_copyFrom_63 rfl (lv_at hl 0 rfl) ?_
  refine lv_aload_n hx hb dX3_copyFrom_64 rfl (lv_at hl 1 rfl) ?_
  refine r_get X hw (v := .int t.pc) fl_X3_59 (m_fl 1 rfl (m_fl 0 rfl (m_at 0 rfl))) rfl dX3_copyFrom_65 ?_
  refine r_puti X hw (ws' := ([chipB D L w1 w2 (va_cpy t.v s.v 0 0 7) (va_cpy t.f s.f 0 0 7) (va_cpy t.g s.g 0 0 7) (va_cpy t.r s.r 0 0 7) (cpR t.av s.av 5 3) (va_cpy t.mk s.mk 0 0 3) (va_cpy t.cm s.cm 0 0 3) t.ar t.fl (cpR t.en s.en 10 6) t.la t.zs (va_cpy t.se s.se 0 0 3) t.ph t.tk t.pc s.rc s.wc s.bc s.tc, chipB D M y1 y2 t.v t.f t.g t.r t.av t.mk t.cm t.ar t.fl t.en t.la t.zs t.se t.ph t.tk t.pc t.rc t.wc t.bc t.tc] : List va_W).flatten) fp_X3_59 (Nat.le_of_ble_eq_true rfl) (Foc.trans (Foc.at1 0 rfl rfl (ce rfl rfl)) (Foc.trans (Foc.at1 0 rfl rfl (ce rfl (ce rfl (ce rfl (ce rfl rfl))))) (Foc.cell 0 rfl rfl rfl))) dX3_copyFrom_68 (fun H locs hw => ?_)
  refine lv_aload_n hx hb dX3_copyFrom_71 rfl (lv_at hl 0 rfl) ?_
  refine lv_aload_n hx hb dX3_copyFrom_72 rfl (lv_at hl 1 rfl) ?_
  refine r_get X hw (v := .int t.rc) fl_X3_62 (m_fl 1 rfl (m_fl 0 rfl (m_at 0 rfl))) rfl dX3_copyFrom_73 ?_
  refine r_puti X hw (ws' := ([chipB D L w1 w2 (va_cpy t.v s.v 0 0 7) (va_cpy t.f s.f 0 0 7) (va_cpy t.g s.g 0 0 7) (va_cpy t.r s.r 0 0 7) (cpR t.av s.av 5 3) (va_cpy t.mk s.mk 0 0 3) (va_cpy t.cm s.cm 0 0 3) t.ar t.fl (cpR t.en s.en 10 6) t.la t.zs (va_cpy t.se s.se 0 0 3) t.ph t.tk t.pc t.rc s.wc s.bc s.tc, chipB D M y1 y2 t.v t.f t.g t.r t.av t.mk t.cm t.ar t.fl t.en t.la t.zs t.se t.ph t.tk t.pc t.rc t.wc t.bc t.tc] : List va_W).flatten) fp_X3_62 (Nat.le_of_ble_eq_true rfl) (Foc.trans (Foc.at1 0 rfl rfl (ce rfl rfl)) (Foc.trans (Foc.at1 0 rfl rfl (ce rfl (ce rfl (ce rfl (ce rfl rfl))))) (Foc.cell 0 rfl rfl rfl))) dX3_copyFrom_76 (fun H locs hw => ?_)
  refine lv_aload_n hx hb dX3_copyFrom_79 rfl (lv_at hl 0 rfl) ?_
  refine lv_aload_n hx hb dX3_copyFrom_80 rfl (lv_at hl 1 rfl) ?_
  refine r_get X hw (v := .int t.wc) fl_X3_65 (m_fl 1 rfl (m_fl 0 rfl (m_at 0 rfl))) rfl dX3_copyFrom_81 ?_
  refine r_puti X hw (ws' := ([chipB D L w1 w2 (va_cpy t.v s.v 0 0 7) (va_cpy t.f s.f 0 0 7) (va_cpy t.g s.g 0 0 7) (va_cpy t.r s.r 0 0 7) (cpR t.av s.av 5 3) (va_cpy t.mk s.mk 0 0 3) (va_cpy t.cm s.cm 0 0 3) t.ar t.fl (cpR t.en s.en 10 6) t.la t.zs (va_cpy t.se s.se 0 0 3) t.ph t.tk t.pc t.rc t.wc s.bc s.tc, chipB D M y1 y2 t.v t.f t.g t.r t.av t.mk t.cm t.ar t.fl t.en t.la t.zs t.se t.ph t.tk t.pc t.rc t.wc t.bc t.tc] : List va_W).flatten) fp_X3_65 (Nat.le_of_ble_eq_true rfl) (Foc.trans (Foc.at1 0 rfl rfl (ce rfl rfl)) (Foc.trans (Foc.at1 0 rfl rfl (ce rfl (ce rfl (ce rfl (ce rfl rfl))))) (Foc.cell 0 rfl rfl rfl))) dX3_copyFrom_84 (fun H locs hw => ?_)
  refine lv_aload_n hx hb dX3_copyFrom_87 rfl (lv_at hl 0 rfl) ?_
  refine lv_aload_n hx hb dX3_copyFrom_88 rfl (lv_at hl 1 rfl) ?_
  refine r_get X hw (v := .int t.bc) fl_X3_68 (m_fl 1 rfl (m_fl 0 rfl (m_at 0 rfl))) rfl dX3_copyFrom_89 ?_
  refine r_puti X hw (ws' := ([chipB D L w1 w2 (va_cpy t.v s.v 0 0 7) (va_cpy t.f s.f 0 0 7) (va_cpy t.g s.g 0 0 7) (va_cpy t.r s.r 0 0 7) (cpR t.av s.av 5 3) (va_cpy t.mk s.mk 0 0 3) (va_cpy t.cm s.cm 0 0 3) t.ar t.fl (cpR t.en s.en 10 6) t.la t.zs (va_cpy t.se s.se 0 0 3) t.ph t.tk t.pc t.rc t.wc t.bc s.tc, chipB D M y1 y2 t.v t.f t.g t.r t.av t.mk t.cm t.ar t.fl t.en t.la t.zs t.se t.ph t.tk t.pc t.rc t.wc t.bc t.tc] : List va_W).flatten) fp_X3_68 (Nat.le_of_ble_eq_true rfl) (Foc.trans (Foc.at1 0 rfl rfl (ce rfl rfl)) (Foc.trans (Foc.at1 0 rfl rfl (ce rfl (ce rfl (ce rfl (ce rfl rfl))))) (Foc.cell 0 rfl rfl rfl))) dX3_copyFrom_92 (fun H locs hw => ?_)
  refine lv_aload_n hx hb dX3_copyFrom_95 rfl (lv_at hl 0 rfl) ?_
  refine lv_aload_n hx hb dX3_copyFrom_96 rfl (lv_at hl 1 rfl) ?_
  refine r_get X hw (v := .int t.tc) fl_X3_71 (m_fl 1 rfl (m_fl 0 rfl (m_at 0 rfl))) rfl dX3_copyFrom_97 ?_
  refine r_puti X hw (ws' := ([chipB D L w1 w2 (va_cpy t.v s.v 0 0 7) (va_cpy t.f s.f 0 0 7) (va_cpy t.g s.g 0 0 7) (va_cpy t.r s.r 0 0 7) (cpR t.av s.av 5 3) (va_cpy t.mk s.mk 0 0 3) (va_cpy t.cm s.cm 0 0 3) t.ar t.fl (cpR t.en s.en 10 6) t.la t.zs (va_cpy t.se s.se 0 0 3) t.ph t.tk t.pc t.rc t.wc t.bc t.tc, chipB D M y1 y2 t.v t.f t.g t.r t.av t.mk t.cm t.ar t.fl t.en t.la t.zs t.se t.ph t.tk t.pc t.rc t.wc t.bc t.tc] : List va_W).flatten) fp_X3_71 (Nat.le_of_ble_eq_true rfl) (Foc.trans (Foc.at1 0 rfl rfl (ce rfl rfl)) (Foc.trans (Foc.at1 0 rfl rfl (ce rfl (ce rfl (ce rfl (ce rfl rfl))))) (Foc.cell 0 rfl rfl rfl))) dX3_copyFrom_100 (fun H locs hw => ?_)
  exact r_retV X hw hk hret rfl dX3_copyFrom_103

noncomputable def sp_X3_readRegister (s : ChS) (i n : Nat) : Int32 × ChS := (s.v i, (ppF (ChS.new s.v s.f s.g s.r s.av s.mk s.cm s.ar s.fl s.en s.la s.zs s.se s.ph s.tk s.pc (s.rc + 1) s.wc s.bc s.tc) n).2)
set_option maxRecDepth 100000 in
set_option maxHeartbeats 4000000 in
theorem c_X3_readRegister (l : Launch) (D : va_G) (sz : Nat) (L w1 w2 : Nat → Nat) (s : ChS) (i n : Nat) (hi : i < 7) (hn : n < 2147483648) (hse : s.se 0 = nI n) : MI l yX3_readRegister cX3_readRegister 3 (some .int) 5 110 D sz [.ref (L 0), .int (nI i)] (chipB D L w1 w2 s.v s.f s.g s.r s.av s.mk s.cm s.ar s.fl s.en s.la s.zs s.se s.ph s.tk s.pc s.rc s.wc s.bc s.tc) (s.v i) (chipB D L w1 w2 (((sp_X3_readRegister s i n).2).v) (((sp_X3_readRegister s i n).2).f) (((sp_X3_readRegister s i n).2).g) (((sp_X3_readRegister s i n).2).r) (((sp_X3_readRegister s i n).2).av) (((sp_X3_readRegister s i n).2).mk) (((sp_X3_readRegister s i n).2).cm) (((sp_X3_readRegister s i n).2).ar) (((sp_X3_readRegister s i n).2).fl) (((sp_X3_readRegister s i n).2).en) (((sp_X3_readRegister s i n).2).la) (((sp_X3_readRegister s i n).2).zs) (((sp_X3_readRegister s i n).2).se) (((sp_X3_readRegister s i n).2).ph) (((sp_X3_readRegister s i n).2).tk) (((sp_X3_readRegister s i n).2).pc) (((sp_X3_readRegister s i n).2).rc) (((sp_X3_readRegister s i n).2).wc) (((sp_X3_readRegister s i n).2).bc) (((sp_X3_readRegister s i n).2).tc)) := by
  refine r_enterI (by decide) (Nat.le_of_ble_eq_true rfl) ?_
  intro p e st m args below meth c ls A X hret hk hw hl
  have X : CX D p m c cX3_readRegister 3 st args RX3 A := X
  have hx := X.1.1
  have hb := X.1.2.1
  have hown := X.1.2.2.2.1
  have hts := X.1.2.2.2.2
  have hl : lv_has ls 3 [(0, .ref (L 0)), (1, .int (nI i))] := hl
  refine lv_aload_n hx hb dX3_readRegister_0 rfl (lv_at hl 0 rfl) ?_
  refine lv_dup hx hb dX3_readRegister_1 rfl ?_
  refine r_get X hw (v := .int s.rc) fl_X3_62 (m_fl 0 rfl (m_at 0 rfl)) rfl dX3_readRegister_2 ?_
  refine lv_iconst (v := 1) hx hb dX3_readRegister_5 (by decide) ?_
  refine lv_iadd hx hb dX3_readRegister_6 ?_
  refine r_puti X hw (ws' := chipB D L w1 w2 s.v s.f s.g s.r s.av s.mk s.cm s.ar s.fl s.en s.la s.zs s.se s.ph s.tk s.pc (s.rc + 1) s.wc s.bc s.tc) fp_X3_62 (Nat.le_of_ble_eq_true rfl) (Foc.trans (Foc.at1 0 rfl rfl (ce rfl (ce rfl (ce rfl (ce rfl rfl))))) (Foc.cell 0 rfl rfl rfl)) dX3_readRegister_7 (fun H locs hw => ?_)
  refine lv_aload_n hx hb dX3_readRegister_10 rfl (lv_at hl 0 rfl) ?_
  refine r_get X hw (v := .ref (L 1)) fl_X3_12 (m_fl 0 rfl (m_at 0 rfl)) rfl dX3_readRegister_11 ?_
  refine r_get X hw (v := .ref (L 2)) fl_X3_84 (m_fl 1 rfl (m_at 0 rfl)) rfl dX3_readRegister_14 ?_
  refine lv_iload_n hx hb dX3_readRegister_17 rfl (lv_at hl 1 rfl) ?_
  refine r_iald X hw (f := s.v) i (m_fl 1 rfl (m_at 1 rfl)) rfl (by omega) (by decide) dX3_readRegister_18 ?_
  refine lv_istore_n (lv' := [(2, .int (s.v i)), (0, .ref (L 0)), (1, .int (nI i))]) hx hb dX3_readRegister_19 rfl hl (by decide) rfl (fun ls hl => ?_)
  refine lv_aload_n hx hb dX3_readRegister_20 rfl (lv_at hl 1 rfl) ?_
  refine lv_aload_n hx hb dX3_readRegister_21 rfl (lv_at hl 1 rfl) ?_
  refine r_get X hw (v := .ref (L 12)) fl_X3_32 (m_fl 0 rfl (m_at 0 rfl)) rfl dX3_readRegister_22 ?_
  refine lv_iconst (v := 0) hx hb dX3_readRegister_25 (by decide) ?_
  refine r_iald X hw (f := s.se) 0 (m_fl 4 rfl (m_at 0 rfl)) rfl (by decide) (by decide) dX3_readRegister_26 ?_
  rw [show s.se 0 = nI n from hse]
  refine r_callV X hw (ws' := chipB D L w1 w2 (((ppF (ChS.new s.v s.f s.g s.r s.av s.mk s.cm s.ar s.fl s.en s.la s.zs s.se s.ph s.tk s.pc (s.rc + 1) s.wc s.bc s.tc) n).2).v) (((ppF (ChS.new s.v s.f s.g s.r s.av s.mk s.cm s.ar s.fl s.en s.la s.zs s.se s.ph s.tk s.pc (s.rc + 1) s.wc s.bc s.tc) n).2).f) (((ppF (ChS.new s.v s.f s.g s.r s.av s.mk s.cm s.ar s.fl s.en s.la s.zs s.se s.ph s.tk s.pc (s.rc + 1) s.wc s.bc s.tc) n).2).g) (((ppF (ChS.new s.v s.f s.g s.r s.av s.mk s.cm s.ar s.fl s.en s.la s.zs s.se s.ph s.tk s.pc (s.rc + 1) s.wc s.bc s.tc) n).2).r) (((ppF (ChS.new s.v s.f s.g s.r s.av s.mk s.cm s.ar s.fl s.en s.la s.zs s.se s.ph s.tk s.pc (s.rc + 1) s.wc s.bc s.tc) n).2).av) (((ppF (ChS.new s.v s.f s.g s.r s.av s.mk s.cm s.ar s.fl s.en s.la s.zs s.se s.ph s.tk s.pc (s.rc + 1) s.wc s.bc s.tc) n).2).mk) (((ppF (ChS.new s.v s.f s.g s.r s.av s.mk s.cm s.ar s.fl s.en s.la s.zs s.se s.ph s.tk s.pc (s.rc + 1) s.wc s.bc s.tc) n).2).cm) (((ppF (ChS.new s.v s.f s.g s.r s.av s.mk s.cm s.ar s.fl s.en s.la s.zs s.se s.ph s.tk s.pc (s.rc + 1) s.wc s.bc s.tc) n).2).ar) (((ppF (ChS.new s.v s.f s.g s.r s.av s.mk s.cm s.ar s.fl s.en s.la s.zs s.se s.ph s.tk s.pc (s.rc + 1) s.wc s.bc s.tc) n).2).fl) (((ppF (ChS.new s.v s.f s.g s.r s.av s.mk s.cm s.ar s.fl s.en s.la s.zs s.se s.ph s.tk s.pc (s.rc + 1) s.wc s.bc s.tc) n).2).en) (((ppF (ChS.new s.v s.f s.g s.r s.av s.mk s.cm s.ar s.fl s.en s.la s.zs s.se s.ph s.tk s.pc (s.rc + 1) s.wc s.bc s.tc) n).2).la) (((ppF (ChS.new s.v s.f s.g s.r s.av s.mk s.cm s.ar s.fl s.en s.la s.zs s.se s.ph s.tk s.pc (s.rc + 1) s.wc s.bc s.tc) n).2).zs) (((ppF (ChS.new s.v s.f s.g s.r s.av s.mk s.cm s.ar s.fl s.en s.la s.zs s.se s.ph s.tk s.pc (s.rc + 1) s.wc s.bc s.tc) n).2).se) (((ppF (ChS.new s.v s.f s.g s.r s.av s.mk s.cm s.ar s.fl s.en s.la s.zs s.se s.ph s.tk s.pc (s.rc + 1) s.wc s.bc s.tc) n).2).ph) (((ppF (ChS.new s.v s.f s.g s.r s.av s.mk s.cm s.ar s.fl s.en s.la s.zs s.se s.ph s.tk s.pc (s.rc + 1) s.wc s.bc s.tc) n).2).tk) (((ppF (ChS.new s.v s.f s.g s.r s.av s.mk s.cm s.ar s.fl s.en s.la s.zs s.se s.ph s.tk s.pc (s.rc + 1) s.wc s.bc s.tc) n).2).pc) (((ppF (ChS.new s.v s.f s.g s.r s.av s.mk s.cm s.ar s.fl s.en s.la s.zs s.se s.ph s.tk s.pc (s.rc + 1) s.wc s.bc s.tc) n).2).rc) (((ppF (ChS.new s.v s.f s.g s.r s.av s.mk s.cm s.ar s.fl s.en s.la s.zs s.se s.ph s.tk s.pc (s.rc + 1) s.wc s.bc s.tc) n).2).wc) (((ppF (ChS.new s.v s.f s.g s.r s.av s.mk s.cm s.ar s.fl s.en s.la s.zs s.se s.ph s.tk s.pc (s.rc + 1) s.wc s.bc s.tc) n).2).bc) (((ppF (ChS.new s.v s.f s.g s.r s.av s.mk s.cm s.ar s.fl s.en s.la s.zs s.se s.ph s.tk s.pc (s.rc + 1) s.wc s.bc s.tc) n).2).tc)) (As := [.int (nI n)]) (rest := []) lk_X3_91 (c_X3_passPhases l D _ L w1 w2 (ChS.new s.v s.f s.g s.r s.av s.mk s.cm s.ar s.fl s.en s.la s.zs s.se s.ph s.tk s.pc (s.rc + 1) s.wc s.bc s.tc) n (by omega)) Foc.all (m_fl 0 rfl (m_at 0 rfl)) rfl hl.1 (Nat.le_of_ble_eq_true rfl) ⟨Nat.le_of_ble_eq_true rfl, Nat.le_of_ble_eq_true rfl⟩ rfl dX3_readRegister_27 ⟨Nat.le_refl _, Nat.le_refl _⟩ (fun H locs hw => ?_)
  refine lv_pop hx hb dX3_readRegister_30 rfl ?_
  refine lv_iload_n hx hb dX3_readRegister_31 rfl (lv_at hl 0 rfl) ?_
  exact r_ret X hw hk hret rfl rfl rfl dX3_readRegister_32

noncomputable def lgC (s : ChS) (x : Row) (a z : Nat) : ChS := ChS.new s.v s.f s.g s.r s.av s.mk s.cm s.ar s.fl (upR s.en (nxA a) (va_cpy x (s.en (nxA a)) 0 0 10)) (nI (nxA a)) (nI (nxZ z)) s.se s.ph s.tk s.pc s.rc s.wc (s.bc + 1) (s.tc + x 8)
set_option maxRecDepth 100000 in
set_option maxHeartbeats 4000000 in
theorem c_X3_logBurst (l : Launch) (D : va_G) (sz : Nat) (L w1 w2 : Nat → Nat) (s : ChS) (e0 : Nat) (x : Row) (a z : Nat) (hla : s.la = nI a) (hzs : s.zs = nI z) (ha : a < 6) (hz : z ≤ 6) : MV l yX3_logBurst cX3_logBurst 2 2 81 D sz [.ref (L 0), .ref e0] (([chipB D L w1 w2 s.v s.f s.g s.r s.av s.mk s.cm s.ar s.fl s.en s.la s.zs s.se s.ph s.tk s.pc s.rc s.wc s.bc s.tc, [(e0, .inl (D.1 100, 10, .inl x))]] : List va_W).flatten) (([chipB D L w1 w2 ((lgC s x a z).v) ((lgC s x a z).f) ((lgC s x a z).g) ((lgC s x a z).r) ((lgC s x a z).av) ((lgC s x a z).mk) ((lgC s x a z).cm) ((lgC s x a z).ar) ((lgC s x a z).fl) ((lgC s x a z).en) ((lgC s x a z).la) ((lgC s x a z).zs) ((lgC s x a z).se) ((lgC s x a z).ph) ((lgC s x a z).tk) ((lgC s x a z).pc) ((lgC s x a z).rc) ((lgC s x a z).wc) ((lgC s x a z).bc) ((lgC s x a z).tc), [(e0, .inl (D.1 100, 10, .inl x))]] : List va_W).flatten) := by
  refine r_enterV (by decide) (Nat.le_of_ble_eq_true rfl) ?_
  intro p e st m args below meth c ls A X hret hk hw hl
  have X : CX D p m c cX3_logBurst 2 st args RX3 A := X
  have hx := X.1.1
  have hb := X.1.2.1
  have hown := X.1.2.2.2.1
  have hts := X.1.2.2.2.2
  have hl : lv_has ls 2 [(0, .ref (L 0)), (1, .ref e0)] := hl
  refine lv_aload_n hx hb dX3_logBurst_0 rfl (lv_at hl 0 rfl) ?_
  refine lv_dup hx hb dX3_logBurst_1 rfl ?_
  refine r_get X hw (v := .int s.bc) fl_X3_68 (m_fl 0 rfl (m_fl 0 rfl (m_at 0 rfl))) rfl dX3_logBurst_2 ?_
  refine lv_iconst (v := 1) hx hb dX3_logBurst_5 (by decide) ?_
  refine lv_iadd hx hb dX3_logBurst_6 ?_
  refine r_puti X hw (ws' := ([chipB D L w1 w2 s.v s.f s.g s.r s.av s.mk s.cm s.ar s.fl s.en s.la s.zs s.se s.ph s.tk s.pc s.rc s.wc (s.bc + 1) s.tc, [(e0, .inl (D.1 100, 10, .inl x))]] : List va_W).flatten) fp_X3_68 (Nat.le_of_ble_eq_true rfl) (Foc.trans (Foc.at1 0 rfl rfl (ce rfl rfl)) (Foc.trans (Foc.at1 0 rfl rfl (ce rfl (ce rfl (ce rfl (ce rfl rfl))))) (Foc.cell 0 rfl rfl rfl))) dX3_logBurst_7 (fun H locs hw => ?_)
  refine lv_aload_n hx hb dX3_logBurst_10 rfl (lv_at hl 0 rfl) ?_
  refine lv_dup hx hb dX3_logBurst_11 rfl ?_
  refine r_get X hw (v := .int s.tc) fl_X3_71 (m_fl 0 rfl (m_fl 0 rfl (m_at 0 rfl))) rfl dX3_logBurst_12 ?_
  refine lv_aload_n hx hb dX3_logBurst_15 rfl (lv_at hl 1 rfl) ?_
  refine lv_bipush (v := 8) hx hb dX3_logBurst_16 (by decide) ?_
  refine r_iald X hw (f := x) 8 (m_fl 1 rfl (m_at 0 rfl)) rfl (by decide) (by decide) dX3_logBurst_18 ?_
  refine lv_iadd hx hb dX3_logBurst_19 ?_
  refine r_puti X hw (ws' := ([chipB D L w1 w2 s.v s.f s.g s.r s.av s.mk s.cm s.ar s.fl s.en s.la s.zs s.se s.ph s.tk s.pc s.rc s.wc (s.bc + 1) (s.tc + (x 8)), [(e0, .inl (D.1 100, 10, .inl x))]] : List va_W).flatten) fp_X3_71 (Nat.le_of_ble_eq_true rfl) (Foc.trans (Foc.at1 0 rfl rfl (ce rfl rfl)) (Foc.trans (Foc.at1 0 rfl rfl (ce rfl (ce rfl (ce rfl (ce rfl rfl))))) (Foc.cell 0 rfl rfl rfl))) dX3_logBurst_20 (fun H locs hw => ?_)
  refine lv_aload_n hx hb dX3_logBurst_23 rfl (lv_at hl 0 rfl) ?_
  refine r_get X hw (v := .ref (L 10)) fl_X3_28 (m_fl 0 rfl (m_fl 0 rfl (m_at 0 rfl))) rfl dX3_logBurst_24 ?_
  refine lv_aload_n hx hb dX3_logBurst_27 rfl (lv_at hl 1 rfl) ?_
  refine r_callVv X hw (ws' := ([chipB D L w1 w2 s.v s.f s.g s.r s.av s.mk s.cm s.ar s.fl (upR s.en (nxA a) (va_cpy x (s.en (nxA a)) 0 0 10)) (nI (nxA a)) (nI (nxZ z)) s.se s.ph s.tk s.pc s.rc s.wc (s.bc + 1) (s.tc + (x 8)), [(e0, .inl (D.1 100, 10, .inl x))]] : List va_W).flatten) (As := [.ref e0]) (rest := []) lk_X3_95 (c_X2_add l D _ (L 10) (L 11) w2 s.en s.la s.zs e0 x a z hla hzs ha hz) (Foc.trans (Foc.at2 0 0 rfl rfl rfl rfl rfl) (Foc.pair (Foc.at1 3 rfl rfl (ce rfl (ce rfl (ce rfl (ce rfl rfl))))) Foc.all)) (m_fl 0 rfl (m_fl 3 rfl (m_at 0 rfl))) rfl hl.1 (Nat.le_of_ble_eq_true rfl) ⟨Nat.le_of_ble_eq_true rfl, Nat.le_of_ble_eq_true rfl⟩ rfl dX3_logBurst_28 ⟨Nat.le_refl _, Nat.le_refl _⟩ (fun H locs hw => ?_)
  exact r_retV X hw hk hret rfl dX3_logBurst_31
