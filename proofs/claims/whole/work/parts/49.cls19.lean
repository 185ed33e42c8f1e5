section NUL
variable {p : Program} {l : Launch} {e : Env} {R : Room} {s : State} {m : MethodId} {args : Array Value} {below : List Frame} {meth : Method} {c : Code} {H : Heap} {locs : List Loc} {cells slots : Nat} {Q : State → Prop}
variable {cc : ByteArray} {pc : Nat} {ls : Array Slot} {rest : List Value}
theorem r_nload_n (hexec : p.tables.exec = Jvm.exec) (hb : c.code = cc) {k : Fin 4} {i : Nat} (hdg : decode cc pc = .ok (.aload_n k, 1)) (hi : (k : Nat) = i) (hl : ls[i]? = some (.val .null))
    (kk : W p l e R s m args below meth c H locs cells slots Q (F0 m (pc + 1) ls (.null :: rest))) : W p l e R s m args below meth c H locs cells slots Q (F0 m pc ls rest) := by
  subst hi
  intro T hT X
  obtain ⟨t, a, b⟩ := kk T hT X
  refine ⟨t, ?_, b⟩
  jvm_step X.here [X.here.top, hexec, hb, hdg, hl, Value.isRef]
  exact a
theorem r_nstore_n (hexec : p.tables.exec = Jvm.exec) (hb : c.code = cc) {k : Fin 4} {i nL : Nat} {lv lv' : List (Nat × Value)} (hdg : decode cc pc = .ok (.astore_n k, 1)) (hi : (k : Nat) = i) (h : lv_has ls nL lv) (hn : i < nL) (hl : (i, Value.null) :: lv.filter (fun q => !(q.1 == i) && !(q.1 + 1 == i && q.2.category == 2)) = lv')
    (kk : ∀ ls' : Array Slot, lv_has ls' nL lv' → W p l e R s m args below meth c H locs cells slots Q (F0 m (pc + 1) ls' rest)) : W p l e R s m args below meth c H locs cells slots Q (F0 m pc ls (.null :: rest)) := by
  subst hi
  obtain ⟨ls', e', h'⟩ := lv_store1 (v := .null) h hn rfl
  intro T hT X
  obtain ⟨t, a, b⟩ := kk ls' (hl ▸ h') T hT X
  refine ⟨t, ?_, b⟩
  jvm_step X.here [X.here.top, ↓top_set X.here.top, hexec, hb, hdg, e', Value.isRef]
  exact a
end NUL
theorem cc_i2c {c : Nat} (h : c < 127) : ((nI c).toUInt32 % 65536).toInt32 = nI c := (show ∀ c : Fin 127, ((nI c.1).toUInt32 % 65536).toInt32 = nI c.1 from by decide +kernel) ⟨c, h⟩
theorem cc_nar {c : Nat} (h : c < 127) : vp_nar .char (nI c) = nI c := (show ∀ c : Fin 127, vp_nar .char (nI c.1) = nI c.1 from by decide +kernel) ⟨c, h⟩
theorem cc_ok {c : Nat} (h : c < 127) : narrow .char (.int (nI c)) = .int (nI c) ∧ fits .char (.int (nI c)) = true := (show ∀ c : Fin 127, narrow .char (.int (nI c.1)) = .int (nI c.1) ∧ fits .char (.int (nI c.1)) = true from by decide +kernel) ⟨c, h⟩

set_option maxRecDepth 100000 in
set_option maxHeartbeats 4000000 in
theorem c_X6_countB (l : Launch) (D : va_G) (sz : Nat) (o ha ta : Nat) (L w1 w2 M y1 y2 : Nat → Nat) (HL HW1 HW2 : Nat → Nat → Nat) (b0 b1 b2 b3 : Nat) (bw : Nat → Nat) (u0 u1 : Nat) (tx : Row) (T : Nat) (s t : ChS) (hs : Nat → ChS) (en tb : Row) (sh : Nat → Row) (n0 : Int32) (nu : Row) (lt br le : Int32) (k : Nat) (hk4 : k ≤ 4) (hT : T ≤ 60) (x : Int32) (h9 : sp_X6_isWithin x 20 22 = 0) (g0 : ¬ x = 0) (g1 : ¬ x = 1) (g2 : ¬ x = 2) (g3 : ¬ x = 3) (g4 : ¬ x = 4) (g5 : ¬ x = 5) (g6 : ¬ x = 6) (g7 : ¬ x = 7) (g8 : ¬ x = 8) (g9 : ¬ x = 9) (g10 : ¬ x = 10) (g11 : ¬ x = 11) (g12 : ¬ x = 12) (g13 : ¬ x = 13) : MI l yX6_count cX6_count 2 (some .int) 1 22 D sz [.ref o, .int x] (([([xB D o ha ta (L 0) (M 0) b0 u0 (nI k) (rows4 HL) tx (nI T), chipB D L w1 w2 s.v s.f s.g s.r s.av s.mk s.cm s.ar s.fl s.en s.la s.zs s.se s.ph s.tk s.pc s.rc s.wc s.bc s.tc, hsB D HL HW1 HW2 hs] : List va_W).flatten, ([chipB D M y1 y2 t.v t.f t.g t.r t.av t.mk t.cm t.ar t.fl t.en t.la t.zs t.se t.ph t.tk t.pc t.rc t.wc t.bc t.tc, buB D b0 b1 b2 b3 bw en tb sh n0, orB D u0 u1 nu lt br le] : List va_W).flatten] : List va_W).flatten) (-1000001) (([([xB D o ha ta (L 0) (M 0) b0 u0 (nI k) (rows4 HL) tx (nI T), chipB D L w1 w2 s.v s.f s.g s.r s.av s.mk s.cm s.ar s.fl s.en s.la s.zs s.se s.ph s.tk s.pc s.rc s.wc s.bc s.tc, hsB D HL HW1 HW2 hs] : List va_W).flatten, ([chipB D M y1 y2 t.v t.f t.g t.r t.av t.mk t.cm t.ar t.fl t.en t.la t.zs t.se t.ph t.tk t.pc t.rc t.wc t.bc t.tc, buB D b0 b1 b2 b3 bw en tb sh n0, orB D u0 u1 nu lt br le] : List va_W).flatten] : List va_W).flatten) := by
  refine r_enterI (by decide) (Nat.le_of_ble_eq_true rfl) ?_
  intro p e st m args below meth c ls A X hret hk hw hl
  have X : CX D p m c cX6_count 2 st args RX6 A := X
  have hx := X.1.1
  have hb := X.1.2.1
  have hown := X.1.2.2.2.1
  have hts := X.1.2.2.2.2
  have hl : lv_has ls 2 [(0, .ref o), (1, .int x)] := hl
  refine lv_iload_n hx hb dX6_count_0 rfl (lv_at hl 1 rfl) ?_
  refine lv_bipush (v := 20) hx hb dX6_count_1 (by decide) ?_
  refine lv_bipush (v := 22) hx hb dX6_count_3 (by decide) ?_
  refine r_callS X hw (ws' := ([([xB D o ha ta (L 0) (M 0) b0 u0 (nI k) (rows4 HL) tx (nI T), chipB D L w1 w2 s.v s.f s.g s.r s.av s.mk s.cm s.ar s.fl s.en s.la s.zs s.se s.ph s.tk s.pc s.rc s.wc s.bc s.tc, hsB D HL HW1 HW2 hs] : List va_W).flatten, ([chipB D M y1 y2 t.v t.f t.g t.r t.av t.mk t.cm t.ar t.fl t.en t.la t.zs t.se t.ph t.tk t.pc t.rc t.wc t.bc t.tc, buB D b0 b1 b2 b3 bw en tb sh n0, orB D u0 u1 nu lt br le] : List va_W).flatten] : List va_W).flatten) (As := [.int x, .int 20, .int 22]) (rest := []) lk_X6_95 (c_X6_isWithin l D _ x 20 22) Foc.nil rfl hl.1 (Nat.le_of_ble_eq_true rfl) ⟨Nat.le_of_ble_eq_true rfl, Nat.le_of_ble_eq_true rfl⟩ rfl dX6_count_5 ⟨Nat.le_refl _, Nat.le_refl _⟩ (fun H locs hw => ?_)
  refine lv_if_eq (tgt := 24) hx hb dX6_count_8 (by decide) (fun _ => ?_) (fun h => absurd h9 h)
  refine lv_iload_n hx hb dX6_count_24 rfl (lv_at hl 1 rfl) ?_
  refine lv_tableOut (tgt := 217) hx hb dX6_count_25 (by have e0 := i_ne g0; rw [show ((0 : Int32)).toInt = 0 from rfl] at e0; have e1 := i_ne g1; rw [show ((1 : Int32)).toInt = 1 from rfl] at e1; have e2 := i_ne g2; rw [show ((2 : Int32)).toInt = 2 from rfl] at e2; have e3 := i_ne g3; rw [show ((3 : Int32)).toInt = 3 from rfl] at e3; have e4 := i_ne g4; rw [show ((4 : Int32)).toInt = 4 from rfl] at e4; have e5 := i_ne g5; rw [show ((5 : Int32)).toInt = 5 from rfl] at e5; have e6 := i_ne g6; rw [show ((6 : Int32)).toInt = 6 from rfl] at e6; have e7 := i_ne g7; rw [show ((7 : Int32)).toInt = 7 from rfl] at e7; have e8 := i_ne g8; rw [show ((8 : Int32)).toInt = 8 from rfl] at e8; have e9 := i_ne g9; rw [show ((9 : Int32)).toInt = 9 from rfl] at e9; have e10 := i_ne g10; rw [show ((10 : Int32)).toInt = 10 from rfl] at e10; have e11 := i_ne g11; rw [show ((11 : Int32)).toInt = 11 from rfl] at e11; have e12 := i_ne g12; rw [show ((12 : Int32)).toInt = 12 from rfl] at e12; have e13 := i_ne g13; rw [show ((13 : Int32)).toInt = 13 from rfl] at e13; omega) (by decide) ?_
  refine lv_ldc (v := (-1000001)) hx hb hown (hts _ kc_X6_45) dX6_count_217 ?_
  exact r_ret X hw hk hret rfl rfl rfl dX6_count_219

set_option maxRecDepth 100000 in
set_option maxHeartbeats 4000000 in
theorem c_X6_undoN (l : Launch) (D : va_G) (sz : Nat) (o ha ta : Nat) (L w1 w2 M y1 y2 : Nat → Nat) (HL HW1 HW2 : Nat → Nat → Nat) (b0 b1 b2 b3 : Nat) (bw : Nat → Nat) (u0 u1 : Nat) (tx : Row) (T : Nat) (s t : ChS) (hs : Nat → ChS) (en tb : Row) (sh : Nat → Row) (n0 : Int32) (nu : Row) (lt br le : Int32) (k : Nat) (hk4 : k ≤ 4) (hT : T ≤ 60) : MI l yX6_undo cX6_undo 2 (some .int) 0 0 D sz [.ref o] (([([xB D o ha ta (L 0) (M 0) b0 u0 0 (rows4 HL) tx (nI T), chipB D L w1 w2 s.v s.f s.g s.r s.av s.mk s.cm s.ar s.fl s.en s.la s.zs s.se s.ph s.tk s.pc s.rc s.wc s.bc s.tc, hsB D HL HW1 HW2 hs] : List va_W).flatten, ([chipB D M y1 y2 t.v t.f t.g t.r t.av t.mk t.cm t.ar t.fl t.en t.la t.zs t.se t.ph t.tk t.pc t.rc t.wc t.bc t.tc, buB D b0 b1 b2 b3 bw en tb sh n0, orB D u0 u1 nu lt br le] : List va_W).flatten] : List va_W).flatten) (-1000002) (([([xB D o ha ta (L 0) (M 0) b0 u0 0 (rows4 HL) tx (nI T), chipB D L w1 w2 s.v s.f s.g s.r s.av s.mk s.cm s.ar s.fl s.en s.la s.zs s.se s.ph s.tk s.pc s.rc s.wc s.bc s.tc, hsB D HL HW1 HW2 hs] : List va_W).flatten, ([chipB D M y1 y2 t.v t.f t.g t.r t.av t.mk t.cm t.ar t.fl t.en t.la t.zs t.se t.ph t.tk t.pc t.rc t.wc t.bc t.tc, buB D b0 b1 b2 b3 bw en tb sh n0, orB D u0 u1 nu lt br le] : List va_W).flatten] : List va_W).flatten) := by
  refine r_enterI (by decide) (Nat.le_of_ble_eq_true rfl) ?_
  intro p e st m args below meth c ls A X hret hk hw hl
  have X : CX D p m c cX6_undo 2 st args RX6 A := X
  have hx := X.1.1
  have hb := X.1.2.1
  have hown := X.1.2.2.2.1
  have hts := X.1.2.2.2.2
  have hl : lv_has ls 2 [(0, .ref o)] := hl
  refine lv_aload_n hx hb dX6_undo_0 rfl (lv_at hl 0 rfl) ?_
  refine r_get X hw (v := .int 0) fl_X6_254 (m_fl 0 rfl (m_fl 0 rfl (m_at 0 rfl))) rfl dX6_undo_1 ?_
  refine lv_if_le (tgt := 21) hx hb dX6_undo_4 (by decide) (fun _ => ?_) (fun h => absurd (by decide) h)
  refine lv_null hx hb dX6_undo_21 ?_
  refine r_nstore_n (lv' := [(1, .null), (0, .ref o)]) hx hb dX6_undo_22 rfl hl (by decide) rfl (fun ls hl => ?_)
  refine r_nload_n hx hb dX6_undo_23 rfl (lv_at hl 0 rfl) ?_
  refine lv_ifnonnullN hx hb dX6_undo_24 ?_
  refine lv_ldc (v := (-1000002)) hx hb hown (hts _ kc_X6_117) dX6_undo_27 ?_
  exact r_ret X hw hk hret rfl rfl rfl dX6_undo_29

set_option maxRecDepth 100000 in
set_option maxHeartbeats 4000000 in
theorem c_X6_type (l : Launch) (D : va_G) (sz : Nat) (o ha ta : Nat) (L w1 w2 M y1 y2 : Nat → Nat) (HL HW1 HW2 : Nat → Nat → Nat) (b0 b1 b2 b3 : Nat) (bw : Nat → Nat) (u0 u1 : Nat) (tx : Row) (T : Nat) (s t : ChS) (hs : Nat → ChS) (en tb : Row) (sh : Nat → Row) (n0 : Int32) (nu : Row) (lt br le : Int32) (k : Nat) (hk4 : k ≤ 4) (hT : T ≤ 60) (c9 : Nat) (hc1 : 32 ≤ c9) (hc2 : c9 ≤ 126) (hT6 : T < 60) (h9 : ¬ sp_X6_isWithin (nI c9) 32 126 = 0) : MI l yX6_type cX6_type 2 (some .int) 1 22 D sz [.ref o, .int (nI c9)] (([([xB D o ha ta (L 0) (M 0) b0 u0 (nI k) (rows4 HL) tx (nI T), chipB D L w1 w2 s.v s.f s.g s.r s.av s.mk s.cm s.ar s.fl s.en s.la s.zs s.se s.ph s.tk s.pc s.rc s.wc s.bc s.tc, hsB D HL HW1 HW2 hs] : List va_W).flatten, ([chipB D M y1 y2 t.v t.f t.g t.r t.av t.mk t.cm t.ar t.fl t.en t.la t.zs t.se t.ph t.tk t.pc t.rc t.wc t.bc t.tc, buB D b0 b1 b2 b3 bw en tb sh n0, orB D u0 u1 nu lt br le] : List va_W).flatten] : List va_W).flatten) (nI (T + 1)) (([([xB D o ha ta (L 0) (M 0) b0 u0 (nI k) (rows4 HL) (upd tx T (nI c9)) (nI (T + 1)), chipB D L w1 w2 s.v s.f s.g s.r s.av s.mk s.cm s.ar s.fl s.en s.la s.zs s.se s.ph s.tk s.pc s.rc s.wc s.bc s.tc, hsB D HL HW1 HW2 hs] : List va_W).flatten, ([chipB D M y1 y2 t.v t.f t.g t.r t.av t.mk t.cm t.ar t.fl t.en t.la t.zs t.se t.ph t.tk t.pc t.rc t.wc t.bc t.tc, buB D b0 b1 b2 b3 bw en tb sh n0, orB D u0 u1 nu lt br le] : List va_W).flatten] : List va_W).flatten) := by
  refine r_enterI (by decide) (Nat.le_of_ble_eq_true rfl) ?_
  intro p e st m args below meth c ls A X hret hk hw hl
  have X : CX D p m c cX6_type 2 st args RX6 A := X
  have hx := X.1.1
  have hb := X.1.2.1
  have hown := X.1.2.2.2.1
  have hts := X.1.2.2.2.2
  have hl : lv_has ls 2 [(0, .ref o), (1, .int (nI c9))] := hl
  refine lv_iload_n hx hb dX6_type_0 rfl (lv_at hl 1 rfl) ?_
  refine lv_bipush (v := 32) hx hb dX6_type_1 (by decide) ?_
  refine lv_bipush (v := 126) hx hb dX6_type_3 (by decide) ?_
  refine r_callS X hw (ws' := ([([xB D o ha ta (L 0) (M 0) b0 u0 (nI k) (rows4 HL) tx (nI T), chipB D L w1 w2 s.v s.f s.g s.r s.av s.mk s.cm s.ar s.fl s.en s.la s.zs s.se s.ph s.tk s.pc s.rc s.wc s.bc s.tc, hsB D HL HW1 HW2 hs] : List va_W).flatten, ([chipB D M y1 y2 t.v t.f t.g t.r t.av t.mk t.cm t.ar t.fl t.en t.la t.zs t.se t.ph t.tk t.pc t.rc t.wc t.bc t.tc, buB D b0 b1 b2 b3 bw en tb sh n0, orB D u0 u1 nu lt br le] : List va_W).flatten] : List va_W).flatten) (As := [.int (nI c9), .int 32, .int 126]) (rest := []) lk_X6_95 (c_X6_isWithin l D _ (nI c9) 32 126) Foc.nil rfl hl.1 (Nat.le_of_ble_eq_true rfl) ⟨Nat.le_of_ble_eq_true rfl, Nat.le_of_ble_eq_true rfl⟩ rfl dX6_type_5 ⟨Nat.le_refl _, Nat.le_refl _⟩ (fun H locs hw => ?_)
  refine lv_if_ne (tgt := 14) hx hb dX6_type_8 (by decide) (fun _ => ?_) (fun h => absurd h h9)
  refine lv_aload_n hx hb dX6_type_14 rfl (lv_at hl 0 rfl) ?_
  refine r_get X hw (v := .int (nI T)) fl_X6_257 (m_fl 0 rfl (m_fl 0 rfl (m_at 0 rfl))) rfl dX6_type_15 ?_
  refine lv_bipush (v := 60) hx hb dX6_type_18 (by decide) ?_
  refine r_ltN (tgt := 27) hx hb T 60 rfl rfl (by omega) (by omega) dX6_type_20 (by decide) (fun c1 => ?_) (fun c1 => absurd c1 (by omega))
  refine lv_aload_n hx hb dX6_type_27 rfl (lv_at hl 0 rfl) ?_
  refine r_get X hw (v := .ref ta) fl_X6_37 (m_fl 0 rfl (m_fl 0 rfl (m_at 0 rfl))) rfl dX6_type_28 ?_
  refine lv_aload_n hx hb dX6_type_31 rfl (lv_at hl 0 rfl) ?_
  refine r_get X hw (v := .int (nI T)) fl_X6_257 (m_fl 0 rfl (m_fl 0 rfl (m_at 0 rfl))) rfl dX6_type_32 ?_
  refine lv_iload_n hx hb dX6_type_35 rfl (lv_at hl 1 rfl) ?_
  refine lv_i2c (v := nI c9) hx hb dX6_type_36 (cc_i2c (by omega)) ?_
  refine r_cast X hw (ws' := ([([xB D o ha ta (L 0) (M 0) b0 u0 (nI k) (rows4 HL) (upd tx T (nI c9)) (nI T), chipB D L w1 w2 s.v s.f s.g s.r s.av s.mk s.cm s.ar s.fl s.en s.la s.zs s.se s.ph s.tk s.pc s.rc s.wc s.bc s.tc, hsB D HL HW1 HW2 hs] : List va_W).flatten, ([chipB D M y1 y2 t.v t.f t.g t.r t.av t.mk t.cm t.ar t.fl t.en t.la t.zs t.se t.ph t.tk t.pc t.rc t.wc t.bc t.tc, buB D b0 b1 b2 b3 bw en tb sh n0, orB D u0 u1 nu lt br le] : List va_W).flatten] : List va_W).flatten) T rfl (by omega) (by decide) (cc_nar (by omega)) (Foc.trans (Foc.at1 0 rfl rfl (ce rfl rfl)) (Foc.trans (Foc.at1 0 rfl rfl (ce rfl (ce rfl rfl))) (Foc.cell 2 rfl rfl (ce rfl (ce rfl rfl))))) dX6_type_37 (fun H locs hw => ?_)
  refine lv_aload_n hx hb dX6_type_38 rfl (lv_at hl 0 rfl) ?_
  refine lv_dup hx hb dX6_type_39 rfl ?_
  refine r_get X hw (v := .int (nI T)) fl_X6_257 (m_fl 0 rfl (m_fl 0 rfl (m_at 0 rfl))) rfl dX6_type_40 ?_
  refine lv_iconst (v := 1) hx hb dX6_type_43 (by decide) ?_
  refine r_addN hx hb T 1 rfl rfl dX6_type_44 ?_
  refine r_puti X hw (ws' := ([([xB D o ha ta (L 0) (M 0) b0 u0 (nI k) (rows4 HL) (upd tx T (nI c9)) (nI (T + 1)), chipB D L w1 w2 s.v s.f s.g s.r s.av s.mk s.cm s.ar s.fl s.en s.la s.zs s.se s.ph s.tk s.pc s.rc s.wc s.bc s.tc, hsB D HL HW1 HW2 hs] : List va_W).flatten, ([chipB D M y1 y2 t.v t.f t.g t.r t.av t.mk t.cm t.ar t.fl t.en t.la t.zs t.se t.ph t.tk t.pc t.rc t.wc t.bc t.tc, buB D b0 b1 b2 b3 bw en tb sh n0, orB D u0 u1 nu lt br le] : List va_W).flatten] : List va_W).flatten) fp_X6_257 (Nat.le_of_ble_eq_true rfl) (Foc.trans (Foc.at1 0 rfl rfl (ce rfl rfl)) (Foc.trans (Foc.at1 0 rfl rfl (ce rfl (ce rfl rfl))) (Foc.cell 0 rfl rfl (ce rfl (ce rfl rfl))))) dX6_type_45 (fun H locs hw => ?_)
  refine lv_aload_n hx hb dX6_type_48 rfl (lv_at hl 0 rfl) ?_
  refine r_get X hw (v := .int (nI (T + 1))) fl_X6_257 (m_fl 0 rfl (m_fl 0 rfl (m_at 0 rfl))) rfl dX6_type_49 ?_
  exact r_ret X hw hk hret rfl rfl rfl dX6_type_52

set_option maxRecDepth 100000 in
set_option maxHeartbeats 4000000 in
theorem c_X6_typeB (l : Launch) (D : va_G) (sz : Nat) (o ha ta : Nat) (L w1 w2 M y1 y2 : Nat → Nat) (HL HW1 HW2 : Nat → Nat → Nat) (b0 b1 b2 b3 : Nat) (bw : Nat → Nat) (u0 u1 : Nat) (tx : Row) (T : Nat) (s t : ChS) (hs : Nat → ChS) (en tb : Row) (sh : Nat → Row) (n0 : Int32) (nu : Row) (lt br le : Int32) (k : Nat) (hk4 : k ≤ 4) (hT : T ≤ 60) (x : Int32) (h9 : sp_X6_isWithin x 32 126 = 0) : MI l yX6_type cX6_type 2 (some .int) 1 22 D sz [.ref o, .int x] (([([xB D o ha ta (L 0) (M 0) b0 u0 (nI k) (rows4 HL) tx (nI T), chipB D L w1 w2 s.v s.f s.g s.r s.av s.mk s.cm s.ar s.fl s.en s.la s.zs s.se s.ph s.tk s.pc s.rc s.wc s.bc s.tc, hsB D HL HW1 HW2 hs] : List va_W).flatten, ([chipB D M y1 y2 t.v t.f t.g t.r t.av t.mk t.cm t.ar t.fl t.en t.la t.zs t.se t.ph t.tk t.pc t.rc t.wc t.bc t.tc, buB D b0 b1 b2 b3 bw en tb sh n0, orB D u0 u1 nu lt br le] : List va_W).flatten] : List va_W).flatten) (-1000001) (([([xB D o ha ta (L 0) (M 0) b0 u0 (nI k) (rows4 HL) tx (nI T), chipB D L w1 w2 s.v s.f s.g s.r s.av s.mk s.cm s.ar s.fl s.en s.la s.zs s.se s.ph s.tk s.pc s.rc s.wc s.bc s.tc, hsB D HL HW1 HW2 hs] : List va_W).flatten, ([chipB D M y1 y2 t.v t.f t.g t.r t.av t.mk t.cm t.ar t.fl t.en t.la t.zs t.se t.ph t.tk t.pc t.rc t.wc t.bc t.tc, buB D b0 b1 b2 b3 bw en tb sh n0, orB D u0 u1 nu lt br le] : List va_W).flatten] : List va_W).flatten) := by
  refine r_enterI (by decide) (Nat.le_of_ble_eq_true rfl) ?_
  intro p e st m args below meth c ls A X hret hk hw hl
  have X : CX D p m c cX6_type 2 st args RX6 A := X
  have hx := X.1.1
  have hb := X.1.2.1
  have hown := X.1.2.2.2.1
  have hts := X.1.2.2.2.2
  have hl : lv_has ls 2 [(0, .ref o), (1, .int x)] := hl
  refine lv_iload_n hx hb dX6_type_0 rfl (lv_at hl 1 rfl) ?_
  refine lv_bipush (v := 32) hx hb dX6_type_1 (by decide) ?_
  refine lv_bipush (v := 126) hx hb dX6_type_3 (by decide) ?_
  refine r_callS X hw (ws' := ([([xB D o ha ta (L 0) (M 0) b0 u0 (nI k) (rows4 HL) tx (nI T), chipB D L w1 w2 s.v s.f s.g s.r s.av s.mk s.cm s.ar s.fl s.en s.la s.zs s.se s.ph s.tk s.pc s.rc s.wc s.bc s.tc, hsB D HL HW1 HW2 hs] : List va_W).flatten, ([chipB D M y1 y2 t.v t.f t.g t.r t.av t.mk t.cm t.ar t.fl t.en t.la t.zs t.se t.ph t.tk t.pc t.rc t.wc t.bc t.tc, buB D b0 b1 b2 b3 bw en tb sh n0, orB D u0 u1 nu lt br le] : List va_W).flatten] : List va_W).flatten) (As := [.int x, .int 32, .int 126]) (rest := []) lk_X6_95 (c_X6_isWithin l D _ x 32 126) Foc.nil rfl hl.1 (Nat.le_of_ble_eq_true rfl) ⟨Nat.le_of_ble_eq_true rfl, Nat.le_of_ble_eq_true rfl⟩ rfl dX6_type_5 ⟨Nat.le_refl _, Nat.le_refl _⟩ (fun H locs hw => ?_)
  refine lv_if_ne (tgt := 14) hx hb dX6_type_8 (by decide) (fun h => absurd h9 h) (fun _ => ?_)
  refine lv_ldc (v := (-1000001)) hx hb hown (hts _ kc_X6_45) dX6_type_11 ?_
  exact r_ret X hw hk hret rfl rfl rfl dX6_type_13

set_option maxRecDepth 100000 in
set_option maxHeartbeats 4000000 in
theorem c_X6_typeN (l : Launch) (D : va_G) (sz : Nat) (o ha ta : Nat) (L w1 w2 M y1 y2 : Nat → Nat) (HL HW1 HW2 : Nat → Nat → Nat) (b0 b1 b2 b3 : Nat) (bw : Nat → Nat) (u0 u1 : Nat) (tx : Row)  (s t : ChS) (hs : Nat → ChS) (en tb : Row) (sh : Nat → Row) (n0 : Int32) (nu : Row) (lt br le : Int32) (k : Nat) (hk4 : k ≤ 4)  (x : Int32) (h9 : ¬ sp_X6_isWithin x 32 126 = 0) : MI l yX6_type cX6_type 2 (some .int) 1 22 D sz [.ref o, .int x] (([([xB D o ha ta (L 0) (M 0) b0 u0 (nI k) (rows4 HL) tx 60, chipB D L w1 w2 s.v s.f s.g s.r s.av s.mk s.cm s.ar s.fl s.en s.la s.zs s.se s.ph s.tk s.pc s.rc s.wc s.bc s.tc, hsB D HL HW1 HW2 hs] : List va_W).flatten, ([chipB D M y1 y2 t.v t.f t.g t.r t.av t.mk t.cm t.ar t.fl t.en t.la t.zs t.se t.ph t.tk t.pc t.rc t.wc t.bc t.tc, buB D b0 b1 b2 b3 bw en tb sh n0, orB D u0 u1 nu lt br le] : List va_W).flatten] : List va_W).flatten) (-1000003) (([([xB D o ha ta (L 0) (M 0) b0 u0 (nI k) (rows4 HL) tx 60, chipB D L w1 w2 s.v s.f s.g s.r s.av s.mk s.cm s.ar s.fl s.en s.la s.zs s.se s.ph s.tk s.pc s.rc s.wc s.bc s.tc, hsB D HL HW1 HW2 hs] : List va_W).flatten, ([chipB D M y1 y2 t.v t.f t.g t.r t.av t.mk t.cm t.ar t.fl t.en t.la t.zs t.se t.ph t.tk t.pc t.rc t.wc t.bc t.tc, buB D b0 b1 b2 b3 bw en tb sh n0, orB D u0 u1 nu lt br le] : List va_W).flatten] : List va_W).flatten) := by
  refine r_enterI (by decide) (Nat.le_of_ble_eq_true rfl) ?_
  intro p e st m args below meth c ls A X hret hk hw hl
  have X : CX D p m c cX6_type 2 st args RX6 A := X
  have hx := X.1.1
  have hb := X.1.2.1
  have hown := X.1.2.2.2.1
  have hts := X.1.2.2.2.2
  have hl : lv_has ls 2 [(0, .ref o), (1, .int x)] := hl
  refine lv_iload_n hx hb dX6_type_0 rfl (lv_at hl 1 rfl) ?_
  refine lv_bipush (v := 32) hx hb dX6_type_1 (by decide) ?_
  refine lv_bipush (v := 126) hx hb dX6_type_3 (by decide) ?_
  refine r_callS X hw (ws' := ([([xB D o ha ta (L 0) (M 0) b0 u0 (nI k) (rows4 HL) tx 60, chipB D L w1 w2 s.v s.f s.g s.r s.av s.mk s.cm s.ar s.fl s.en s.la s.zs s.se s.ph s.tk s.pc s.rc s.wc s.bc s.tc, hsB D HL HW1 HW2 hs] : List va_W).flatten, ([chipB D M y1 y2 t.v t.f t.g t.r t.av t.mk t.cm t.ar t.fl t.en t.la t.zs t.se t.ph t.tk t.pc t.rc t.wc t.bc t.tc, buB D b0 b1 b2 b3 bw en tb sh n0, orB D u0 u1 nu lt br le] : List va_W).flatten] : List va_W).flatten) (As := [.int x, .int 32, .int 126]) (rest := []) lk_X6_95 (c_X6_isWithin l D _ x 32 126) Foc.nil rfl hl.1 (Nat.le_of_ble_eq_true rfl) ⟨Nat.le_of_ble_eq_true rfl, Nat.le_of_ble_eq_true rfl⟩ rfl dX6_type_5 ⟨Nat.le_refl _, Nat.le_refl _⟩ (fun H locs hw => ?_)
  refine lv_if_ne (tgt := 14) hx hb dX6_type_8 (by decide) (fun _ => ?_) (fun h => absurd h h9)
  refine lv_aload_n hx hb dX6_type_14 rfl (lv_at hl 0 rfl) ?_
  refine r_get X hw (v := .int 60) fl_X6_257 (m_fl 0 rfl (m_fl 0 rfl (m_at 0 rfl))) rfl dX6_type_15 ?_
  refine lv_bipush (v := 60) hx hb dX6_type_18 (by decide) ?_
  refine lv_icmp_lt (tgt := 27) hx hb dX6_type_20 (by decide) (fun h => absurd h (by decide)) (fun _ => ?_)
  refine lv_ldcw (v := (-1000003)) hx hb hown (hts _ kc_X6_260) dX6_type_23 ?_
  exact r_ret X hw hk hret rfl rfl rfl dX6_type_26

noncomputable def sp_X6_mayDo (nu : Row) (lt : Int32) : Int32 := (if lt = 97 then sp_X6_mayChangeAlarm (nu 0) (nu 1) (nu 2) else (if lt = 98 then sp_X6_isMode (nu 0) else (if lt = 112 then sp_X6_mayPass (nu 0) else (if lt = 114 then sp_X6_isRegister (nu 0) else (if lt = 119 then sp_X6_mayWrite (nu 0) (nu 1) else (if (sp_X6_isAlarm (nu 0)) = 0 then 0 else (if (sp_X6_isWithin (nu 1) 0 31) = 0 then 0 else 1)))))))
theorem bo_X6_mayDo (nu : Row) (lt : Int32) : sp_X6_mayDo nu lt = 0 ∨ sp_X6_mayDo nu lt = 1 := by
  unfold sp_X6_mayDo
  (repeat' split) <;> first | exact Or.inl rfl | exact Or.inr rfl | exact bo_X6_mayChangeAlarm (nu 0) (nu 1) (nu 2) | exact bo_X6_isMode (nu 0) | exact bo_X6_mayPass (nu 0) | exact bo_X6_mayWrite (nu 0) (nu 1) | exact bo_X6_isRegister (nu 0)
set_option maxRecDepth 100000 in
set_option maxHeartbeats 4000000 in
theorem c_X6_mayDo (l : Launch) (D : va_G) (sz : Nat) (x0 : Nat) (x1 : Nat) (nu : Row) (lt : Int32) (br : Int32) (le : Int32) : MI l yX6_mayDo cX6_mayDo 2 (some .boolean) 3 64 D sz [.ref x0] (orB D x0 x1 nu lt br le) (sp_X6_mayDo nu lt) (orB D x0 x1 nu lt br le) := by
  refine r_enterI (by decide) (Nat.le_of_ble_eq_true rfl) ?_
  intro p e st m args below meth c ls A X hret hk hw hl
  have X : CX D p m c cX6_mayDo 2 st args RX6 A := X
  have hx := X.1.1
  have hb := X.1.2.1
  have hown := X.1.2.2.2.1
  have hts := X.1.2.2.2.2
  have hl : lv_has ls 2 [(0, .ref x0)] := hl
  refine lv_aload_n hx hb dX6_mayDo_0 rfl (lv_at hl 0 rfl) ?_
  refine r_get X hw (v := .ref x1) fl_X6_275 (m_at 0 rfl) rfl dX6_mayDo_1 ?_
  refine lv_astore_n (lv' := [(1, .ref x1), (0, .ref x0)]) hx hb dX6_mayDo_4 rfl hl (by decide) rfl (fun ls hl => ?_)
  refine lv_aload_n hx hb dX6_mayDo_5 rfl (lv_at hl 1 rfl) ?_
  refine r_get X hw (v := .int lt) fl_X6_278 (m_at 0 rfl) rfl dX6_mayDo_6 ?_
  by_cases w1 : lt = 97
  · skip
    refine r_lookIn (tgt := 91) hx hb 97 w1 dX6_mayDo_9 (by decide) rfl (by decide) ?_
    refine lv_aload_n hx hb dX6_mayDo_91 rfl (lv_at hl 0 rfl) ?_
    refine lv_iconst (v := 0) hx hb dX6_mayDo_92 (by decide) ?_
    refine r_iald X hw (f := nu) 0 (m_at 1 rfl) rfl (by decide) (by decide) dX6_mayDo_93 ?_
    refine lv_aload_n hx hb dX6_mayDo_94 rfl (lv_at hl 0 rfl) ?_
    refine lv_iconst (v := 1) hx hb dX6_mayDo_95 (by decide) ?_
    refine r_iald X hw (f := nu) 1 (m_at 1 rfl) rfl (by decide) (by decide) dX6_mayDo_96 ?_
    refine lv_aload_n hx hb dX6_mayDo_97 rfl (lv_at hl 0 rfl) ?_
    refine lv_iconst (v := 2) hx hb dX6_mayDo_98 (by decide) ?_
    refine r_iald X hw (f := nu) 2 (m_at 1 rfl) rfl (by decide) (by decide) dX6_mayDo_99 ?_
    refine r_callS X hw (ws' := orB D x0 x1 nu lt br le) (As := [.int (nu 0), .int (nu 1), .int (nu 2)]) (rest := []) lk_X6_78 (c_X6_mayChangeAlarm l D _ (nu 0) (nu 1) (nu 2)) Foc.nil rfl hl.1 (Nat.le_of_ble_eq_true rfl) ⟨Nat.le_of_ble_eq_true rfl, Nat.le_of_ble_eq_true rfl⟩ rfl dX6_mayDo_100 ⟨Nat.le_refl _, Nat.le_refl _⟩ (fun H locs hw => ?_)
    exact r_ret X hw hk hret (nar_b (bo_X6_mayChangeAlarm (nu 0) (nu 1) (nu 2))) (by unfold sp_X6_mayDo; rw [if_pos w1]) rfl dX6_mayDo_103
  · skip
    by_cases w2 : lt = 98
    · skip
      refine r_lookIn (tgt := 77) hx hb 98 w2 dX6_mayDo_9 (by decide) rfl (by decide) ?_
      refine lv_aload_n hx hb dX6_mayDo_77 rfl (lv_at hl 0 rfl) ?_
      refine lv_iconst (v := 0) hx hb dX6_mayDo_78 (by decide) ?_
      refine r_iald X hw (f := nu) 0 (m_at 1 rfl) rfl (by decide) (by decide) dX6_mayDo_79 ?_
      refine r_callS X hw (ws' := orB D x0 x1 nu lt br le) (As := [.int (nu 0)]) (rest := []) lk_X6_61 (c_X6_isMode l D _ (nu 0)) Foc.nil rfl hl.1 (Nat.le_of_ble_eq_true rfl) ⟨Nat.le_of_ble_eq_true rfl, Nat.le_of_ble_eq_true rfl⟩ rfl dX6_mayDo_80 ⟨Nat.le_refl _, Nat.le_refl _⟩ (fun H locs hw => ?_)
      exact r_ret X hw hk hret (nar_b (bo_X6_isMode (nu 0))) (by unfold sp_X6_mayDo; rw [if_neg w1]; rw [if_pos w2]) rfl dX6_mayDo_83
    · skip
      by_cases w3 : lt = 112
      · skip
        refine r_lookIn (tgt := 84) hx hb 112 w3 dX6_mayDo_9 (by decide) rfl (by decide) ?_
        refine lv_aload_n hx hb dX6_mayDo_84 rfl (lv_at hl 0 rfl) ?_
        refine lv_iconst (v := 0) hx hb dX6_mayDo_85 (by decide) ?_
        refine r_iald X hw (f := nu) 0 (m_at 1 rfl) rfl (by decide) (by decide) dX6_mayDo_86 ?_
        refine r_callS X hw (ws' := orB D x0 x1 nu lt br le) (As := [.int (nu 0)]) (rest := []) lk_X6_72 (c_X6_mayPass l D _ (nu 0)) Foc.nil rfl hl.1 (Nat.le_of_ble_eq_true rfl) ⟨Nat.le_of_ble_eq_true rfl, Nat.le_of_ble_eq_true rfl⟩ rfl dX6_mayDo_87 ⟨Nat.le_refl _, Nat.le_refl _⟩ (fun H locs hw => ?_)
        exact r_ret X hw hk hret (nar_b (bo_X6_mayPass (nu 0))) (by unfold sp_X6_mayDo; rw [if_neg w1]; rw [if_neg w2]; rw [if_pos w3]) rfl dX6_mayDo_90
      · skip
        by_cases w4 : lt = 114
        · skip
          refine r_lookIn (tgt := 70) hx hb 114 w4 dX6_mayDo_9 (by decide) rfl (by decide) ?_
          refine lv_aload_n hx hb dX6_mayDo_70 rfl (lv_at hl 0 rfl) ?_
          refine lv_iconst (v := 0) hx hb dX6_mayDo_71 (by decide) ?_
          refine r_iald X hw (f := nu) 0 (m_at 1 rfl) rfl (by decide) (by decide) dX6_mayDo_72 ?_
          refine r_callS X hw (ws' := orB D x0 x1 nu lt br le) (As := [.int (nu 0)]) (rest := []) lk_X6_53 (c_X6_isRegister l D _ (nu 0)) Foc.nil rfl hl.1 (Nat.le_of_ble_eq_true rfl) ⟨Nat.le_of_ble_eq_true rfl, Nat.le_of_ble_eq_true rfl⟩ rfl dX6_mayDo_73 ⟨Nat.le_refl _, Nat.le_refl _⟩ (fun H locs hw => ?_)
          exact r_ret X hw hk hret (nar_b (bo_X6_isRegister (nu 0))) (by unfold sp_X6_mayDo; rw [if_neg w1]; rw [if_neg w2]; rw [if_neg w3]; rw [if_pos w4]) rfl dX6_mayDo_76
        · skip
          by_cases w5 : lt = 119
          · skip
            refine r_lookIn (tgt := 60) hx hb 119 w5 dX6_mayDo_9 (by decide) rfl (by decide) ?_
            refine lv_aload_n hx hb dX6_mayDo_60 rfl (lv_at hl 0 rfl) ?_
            refine lv_iconst (v := 0) hx hb dX6_mayDo_61 (by decide) ?_
            refine r_iald X hw (f := nu) 0 (m_at 1 rfl) rfl (by decide) (by decide) dX6_mayDo_62 ?_
            refine lv_aload_n hx hb dX6_mayDo_63 rfl (lv_at hl 0 rfl) ?_
            refine lv_iconst (v := 1) hx hb dX6_mayDo_64 (by decide) ?_
            refine r_iald X hw (f := nu) 1 (m_at 1 rfl) rfl (by decide) (by decide) dX6_mayDo_65 ?_
            refine r_callS X hw (ws' := orB D x0 x1 nu lt br le) (As := [.int (nu 0), .int (nu 1)]) (rest := []) lk_X6_41 (c_X6_mayWrite l D _ (nu 0) (nu 1)) Foc.nil rfl hl.1 (Nat.le_of_ble_eq_true rfl) ⟨Nat.le_of_ble_eq_true rfl, Nat.le_of_ble_eq_true rfl⟩ rfl dX6_mayDo_66 ⟨Nat.le_refl _, Nat.le_refl _⟩ (fun H locs hw => ?_)
            exact r_ret X hw hk hret (nar_b (bo_X6_mayWrite (nu 0) (nu 1))) (by unfold sp_X6_mayDo; rw [if_neg w1]; rw [if_neg w2]; rw [if_neg w3]; rw [if_neg w4]; rw [if_pos w5]) rfl dX6_mayDo_69
          · skip
            refine lv_lookup (tgt := 104) hx hb dX6_mayDo_9 (by decide) (off := 95) (by have g0 := i_ne w1; have g1 := i_ne w2; have g2 := i_ne w3; have g3 := i_ne w4; have g4 := i_ne w5; rw [show (97 : Int32).toInt = 97 from rfl] at g0; rw [show (98 : Int32).toInt = 98 from rfl] at g1; rw [show (112 : Int32).toInt = 112 from rfl] at g2; rw [show (114 : Int32).toInt = 114 from rfl] at g3; rw [show (119 : Int32).toInt = 119 from rfl] at g4; simp [Op.lookupswitch.offset, g0, g1, g2, g3, g4, Ne.symm g0, Ne.symm g1, Ne.symm g2, Ne.symm g3, Ne.symm g4]) (by decide) ?_
            refine lv_aload_n hx hb dX6_mayDo_104 rfl (lv_at hl 0 rfl) ?_
            refine lv_iconst (v := 0) hx hb dX6_mayDo_105 (by decide) ?_
            refine r_iald X hw (f := nu) 0 (m_at 1 rfl) rfl (by decide) (by decide) dX6_mayDo_106 ?_
            refine r_callS X hw (ws' := orB D x0 x1 nu lt br le) (As := [.int (nu 0)]) (rest := []) lk_X6_92 (c_X6_isAlarm l D _ (nu 0)) Foc.nil rfl hl.1 (Nat.le_of_ble_eq_true rfl) ⟨Nat.le_of_ble_eq_true rfl, Nat.le_of_ble_eq_true rfl⟩ rfl dX6_mayDo_107 ⟨Nat.le_refl _, Nat.le_refl _⟩ (fun H locs hw => ?_)
            refine lv_if_eq (tgt := 129) hx hb dX6_mayDo_110 (by decide) (fun c6 => ?_) (fun c6 => ?_)
            · skip
              refine lv_iconst (v := 0) hx hb dX6_mayDo_129 (by decide) ?_
              exact r_ret X hw hk hret rfl (by unfold sp_X6_mayDo; rw [if_neg w1]; rw [if_neg w2]; rw [if_neg w3]; rw [if_neg w4]; rw [if_neg w5]; rw [if_pos c6]) rfl dX6_mayDo_130
            · skip
              refine lv_aload_n hx hb dX6_mayDo_113 rfl (lv_at hl 0 rfl) ?_
              refine lv_iconst (v := 1) hx hb dX6_mayDo_114 (by decide) ?_
              refine r_iald X hw (f := nu) 1 (m_at 1 rfl) rfl (by decide) (by decide) dX6_mayDo_115 ?_
              refine lv_iconst (v := 0) hx hb dX6_mayDo_116 (by decide) ?_
              refine lv_bipush (v := 31) hx hb dX6_mayDo_117 (by decide) ?_
              refine r_callS X hw (ws' := orB D x0 x1 nu lt br le) (As := [.int (nu 1), .int 0, .int 31]) (rest := []) lk_X6_95 (c_X6_isWithin l D _ (nu 1) 0 31) Foc.nil rfl hl.1 (Nat.le_of_ble_eq_true rfl) ⟨Nat.le_of_ble_eq_true rfl, Nat.le_of_ble_eq_true rfl⟩ rfl dX6_mayDo_119 ⟨Nat.le_refl _, Nat.le_refl _⟩ (fun H locs hw => ?_)
              refine lv_if_eq (tgt := 129) hx hb dX6_mayDo_122 (by decide) (fun c7 => ?_) (fun c7 => ?_)
              · skip
                refine lv_iconst (v := 0) hx hb dX6_mayDo_129 (by decide) ?_
                exact r_ret X hw hk hret rfl (by unfold sp_X6_mayDo; rw [if_neg w1]; rw [if_neg w2]; rw [if_neg w3]; rw [if_neg w4]; rw [if_neg w5]; rw [if_neg c6]; rw [if_pos c7]) rfl dX6_mayDo_130
              · skip
                refine lv_iconst (v := 1) hx hb dX6_mayDo_125 (by decide) ?_
                refine lv_goto (tgt := 130) hx hb dX6_mayDo_126 (by decide) ?_
                exact r_ret X hw hk hret rfl (by unfold sp_X6_mayDo; rw [if_neg w1]; rw [if_neg w2]; rw [if_neg w3]; rw [if_neg w4]; rw [if_neg w5]; rw [if_neg c6]; rw [if_neg c7]) rfl dX6_mayDo_130
