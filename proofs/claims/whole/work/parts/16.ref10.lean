noncomputable def sp_X7_set0 (s : Row) (v : Nat) : Int32 × Row := (if ((upd s 37 (nI v)) 39) ≤ ((upd s 37 (nI v)) 28) then (s 37, upd (upd s 37 (nI v)) 28 (((upd s 37 (nI v)) 39) - 1)) else (s 37, upd (upd s 37 (nI v)) 28 ((upd s 37 (nI v)) 28)))
set_option maxRecDepth 100000 in
set_option maxHeartbeats 4000000 in
theorem c_X7_set0 (l : Launch) (D : va_G) (sz : Nat) (L : Nat → Nat) (s pa : Row) (P : Nat) (o4 : Row) (o5 : Row) (o6 : Row) (o7 : Int32) (o8 : Row) (o9 : Int32) (o10 : Row) (o11 : Int32) (o12 : Int32) (o13 : Int32) (o14 : Int32) (o15 : Int32) (o16 : Int32) (o17 : Row) (o18 : Row) (v : Nat) (hlo : 0 ≤ v) (hhi : v ≤ 8) (hP : P ≤ 4) : MI l yX7_set cX7_set 4 (some .int) 1 22 D sz [.ref (L 0), .int 0, .int (nI v)] (mW D L s pa (nI P) 0 o4 o5 o6 o7 o8 o9 o10 o11 o12 o13 o14 o15 o16 o17 o18) ((sp_X7_set0 s v).1) (mW D L ((sp_X7_set0 s v).2) ((pushR s pa P).1) (nI (pushR s pa P).2) 0 o4 o5 o6 o7 o8 o9 o10 o11 o12 o13 o14 o15 o16 o17 o18) := by
  refine r_enterI (by decide) (Nat.le_of_ble_eq_true rfl) ?_
  intro p e st m args below meth c ls A X hret hk hw hl
  have X : CX D p m c cX7_set 4 st args RX7 A := X
  have hx := X.1.1
  have hb := X.1.2.1
  have hown := X.1.2.2.2.1
  have hts := X.1.2.2.2.2
  have hl : lv_has ls 4 [(0, .ref (L 0)), (1, .int 0), (2, .int (nI v))] := hl
  refine lv_iload_n hx hb dX7_set_0 rfl (lv_at hl 1 rfl) ?_
  refine lv_iconst (v := 0) hx hb dX7_set_1 (by decide) ?_
  refine lv_iconst (v := 2) hx hb dX7_set_2 (by decide) ?_
  refine r_callS X hw (ws' := mW D L s pa (nI P) 0 o4 o5 o6 o7 o8 o9 o10 o11 o12 o13 o14 o15 o16 o17 o18) (As := [.int 0, .int 0, .int 2]) (rest := []) lk_X7_45 (c_X7_in l D _ 0 0 2) Foc.nil rfl hl.1 (Nat.le_of_ble_eq_true rfl) ⟨Nat.le_of_ble_eq_true rfl, Nat.le_of_ble_eq_true rfl⟩ rfl dX7_set_3 ⟨Nat.le_refl _, Nat.le_refl _⟩ (fun H locs hw => ?_)
  refine lv_if_eq (tgt := 46) hx hb dX7_set_6 (by decide) (fun h => absurd h (by decide)) (fun _ => ?_)
  refine lv_iload_n hx hb dX7_set_9 rfl (lv_at hl 2 rfl) ?_
  refine lv_iload_n hx hb dX7_set_10 rfl (lv_at hl 1 rfl) ?_
  refine lv_iconst (v := 2) hx hb dX7_set_11 (by decide) ?_
  refine lv_icmp_ne (tgt := 19) hx hb dX7_set_12 (by decide) (fun _ => ?_) (fun h => absurd h (by decide))
  refine lv_iconst (v := 0) hx hb dX7_set_19 (by decide) ?_
  refine lv_iload_n hx hb dX7_set_20 rfl (lv_at hl 1 rfl) ?_
  refine lv_if_ne (tgt := 29) hx hb dX7_set_21 (by decide) (fun h => absurd (by decide) h) (fun _ => ?_)
  refine lv_bipush (v := 8) hx hb dX7_set_24 (by decide) ?_
  refine lv_goto (tgt := 40) hx hb dX7_set_26 (by decide) ?_
  refine r_callS X hw (ws' := mW D L s pa (nI P) 0 o4 o5 o6 o7 o8 o9 o10 o11 o12 o13 o14 o15 o16 o17 o18) (As := [.int (nI v), .int 0, .int 8]) (rest := []) lk_X7_45 (c_X7_in l D _ (nI v) 0 8) Foc.nil rfl hl.1 (Nat.le_of_ble_eq_true rfl) ⟨Nat.le_of_ble_eq_true rfl, Nat.le_of_ble_eq_true rfl⟩ rfl dX7_set_40 ⟨Nat.le_refl _, Nat.le_refl _⟩ (fun H locs hw => ?_)
  refine lv_if_ne (tgt := 49) hx hb dX7_set_43 (by decide) (fun _ => ?_) (fun h => absurd h (in_ok v 8 (by omega) (by decide)))
  refine lv_aload_n hx hb dX7_set_49 rfl (lv_at hl 0 rfl) ?_
  refine r_callVv X hw (ws' := mW D L s ((pushR s pa P).1) (nI (pushR s pa P).2) 0 o4 o5 o6 o7 o8 o9 o10 o11 o12 o13 o14 o15 o16 o17 o18) (As := []) (rest := []) lk_X7_107 (c_X7_changes0 l D _ L s pa P 0 o4 o5 o6 o7 o8 o9 o10 o11 o12 o13 o14 o15 o16 o17 o18 (by omega)) Foc.all (m_at 0 rfl) rfl hl.1 (Nat.le_of_ble_eq_true rfl) ⟨Nat.le_of_ble_eq_true rfl, Nat.le_of_ble_eq_true rfl⟩ rfl dX7_set_50 ⟨Nat.le_refl _, Nat.le_refl _⟩ (fun H locs hw => ?_)
  refine lv_aload_n hx hb dX7_set_53 rfl (lv_at hl 0 rfl) ?_
  refine r_get X hw (v := .ref (L 1)) fl_X7_7 (m_at 0 rfl) rfl dX7_set_54 ?_
  refine lv_bipush (v := 37) hx hb dX7_set_57 (by decide) ?_
  refine lv_iload_n hx hb dX7_set_59 rfl (lv_at hl 1 rfl) ?_
  refine r_addN hx hb 37 0 rfl rfl dX7_set_60 ?_
  refine r_iald X hw (f := s) 37 (m_at 1 rfl) rfl (by decide) (by decide) dX7_set_61 ?_
  refine lv_istore_n (lv' := [(3, .int (s 37)), (0, .ref (L 0)), (1, .int 0), (2, .int (nI v))]) hx hb dX7_set_62 rfl hl (by decide) rfl (fun ls hl => ?_)
  refine lv_aload_n hx hb dX7_set_63 rfl (lv_at hl 1 rfl) ?_
  refine r_get X hw (v := .ref (L 1)) fl_X7_7 (m_at 0 rfl) rfl dX7_set_64 ?_
  refine lv_bipush (v := 37) hx hb dX7_set_67 (by decide) ?_
  refine lv_iload_n hx hb dX7_set_69 rfl (lv_at hl 2 rfl) ?_
  refine r_addN hx hb 37 0 rfl rfl dX7_set_70 ?_
  refine lv_iload_n hx hb dX7_set_71 rfl (lv_at hl 3 rfl) ?_
  refine r_iast X hw (ws' := mW D L (upd s 37 (nI v)) ((pushR s pa P).1) (nI (pushR s pa P).2) 0 o4 o5 o6 o7 o8 o9 o10 o11 o12 o13 o14 o15 o16 o17 o18) 37 rfl (by decide) (by decide) (Foc.cell 1 rfl rfl (ce rfl (ce rfl (ce rfl (ce rfl (ce rfl (ce rfl (ce rfl (ce rfl (ce rfl rfl)))))))))) dX7_set_72 (fun H locs hw => ?_)
  refine lv_aload_n hx hb dX7_set_73 rfl (lv_at hl 1 rfl) ?_
  refine r_get X hw (v := .ref (L 1)) fl_X7_7 (m_at 0 rfl) rfl dX7_set_74 ?_
  refine lv_bipush (v := 28) hx hb dX7_set_77 (by decide) ?_
  refine lv_aload_n hx hb dX7_set_79 rfl (lv_at hl 1 rfl) ?_
  refine r_get X hw (v := .ref (L 1)) fl_X7_7 (m_at 0 rfl) rfl dX7_set_80 ?_
  refine lv_bipush (v := 28) hx hb dX7_set_83 (by decide) ?_
  refine r_iald X hw (f := upd s 37 (nI v)) 28 (m_at 1 rfl) rfl (by decide) (by decide) dX7_set_85 ?_
  refine lv_aload_n hx hb dX7_set_86 rfl (lv_at hl 1 rfl) ?_
  refine r_get X hw (v := .ref (L 1)) fl_X7_7 (m_at 0 rfl) rfl dX7_set_87 ?_
  refine lv_bipush (v := 39) hx hb dX7_set_90 (by decide) ?_
  refine r_iald X hw (f := upd s 37 (nI v)) 39 (m_at 1 rfl) rfl (by decide) (by decide) dX7_set_92 ?_
  refine lv_icmp_ge (tgt := 106) hx hb dX7_set_93 (by decide) (fun c1 => ?_) (fun c1 => ?_)
  · skip
    refine lv_aload_n hx hb dX7_set_106 rfl (lv_at hl 1 rfl) ?_
    refine r_get X hw (v := .ref (L 1)) fl_X7_7 (m_at 0 rfl) rfl dX7_set_107 ?_
    refine lv_bipush (v := 39) hx hb dX7_set_110 (by decide) ?_
    refine r_iald X hw (f := upd s 37 (nI v)) 39 (m_at 1 rfl) rfl (by decide) (by decide) dX7_set_112 ?_
    refine lv_iconst (v := 1) hx hb dX7_set_113 (by decide) ?_
    refine lv_isub hx hb dX7_set_114 ?_
    refine r_iast X hw (ws' := mW D L (upd (upd s 37 (nI v)) 28 (((upd s 37 (nI v)) 39) - 1)) ((pushR s pa P).1) (nI (pushR s pa P).2) 0 o4 o5 o6 o7 o8 o9 o10 o11 o12 o13 o14 o15 o16 o17 o18) 28 rfl (by decide) (by decide) (Foc.cell 1 rfl rfl (ce rfl (ce rfl (ce rfl (ce rfl (ce rfl (ce rfl (ce rfl (ce rfl (ce rfl rfl)))))))))) dX7_set_115 (fun H locs hw => ?_)
    refine lv_iload_n hx hb dX7_set_116 rfl (lv_at hl 0 rfl) ?_
    exact r_ret X hw hk hret rfl (by unfold sp_X7_set0; rw [if_pos c1]) (by unfold sp_X7_set0; rw [if_pos c1]) dX7_set_117
  · skip
    refine lv_aload_n hx hb dX7_set_96 rfl (lv_at hl 1 rfl) ?_
    refine r_get X hw (v := .ref (L 1)) fl_X7_7 (m_at 0 rfl) rfl dX7_set_97 ?_
    refine lv_bipush (v := 28) hx hb dX7_set_100 (by decide) ?_
    refine r_iald X hw (f := upd s 37 (nI v)) 28 (m_at 1 rfl) rfl (by decide) (by decide) dX7_set_102 ?_
    refine lv_goto (tgt := 115) hx hb dX7_set_103 (by decide) ?_
    refine r_iast X hw (ws' := mW D L (upd (upd s 37 (nI v)) 28 ((upd s 37 (nI v)) 28)) ((pushR s pa P).1) (nI (pushR s pa P).2) 0 o4 o5 o6 o7 o8 o9 o10 o11 o12 o13 o14 o15 o16 o17 o18) 28 rfl (by decide) (by decide) (Foc.cell 1 rfl rfl (ce rfl (ce rfl (ce rfl (ce rfl (ce rfl (ce rfl (ce rfl (ce rfl (ce rfl rfl)))))))))) dX7_set_115 (fun H locs hw => ?_)
    refine lv_iload_n hx hb dX7_set_116 rfl (lv_at hl 0 rfl) ?_
    exact r_ret X hw hk hret rfl (by unfold sp_X7_set0; rw [if_neg c1]) (by unfold sp_X7_set0; rw [if_neg c1]) dX7_set_117

noncomputable def sp_X7_set1 (s : Row) (v : Nat) : Int32 × Row := (if ((upd s 38 (nI v)) 39) ≤ ((upd s 38 (nI v)) 28) then (s 38, upd (upd s 38 (nI v)) 28 (((upd s 38 (nI v)) 39) - 1)) else (s 38, upd (upd s 38 (nI v)) 28 ((upd s 38 (nI v)) 28)))
set_option maxRecDepth 100000 in
set_option maxHeartbeats 4000000 in
theorem c_X7_set1 (l : Launch) (D : va_G) (sz : Nat) (L : Nat → Nat) (s pa : Row) (P : Nat) (o4 : Row) (o5 : Row) (o6 : Row) (o7 : Int32) (o8 : Row) (o9 : Int32) (o10 : Row) (o11 : Int32) (o12 : Int32) (o13 : Int32) (o14 : Int32) (o15 : Int32) (o16 : Int32) (o17 : Row) (o18 : Row) (v : Nat) (hlo : 0 ≤ v) (hhi : v ≤ 1) (hP : P ≤ 4) : MI l yX7_set cX7_set 4 (some .int) 1 22 D sz [.ref (L 0), .int 1, .int (nI v)] (mW D L s pa (nI P) 0 o4 o5 o6 o7 o8 o9 o10 o11 o12 o13 o14 o15 o16 o17 o18) ((sp_X7_set1 s v).1) (mW D L ((sp_X7_set1 s v).2) ((pushR s pa P).1) (nI (pushR s pa P).2) 0 o4 o5 o6 o7 o8 o9 o10 o11 o12 o13 o14 o15 o16 o17 o18) := by
  refine r_enterI (by decide) (Nat.le_of_ble_eq_true rfl) ?_
  intro p e st m args below meth c ls A X hret hk hw hl
  have X : CX D p m c cX7_set 4 st args RX7 A := X
  have hx := X.1.1
  have hb := X.1.2.1
  have hown := X.1.2.2.2.1
  have hts := X.1.2.2.2.2
  have hl : lv_has ls 4 [(0, .ref (L 0)), (1, .int 1), (2, .int (nI v))] := hl
  refine lv_iload_n hx hb dX7_set_0 rfl (lv_at hl 1 rfl) ?_
  refine lv_iconst (v := 0) hx hb dX7_set_1 (by decide) ?_
  refine lv_iconst (v := 2) hx hb dX7_set_2 (by decide) ?_
  refine r_callS X hw (ws' := mW D L s pa (nI P) 0 o4 o5 o6 o7 o8 o9 o10 o11 o12 o13 o14 o15 o16 o17 o18) (As := [.int 1, .int 0, .int 2]) (rest := []) lk_X7_45 (c_X7_in l D _ 1 0 2) Foc.nil rfl hl.1 (Nat.le_of_ble_eq_true rfl) ⟨Nat.le_of_ble_eq_true rfl, Nat.le_of_ble_eq_true rfl⟩ rfl dX7_set_3 ⟨Nat.le_refl _, Nat.le_refl _⟩ (fun H locs hw => ?_)
  refine lv_if_eq (tgt := 46) hx hb dX7_set_6 (by decide) (fun h => absurd h (by decide)) (fun _ => ?_)
  refine lv_iload_n hx hb dX7_set_9 rfl (lv_at hl 2 rfl) ?_
  refine lv_iload_n hx hb dX7_set_10 rfl (lv_at hl 1 rfl) ?_
  refine lv_iconst (v := 2) hx hb dX7_set_11 (by decide) ?_
  refine lv_icmp_ne (tgt := 19) hx hb dX7_set_12 (by decide) (fun _ => ?_) (fun h => absurd h (by decide))
  refine lv_iconst (v := 0) hx hb dX7_set_19 (by decide) ?_
  refine lv_iload_n hx hb dX7_set_20 rfl (lv_at hl 1 rfl) ?_
  refine lv_if_ne (tgt := 29) hx hb dX7_set_21 (by decide) (fun _ => ?_) (fun h => absurd h (by decide))
  refine lv_iload_n hx hb dX7_set_29 rfl (lv_at hl 1 rfl) ?_
  refine lv_iconst (v := 1) hx hb dX7_set_30 (by decide) ?_
  refine lv_icmp_ne (tgt := 38) hx hb dX7_set_31 (by decide) (fun h => absurd (by decide) h) (fun _ => ?_)
  refine lv_iconst (v := 1) hx hb dX7_set_34 (by decide) ?_
  refine lv_goto (tgt := 40) hx hb dX7_set_35 (by decide) ?_
  refine r_callS X hw (ws' := mW D L s pa (nI P) 0 o4 o5 o6 o7 o8 o9 o10 o11 o12 o13 o14 o15 o16 o17 o18) (As := [.int (nI v), .int 0, .int 1]) (rest := []) lk_X7_45 (c_X7_in l D _ (nI v) 0 1) Foc.nil rfl hl.1 (Nat.le_of_ble_eq_true rfl) ⟨Nat.le_of_ble_eq_true rfl, Nat.le_of_ble_eq_true rfl⟩ rfl dX7_set_40 ⟨Nat.le_refl _, Nat.le_refl _⟩ (fun H locs hw => ?_)
  refine lv_if_ne (tgt := 49) hx hb dX7_set_43 (by decide) (fun _ => ?_) (fun h => absurd h (in_ok v 1 (by omega) (by decide)))
  refine lv_aload_n hx hb dX7_set_49 rfl (lv_at hl 0 rfl) ?_
  refine r_callVv X hw (ws' := mW D L s ((pushR s pa P).1) (nI (pushR s pa P).2) 0 o4 o5 o6 o7 o8 o9 o10 o11 o12 o13 o14 o15 o16 o17 o18) (As := []) (rest := []) lk_X7_107 (c_X7_changes0 l D _ L s pa P 0 o4 o5 o6 o7 o8 o9 o10 o11 o12 o13 o14 o15 o16 o17 o18 (by omega)) Foc.all (m_at 0 rfl) rfl hl.1 (Nat.le_of_ble_eq_true rfl) ⟨Nat.le_of_ble_eq_true rfl, Nat.le_of_ble_eq_true rfl⟩ rfl dX7_set_50 ⟨Nat.le_refl _, Nat.le_refl _⟩ (fun H locs hw => ?_)
  refine lv_aload_n hx hb dX7_set_53 rfl (lv_at hl 0 rfl) ?_
  refine r_get X hw (v := .ref (L 1)) fl_X7_7 (m_at 0 rfl) rfl dX7_set_54 ?_
  refine lv_bipush (v := 37) hx hb dX7_set_57 (by decide) ?_
  refine lv_iload_n hx hb dX7_set_59 rfl (lv_at hl 1 rfl) ?_
  refine r_addN hx hb 37 1 rfl rfl dX7_set_60 ?_
  refine r_iald X hw (f := s) 38 (m_at 1 rfl) rfl (by decide) (by decide) dX7_set_61 ?_
  refine lv_istore_n (lv' := [(3, .int (s 38)), (0, .ref (L 0)), (1, .int 1), (2, .int (nI v))]) hx hb dX7_set_62 rfl hl (by decide) rfl (fun ls hl => ?_)
  refine lv_aload_n hx hb dX7_set_63 rfl (lv_at hl 1 rfl) ?_
  refine r_get X hw (v := .ref (L 1)) fl_X7_7 (m_at 0 rfl) rfl dX7_set_64 ?_
  refine lv_bipush (v := 37) hx hb dX7_set_67 (by decide) ?_
  refine lv_iload_n hx hb dX7_set_69 rfl (lv_at hl 2 rfl) ?_
  refine r_addN hx hb 37 1 rfl rfl dX7_set_70 ?_
  refine lv_iload_n hx hb dX7_set_71 rfl (lv_at hl 3 rfl) ?_
  refine r_iast X hw (ws' := mW D L (upd s 38 (nI v)) ((pushR s pa P).1) (nI (pushR s pa P).2) 0 o4 o5 o6 o7 o8 o9 o10 o11 o12 o13 o14 o15 o16 o17 o18) 38 rfl (by decide) (by decide) (Foc.cell 1 rfl rfl (ce rfl (ce rfl (ce rfl (ce rfl (ce rfl (ce rfl (ce rfl (ce rfl (ce rfl rfl)))))))))) dX7_set_72 (fun H locs hw => ?_)
  refine lv_aload_n hx hb dX7_set_73 rfl (lv_at hl 1 rfl) ?_
  refine r_get X hw (v := .ref (L 1)) fl_X7_7 (m_at 0 rfl) rfl dX7_set_74 ?_
  refine lv_bipush (v := 28) hx hb dX7_set_77 (by decide) ?_
  refine lv_aload_n hx hb dX7_set_79 rfl (lv_at hl 1 rfl) ?_
  refine r_get X hw (v := .ref (L 1)) fl_X7_7 (m_at 0 rfl) rfl dX7_set_80 ?_
  refine lv_bipush (v := 28) hx hb dX7_set_83 (by decide) ?_
  refine r_iald X hw (f := upd s 38 (nI v)) 28 (m_at 1 rfl) rfl (by decide) (by decide) dX7_set_85 ?_
  refine lv_aload_n hx hb dX7_set_86 rfl (lv_at hl 1 rfl) ?_
  refine r_get X hw (v := .ref (L 1)) fl_X7_7 (m_at 0 rfl) rfl dX7_set_87 ?_
  refine lv_bipush (v := 39) hx hb dX7_set_90 (by decide) ?_
  refine r_iald X hw (f := upd s 38 (nI v)) 39 (m_at 1 rfl) rfl (by decide) (by decide) dX7_set_92 ?_
  refine lv_icmp_ge (tgt := 106) hx hb dX7_set_93 (by decide) (fun c1 => ?_) (fun c1 => ?_)
  · skip
    refine lv_aload_n hx hb dX7_set_106 rfl (lv_at hl 1 rfl) ?_
    refine r_get X hw (v := .ref (L 1)) fl_X7_7 (m_at 0 rfl) rfl dX7_set_107 ?_
    refine lv_bipush (v := 39) hx hb dX7_set_110 (by decide) ?_
    refine r_iald X hw (f := upd s 38 (nI v)) 39 (m_at 1 rfl) rfl (by decide) (by decide) dX7_set_112 ?_
    refine lv_iconst (v := 1) hx hb dX7_set_113 (by decide) ?_
    refine lv_isub hx hb dX7_set_114 ?_
    refine r_iast X hw (ws' := mW D L (upd (upd s 38 (nI v)) 28 (((upd s 38 (nI v)) 39) - 1)) ((pushR s pa P).1) (nI (pushR s pa P).2) 0 o4 o5 o6 o7 o8 o9 o10 o11 o12 o13 o14 o15 o16 o17 o18) 28 rfl (by decide) (by decide) (Foc.cell 1 rfl rfl (ce rfl (ce rfl (ce rfl (ce rfl (ce rfl (ce rfl (ce rfl (ce rfl (ce rfl rfl)))))))))) dX7_set_115 (fun H locs hw => ?_)
    refine lv_iload_n hx hb dX7_set_116 rfl (lv_at hl 0 rfl) ?_
    exact r_ret X hw hk hret rfl (by unfold sp_X7_set1; rw [if_pos c1]) (by unfold sp_X7_set1; rw [if_pos c1]) dX7_set_117
  · skip
    refine lv_aload_n hx hb dX7_set_96 rfl (lv_at hl 1 rfl) ?_
    refine r_get X hw (v := .ref (L 1)) fl_X7_7 (m_at 0 rfl) rfl dX7_set_97 ?_
    refine lv_bipush (v := 28) hx hb dX7_set_100 (by decide) ?_
    refine r_iald X hw (f := upd s 38 (nI v)) 28 (m_at 1 rfl) rfl (by decide) (by decide) dX7_set_102 ?_
    refine lv_goto (tgt := 115) hx hb dX7_set_103 (by decide) ?_
    refine r_iast X hw (ws' := mW D L (upd (upd s 38 (nI v)) 28 ((upd s 38 (nI v)) 28)) ((pushR s pa P).1) (nI (pushR s pa P).2) 0 o4 o5 o6 o7 o8 o9 o10 o11 o12 o13 o14 o15 o16 o17 o18) 28 rfl (by decide) (by decide) (Foc.cell 1 rfl rfl (ce rfl (ce rfl (ce rfl (ce rfl (ce rfl (ce rfl (ce rfl (ce rfl (ce rfl rfl)))))))))) dX7_set_115 (fun H locs hw => ?_)
    refine lv_iload_n hx hb dX7_set_116 rfl (lv_at hl 0 rfl) ?_
    exact r_ret X hw hk hret rfl (by unfold sp_X7_set1; rw [if_neg c1]) (by unfold sp_X7_set1; rw [if_neg c1]) dX7_set_117

noncomputable def sp_X7_set2 (s : Row) (v : Nat) : Int32 × Row := (if ((upd s 39 (nI v)) 39) ≤ ((upd s 39 (nI v)) 28) then (s 39, upd (upd s 39 (nI v)) 28 (((upd s 39 (nI v)) 39) - 1)) else (s 39, upd (upd s 39 (nI v)) 28 ((upd s 39 (nI v)) 28)))
set_option maxRecDepth 100000 in
set_option maxHeartbeats 4000000 in
theorem c_X7_set2 (l : Launch) (D : va_G) (sz : Nat) (L : Nat → Nat) (s pa : Row) (P : Nat) (o4 : Row) (o5 : Row) (o6 : Row) (o7 : Int32) (o8 : Row) (o9 : Int32) (o10 : Row) (o11 : Int32) (o12 : Int32) (o13 : Int32) (o14 : Int32) (o15 : Int32) (o16 : Int32) (o17 : Row) (o18 : Row) (v : Nat) (hlo : 4 ≤ v) (hhi : v ≤ 60) (hP : P ≤ 4) : MI l yX7_set cX7_set 4 (some .int) 1 22 D sz [.ref (L 0), .int 2, .int (nI v)] (mW D L s pa (nI P) 0 o4 o5 o6 o7 o8 o9 o10 o11 o12 o13 o14 o15 o16 o17 o18) ((sp_X7_set2 s v).1) (mW D L ((sp_X7_set2 s v).2) ((pushR s pa P).1) (nI (pushR s pa P).2) 0 o4 o5 o6 o7 o8 o9 o10 o11 o12 o13 o14 o15 o16 o17 o18) := by
  refine r_enterI (by decide) (Nat.le_of_ble_eq_true rfl) ?_
  intro p e st m args below meth c ls A X hret hk hw hl
  have X : CX D p m c cX7_set 4 st args RX7 A := X
  have hx := X.1.1
  have hb := X.1.2.1
  have hown := X.1.2.2.2.1
  have hts := X.1.2.2.2.2
  have hl : lv_has ls 4 [(0, .ref (L 0)), (1, .int 2), (2, .int (nI v))] := hl
  refine lv_iload_n hx hb dX7_set_0 rfl (lv_at hl 1 rfl) ?_
  refine lv_iconst (v := 0) hx hb dX7_set_1 (by decide) ?_
  refine lv_iconst (v := 2) hx hb dX7_set_2 (by decide) ?_
  refine r_callS X hw (ws' := mW D L s pa (nI P) 0 o4 o5 o6 o7 o8 o9 o10 o11 o12 o13 o14 o15 o16 o17 o18) (As := [.int 2, .int 0, .int 2]) (rest := []) lk_X7_45 (c_X7_in l D _ 2 0 2) Foc.nil rfl hl.1 (Nat.le_of_ble_eq_true rfl) ⟨Nat.le_of_ble_eq_true rfl, Nat.le_of_ble_eq_true rfl⟩ rfl dX7_set_3 ⟨Nat.le_refl _, Nat.le_refl _⟩ (fun H locs hw => ?_)
  refine lv_if_eq (tgt := 46) hx hb dX7_set_6 (by decide) (fun h => absurd h (by decide)) (fun _ => ?_)
  refine lv_iload_n hx hb dX7_set_9 rfl (lv_at hl 2 rfl) ?_
  refine lv_iload_n hx hb dX7_set_10 rfl (lv_at hl 1 rfl) ?_
  refine lv_iconst (v := 2) hx hb dX7_set_11 (by decide) ?_
  refine lv_icmp_ne (tgt := 19) hx hb dX7_set_12 (by decide) (fun h => absurd (by decide) h) (fun _ => ?_)
  refine lv_iconst (v := 4) hx hb dX7_set_15 (by decide) ?_
  refine lv_goto (tgt := 20) hx hb dX7_set_16 (by decide) ?_
  refine lv_iload_n hx hb dX7_set_20 rfl (lv_at hl 1 rfl) ?_
  refine lv_if_ne (tgt := 29) hx hb dX7_set_21 (by decide) (fun _ => ?_) (fun h => absurd h (by decide))
  refine lv_iload_n hx hb dX7_set_29 rfl (lv_at hl 1 rfl) ?_
  refine lv_iconst (v := 1) hx hb dX7_set_30 (by decide) ?_
  refine lv_icmp_ne (tgt := 38) hx hb dX7_set_31 (by decide) (fun _ => ?_) (fun h => absurd h (by decide))
  refine lv_bipush (v := 60) hx hb dX7_set_38 (by decide) ?_
  refine r_callS X hw (ws' := mW D L s pa (nI P) 0 o4 o5 o6 o7 o8 o9 o10 o11 o12 o13 o14 o15 o16 o17 o18) (As := [.int (nI v), .int 4, .int 60]) (rest := []) lk_X7_45 (c_X7_in l D _ (nI v) 4 60) Foc.nil rfl hl.1 (Nat.le_of_ble_eq_true rfl) ⟨Nat.le_of_ble_eq_true rfl, Nat.le_of_ble_eq_true rfl⟩ rfl dX7_set_40 ⟨Nat.le_refl _, Nat.le_refl _⟩ (fun H locs hw => ?_)
  refine lv_if_ne (tgt := 49) hx hb dX7_set_43 (by decide) (fun _ => ?_) (fun h => absurd h (in_okL v 4 60 (by omega) (by omega) (by decide)))
  refine lv_aload_n hx hb dX7_set_49 rfl (lv_at hl 0 rfl) ?_
  refine r_callVv X hw (ws' := mW D L s ((pushR s pa P).1) (nI (pushR s pa P).2) 0 o4 o5 o6 o7 o8 o9 o10 o11 o12 o13 o14 o15 o16 o17 o18) (As := []) (rest := []) lk_X7_107 (c_X7_changes0 l D _ L s pa P 0 o4 o5 o6 o7 o8 o9 o10 o11 o12 o13 o14 o15 o16 o17 o18 (by omega)) Foc.all (m_at 0 rfl) rfl hl.1 (Nat.le_of_ble_eq_true rfl) ⟨Nat.le_of_ble_eq_true rfl, Nat.le_of_ble_eq_true rfl⟩ rfl dX7_set_50 ⟨Nat.le_refl _, Nat.le_refl _⟩ (fun H locs hw => ?_)
  refine lv_aload_n hx hb dX7_set_53 rfl (lv_at hl 0 rfl) ?_
  refine r_get X hw (v := .ref (L 1)) fl_X7_7 (m_at 0 rfl) rfl dX7_set_54 ?_
  refine lv_bipush (v := 37) hx hb dX7_set_57 (by decide) ?_
  refine lv_iload_n hx hb dX7_set_59 rfl (lv_at hl 1 rfl) ?_
  refine r_addN hx hb 37 2 rfl rfl dX7_set_60 ?_
  refine r_iald X hw (f := s) 39 (m_at 1 rfl) rfl (by decide) (by decide) dX7_set_61 ?_
  refine lv_istore_n (lv' := [(3, .int (s 39)), (0, .ref (L 0)), (1, .int 2), (2, .int (nI v))]) hx hb dX7_set_62 rfl hl (by decide) rfl (fun ls hl => ?_)
  refine lv_aload_n hx hb dX7_set_63 rfl (lv_at hl 1 rfl) ?_
  refine r_get X hw (v := .ref (L 1)) fl_X7_7 (m_at 0 rfl) rfl dX7_set_64 ?_
  refine lv_bipush (v := 37) hx hb dX7_set_67 (by decide) ?_
  refine lv_iload_n hx hb dX7_set_69 rfl (lv_at hl 2 rfl) ?_
  refine r_addN hx hb 37 2 rfl rfl dX7_set_70 ?_
  refine lv_iload_n hx hb dX7_set_71 rfl (lv_at hl 3 rfl) ?_
  refine r_iast X hw (ws' := mW D L (upd s 39 (nI v)) ((pushR s pa P).1) (nI (pushR s pa P).2) 0 o4 o5 o6 o7 o8 o9 o10 o11 o12 o13 o14 o15 o16 o17 o18) 39 rfl (by decide) (by decide) (Foc.cell 1 rfl rfl (ce rfl (ce rfl (ce rfl (ce rfl (ce rfl (ce rfl (ce rfl (ce rfl (ce rfl rfl)))))))))) dX7_set_72 (fun H locs hw => ?_)
  refine lv_aload_n hx hb dX7_set_73 rfl (lv_at hl 1 rfl) ?_
  refine r_get X hw (v := .ref (L 1)) fl_X7_7 (m_at 0 rfl) rfl dX7_set_74 ?_
  refine lv_bipush (v := 28) hx hb dX7_set_77 (by decide) ?_
  refine lv_aload_n hx hb dX7_set_79 rfl (lv_at hl 1 rfl) ?_
  refine r_get X hw (v := .ref (L 1)) fl_X7_7 (m_at 0 rfl) rfl dX7_set_80 ?_
  refine lv_bipush (v := 28) hx hb dX7_set_83 (by decide) ?_
  refine r_iald X hw (f := upd s 39 (nI v)) 28 (m_at 1 rfl) rfl (by decide) (by decide) dX7_set_85 ?_
  refine lv_aload_n hx hb dX7_set_86 rfl (lv_at hl 1 rfl) ?_
  refine r_get X hw (v := .ref (L 1)) fl_X7_7 (m_at 0 rfl) rfl dX7_set_87 ?_
  refine lv_bipush (v := 39) hx hb dX7_set_90 (by decide) ?_
  refine r_iald X hw (f := upd s 39 (nI v)) 39 (m_at 1 rfl) rfl (by decide) (by decide) dX7_set_92 ?_
  refine lv_icmp_ge (tgt := 106) hx hb dX7_set_93 (by decide) (fun c1 => ?_) (fun c1 => ?_)
  · skip
    refine lv_aload_n hx hb dX7_set_106 rfl (lv_at hl 1 rfl) ?_
    refine r_get X hw (v := .ref (L 1)) fl_X7_7 (m_at 0 rfl) rfl dX7_set_107 ?_
    refine lv_bipush (v := 39) hx hb dX7_set_110 (by decide) ?_
    refine r_iald X hw (f := upd s 39 (nI v)) 39 (m_at 1 rfl) rfl (by decide) (by decide) dX7_set_112 ?_
    refine lv_iconst (v := 1) hx hb dX7_set_113 (by decide) ?_
    refine lv_isub hx hb dX7_set_114 ?_
    refine r_iast X hw (ws' := mW D L (upd (upd s 39 (nI v)) 28 (((upd s 39 (nI v)) 39) - 1)) ((pushR s pa P).1) (nI (pushR s pa P).2) 0 o4 o5 o6 o7 o8 o9 o10 o11 o12 o13 o14 o15 o16 o17 o18) 28 rfl (by decide) (by decide) (Foc.cell 1 rfl rfl (ce rfl (ce rfl (ce rfl (ce rfl (ce rfl (ce rfl (ce rfl (ce rfl (ce rfl rfl)))))))))) dX7_set_115 (fun H locs hw => ?_)
    refine lv_iload_n hx hb dX7_set_116 rfl (lv_at hl 0 rfl) ?_
    exact r_ret X hw hk hret rfl (by unfold sp_X7_set2; rw [if_pos c1]) (by unfold sp_X7_set2; rw [if_pos c1]) dX7_set_117
  · skip
    refine lv_aload_n hx hb dX7_set_96 rfl (lv_at hl 1 rfl) ?_
    refine r_get X hw (v := .ref (L 1)) fl_X7_7 (m_at 0 rfl) rfl dX7_set_97 ?_
    refine lv_bipush (v := 28) hx hb dX7_set_100 (by decide) ?_
    refine r_iald X hw (f := upd s 39 (nI v)) 28 (m_at 1 rfl) rfl (by decide) (by decide) dX7_set_102 ?_
    refine lv_goto (tgt := 115) hx hb dX7_set_103 (by decide) ?_
    refine r_iast X hw (ws' := mW D L (upd (upd s 39 (nI v)) 28 ((upd s 39 (nI v)) 28)) ((pushR s pa P).1) (nI (pushR s pa P).2) 0 o4 o5 o6 o7 o8 o9 o10 o11 o12 o13 o14 o15 o16 o17 o18) 28 rfl (by decide) (by decide) (Foc.cell 1 rfl rfl (ce rfl (ce rfl (ce rfl (ce rfl (ce rfl (ce rfl (ce rfl (ce rfl (ce rfl rfl)))))))))) dX7_set_115 (fun H locs hw => ?_)
    refine lv_iload_n hx hb dX7_set_116 rfl (lv_at hl 0 rfl) ?_
    exact r_ret X hw hk hret rfl (by unfold sp_X7_set2; rw [if_neg c1]) (by unfold sp_X7_set2; rw [if_neg c1]) dX7_set_117

set_option maxRecDepth 100000 in
set_option maxHeartbeats 4000000 in
theorem c_X7_set_bad (l : Launch) (D : va_G) (sz : Nat) (L : Nat → Nat) (o0 : Row) (o1 : Row) (o2 : Int32) (o3 : Int32) (o4 : Row) (o5 : Row) (o6 : Row) (o7 : Int32) (o8 : Row) (o9 : Int32) (o10 : Row) (o11 : Int32) (o12 : Int32) (o13 : Int32) (o14 : Int32) (o15 : Int32) (o16 : Int32) (o17 : Row) (o18 : Row) (a1 a2 : Int32) (hbad : ¬ ((¬ sp_X7_in a1 0 2 = 0) ∧ ¬ sp_X7_in a2 (if a1 = 2 then 4 else 0) (if a1 = 0 then 8 else if a1 = 1 then 1 else 60) = 0)) : MI l yX7_set cX7_set 4 (some .int) 1 22 D sz [.ref (L 0), .int a1, .int a2] (mW D L o0 o1 o2 o3 o4 o5 o6 o7 o8 o9 o10 o11 o12 o13 o14 o15 o16 o17 o18) (-1000001) (mW D L o0 o1 o2 o3 o4 o5 o6 o7 o8 o9 o10 o11 o12 o13 o14 o15 o16 o17 o18) := by
  refine r_enterI (by decide) (Nat.le_of_ble_eq_true rfl) ?_
  intro p e st m args below meth c ls A X hret hk hw hl
  have X : CX D p m c cX7_set 4 st args RX7 A := X
  have hx := X.1.1
  have hb := X.1.2.1
  have hown := X.1.2.2.2.1
  have hts := X.1.2.2.2.2
  have hl : lv_has ls 4 [(0, .ref (L 0)), (1, .int a1), (2, .int a2)] := hl
  refine lv_iload_n hx hb dX7_set_0 rfl (lv_at hl 1 rfl) ?_
  refine lv_iconst (v := 0) hx hb dX7_set_1 (by decide) ?_
  refine lv_iconst (v := 2) hx hb dX7_set_2 (by decide) ?_
  refine r_callS X hw (ws' := mW D L o0 o1 o2 o3 o4 o5 o6 o7 o8 o9 o10 o11 o12 o13 o14 o15 o16 o17 o18) (As := [.int a1, .int 0, .int 2]) (rest := []) lk_X7_45 (c_X7_in l D _ a1 0 2) Foc.nil rfl hl.1 (Nat.le_of_ble_eq_true rfl) ⟨Nat.le_of_ble_eq_true rfl, Nat.le_of_ble_eq_true rfl⟩ rfl dX7_set_3 ⟨Nat.le_refl _, Nat.le_refl _⟩ (fun H locs hw => ?_)
  refine lv_if_eq (tgt := 46) hx hb dX7_set_6 (by decide) (fun c1 => ?_) (fun c1 => ?_)
  · skip
    refine lv_ldc (v := (-1000001)) hx hb hown (hts _ kc_X7_106) dX7_set_46 ?_
    exact r_ret X hw hk hret rfl rfl rfl dX7_set_48
  · skip
    refine lv_iload_n hx hb dX7_set_9 rfl (lv_at hl 2 rfl) ?_
    refine lv_iload_n hx hb dX7_set_10 rfl (lv_at hl 1 rfl) ?_
    refine lv_iconst (v := 2) hx hb dX7_set_11 (by decide) ?_
    refine lv_icmp_ne (tgt := 19) hx hb dX7_set_12 (by decide) (fun c2 => ?_) (fun c2 => ?_)
    · skip
      refine lv_iconst (v := 0) hx hb dX7_set_19 (by decide) ?_
      refine lv_iload_n hx hb dX7_set_20 rfl (lv_at hl 1 rfl) ?_
      refine lv_if_ne (tgt := 29) hx hb dX7_set_21 (by decide) (fun c3 => ?_) (fun c3 => ?_)
      · skip
        refine lv_iload_n hx hb dX7_set_29 rfl (lv_at hl 1 rfl) ?_
        refine lv_iconst (v := 1) hx hb dX7_set_30 (by decide) ?_
        refine lv_icmp_ne (tgt := 38) hx hb dX7_set_31 (by decide) (fun c4 => ?_) (fun c4 => ?_)
        · skip
          refine lv_bipush (v := 60) hx hb dX7_set_38 (by decide) ?_
          refine r_callS X hw (ws' := mW D L o0 o1 o2 o3 o4 o5 o6 o7 o8 o9 o10 o11 o12 o13 o14 o15 o16 o17 o18) (As := [.int a2, .int 0, .int 60]) (rest := []) lk_X7_45 (c_X7_in l D _ a2 0 60) Foc.nil rfl hl.1 (Nat.le_of_ble_eq_true rfl) ⟨Nat.le_of_ble_eq_true rfl, Nat.le_of_ble_eq_true rfl⟩ rfl dX7_set_40 ⟨Nat.le_refl _, Nat.le_refl _⟩ (fun H locs hw => ?_)
          refine lv_if_ne (tgt := 49) hx hb dX7_set_43 (by decide) (fun c5 => ?_) (fun c5 => ?_)
          · skip
            exact absurd ⟨c1, by rw [if_neg c2]; rw [if_neg c3]; rw [if_neg c4]; exact c5⟩ hbad
          · skip
            refine lv_ldc (v := (-1000001)) hx hb hown (hts _ kc_X7_106) dX7_set_46 ?_
            exact r_ret X hw hk hret rfl rfl rfl dX7_set_48
        · skip
          refine lv_iconst (v := 1) hx hb dX7_set_34 (by decide) ?_
          refine lv_goto (tgt := 40) hx hb dX7_set_35 (by decide) ?_
          refine r_callS X hw (ws' := mW D L o0 o1 o2 o3 o4 o5 o6 o7 o8 o9 o10 o11 o12 o13 o14 o15 o16 o17 o18) (As := [.int a2, .int 0, .int 1]) (rest := []) lk_X7_45 (c_X7_in l D _ a2 0 1) Foc.nil rfl hl.1 (Nat.le_of_ble_eq_true rfl) ⟨Nat.le_of_ble_eq_true rfl, Nat.le_of_ble_eq_true rfl⟩ rfl dX7_set_40 ⟨Nat.le_refl _, Nat.le_refl _⟩ (fun H locs hw => ?_)
          refine lv_if_ne (tgt := 49) hx hb dX7_set_43 (by decide) (fun c6 => ?_) (fun c6 => ?_)
          · skip
            exact absurd ⟨c1, by rw [if_neg c2]; rw [if_neg c3]; rw [if_pos c4]; exact c6⟩ hbad
          · skip
            refine lv_ldc (v := (-1000001)) hx hb hown (hts _ kc_X7_106) dX7_set_46 ?_
            exact r_ret X hw hk hret rfl rfl rfl dX7_set_48
      · skip
        refine lv_bipush (v := 8) hx hb dX7_set_24 (by decide) ?_
        refine lv_goto (tgt := 40) hx hb dX7_set_26 (by decide) ?_
        refine r_callS X hw (ws' := mW D L o0 o1 o2 o3 o4 o5 o6 o7 o8 o9 o10 o11 o12 o13 o14 o15 o16 o17 o18) (As := [.int a2, .int 0, .int 8]) (rest := []) lk_X7_45 (c_X7_in l D _ a2 0 8) Foc.nil rfl hl.1 (Nat.le_of_ble_eq_true rfl) ⟨Nat.le_of_ble_eq_true rfl, Nat.le_of_ble_eq_true rfl⟩ rfl dX7_set_40 ⟨Nat.le_refl _, Nat.le_refl _⟩ (fun H locs hw => ?_)
        refine lv_if_ne (tgt := 49) hx hb dX7_set_43 (by decide) (fun c7 => ?_) (fun c7 => ?_)
        · skip
          exact absurd ⟨c1, by rw [if_neg c2]; rw [if_pos c3]; exact c7⟩ hbad
        · skip
          refine lv_ldc (v := (-1000001)) hx hb hown (hts _ kc_X7_106) dX7_set_46 ?_
          exact r_ret X hw hk hret rfl rfl rfl dX7_set_48
    · skip
      refine lv_iconst (v := 4) hx hb dX7_set_15 (by decide) ?_
      refine lv_goto (tgt := 20) hx hb dX7_set_16 (by decide) ?_
      refine lv_iload_n hx hb dX7_set_20 rfl (lv_at hl 1 rfl) ?_
      refine lv_if_ne (tgt := 29) hx hb dX7_set_21 (by decide) (fun c8 => ?_) (fun c8 => ?_)
      · skip
        refine lv_iload_n hx hb dX7_set_29 rfl (lv_at hl 1 rfl) ?_
        refine lv_iconst (v := 1) hx hb dX7_set_30 (by decide) ?_
        refine lv_icmp_ne (tgt := 38) hx hb dX7_set_31 (by decide) (fun c9 => ?_) (fun c9 => ?_)
        · skip
          refine lv_bipush (v := 60) hx hb dX7_set_38 (by decide) ?_
          refine r_callS X hw (ws' := mW D L o0 o1 o2 o3 o4 o5 o6 o7 o8 o9 o10 o11 o12 o13 o14 o15 o16 o17 o18) (As := [.int a2, .int 4, .int 60]) (rest := []) lk_X7_45 (c_X7_in l D _ a2 4 60) Foc.nil rfl hl.1 (Nat.le_of_ble_eq_true rfl) ⟨Nat.le_of_ble_eq_true rfl, Nat.le_of_ble_eq_true rfl⟩ rfl dX7_set_40 ⟨Nat.le_refl _, Nat.le_refl _⟩ (fun H locs hw => ?_)
          refine lv_if_ne (tgt := 49) hx hb dX7_set_43 (by decide) (fun c10 => ?_) (fun c10 => ?_)
          · skip
            exact absurd ⟨c1, by rw [if_pos c2]; rw [if_neg c8]; rw [if_neg c9]; exact c10⟩ hbad
          · skip
            refine lv_ldc (v := (-1000001)) hx hb hown (hts _ kc_X7_106) dX7_set_46 ?_
            exact r_ret X hw hk hret rfl rfl rfl dX7_set_48
        · skip
          refine lv_iconst (v := 1) hx hb dX7_set_34 (by decide) ?_
          refine lv_goto (tgt := 40) hx hb dX7_set_35 (by decide) ?_
          refine r_callS X hw (ws' := mW D L o0 o1 o2 o3 o4 o5 o6 o7 o8 o9 o10 o11 o12 o13 o14 o15 o16 o17 o18) (As := [.int a2, .int 4, .int 1]) (rest := []) lk_X7_45 (c_X7_in l D _ a2 4 1) Foc.nil rfl hl.1 (Nat.le_of_ble_eq_true rfl) ⟨Nat.le_of_ble_eq_true rfl, Nat.le_of_ble_eq_true rfl⟩ rfl dX7_set_40 ⟨Nat.le_refl _, Nat.le_refl _⟩ (fun H locs hw => ?_)
          refine lv_if_ne (tgt := 49) hx hb dX7_set_43 (by decide) (fun c11 => ?_) (fun c11 => ?_)
          · skip
            exact absurd ⟨c1, by rw [if_pos c2]; rw [if_neg c8]; rw [if_pos c9]; exact c11⟩ hbad
          · skip
            refine lv_ldc (v := (-1000001)) hx hb hown (hts _ kc_X7_106) dX7_set_46 ?_
            exact r_ret X hw hk hret rfl rfl rfl dX7_set_48
      · skip
        refine lv_bipush (v := 8) hx hb dX7_set_24 (by decide) ?_
        refine lv_goto (tgt := 40) hx hb dX7_set_26 (by decide) ?_
        refine r_callS X hw (ws' := mW D L o0 o1 o2 o3 o4 o5 o6 o7 o8 o9 o10 o11 o12 o13 o14 o15 o16 o17 o18) (As := [.int a2, .int 4, .int 8]) (rest := []) lk_X7_45 (c_X7_in l D _ a2 4 8) Foc.nil rfl hl.1 (Nat.le_of_ble_eq_true rfl) ⟨Nat.le_of_ble_eq_true rfl, Nat.le_of_ble_eq_true rfl⟩ rfl dX7_set_40 ⟨Nat.le_refl _, Nat.le_refl _⟩ (fun H locs hw => ?_)
        refine lv_if_ne (tgt := 49) hx hb dX7_set_43 (by decide) (fun c12 => ?_) (fun c12 => ?_)
        · skip
          exact absurd ⟨c1, by rw [if_pos c2]; rw [if_pos c8]; exact c12⟩ hbad
        · skip
          refine lv_ldc (v := (-1000001)) hx hb hown (hts _ kc_X7_106) dX7_set_46 ?_
          exact r_ret X hw hk hret rfl rfl rfl dX7_set_48

noncomputable def sp_X7_wouldStep (s : Row) (r : Nat) : Int32 := ((sp_X7_stepped s r) &&& (255 - (s (7 + r)))) ||| ((s (14 + r)) &&& (s (7 + r)))
set_option maxRecDepth 100000 in
set_option maxHeartbeats 4000000 in
theorem c_X7_wouldStep (l : Launch) (D : va_G) (sz : Nat) (L : Nat → Nat) (s : Row) (o1 : Row) (o2 : Int32) (o3 : Int32) (o4 : Row) (o5 : Row) (o6 : Row) (o7 : Int32) (o8 : Row) (o9 : Int32) (o10 : Row) (o11 : Int32) (o12 : Int32) (o13 : Int32) (o14 : Int32) (o15 : Int32) (o16 : Int32) (o17 : Row) (o18 : Row) (r : Nat) (hr : r < 7) : MI l yX7_wouldStep cX7_wouldStep 3 (some .int) 8 172 D sz [.ref (L 0), .int (nI r)] (mW D L s o1 o2 o3 o4 o5 o6 o7 o8 o9 o10 o11 o12 o13 o14 o15 o16 o17 o18) (sp_X7_wouldStep s r) (mW D L s o1 o2 o3 o4 o5 o6 o7 o8 o9 o10 o11 o12 o13 o14 o15 o16 o17 o18) := by
  refine r_enterI (by decide) (Nat.le_of_ble_eq_true rfl) ?_
  intro p e st m args below meth c ls A X hret hk hw hl
  have X : CX D p m c cX7_wouldStep 3 st args RX7 A := X
  have hx := X.1.1
  have hb := X.1.2.1
  have hown := X.1.2.2.2.1
  have hts := X.1.2.2.2.2
  have hl : lv_has ls 3 [(0, .ref (L 0)), (1, .int (nI r))] := hl
  refine lv_aload_n hx hb dX7_wouldStep_0 rfl (lv_at hl 0 rfl) ?_
  refine r_get X hw (v := .ref (L 1)) fl_X7_7 (m_at 0 rfl) rfl dX7_wouldStep_1 ?_
  refine lv_bipush (v := 7) hx hb dX7_wouldStep_4 (by decide) ?_
  refine lv_iload_n hx hb dX7_wouldStep_6 rfl (lv_at hl 1 rfl) ?_
  refine r_addN hx hb 7 r rfl rfl dX7_wouldStep_7 ?_
  refine r_iald X hw (f := s) (7 + r) (m_at 1 rfl) rfl (by omega) (by decide) dX7_wouldStep_8 ?_
  refine lv_istore_n (lv' := [(2, .int (s (7 + r))), (0, .ref (L 0)), (1, .int (nI r))]) hx hb dX7_wouldStep_9 rfl hl (by decide) rfl (fun ls hl => ?_)
  refine lv_aload_n hx hb dX7_wouldStep_10 rfl (lv_at hl 1 rfl) ?_
  refine lv_iload_n hx hb dX7_wouldStep_11 rfl (lv_at hl 2 rfl) ?_
  refine r_callV X hw (ws' := mW D L s o1 o2 o3 o4 o5 o6 o7 o8 o9 o10 o11 o12 o13 o14 o15 o16 o17 o18) (As := [.int (nI r)]) (rest := []) lk_X7_81 (c_X7_stepped l D _ L s o1 o2 o3 o4 o5 o6 o7 o8 o9 o10 o11 o12 o13 o14 o15 o16 o17 o18 r (by omega)) Foc.all (m_at 0 rfl) rfl hl.1 (Nat.le_of_ble_eq_true rfl) ⟨Nat.le_of_ble_eq_true rfl, Nat.le_of_ble_eq_true rfl⟩ rfl dX7_wouldStep_12 ⟨Nat.le_refl _, Nat.le_refl _⟩ (fun H locs hw => ?_)
  refine lv_sipush (v := 255) hx hb dX7_wouldStep_15 (by decide) ?_
  refine lv_iload_n hx hb dX7_wouldStep_18 rfl (lv_at hl 0 rfl) ?_
  refine lv_isub hx hb dX7_wouldStep_19 ?_
  refine lv_iand hx hb dX7_wouldStep_20 ?_
  refine lv_aload_n hx hb dX7_wouldStep_21 rfl (lv_at hl 1 rfl) ?_
  refine r_get X hw (v := .ref (L 1)) fl_X7_7 (m_at 0 rfl) rfl dX7_wouldStep_22 ?_
  refine lv_bipush (v := 14) hx hb dX7_wouldStep_25 (by decide) ?_
  refine lv_iload_n hx hb dX7_wouldStep_27 rfl (lv_at hl 2 rfl) ?_
  refine r_addN hx hb 14 r rfl rfl dX7_wouldStep_28 ?_
  refine r_iald X hw (f := s) (14 + r) (m_at 1 rfl) rfl (by omega) (by decide) dX7_wouldStep_29 ?_
  refine lv_iload_n hx hb dX7_wouldStep_30 rfl (lv_at hl 0 rfl) ?_
  refine lv_iand hx hb dX7_wouldStep_31 ?_
  refine lv_ior hx hb dX7_wouldStep_32 ?_
  exact r_ret X hw hk hret rfl (rfl) rfl dX7_wouldStep_33

noncomputable def sp_X7_registerOf (s : Row) (r : Nat) (w : Nat) : Int32 := (if (nI w) = 0 then s (0 + r) else (if (nI w) = 1 then sp_X7_number s r else (if (nI w) = 2 then sp_X7_wrong s r else (if (nI w) = 3 then sp_X7_last s r else (if (nI w) = 4 then s (7 + r) else (if (nI w) = 5 then s (21 + r) else sp_X7_wouldStep s r))))))
set_option maxRecDepth 100000 in
set_option maxHeartbeats 4000000 in
theorem c_X7_registerOf (l : Launch) (D : va_G) (sz : Nat) (L : Nat → Nat) (s : Row) (o1 : Row) (o2 : Int32) (o3 : Int32) (o4 : Row) (o5 : Row) (o6 : Row) (o7 : Int32) (o8 : Row) (o9 : Int32) (o10 : Row) (o11 : Int32) (o12 : Int32) (o13 : Int32) (o14 : Int32) (o15 : Int32) (o16 : Int32) (o17 : Row) (o18 : Row) (r : Nat) (w : Nat) (hr : r < 7) (hw : w < 7) : MI l yX7_registerOf cX7_registerOf 3 (some .int) 9 194 D sz [.ref (L 0), .int (nI r), .int (nI w)] (mW D L s o1 o2 o3 o4 o5 o6 o7 o8 o9 o10 o11 o12 o13 o14 o15 o16 o17 o18) (sp_X7_registerOf s r w) (mW D L s o1 o2 o3 o4 o5 o6 o7 o8 o9 o10 o11 o12 o13 o14 o15 o16 o17 o18) := by
  refine r_enterI (by decide) (Nat.le_of_ble_eq_true rfl) ?_
  intro p e st m args below meth c ls A X hret hk hw hl
  have X : CX D p m c cX7_registerOf 3 st args RX7 A := X
  have hx := X.1.1
  have hb := X.1.2.1
  have hown := X.1.2.2.2.1
  have hts := X.1.2.2.2.2
  have hl : lv_has ls 3 [(0, .ref (L 0)), (1, .int (nI r)), (2, .int (nI w))] := hl
  refine lv_iload_n hx hb dX7_registerOf_0 rfl (lv_at hl 1 rfl) ?_
  refine r_callS X hw (ws' := mW D L s o1 o2 o3 o4 o5 o6 o7 o8 o9 o10 o11 o12 o13 o14 o15 o16 o17 o18) (As := [.int (nI r)]) (rest := []) lk_X7_103 (c_X7_isRegister l D _ (nI r)) Foc.nil rfl hl.1 (Nat.le_of_ble_eq_true rfl) ⟨Nat.le_of_ble_eq_true rfl, Nat.le_of_ble_eq_true rfl⟩ rfl dX7_registerOf_1 ⟨Nat.le_refl _, Nat.le_refl _⟩ (fun H locs hw => ?_)
  refine lv_if_eq (tgt := 17) hx hb dX7_registerOf_4 (by decide) (fun h => absurd h (isReg_ok (by omega))) (fun _ => ?_)
  refine lv_iload_n hx hb dX7_registerOf_7 rfl (lv_at hl 2 rfl) ?_
  refine lv_iconst (v := 0) hx hb dX7_registerOf_8 (by decide) ?_
  refine lv_bipush (v := 6) hx hb dX7_registerOf_9 (by decide) ?_
  refine r_callS X hw (ws' := mW D L s o1 o2 o3 o4 o5 o6 o7 o8 o9 o10 o11 o12 o13 o14 o15 o16 o17 o18) (As := [.int (nI w), .int 0, .int 6]) (rest := []) lk_X7_45 (c_X7_in l D _ (nI w) 0 6) Foc.nil rfl hl.1 (Nat.le_of_ble_eq_true rfl) ⟨Nat.le_of_ble_eq_true rfl, Nat.le_of_ble_eq_true rfl⟩ rfl dX7_registerOf_11 ⟨Nat.le_refl _, Nat.le_refl _⟩ (fun H locs hw => ?_)
  refine lv_if_ne (tgt := 20) hx hb dX7_registerOf_14 (by decide) (fun _ => ?_) (fun h => absurd h (in_ok w 6 (by omega) (by decide)))
  refine lv_iload_n hx hb dX7_registerOf_20 rfl (lv_at hl 2 rfl) ?_
  by_cases w1 : (nI w) = 0
  · skip
    refine r_tabIn (tgt := 60) hx hb 0 w1 dX7_registerOf_21 (by decide) (by decide) rfl (by decide) ?_
    refine lv_aload_n hx hb dX7_registerOf_60 rfl (lv_at hl 0 rfl) ?_
    refine r_get X hw (v := .ref (L 1)) fl_X7_7 (m_at 0 rfl) rfl dX7_registerOf_61 ?_
    refine lv_iconst (v := 0) hx hb dX7_registerOf_64 (by decide) ?_
    refine lv_iload_n hx hb dX7_registerOf_65 rfl (lv_at hl 1 rfl) ?_
    refine r_addN hx hb 0 r rfl rfl dX7_registerOf_66 ?_
    refine r_iald X hw (f := s) (0 + r) (m_at 1 rfl) rfl (by omega) (by decide) dX7_registerOf_67 ?_
    exact r_ret X hw hk hret rfl (by unfold sp_X7_registerOf; rw [if_pos w1]) rfl dX7_registerOf_68
  · skip
    by_cases w2 : (nI w) = 1
    · skip
      refine r_tabIn (tgt := 69) hx hb 1 w2 dX7_registerOf_21 (by decide) (by decide) rfl (by decide) ?_
      refine lv_aload_n hx hb dX7_registerOf_69 rfl (lv_at hl 0 rfl) ?_
      refine lv_iload_n hx hb dX7_registerOf_70 rfl (lv_at hl 1 rfl) ?_
      refine r_callV X hw (ws' := mW D L s o1 o2 o3 o4 o5 o6 o7 o8 o9 o10 o11 o12 o13 o14 o15 o16 o17 o18) (As := [.int (nI r)]) (rest := []) lk_X7_49 (c_X7_number l D _ L s o1 o2 o3 o4 o5 o6 o7 o8 o9 o10 o11 o12 o13 o14 o15 o16 o17 o18 r (by omega)) Foc.all (m_at 0 rfl) rfl hl.1 (Nat.le_of_ble_eq_true rfl) ⟨Nat.le_of_ble_eq_true rfl, Nat.le_of_ble_eq_true rfl⟩ rfl dX7_registerOf_71 ⟨Nat.le_refl _, Nat.le_refl _⟩ (fun H locs hw => ?_)
      exact r_ret X hw hk hret rfl (by unfold sp_X7_registerOf; rw [if_neg w1]; rw [if_pos w2]) rfl dX7_registerOf_74
    · skip
      by_cases w3 : (nI w) = 2
      · skip
        refine r_tabIn (tgt := 75) hx hb 2 w3 dX7_registerOf_21 (by decide) (by decide) rfl (by decide) ?_
        refine lv_aload_n hx hb dX7_registerOf_75 rfl (lv_at hl 0 rfl) ?_
        refine lv_iload_n hx hb dX7_registerOf_76 rfl (lv_at hl 1 rfl) ?_
        refine r_callV X hw (ws' := mW D L s o1 o2 o3 o4 o5 o6 o7 o8 o9 o10 o11 o12 o13 o14 o15 o16 o17 o18) (As := [.int (nI r)]) (rest := []) lk_X7_78 (c_X7_wrong l D _ L s o1 o2 o3 o4 o5 o6 o7 o8 o9 o10 o11 o12 o13 o14 o15 o16 o17 o18 r (by omega)) Foc.all (m_at 0 rfl) rfl hl.1 (Nat.le_of_ble_eq_true rfl) ⟨Nat.le_of_ble_eq_true rfl, Nat.le_of_ble_eq_true rfl⟩ rfl dX7_registerOf_77 ⟨Nat.le_refl _, Nat.le_refl _⟩ (fun H locs hw => ?_)
        exact r_ret X hw hk hret rfl (by unfold sp_X7_registerOf; rw [if_neg w1]; rw [if_neg w2]; rw [if_pos w3]) rfl dX7_registerOf_80
      · skip
        by_cases w4 : (nI w) = 3
        · skip
          refine r_tabIn (tgt := 81) hx hb 3 w4 dX7_registerOf_21 (by decide) (by decide) rfl (by decide) ?_
          refine lv_aload_n hx hb dX7_registerOf_81 rfl (lv_at hl 0 rfl) ?_
          refine lv_iload_n hx hb dX7_registerOf_82 rfl (lv_at hl 1 rfl) ?_
          refine r_callV X hw (ws' := mW D L s o1 o2 o3 o4 o5 o6 o7 o8 o9 o10 o11 o12 o13 o14 o15 o16 o17 o18) (As := [.int (nI r)]) (rest := []) lk_X7_60 (c_X7_last l D _ L s o1 o2 o3 o4 o5 o6 o7 o8 o9 o10 o11 o12 o13 o14 o15 o16 o17 o18 r (by omega)) Foc.all (m_at 0 rfl) rfl hl.1 (Nat.le_of_ble_eq_true rfl) ⟨Nat.le_of_ble_eq_true rfl, Nat.le_of_ble_eq_true rfl⟩ rfl dX7_registerOf_83 ⟨Nat.le_refl _, Nat.le_refl _⟩ (fun H locs hw => ?_)
          exact r_ret X hw hk hret rfl (by unfold sp_X7_registerOf; rw [if_neg w1]; rw [if_neg w2]; rw [if_neg w3]; rw [if_pos w4]) rfl dX7_registerOf_86
        · skip
          by_cases w5 : (nI w) = 4
          · skip
            refine r_tabIn (tgt := 87) hx hb 4 w5 dX7_registerOf_21 (by decide) (by decide) rfl (by decide) ?_
            refine lv_aload_n hx hb dX7_registerOf_87 rfl (lv_at hl 0 rfl) ?_
            refine r_get X hw (v := .ref (L 1)) fl_X7_7 (m_at 0 rfl) rfl dX7_registerOf_88 ?_
            refine lv_bipush (v := 7) hx hb dX7_registerOf_91 (by decide) ?_
            refine lv_iload_n hx hb dX7_registerOf_93 rfl (lv_at hl 1 rfl) ?_
            refine r_addN hx hb 7 r rfl rfl dX7_registerOf_94 ?_
            refine r_iald X hw (f := s) (7 + r) (m_at 1 rfl) rfl (by omega) (by decide) dX7_registerOf_95 ?_
            exact r_ret X hw hk hret rfl (by unfold sp_X7_registerOf; rw [if_neg w1]; rw [if_neg w2]; rw [if_neg w3]; rw [if_neg w4]; rw [if_pos w5]) rfl dX7_registerOf_96
          · skip
            by_cases w6 : (nI w) = 5
            · skip
              refine r_tabIn (tgt := 97) hx hb 5 w6 dX7_registerOf_21 (by decide) (by decide) rfl (by decide) ?_
              refine lv_aload_n hx hb dX7_registerOf_97 rfl (lv_at hl 0 rfl) ?_
              refine r_get X hw (v := .ref (L 1)) fl_X7_7 (m_at 0 rfl) rfl dX7_registerOf_98 ?_
              refine lv_bipush (v := 21) hx hb dX7_registerOf_101 (by decide) ?_
              refine lv_iload_n hx hb dX7_registerOf_103 rfl (lv_at hl 1 rfl) ?_
              refine r_addN hx hb 21 r rfl rfl dX7_registerOf_104 ?_
              refine r_iald X hw (f := s) (21 + r) (m_at 1 rfl) rfl (by omega) (by decide) dX7_registerOf_105 ?_
              exact r_ret X hw hk hret rfl (by unfold sp_X7_registerOf; rw [if_neg w1]; rw [if_neg w2]; rw [if_neg w3]; rw [if_neg w4]; rw [if_neg w5]; rw [if_pos w6]) rfl dX7_registerOf_106
            · skip
              refine lv_tableOut (tgt := 107) hx hb dX7_registerOf_21 (by have g0 := i_ne w1; have g1 := i_ne w2; have g2 := i_ne w3; have g3 := i_ne w4; have g4 := i_ne w5; have g5 := i_ne w6; rw [show (0 : Int32).toInt = 0 from rfl] at g0; rw [show (1 : Int32).toInt = 1 from rfl] at g1; rw [show (2 : Int32).toInt = 2 from rfl] at g2; rw [show (3 : Int32).toInt = 3 from rfl] at g3; rw [show (4 : Int32).toInt = 4 from rfl] at g4; rw [show (5 : Int32).toInt = 5 from rfl] at g5; omega) (by decide) ?_
              refine lv_aload_n hx hb dX7_registerOf_107 rfl (lv_at hl 0 rfl) ?_
              refine lv_iload_n hx hb dX7_registerOf_108 rfl (lv_at hl 1 rfl) ?_
              refine r_callV X hw (ws' := mW D L s o1 o2 o3 o4 o5 o6 o7 o8 o9 o10 o11 o12 o13 o14 o15 o16 o17 o18) (As := [.int (nI r)]) (rest := []) lk_X7_150 (c_X7_wouldStep l D _ L s o1 o2 o3 o4 o5 o6 o7 o8 o9 o10 o11 o12 o13 o14 o15 o16 o17 o18 r (by omega)) Foc.all (m_at 0 rfl) rfl hl.1 (Nat.le_of_ble_eq_true rfl) ⟨Nat.le_of_ble_eq_true rfl, Nat.le_of_ble_eq_true rfl⟩ rfl dX7_registerOf_109 ⟨Nat.le_refl _, Nat.le_refl _⟩ (fun H locs hw => ?_)
              exact r_ret X hw hk hret rfl (by unfold sp_X7_registerOf; rw [if_neg w1]; rw [if_neg w2]; rw [if_neg w3]; rw [if_neg w4]; rw [if_neg w5]; rw [if_neg w6]) rfl dX7_registerOf_112

set_option maxRecDepth 100000 in
set_option maxHeartbeats 4000000 in
theorem c_X7_registerOf_bad (l : Launch) (D : va_G) (sz : Nat) (L : Nat → Nat) (o0 : Row) (o1 : Row) (o2 : Int32) (o3 : Int32) (o4 : Row) (o5 : Row) (o6 : Row) (o7 : Int32) (o8 : Row) (o9 : Int32) (o10 : Row) (o11 : Int32) (o12 : Int32) (o13 : Int32) (o14 : Int32) (o15 : Int32) (o16 : Int32) (o17 : Row) (o18 : Row) (a1 a2 : Int32) (hbad : ¬ ((¬ sp_X7_isRegister a1 = 0) ∧ ¬ sp_X7_in a2 0 6 = 0)) : MI l yX7_registerOf cX7_registerOf 3 (some .int) 2 42 D sz [.ref (L 0), .int a1, .int a2] (mW D L o0 o1 o2 o3 o4 o5 o6 o7 o8 o9 o10 o11 o12 o13 o14 o15 o16 o17 o18) (-1000001) (mW D L o0 o1 o2 o3 o4 o5 o6 o7 o8 o9 o10 o11 o12 o13 o14 o15 o16 o17 o18) := by
  refine r_enterI (by decide) (Nat.le_of_ble_eq_true rfl) ?_
  intro p e st m args below meth c ls A X hret hk hw hl
  have X : CX D p m c cX7_registerOf 3 st args RX7 A := X
  have hx := X.1.1
  have hb := X.1.2.1
  have hown := X.1.2.2.2.1
  have hts := X.1.2.2.2.2
  have hl : lv_has ls 3 [(0, .ref (L 0)), (1, .int a1), (2, .int a2)] := hl
  refine lv_iload_n hx hb dX7_registerOf_0 rfl (lv_at hl 1 rfl) ?_
  refine r_callS X hw (ws' := mW D L o0 o1 o2 o3 o4 o5 o6 o7 o8 o9 o10 o11 o12 o13 o14 o15 o16 o17 o18) (As := [.int a1]) (rest := []) lk_X7_103 (c_X7_isRegister l D _ a1) Foc.nil rfl hl.1 (Nat.le_of_ble_eq_true rfl) ⟨Nat.le_of_ble_eq_true rfl, Nat.le_of_ble_eq_true rfl⟩ rfl dX7_registerOf_1 ⟨Nat.le_refl _, Nat.le_refl _⟩ (fun H locs hw => ?_)
  refine lv_if_eq (tgt := 17) hx hb dX7_registerOf_4 (by decide) (fun c1 => ?_) (fun c1 => ?_)
  · skip
    refine lv_ldc (v := (-1000001)) hx hb hown (hts _ kc_X7_106) dX7_registerOf_17 ?_
    exact r_ret X hw hk hret rfl rfl rfl dX7_registerOf_19
  · skip
    refine lv_iload_n hx hb dX7_registerOf_7 rfl (lv_at hl 2 rfl) ?_
    refine lv_iconst (v := 0) hx hb dX7_registerOf_8 (by decide) ?_
    refine lv_bipush (v := 6) hx hb dX7_registerOf_9 (by decide) ?_
    refine r_callS X hw (ws' := mW D L o0 o1 o2 o3 o4 o5 o6 o7 o8 o9 o10 o11 o12 o13 o14 o15 o16 o17 o18) (As := [.int a2, .int 0, .int 6]) (rest := []) lk_X7_45 (c_X7_in l D _ a2 0 6) Foc.nil rfl hl.1 (Nat.le_of_ble_eq_true rfl) ⟨Nat.le_of_ble_eq_true rfl, Nat.le_of_ble_eq_true rfl⟩ rfl dX7_registerOf_11 ⟨Nat.le_refl _, Nat.le_refl _⟩ (fun H locs hw => ?_)
    refine lv_if_ne (tgt := 20) hx hb dX7_registerOf_14 (by decide) (fun c2 => ?_) (fun c2 => ?_)
    · skip
      exact absurd ⟨c1, c2⟩ hbad
    · skip
      refine lv_ldc (v := (-1000001)) hx hb hown (hts _ kc_X7_106) dX7_registerOf_17 ?_
      exact r_ret X hw hk hret rfl rfl rfl dX7_registerOf_19

noncomputable def sp_X7_alarmOf (s : Row) (a : Nat) (w : Nat) : Int32 := (if 9 ≤ w then (if (sp_X7_matches s a) = 0 then 0 else 1) else s (40 + 9 * a + w))
set_option maxRecDepth 100000 in
set_option maxHeartbeats 4000000 in
theorem c_X7_alarmOf (l : Launch) (D : va_G) (sz : Nat) (L : Nat → Nat) (s : Row) (o1 : Row) (o2 : Int32) (o3 : Int32) (o4 : Row) (o5 : Row) (o6 : Row) (o7 : Int32) (o8 : Row) (o9 : Int32) (o10 : Row) (o11 : Int32) (o12 : Int32) (o13 : Int32) (o14 : Int32) (o15 : Int32) (o16 : Int32) (o17 : Row) (o18 : Row) (a : Nat) (w : Nat) (ha : a < 3) (hw : w < 10) : MI l yX7_alarmOf cX7_alarmOf 3 (some .int) 2 44 D sz [.ref (L 0), .int (nI a), .int (nI w)] (mW D L s o1 o2 o3 o4 o5 o6 o7 o8 o9 o10 o11 o12 o13 o14 o15 o16 o17 o18) (sp_X7_alarmOf s a w) (mW D L s o1 o2 o3 o4 o5 o6 o7 o8 o9 o10 o11 o12 o13 o14 o15 o16 o17 o18) := by
  refine r_enterI (by decide) (Nat.le_of_ble_eq_true rfl) ?_
  intro p e st m args below meth c ls A X hret hk hw hl
  have X : CX D p m c cX7_alarmOf 3 st args RX7 A := X
  have hx := X.1.1
  have hb := X.1.2.1
  have hown := X.1.2.2.2.1
  have hts := X.1.2.2.2.2
  have hl : lv_has ls 3 [(0, .ref (L 0)), (1, .int (nI a)), (2, .int (nI w))] := hl
  refine lv_iload_n hx hb dX7_alarmOf_0 rfl (lv_at hl 1 rfl) ?_
  refine r_callS X hw (ws' := mW D L s o1 o2 o3 o4 o5 o6 o7 o8 o9 o10 o11 o12 o13 o14 o15 o16 o17 o18) (As := [.int (nI a)]) (rest := []) lk_X7_137 (c_X7_isAlarm l D _ (nI a)) Foc.nil rfl hl.1 (Nat.le_of_ble_eq_true rfl) ⟨Nat.le_of_ble_eq_true rfl, Nat.le_of_ble_eq_true rfl⟩ rfl dX7_alarmOf_1 ⟨Nat.le_refl _, Nat.le_refl _⟩ (fun H locs hw => ?_)
  refine lv_if_eq (tgt := 17) hx hb dX7_alarmOf_4 (by decide) (fun h => absurd h (isAl_ok (by omega))) (fun _ => ?_)
  refine lv_iload_n hx hb dX7_alarmOf_7 rfl (lv_at hl 2 rfl) ?_
  refine lv_iconst (v := 0) hx hb dX7_alarmOf_8 (by decide) ?_
  refine lv_bipush (v := 9) hx hb dX7_alarmOf_9 (by decide) ?_
  refine r_callS X hw (ws' := mW D L s o1 o2 o3 o4 o5 o6 o7 o8 o9 o10 o11 o12 o13 o14 o15 o16 o17 o18) (As := [.int (nI w), .int 0, .int 9]) (rest := []) lk_X7_45 (c_X7_in l D _ (nI w) 0 9) Foc.nil rfl hl.1 (Nat.le_of_ble_eq_true rfl) ⟨Nat.le_of_ble_eq_true rfl, Nat.le_of_ble_eq_true rfl⟩ rfl dX7_alarmOf_11 ⟨Nat.le_refl _, Nat.le_refl _⟩ (fun H locs hw => ?_)
  refine lv_if_ne (tgt := 20) hx hb dX7_alarmOf_14 (by decide) (fun _ => ?_) (fun h => absurd h (in_ok w 9 (by omega) (by decide)))
  refine lv_iload_n hx hb dX7_alarmOf_20 rfl (lv_at hl 2 rfl) ?_
  refine lv_bipush (v := 9) hx hb dX7_alarmOf_21 (by decide) ?_
  refine r_geN (tgt := 40) hx hb w 9 rfl rfl (by omega) (by omega) dX7_alarmOf_23 (by decide) (fun c1 => ?_) (fun c1 => ?_)
  · skip
    refine lv_aload_n hx hb dX7_alarmOf_40 rfl (lv_at hl 0 rfl) ?_
    refine lv_iload_n hx hb dX7_alarmOf_41 rfl (lv_at hl 1 rfl) ?_
    refine r_callV X hw (ws' := mW D L s o1 o2 o3 o4 o5 o6 o7 o8 o9 o10 o11 o12 o13 o14 o15 o16 o17 o18) (As := [.int (nI a)]) (rest := []) lk_X7_94 (c_X7_matches l D _ L s o1 o2 o3 o4 o5 o6 o7 o8 o9 o10 o11 o12 o13 o14 o15 o16 o17 o18 a (by omega)) Foc.all (m_at 0 rfl) rfl hl.1 (Nat.le_of_ble_eq_true rfl) ⟨Nat.le_of_ble_eq_true rfl, Nat.le_of_ble_eq_true rfl⟩ rfl dX7_alarmOf_42 ⟨Nat.le_refl _, Nat.le_refl _⟩ (fun H locs hw => ?_)
    refine lv_if_eq (tgt := 52) hx hb dX7_alarmOf_45 (by decide) (fun c2 => ?_) (fun c2 => ?_)
    · skip
      refine lv_iconst (v := 0) hx hb dX7_alarmOf_52 (by decide) ?_
      exact r_ret X hw hk hret rfl (by unfold sp_X7_alarmOf; rw [if_pos c1]; rw [if_pos c2]) rfl dX7_alarmOf_53
    · skip
      refine lv_iconst (v := 1) hx hb dX7_alarmOf_48 (by decide) ?_
      refine lv_goto (tgt := 53) hx hb dX7_alarmOf_49 (by decide) ?_
      exact r_ret X hw hk hret rfl (by unfold sp_X7_alarmOf; rw [if_pos c1]; rw [if_neg c2]) rfl dX7_alarmOf_53
  · skip
    refine lv_aload_n hx hb dX7_alarmOf_26 rfl (lv_at hl 0 rfl) ?_
    refine r_get X hw (v := .ref (L 1)) fl_X7_7 (m_at 0 rfl) rfl dX7_alarmOf_27 ?_
    refine lv_iload_n hx hb dX7_alarmOf_30 rfl (lv_at hl 1 rfl) ?_
    refine r_callS X hw (ws' := mW D L s o1 o2 o3 o4 o5 o6 o7 o8 o9 o10 o11 o12 o13 o14 o15 o16 o17 o18) (As := [.int (nI a)]) (rest := [.ref (L 1)]) lk_X7_88 (c_X7_alarmAtN l D _ a (by omega)) Foc.nil rfl hl.1 (Nat.le_of_ble_eq_true rfl) ⟨Nat.le_of_ble_eq_true rfl, Nat.le_of_ble_eq_true rfl⟩ rfl dX7_alarmOf_31 ⟨Nat.le_refl _, Nat.le_refl _⟩ (fun H locs hw => ?_)
    refine lv_iload_n hx hb dX7_alarmOf_34 rfl (lv_at hl 2 rfl) ?_
    refine r_addN hx hb (40 + 9 * a) w rfl rfl dX7_alarmOf_35 ?_
    refine r_iald X hw (f := s) (40 + 9 * a + w) (m_at 1 rfl) rfl (by omega) (by decide) dX7_alarmOf_36 ?_
    refine lv_goto (tgt := 53) hx hb dX7_alarmOf_37 (by decide) ?_
    exact r_ret X hw hk hret rfl (by unfold sp_X7_alarmOf; rw [if_neg (Nat.not_le.mpr c1)]) rfl dX7_alarmOf_53

set_option maxRecDepth 100000 in
set_option maxHeartbeats 4000000 in
theorem c_X7_alarmOf_bad (l : Launch) (D : va_G) (sz : Nat) (L : Nat → Nat) (o0 : Row) (o1 : Row) (o2 : Int32) (o3 : Int32) (o4 : Row) (o5 : Row) (o6 : Row) (o7 : Int32) (o8 : Row) (o9 : Int32) (o10 : Row) (o11 : Int32) (o12 : Int32) (o13 : Int32) (o14 : Int32) (o15 : Int32) (o16 : Int32) (o17 : Row) (o18 : Row) (a1 a2 : Int32) (hbad : ¬ ((¬ sp_X7_isAlarm a1 = 0) ∧ ¬ sp_X7_in a2 0 9 = 0)) : MI l yX7_alarmOf cX7_alarmOf 3 (some .int) 2 42 D sz [.ref (L 0), .int a1, .int a2] (mW D L o0 o1 o2 o3 o4 o5 o6 o7 o8 o9 o10 o11 o12 o13 o14 o15 o16 o17 o18) (-1000001) (mW D L o0 o1 o2 o3 o4 o5 o6 o7 o8 o9 o10 o11 o12 o13 o14 o15 o16 o17 o18) := by
  refine r_enterI (by decide) (Nat.le_of_ble_eq_true rfl) ?_
  intro p e st m args below meth c ls A X hret hk hw hl
  have X : CX D p m c cX7_alarmOf 3 st args RX7 A := X
  have hx := X.1.1
  have hb := X.1.2.1
  have hown := X.1.2.2.2.1
  have hts := X.1.2.2.2.2
  have hl : lv_has ls 3 [(0, .ref (L 0)), (1, .int a1), (2, .int a2)] := hl
  refine lv_iload_n hx hb dX7_alarmOf_0 rfl (lv_at hl 1 rfl) ?_
  refine r_callS X hw (ws' := mW D L o0 o1 o2 o3 o4 o5 o6 o7 o8 o9 o10 o11 o12 o13 o14 o15 o16 o17 o18) (As := [.int a1]) (rest := []) lk_X7_137 (c_X7_isAlarm l D _ a1) Foc.nil rfl hl.1 (Nat.le_of_ble_eq_true rfl) ⟨Nat.le_of_ble_eq_true rfl, Nat.le_of_ble_eq_true rfl⟩ rfl dX7_alarmOf_1 ⟨Nat.le_refl _, Nat.le_refl _⟩ (fun H locs hw => ?_)
  refine lv_if_eq (tgt := 17) hx hb dX7_alarmOf_4 (by decide) (fun c1 => ?_) (fun c1 => ?_)
  · skip
    refine lv_ldc (v := (-1000001)) hx hb hown (hts _ kc_X7_106) dX7_alarmOf_17 ?_
    exact r_ret X hw hk hret rfl rfl rfl dX7_alarmOf_19
  · skip
    refine lv_iload_n hx hb dX7_alarmOf_7 rfl (lv_at hl 2 rfl) ?_
    refine lv_iconst (v := 0) hx hb dX7_alarmOf_8 (by decide) ?_
    refine lv_bipush (v := 9) hx hb dX7_alarmOf_9 (by decide) ?_
    refine r_callS X hw (ws' := mW D L o0 o1 o2 o3 o4 o5 o6 o7 o8 o9 o10 o11 o12 o13 o14 o15 o16 o17 o18) (As := [.int a2, .int 0, .int 9]) (rest := []) lk_X7_45 (c_X7_in l D _ a2 0 9) Foc.nil rfl hl.1 (Nat.le_of_ble_eq_true rfl) ⟨Nat.le_of_ble_eq_true rfl, Nat.le_of_ble_eq_true rfl⟩ rfl dX7_alarmOf_11 ⟨Nat.le_refl _, Nat.le_refl _⟩ (fun H locs hw => ?_)
    refine lv_if_ne (tgt := 20) hx hb dX7_alarmOf_14 (by decide) (fun c2 => ?_) (fun c2 => ?_)
    · skip
      exact absurd ⟨c1, c2⟩ hbad
    · skip
      refine lv_ldc (v := (-1000001)) hx hb hown (hts _ kc_X7_106) dX7_alarmOf_17 ?_
      exact r_ret X hw hk hret rfl rfl rfl dX7_alarmOf_19

/-- the days of the year ahead of a day: of the months up to the j-th -/
noncomputable def daN (s : Row) (lp : Int32) : Nat → Int32
  | 0 => sp_X7_number s 4 - 1
  | j + 1 => daN s lp j + sp_X7_lengthOf (nI (j + 1)) lp
noncomputable def sp_X7_daysAhead (s : Row) (lp : Int32) : Int32 := daN s lp ((sp_X7_number s 5).toNatClampNeg - 1)

set_option maxRecDepth 100000 in
set_option maxHeartbeats 4000000 in
theorem c_X7_daysAhead (l : Launch) (D : va_G) (sz : Nat) (L : Nat → Nat) (s : Row) (o1 : Row) (o2 : Int32) (o3 : Int32) (o4 : Row) (o5 : Row) (o6 : Row) (o7 : Int32) (o8 : Row) (o9 : Int32) (o10 : Row) (o11 : Int32) (o12 : Int32) (o13 : Int32) (o14 : Int32) (o15 : Int32) (o16 : Int32) (o17 : Row) (o18 : Row) (lp : Int32) (M : Nat) (hM : sp_X7_number s 5 = nI M) (hM1 : 1 ≤ M) (hM2 : M ≤ 12) : MI l yX7_daysAhead cX7_daysAhead 4 (some .int) 1 22 D sz [.ref (L 0), .int lp] (mW D L s o1 o2 o3 o4 o5 o6 o7 o8 o9 o10 o11 o12 o13 o14 o15 o16 o17 o18) (sp_X7_daysAhead s lp) (mW D L s o1 o2 o3 o4 o5 o6 o7 o8 o9 o10 o11 o12 o13 o14 o15 o16 o17 o18) := by
  refine r_enterI (by decide) (Nat.le_of_ble_eq_true rfl) ?_
  intro p e st m args below meth c ls A X hret hk hw hl
  have X : CX D p m c cX7_daysAhead 4 st args RX7 A := X
  have hx := X.1.1
  have hb := X.1.2.1
  have hown := X.1.2.2.2.1
  have hts := X.1.2.2.2.2
  have hl : lv_has ls 4 [(0, .ref (L 0)), (1, .int lp)] := hl
  refine lv_aload_n hx hb dX7_daysAhead_0 rfl (lv_at hl 0 rfl) ?_
  refine lv_iconst (v := 4) hx hb dX7_daysAhead_1 (by decide) ?_
  refine r_callV X hw (ws' := mW D L s o1 o2 o3 o4 o5 o6 o7 o8 o9 o10 o11 o12 o13 o14 o15 o16 o17 o18) (As := [.int 4]) (rest := []) lk_X7_49 (c_X7_number l D _ L s o1 o2 o3 o4 o5 o6 o7 o8 o9 o10 o11 o12 o13 o14 o15 o16 o17 o18 4 (by omega)) Foc.all (m_at 0 rfl) rfl hl.1 (Nat.le_of_ble_eq_true rfl) ⟨Nat.le_of_ble_eq_true rfl, Nat.le_of_ble_eq_true rfl⟩ rfl dX7_daysAhead_2 ⟨Nat.le_refl _, Nat.le_refl _⟩ (fun H locs hw => ?_)
  refine lv_iconst (v := 1) hx hb dX7_daysAhead_5 (by decide) ?_
  refine lv_isub hx hb dX7_daysAhead_6 ?_
  refine lv_istore_n (lv' := [(2, .int ((sp_X7_number s 4) - 1)), (0, .ref (L 0)), (1, .int lp)]) hx hb dX7_daysAhead_7 rfl hl (by decide) rfl (fun ls hl => ?_)
  refine lv_iconst (v := 1) hx hb dX7_daysAhead_8 (by decide) ?_
  refine lv_istore_n (lv' := [(3, .int 1), (2, .int ((sp_X7_number s 4) - 1)), (0, .ref (L 0)), (1, .int lp)]) hx hb dX7_daysAhead_9 rfl hl (by decide) rfl (fun ls hl => ?_)
  have key10 : ∀ (n10 : Nat) (j : Nat) (x : Int32), (j + 1 ≤ M) → (M - j < n10) → (x = daN s lp j) → ∀ (H : Heap) (locs : List Loc) (ls : Array Slot), Wd D A st.heap H locs (mW D L s o1 o2 o3 o4 o5 o6 o7 o8 o9 o10 o11 o12 o13 o14 o15 o16 o17 o18) → lv_has ls 4 [(0, .ref (L 0)), (1, .int lp), (2, .int x), (3, .int (nI (j + 1)))] → W p l e (rmOf 1 0 0 22) st m args below meth c H locs 0 0 (QI below args st D A (sp_X7_daysAhead s lp) (mW D L s o1 o2 o3 o4 o5 o6 o7 o8 o9 o10 o11 o12 o13 o14 o15 o16 o17 o18)) (F0 m 10 ls []) := by
    intro n10
    induction n10 with
    | zero => intro j x hj hm hx0; omega
    | succ n10 ih10 =>
      intro j x hj hm hx0 H locs ls hw hl
      refine lv_iload_n hx hb dX7_daysAhead_10 rfl (lv_at hl 3 rfl) ?_
      refine lv_aload_n hx hb dX7_daysAhead_11 rfl (lv_at hl 0 rfl) ?_
      refine lv_iconst (v := 5) hx hb dX7_daysAhead_12 (by decide) ?_
      refine r_callV X hw (ws' := mW D L s o1 o2 o3 o4 o5 o6 o7 o8 o9 o10 o11 o12 o13 o14 o15 o16 o17 o18) (As := [.int 5]) (rest := [.int (nI (j + 1))]) lk_X7_49 (c_X7_number l D _ L s o1 o2 o3 o4 o5 o6 o7 o8 o9 o10 o11 o12 o13 o14 o15 o16 o17 o18 5 (by omega)) Foc.all (m_at 0 rfl) rfl hl.1 (Nat.le_of_ble_eq_true rfl) ⟨Nat.le_of_ble_eq_true rfl, Nat.le_of_ble_eq_true rfl⟩ rfl dX7_daysAhead_13 ⟨Nat.le_refl _, Nat.le_refl _⟩ (fun H locs hw => ?_)
      rw [hM]
      refine r_geN (tgt := 33) hx hb (j + 1) M rfl rfl (by omega) (by omega) dX7_daysAhead_16 (by decide) (fun c1 => ?_) (fun c1 => ?_)
      · skip
        refine lv_iload_n hx hb dX7_daysAhead_33 rfl (lv_at hl 2 rfl) ?_
        exact r_ret X hw hk hret rfl (by unfold sp_X7_daysAhead; rw [hM, nI_clamp (by omega), hx0, show M - 1 = j from by omega]) rfl dX7_daysAhead_34
      · skip
        refine lv_iload_n hx hb dX7_daysAhead_19 rfl (lv_at hl 2 rfl) ?_
        refine lv_iload_n hx hb dX7_daysAhead_20 rfl (lv_at hl 3 rfl) ?_
        refine lv_iload_n hx hb dX7_daysAhead_21 rfl (lv_at hl 1 rfl) ?_
        refine r_callS X hw (ws' := mW D L s o1 o2 o3 o4 o5 o6 o7 o8 o9 o10 o11 o12 o13 o14 o15 o16 o17 o18) (As := [.int (nI (j + 1)), .int lp]) (rest := [.int x]) lk_X7_70 (c_X7_lengthOf l D _ (nI (j + 1)) lp) Foc.nil rfl hl.1 (Nat.le_of_ble_eq_true rfl) ⟨Nat.le_of_ble_eq_true rfl, Nat.le_of_ble_eq_true rfl⟩ rfl dX7_daysAhead_22 ⟨Nat.le_refl _, Nat.le_refl _⟩ (fun H locs hw => ?_)
        refine lv_iadd hx hb dX7_daysAhead_25 ?_
        refine lv_istore_n (lv' := [(2, .int (x + (sp_X7_lengthOf (nI (j + 1)) lp))), (0, .ref (L 0)), (1, .int lp), (3, .int (nI (j + 1)))]) hx hb dX7_daysAhead_26 rfl hl (by decide) rfl (fun ls hl => ?_)
        refine r_iincN (lv' := [(3, .int (nI (j + 1 + 1))), (2, .int (x + (sp_X7_lengthOf (nI (j + 1)) lp))), (0, .ref (L 0)), (1, .int lp)]) hx hb (j + 1) 1 rfl dX7_daysAhead_27 hl (k := 3) rfl rfl (by decide) rfl (fun ls hl => ?_)
        refine lv_goto (tgt := 10) hx hb dX7_daysAhead_30 (by decide) ?_
        exact ih10 (j + 1) (x + (sp_X7_lengthOf (nI (j + 1)) lp)) (by omega) (by omega) (by rw [hx0]; rfl) _ _ _ hw (lv_sub hl [2, 3, 1, 0] rfl)
  exact key10 (M + 1) 0 _ (by omega) (by omega) rfl _ _ _ hw (lv_sub hl [2, 3, 1, 0] rfl)

noncomputable def sp_X7_daysBehind (s : Row) : Int32 := ((365 * (sp_X7_number s 6)) + (((sp_X7_number s 6) + 3) / 4)) + (sp_X7_daysAhead s (sp_X7_isLeap s))
set_option maxRecDepth 100000 in
set_option maxHeartbeats 4000000 in
theorem c_X7_daysBehind (l : Launch) (D : va_G) (sz : Nat) (L : Nat → Nat) (s : Row) (o1 : Row) (o2 : Int32) (o3 : Int32) (o4 : Row) (o5 : Row) (o6 : Row) (o7 : Int32) (o8 : Row) (o9 : Int32) (o10 : Row) (o11 : Int32) (o12 : Int32) (o13 : Int32) (o14 : Int32) (o15 : Int32) (o16 : Int32) (o17 : Row) (o18 : Row) (M : Nat) (hM : sp_X7_number s 5 = nI M) (hM1 : 1 ≤ M) (hM2 : M ≤ 12) : MI l yX7_daysBehind cX7_daysBehind 2 (some .int) 3 66 D sz [.ref (L 0)] (mW D L s o1 o2 o3 o4 o5 o6 o7 o8 o9 o10 o11 o12 o13 o14 o15 o16 o17 o18) (sp_X7_daysBehind s) (mW D L s o1 o2 o3 o4 o5 o6 o7 o8 o9 o10 o11 o12 o13 o14 o15 o16 o17 o18) := by
  refine r_enterI (by decide) (Nat.le_of_ble_eq_true rfl) ?_
  intro p e st m args below meth c ls A X hret hk hw hl
  have X : CX D p m c cX7_daysBehind 2 st args RX7 A := X
  have hx := X.1.1
  have hb := X.1.2.1
  have hown := X.1.2.2.2.1
  have hts := X.1.2.2.2.2
  have hl : lv_has ls 2 [(0, .ref (L 0))] := hl
  refine lv_aload_n hx hb dX7_daysBehind_0 rfl (lv_at hl 0 rfl) ?_
  refine lv_bipush (v := 6) hx hb dX7_daysBehind_1 (by decide) ?_
  refine r_callV X hw (ws' := mW D L s o1 o2 o3 o4 o5 o6 o7 o8 o9 o10 o11 o12 o13 o14 o15 o16 o17 o18) (As := [.int 6]) (rest := []) lk_X7_49 (c_X7_number l D _ L s o1 o2 o3 o4 o5 o6 o7 o8 o9 o10 o11 o12 o13 o14 o15 o16 o17 o18 6 (by omega)) Foc.all (m_at 0 rfl) rfl hl.1 (Nat.le_of_ble_eq_true rfl) ⟨Nat.le_of_ble_eq_true rfl, Nat.le_of_ble_eq_true rfl⟩ rfl dX7_daysBehind_3 ⟨Nat.le_refl _, Nat.le_refl _⟩ (fun H locs hw => ?_)
  refine lv_istore_n (lv' := [(1, .int (sp_X7_number s 6)), (0, .ref (L 0))]) hx hb dX7_daysBehind_6 rfl hl (by decide) rfl (fun ls hl => ?_)
  refine lv_sipush (v := 365) hx hb dX7_daysBehind_7 (by decide) ?_
  refine lv_iload_n hx hb dX7_daysBehind_10 rfl (lv_at hl 0 rfl) ?_
  refine lv_imul hx hb dX7_daysBehind_11 ?_
  refine lv_iload_n hx hb dX7_daysBehind_12 rfl (lv_at hl 0 rfl) ?_
  refine lv_iconst (v := 3) hx hb dX7_daysBehind_13 (by decide) ?_
  refine lv_iadd hx hb dX7_daysBehind_14 ?_
  refine lv_iconst (v := 4) hx hb dX7_daysBehind_15 (by decide) ?_
  refine lv_idiv hx hb dX7_daysBehind_16 (by decide) ?_
  refine lv_iadd hx hb dX7_daysBehind_17 ?_
  refine lv_aload_n hx hb dX7_daysBehind_18 rfl (lv_at hl 1 rfl) ?_
  refine lv_aload_n hx hb dX7_daysBehind_19 rfl (lv_at hl 1 rfl) ?_
  refine r_callV X hw (ws' := mW D L s o1 o2 o3 o4 o5 o6 o7 o8 o9 o10 o11 o12 o13 o14 o15 o16 o17 o18) (As := []) (rest := [.ref (L 0), .int ((365 * (sp_X7_number s 6)) + (((sp_X7_number s 6) + 3) / 4))]) lk_X7_66 (c_X7_isLeap l D _ L s o1 o2 o3 o4 o5 o6 o7 o8 o9 o10 o11 o12 o13 o14 o15 o16 o17 o18) Foc.all (m_at 0 rfl) rfl hl.1 (Nat.le_of_ble_eq_true rfl) ⟨Nat.le_of_ble_eq_true rfl, Nat.le_of_ble_eq_true rfl⟩ rfl dX7_daysBehind_20 ⟨Nat.le_refl _, Nat.le_refl _⟩ (fun H locs hw => ?_)
  refine r_callV X hw (ws' := mW D L s o1 o2 o3 o4 o5 o6 o7 o8 o9 o10 o11 o12 o13 o14 o15 o16 o17 o18) (As := [.int (sp_X7_isLeap s)]) (rest := [.int ((365 * (sp_X7_number s 6)) + (((sp_X7_number s 6) + 3) / 4))]) lk_X7_153 (c_X7_daysAhead l D _ L s o1 o2 o3 o4 o5 o6 o7 o8 o9 o10 o11 o12 o13 o14 o15 o16 o17 o18 (sp_X7_isLeap s) M hM hM1 hM2) Foc.all (m_at 0 rfl) rfl hl.1 (Nat.le_of_ble_eq_true rfl) ⟨Nat.le_of_ble_eq_true rfl, Nat.le_of_ble_eq_true rfl⟩ rfl dX7_daysBehind_23 ⟨Nat.le_refl _, Nat.le_refl _⟩ (fun H locs hw => ?_)
  refine lv_iadd hx hb dX7_daysBehind_26 ?_
  exact r_ret X hw hk hret rfl (rfl) rfl dX7_daysBehind_27

noncomputable def sp_X7_date3 (s : Row) : Int32 := sp_X7_monthLength s
set_option maxRecDepth 100000 in
set_option maxHeartbeats 4000000 in
theorem c_X7_date3 (l : Launch) (D : va_G) (sz : Nat) (L : Nat → Nat) (s : Row) (o1 : Row) (o2 : Int32) (o3 : Int32) (o4 : Row) (o5 : Row) (o6 : Row) (o7 : Int32) (o8 : Row) (o9 : Int32) (o10 : Row) (o11 : Int32) (o12 : Int32) (o13 : Int32) (o14 : Int32) (o15 : Int32) (o16 : Int32) (o17 : Row) (o18 : Row)  : MI l yX7_date cX7_date 3 (some .int) 4 86 D sz [.ref (L 0), .int 3] (mW D L s o1 o2 o3 o4 o5 o6 o7 o8 o9 o10 o11 o12 o13 o14 o15 o16 o17 o18) (sp_X7_date3 s) (mW D L s o1 o2 o3 o4 o5 o6 o7 o8 o9 o10 o11 o12 o13 o14 o15 o16 o17 o18) := by
  refine r_enterI (by decide) (Nat.le_of_ble_eq_true rfl) ?_
  intro p e st m args below meth c ls A X hret hk hw hl
  have X : CX D p m c cX7_date 3 st args RX7 A := X
  have hx := X.1.1
  have hb := X.1.2.1
  have hown := X.1.2.2.2.1
  have hts := X.1.2.2.2.2
  have hl : lv_has ls 3 [(0, .ref (L 0)), (1, .int 3)] := hl
  refine lv_iload_n hx hb dX7_date_0 rfl (lv_at hl 1 rfl) ?_
  refine lv_iconst (v := 0) hx hb dX7_date_1 (by decide) ?_
  refine lv_iconst (v := 4) hx hb dX7_date_2 (by decide) ?_
  refine r_callS X hw (ws' := mW D L s o1 o2 o3 o4 o5 o6 o7 o8 o9 o10 o11 o12 o13 o14 o15 o16 o17 o18) (As := [.int 3, .int 0, .int 4]) (rest := []) lk_X7_45 (c_X7_in l D _ 3 0 4) Foc.nil rfl hl.1 (Nat.le_of_ble_eq_true rfl) ⟨Nat.le_of_ble_eq_true rfl, Nat.le_of_ble_eq_true rfl⟩ rfl dX7_date_3 ⟨Nat.le_refl _, Nat.le_refl _⟩ (fun H locs hw => ?_)
  refine lv_if_ne (tgt := 12) hx hb dX7_date_6 (by decide) (fun _ => ?_) (fun h => absurd h (by decide))
  refine lv_iload_n hx hb dX7_date_12 rfl (lv_at hl 1 rfl) ?_
  refine lv_iconst (v := 3) hx hb dX7_date_13 (by decide) ?_
  refine lv_icmp_ne (tgt := 22) hx hb dX7_date_14 (by decide) (fun h => absurd (by decide) h) (fun _ => ?_)
  refine lv_aload_n hx hb dX7_date_17 rfl (lv_at hl 0 rfl) ?_
  refine r_callV X hw (ws' := mW D L s o1 o2 o3 o4 o5 o6 o7 o8 o9 o10 o11 o12 o13 o14 o15 o16 o17 o18) (As := []) (rest := []) lk_X7_53 (c_X7_monthLength l D _ L s o1 o2 o3 o4 o5 o6 o7 o8 o9 o10 o11 o12 o13 o14 o15 o16 o17 o18) Foc.all (m_at 0 rfl) rfl hl.1 (Nat.le_of_ble_eq_true rfl) ⟨Nat.le_of_ble_eq_true rfl, Nat.le_of_ble_eq_true rfl⟩ rfl dX7_date_18 ⟨Nat.le_refl _, Nat.le_refl _⟩ (fun H locs hw => ?_)
  exact r_ret X hw hk hret rfl (rfl) rfl dX7_date_21

set_option maxRecDepth 100000 in
set_option maxHeartbeats 4000000 in
theorem c_X7_date_nf (l : Launch) (D : va_G) (sz : Nat) (L : Nat → Nat) (s : Row) (o1 : Row) (o2 : Int32) (o3 : Int32) (o4 : Row) (o5 : Row) (o6 : Row) (o7 : Int32) (o8 : Row) (o9 : Int32) (o10 : Row) (o11 : Int32) (o12 : Int32) (o13 : Int32) (o14 : Int32) (o15 : Int32) (o16 : Int32) (o17 : Row) (o18 : Row) (w : Nat) (hw5 : w < 5) (hw3 : ¬ w = 3) (hwr : 0 < (sp_X7_wrong s 4 + sp_X7_wrong s 5) + sp_X7_wrong s 6) : MI l yX7_date cX7_date 3 (some .int) 6 129 D sz [.ref (L 0), .int (nI w)] (mW D L s o1 o2 o3 o4 o5 o6 o7 o8 o9 o10 o11 o12 o13 o14 o15 o16 o17 o18) (-1000004) (mW D L s o1 o2 o3 o4 o5 o6 o7 o8 o9 o10 o11 o12 o13 o14 o15 o16 o17 o18) := by
  refine r_enterI (by decide) (Nat.le_of_ble_eq_true rfl) ?_
  intro p e st m args below meth c ls A X hret hk hw hl
  have X : CX D p m c cX7_date 3 st args RX7 A := X
  have hx := X.1.1
  have hb := X.1.2.1
  have hown := X.1.2.2.2.1
  have hts := X.1.2.2.2.2
  have hl : lv_has ls 3 [(0, .ref (L 0)), (1, .int (nI w))] := hl
  refine lv_iload_n hx hb dX7_date_0 rfl (lv_at hl 1 rfl) ?_
  refine lv_iconst (v := 0) hx hb dX7_date_1 (by decide) ?_
  refine lv_iconst (v := 4) hx hb dX7_date_2 (by decide) ?_
  refine r_callS X hw (ws' := mW D L s o1 o2 o3 o4 o5 o6 o7 o8 o9 o10 o11 o12 o13 o14 o15 o16 o17 o18) (As := [.int (nI w), .int 0, .int 4]) (rest := []) lk_X7_45 (c_X7_in l D _ (nI w) 0 4) Foc.nil rfl hl.1 (Nat.le_of_ble_eq_true rfl) ⟨Nat.le_of_ble_eq_true rfl, Nat.le_of_ble_eq_true rfl⟩ rfl dX7_date_3 ⟨Nat.le_refl _, Nat.le_refl _⟩ (fun H locs hw => ?_)
  refine lv_if_ne (tgt := 12) hx hb dX7_date_6 (by decide) (fun _ => ?_) (fun h => absurd h (in_ok w 4 (by omega) (by decide)))
  refine lv_iload_n hx hb dX7_date_12 rfl (lv_at hl 1 rfl) ?_
  refine lv_iconst (v := 3) hx hb dX7_date_13 (by decide) ?_
  refine lv_icmp_ne (tgt := 22) hx hb dX7_date_14 (by decide) (fun _ => ?_) (fun h => absurd h (fun q => hw3 ((nI_eq (by omega) (by decide)).mp q)))
  refine lv_aload_n hx hb dX7_date_22 rfl (lv_at hl 0 rfl) ?_
  refine lv_iconst (v := 4) hx hb dX7_date_23 (by decide) ?_
  refine r_callV X hw (ws' := mW D L s o1 o2 o3 o4 o5 o6 o7 o8 o9 o10 o11 o12 o13 o14 o15 o16 o17 o18) (As := [.int 4]) (rest := []) lk_X7_78 (c_X7_wrong l D _ L s o1 o2 o3 o4 o5 o6 o7 o8 o9 o10 o11 o12 o13 o14 o15 o16 o17 o18 4 (by omega)) Foc.all (m_at 0 rfl) rfl hl.1 (Nat.le_of_ble_eq_true rfl) ⟨Nat.le_of_ble_eq_true rfl, Nat.le_of_ble_eq_true rfl⟩ rfl dX7_date_24 ⟨Nat.le_refl _, Nat.le_refl _⟩ (fun H locs hw => ?_)
  refine lv_aload_n hx hb dX7_date_27 rfl (lv_at hl 0 rfl) ?_
  refine lv_iconst (v := 5) hx hb dX7_date_28 (by decide) ?_
  refine r_callV X hw (ws' := mW D L s o1 o2 o3 o4 o5 o6 o7 o8 o9 o10 o11 o12 o13 o14 o15 o16 o17 o18) (As := [.int 5]) (rest := [.int (sp_X7_wrong s 4)]) lk_X7_78 (c_X7_wrong l D _ L s o1 o2 o3 o4 o5 o6 o7 o8 o9 o10 o11 o12 o13 o14 o15 o16 o17 o18 5 (by omega)) Foc.all (m_at 0 rfl) rfl hl.1 (Nat.le_of_ble_eq_true rfl) ⟨Nat.le_of_ble_eq_true rfl, Nat.le_of_ble_eq_true rfl⟩ rfl dX7_date_29 ⟨Nat.le_refl _, Nat.le_refl _⟩ (fun H locs hw => ?_)
  refine lv_iadd hx hb dX7_date_32 ?_
  refine lv_aload_n hx hb dX7_date_33 rfl (lv_at hl 0 rfl) ?_
  refine lv_bipush (v := 6) hx hb dX7_date_34 (by decide) ?_
  refine r_callV X hw (ws' := mW D L s o1 o2 o3 o4 o5 o6 o7 o8 o9 o10 o11 o12 o13 o14 o15 o16 o17 o18) (As := [.int 6]) (rest := [.int ((sp_X7_wrong s 4) + (sp_X7_wrong s 5))]) lk_X7_78 (c_X7_wrong l D _ L s o1 o2 o3 o4 o5 o6 o7 o8 o9 o10 o11 o12 o13 o14 o15 o16 o17 o18 6 (by omega)) Foc.all (m_at 0 rfl) rfl hl.1 (Nat.le_of_ble_eq_true rfl) ⟨Nat.le_of_ble_eq_true rfl, Nat.le_of_ble_eq_true rfl⟩ rfl dX7_date_36 ⟨Nat.le_refl _, Nat.le_refl _⟩ (fun H locs hw => ?_)
  refine lv_iadd hx hb dX7_date_39 ?_
  refine lv_if_le (tgt := 46) hx hb dX7_date_40 (by decide) (fun h => absurd h (fun q => absurd hwr (Int32.not_lt.mpr q))) (fun _ => ?_)
  refine lv_ldc (v := (-1000004)) hx hb hown (hts _ kc_X7_113) dX7_date_43 ?_
  exact r_ret X hw hk hret rfl rfl rfl dX7_date_45

noncomputable def sp_X7_date0 (s : Row) : Int32 := sp_X7_daysBehind s
set_option maxRecDepth 100000 in
set_option maxHeartbeats 4000000 in
theorem c_X7_date0 (l : Launch) (D : va_G) (sz : Nat) (L : Nat → Nat) (s : Row) (o1 : Row) (o2 : Int32) (o3 : Int32) (o4 : Row) (o5 : Row) (o6 : Row) (o7 : Int32) (o8 : Row) (o9 : Int32) (o10 : Row) (o11 : Int32) (o12 : Int32) (o13 : Int32) (o14 : Int32) (o15 : Int32) (o16 : Int32) (o17 : Row) (o18 : Row) (hwr : ¬ 0 < (sp_X7_wrong s 4 + sp_X7_wrong s 5) + sp_X7_wrong s 6) (M : Nat) (hM : sp_X7_number s 5 = nI M) (hM1 : 1 ≤ M) (hM2 : M ≤ 12) : MI l yX7_date cX7_date 3 (some .int) 6 129 D sz [.ref (L 0), .int 0] (mW D L s o1 o2 o3 o4 o5 o6 o7 o8 o9 o10 o11 o12 o13 o14 o15 o16 o17 o18) (sp_X7_date0 s) (mW D L s o1 o2 o3 o4 o5 o6 o7 o8 o9 o10 o11 o12 o13 o14 o15 o16 o17 o18) := by
  refine r_enterI (by decide) (Nat.le_of_ble_eq_true rfl) ?_
  intro p e st m args below meth c ls A X hret hk hw hl
  have X : CX D p m c cX7_date 3 st args RX7 A := X
  have hx := X.1.1
  have hb := X.1.2.1
  have hown := X.1.2.2.2.1
  have hts := X.1.2.2.2.2
  have hl : lv_has ls 3 [(0, .ref (L 0)), (1, .int 0)] := hl
  refine lv_iload_n hx hb dX7_date_0 rfl (lv_at hl 1 rfl) ?_
  refine lv_iconst (v := 0) hx hb dX7_date_1 (by decide) ?_
  refine lv_iconst (v := 4) hx hb dX7_date_2 (by decide) ?_
  refine r_callS X hw (ws' := mW D L s o1 o2 o3 o4 o5 o6 o7 o8 o9 o10 o11 o12 o13 o14 o15 o16 o17 o18) (As := [.int 0, .int 0, .int 4]) (rest := []) lk_X7_45 (c_X7_in l D _ 0 0 4) Foc.nil rfl hl.1 (Nat.le_of_ble_eq_true rfl) ⟨Nat.le_of_ble_eq_true rfl, Nat.le_of_ble_eq_true rfl⟩ rfl dX7_date_3 ⟨Nat.le_refl _, Nat.le_refl _⟩ (fun H locs hw => ?_)
  refine lv_if_ne (tgt := 12) hx hb dX7_date_6 (by decide) (fun _ => ?_) (fun h => absurd h (by decide))
  refine lv_iload_n hx hb dX7_date_12 rfl (lv_at hl 1 rfl) ?_
  refine lv_iconst (v := 3) hx hb dX7_date_13 (by decide) ?_
  refine lv_icmp_ne (tgt := 22) hx hb dX7_date_14 (by decide) (fun _ => ?_) (fun h => absurd h (by decide))
  refine lv_aload_n hx hb dX7_date_22 rfl (lv_at hl 0 rfl) ?_
  refine lv_iconst (v := 4) hx hb dX7_date_23 (by decide) ?_
  refine r_callV X hw (ws' := mW D L s o1 o2 o3 o4 o5 o6 o7 o8 o9 o10 o11 o12 o13 o14 o15 o16 o17 o18) (As := [.int 4]) (rest := []) lk_X7_78 (c_X7_wrong l D _ L s o1 o2 o3 o4 o5 o6 o7 o8 o9 o10 o11 o12 o13 o14 o15 o16 o17 o18 4 (by omega)) Foc.all (m_at 0 rfl) rfl hl.1 (Nat.le_of_ble_eq_true rfl) ⟨Nat.le_of_ble_eq_true rfl, Nat.le_of_ble_eq_true rfl⟩ rfl dX7_date_24 ⟨Nat.le_refl _, Nat.le_refl _⟩ (fun H locs hw => ?_)
  refine lv_aload_n hx hb dX7_date_27 rfl (lv_at hl 0 rfl) ?_
  refine lv_iconst (v := 5) hx hb dX7_date_28 (by decide) ?_
  refine r_callV X hw (ws' := mW D L s o1 o2 o3 o4 o5 o6 o7 o8 o9 o10 o11 o12 o13 o14 o15 o16 o17 o18) (As := [.int 5]) (rest := [.int (sp_X7_wrong s 4)]) lk_X7_78 (c_X7_wrong l D _ L s o1 o2 o3 o4 o5 o6 o7 o8 o9 o10 o11 o12 o13 o14 o15 o16 o17 o18 5 (by omega)) Foc.all (m_at 0 rfl) rfl hl.1 (Nat.le_of_ble_eq_true rfl) ⟨Nat.le_of_ble_eq_true rfl, Nat.le_of_ble_eq_true rfl⟩ rfl dX7_date_29 ⟨Nat.le_refl _, Nat.le_refl _⟩ (fun H locs hw => ?_)
  refine lv_iadd hx hb dX7_date_32 ?_
  refine lv_aload_n hx hb dX7_date_33 rfl (lv_at hl 0 rfl) ?_
  refine lv_bipush (v := 6) hx hb dX7_date_34 (by decide) ?_
  refine r_callV X hw (ws' := mW D L s o1 o2 o3 o4 o5 o6 o7 o8 o9 o10 o11 o12 o13 o14 o15 o16 o17 o18) (As := [.int 6]) (rest := [.int ((sp_X7_wrong s 4) + (sp_X7_wrong s 5))]) lk_X7_78 (c_X7_wrong l D _ L s o1 o2 o3 o4 o5 o6 o7 o8 o9 o10 o11 o12 o13 o14 o15 o16 o17 o18 6 (by omega)) Foc.all (m_at 0 rfl) rfl hl.1 (Nat.le_of_ble_eq_true rfl) ⟨Nat.le_of_ble_eq_true rfl, Nat.le_of_ble_eq_true rfl⟩ rfl dX7_date_36 ⟨Nat.le_refl _, Nat.le_refl _⟩ (fun H locs hw => ?_)
  refine lv_iadd hx hb dX7_date_39 ?_
  refine lv_if_le (tgt := 46) hx hb dX7_date_40 (by decide) (fun _ => ?_) (fun h => absurd (Int32.not_lt.mp hwr) h)
  refine lv_aload_n hx hb dX7_date_46 rfl (lv_at hl 0 rfl) ?_
  refine r_callV X hw (ws' := mW D L s o1 o2 o3 o4 o5 o6 o7 o8 o9 o10 o11 o12 o13 o14 o15 o16 o17 o18) (As := []) (rest := []) lk_X7_157 (c_X7_daysBehind l D _ L s o1 o2 o3 o4 o5 o6 o7 o8 o9 o10 o11 o12 o13 o14 o15 o16 o17 o18 M hM hM1 hM2) Foc.all (m_at 0 rfl) rfl hl.1 (Nat.le_of_ble_eq_true rfl) ⟨Nat.le_of_ble_eq_true rfl, Nat.le_of_ble_eq_true rfl⟩ rfl dX7_date_47 ⟨Nat.le_refl _, Nat.le_refl _⟩ (fun H locs hw => ?_)
  refine lv_iconst (v := 5) hx hb dX7_date_50 (by decide) ?_
  refine lv_iadd hx hb dX7_date_51 ?_
  refine lv_bipush (v := 7) hx hb dX7_date_52 (by decide) ?_
  refine lv_irem hx hb dX7_date_54 (by decide) ?_
  refine lv_iconst (v := 1) hx hb dX7_date_55 (by decide) ?_
  refine lv_iadd hx hb dX7_date_56 ?_
  refine lv_istore_n (lv' := [(2, .int ((((sp_X7_daysBehind s) + 5) - ((sp_X7_daysBehind s) + 5) / 7 * 7) + 1)), (0, .ref (L 0)), (1, .int 0)]) hx hb dX7_date_57 rfl hl (by decide) rfl (fun ls hl => ?_)
  refine lv_iload_n hx hb dX7_date_58 rfl (lv_at hl 2 rfl) ?_
  refine r_tabIn (tgt := 84) hx hb 0 rfl dX7_date_59 (by decide) (by decide) rfl (by decide) ?_
  refine lv_aload_n hx hb dX7_date_84 rfl (lv_at hl 1 rfl) ?_
  refine r_callV X hw (ws' := mW D L s o1 o2 o3 o4 o5 o6 o7 o8 o9 o10 o11 o12 o13 o14 o15 o16 o17 o18) (As := []) (rest := []) lk_X7_157 (c_X7_daysBehind l D _ L s o1 o2 o3 o4 o5 o6 o7 o8 o9 o10 o11 o12 o13 o14 o15 o16 o17 o18 M hM hM1 hM2) Foc.all (m_at 0 rfl) rfl hl.1 (Nat.le_of_ble_eq_true rfl) ⟨Nat.le_of_ble_eq_true rfl, Nat.le_of_ble_eq_true rfl⟩ rfl dX7_date_85 ⟨Nat.le_refl _, Nat.le_refl _⟩ (fun H locs hw => ?_)
  exact r_ret X hw hk hret rfl (rfl) rfl dX7_date_88

noncomputable def sp_X7_date1 (s : Row) : Int32 := (((sp_X7_daysBehind s) + 5) - ((sp_X7_daysBehind s) + 5) / 7 * 7) + 1
set_option maxRecDepth 100000 in
set_option maxHeartbeats 4000000 in
theorem c_X7_date1 (l : Launch) (D : va_G) (sz : Nat) (L : Nat → Nat) (s : Row) (o1 : Row) (o2 : Int32) (o3 : Int32) (o4 : Row) (o5 : Row) (o6 : Row) (o7 : Int32) (o8 : Row) (o9 : Int32) (o10 : Row) (o11 : Int32) (o12 : Int32) (o13 : Int32) (o14 : Int32) (o15 : Int32) (o16 : Int32) (o17 : Row) (o18 : Row) (hwr : ¬ 0 < (sp_X7_wrong s 4 + sp_X7_wrong s 5) + sp_X7_wrong s 6) (M : Nat) (hM : sp_X7_number s 5 = nI M) (hM1 : 1 ≤ M) (hM2 : M ≤ 12) : MI l yX7_date cX7_date 3 (some .int) 6 129 D sz [.ref (L 0), .int 1] (mW D L s o1 o2 o3 o4 o5 o6 o7 o8 o9 o10 o11 o12 o13 o14 o15 o16 o17 o18) (sp_X7_date1 s) (mW D L s o1 o2 o3 o4 o5 o6 o7 o8 o9 o10 o11 o12 o13 o14 o15 o16 o17 o18) := by
  refine r_enterI (by decide) (Nat.le_of_ble_eq_true rfl) ?_
  intro p e st m args below meth c ls A X hret hk hw hl
  have X : CX D p m c cX7_date 3 st args RX7 A := X
  have hx := X.1.1
  have hb := X.1.2.1
  have hown := X.1.2.2.2.1
  have hts := X.1.2.2.2.2
  have hl : lv_has ls 3 [(0, .ref (L 0)), (1, .int 1)] := hl
  refine lv_iload_n hx hb dX7_date_0 rfl (lv_at hl 1 rfl) ?_
  refine lv_iconst (v := 0) hx hb dX7_date_1 (by decide) ?_
  refine lv_iconst (v := 4) hx hb dX7_date_2 (by decide) ?_
  refine r_callS X hw (ws' := mW D L s o1 o2 o3 o4 o5 o6 o7 o8 o9 o10 o11 o12 o13 o14 o15 o16 o17 o18) (As := [.int 1, .int 0, .int 4]) (rest := []) lk_X7_45 (c_X7_in l D _ 1 0 4) Foc.nil rfl hl.1 (Nat.le_of_ble_eq_true rfl) ⟨Nat.le_of_ble_eq_true rfl, Nat.le_of_ble_eq_true rfl⟩ rfl dX7_date_3 ⟨Nat.le_refl _, Nat.le_refl _⟩ (fun H locs hw => ?_)
  refine lv_if_ne (tgt := 12) hx hb dX7_date_6 (by decide) (fun _ => ?_) (fun h => absurd h (by decide))
  refine lv_iload_n hx hb dX7_date_12 rfl (lv_at hl 1 rfl) ?_
  refine lv_iconst (v := 3) hx hb dX7_date_13 (by decide) ?_
  refine lv_icmp_ne (tgt := 22) hx hb dX7_date_14 (by decide) (fun _ => ?_) (fun h => absurd h (by decide))
  refine lv_aload_n hx hb dX7_date_22 rfl (lv_at hl 0 rfl) ?_
  refine lv_iconst (v := 4) hx hb dX7_date_23 (by decide) ?_
  refine r_callV X hw (ws' := mW D L s o1 o2 o3 o4 o5 o6 o7 o8 o9 o10 o11 o12 o13 o14 o15 o16 o17 o18) (As := [.int 4]) (rest := []) lk_X7_78 (c_X7_wrong l D _ L s o1 o2 o3 o4 o5 o6 o7 o8 o9 o10 o11 o12 o13 o14 o15 o16 o17 o18 4 (by omega)) Foc.all (m_at 0 rfl) rfl hl.1 (Nat.le_of_ble_eq_true rfl) ⟨Nat.le_of_ble_eq_true rfl, Nat.le_of_ble_eq_true rfl⟩ rfl dX7_date_24 ⟨Nat.le_refl _, Nat.le_refl _⟩ (fun H locs hw => ?_)
  refine lv_aload_n hx hb dX7_date_27 rfl (lv_at hl 0 rfl) ?_
  refine lv_iconst (v := 5) hx hb dX7_date_28 (by decide) ?_
  refine r_callV X hw (ws' := mW D L s o1 o2 o3 o4 o5 o6 o7 o8 o9 o10 o11 o12 o13 o14 o15 o16 o17 o18) (As := [.int 5]) (rest := [.int (sp_X7_wrong s 4)]) lk_X7_78 (c_X7_wrong l D _ L s o1 o2 o3 o4 o5 o6 o7 o8 o9 o10 o11 o12 o13 o14 o15 o16 o17 o18 5 (by omega)) Foc.all (m_at 0 rfl) rfl hl.1 (Nat.le_of_ble_eq_true rfl) ⟨Nat.le_of_ble_eq_true rfl, Nat.le_of_ble_eq_true rfl⟩ rfl dX7_date_29 ⟨Nat.le_refl _, Nat.le_refl _⟩ (fun H locs hw => ?_)
  refine lv_iadd hx hb dX7_date_32 ?_
  refine lv_aload_n hx hb dX7_date_33 rfl (lv_at hl 0 rfl) ?_
  refine lv_bipush (v := 6) hx hb dX7_date_34 (by decide) ?_
  refine r_callV X hw (ws' := mW D L s o1 o2 o3 o4 o5 o6 o7 o8 o9 o10 o11 o12 o13 o14 o15 o16 o17 o18) (As := [.int 6]) (rest := [.int ((sp_X7_wrong s 4) + (sp_X7_wrong s 5))]) lk_X7_78 (c_X7_wrong l D _ L s o1 o2 o3 o4 o5 o6 o7 o8 o9 o10 o11 o12 o13 o14 o15 o16 o17 o18 6 (by omega)) Foc.all (m_at 0 rfl) rfl hl.1 (Nat.le_of_ble_eq_true rfl) ⟨Nat.le_of_ble_eq_true rfl, Nat.le_of_ble_eq_true rfl⟩ rfl dX7_date_36 ⟨Nat.le_refl _, Nat.le_refl _⟩ (fun H locs hw => ?_)
  refine lv_iadd hx hb dX7_date_39 ?_
  refine lv_if_le (tgt := 46) hx hb dX7_date_40 (by decide) (fun _ => ?_) (fun h => absurd (Int32.not_lt.mp hwr) h)
  refine lv_aload_n hx hb dX7_date_46 rfl (lv_at hl 0 rfl) ?_
  refine r_callV X hw (ws' := mW D L s o1 o2 o3 o4 o5 o6 o7 o8 o9 o10 o11 o12 o13 o14 o15 o16 o17 o18) (As := []) (rest := []) lk_X7_157 (c_X7_daysBehind l D _ L s o1 o2 o3 o4 o5 o6 o7 o8 o9 o10 o11 o12 o13 o14 o15 o16 o17 o18 M hM hM1 hM2) Foc.all (m_at 0 rfl) rfl hl.1 (Nat.le_of_ble_eq_true rfl) ⟨Nat.le_of_ble_eq_true rfl, Nat.le_of_ble_eq_true rfl⟩ rfl dX7_date_47 ⟨Nat.le_refl _, Nat.le_refl _⟩ (fun H locs hw => ?_)
  refine lv_iconst (v := 5) hx hb dX7_date_50 (by decide) ?_
  refine lv_iadd hx hb dX7_date_51 ?_
  refine lv_bipush (v := 7) hx hb dX7_date_52 (by decide) ?_
  refine lv_irem hx hb dX7_date_54 (by decide) ?_
  refine lv_iconst (v := 1) hx hb dX7_date_55 (by decide) ?_
  refine lv_iadd hx hb dX7_date_56 ?_
  refine lv_istore_n (lv' := [(2, .int ((((sp_X7_daysBehind s) + 5) - ((sp_X7_daysBehind s) + 5) / 7 * 7) + 1)), (0, .ref (L 0)), (1, .int 1)]) hx hb dX7_date_57 rfl hl (by decide) rfl (fun ls hl => ?_)
  refine lv_iload_n hx hb dX7_date_58 rfl (lv_at hl 2 rfl) ?_
  refine r_tabIn (tgt := 89) hx hb 1 rfl dX7_date_59 (by decide) (by decide) rfl (by decide) ?_
  refine lv_iload_n hx hb dX7_date_89 rfl (lv_at hl 0 rfl) ?_
  exact r_ret X hw hk hret rfl (rfl) rfl dX7_date_90

noncomputable def sp_X7_date2 (s : Row) : Int32 := (if (sp_X7_number s 3) = ((((sp_X7_daysBehind s) + 5) - ((sp_X7_daysBehind s) + 5) / 7 * 7) + 1) then 1 else 0)
set_option maxRecDepth 100000 in
set_option maxHeartbeats 4000000 in
theorem c_X7_date2 (l : Launch) (D : va_G) (sz : Nat) (L : Nat → Nat) (s : Row) (o1 : Row) (o2 : Int32) (o3 : Int32) (o4 : Row) (o5 : Row) (o6 : Row) (o7 : Int32) (o8 : Row) (o9 : Int32) (o10 : Row) (o11 : Int32) (o12 : Int32) (o13 : Int32) (o14 : Int32) (o15 : Int32) (o16 : Int32) (o17 : Row) (o18 : Row) (hwr : ¬ 0 < (sp_X7_wrong s 4 + sp_X7_wrong s 5) + sp_X7_wrong s 6) (M : Nat) (hM : sp_X7_number s 5 = nI M) (hM1 : 1 ≤ M) (hM2 : M ≤ 12) : MI l yX7_date cX7_date 3 (some .int) 6 129 D sz [.ref (L 0), .int 2] (mW D L s o1 o2 o3 o4 o5 o6 o7 o8 o9 o10 o11 o12 o13 o14 o15 o16 o17 o18) (sp_X7_date2 s) (mW D L s o1 o2 o3 o4 o5 o6 o7 o8 o9 o10 o11 o12 o13 o14 o15 o16 o17 o18) := by
  refine r_enterI (by decide) (Nat.le_of_ble_eq_true rfl) ?_
  intro p e st m args below meth c ls A X hret hk hw hl
  have X : CX D p m c cX7_date 3 st args RX7 A := X
  have hx := X.1.1
  have hb := X.1.2.1
  have hown := X.1.2.2.2.1
  have hts := X.1.2.2.2.2
  have hl : lv_has ls 3 [(0, .ref (L 0)), (1, .int 2)] := hl
  refine lv_iload_n hx hb dX7_date_0 rfl (lv_at hl 1 rfl) ?_
  refine lv_iconst (v := 0) hx hb dX7_date_1 (by decide) ?_
  refine lv_iconst (v := 4) hx hb dX7_date_2 (by decide) ?_
  refine r_callS X hw (ws' := mW D L s o1 o2 o3 o4 o5 o6 o7 o8 o9 o10 o11 o12 o13 o14 o15 o16 o17 o18) (As := [.int 2, .int 0, .int 4]) (rest := []) lk_X7_45 (c_X7_in l D _ 2 0 4) Foc.nil rfl hl.1 (Nat.le_of_ble_eq_true rfl) ⟨Nat.le_of_ble_eq_true rfl, Nat.le_of_ble_eq_true rfl⟩ rfl dX7_date_3 ⟨Nat.le_refl _, Nat.le_refl _⟩ (fun H locs hw => ?_)
  refine lv_if_ne (tgt := 12) hx hb dX7_date_6 (by decide) (fun _ => ?_) (fun h => absurd h (by decide))
  refine lv_iload_n hx hb dX7_date_12 rfl (lv_at hl 1 rfl) ?_
  refine lv_iconst (v := 3) hx hb dX7_date_13 (by decide) ?_
  refine lv_icmp_ne (tgt := 22) hx hb dX7_date_14 (by decide) (fun _ => ?_) (fun h => absurd h (by decide))
  refine lv_aload_n hx hb dX7_date_22 rfl (lv_at hl 0 rfl) ?_
  refine lv_iconst (v := 4) hx hb dX7_date_23 (by decide) ?_
  refine r_callV X hw (ws' := mW D L s o1 o2 o3 o4 o5 o6 o7 o8 o9 o10 o11 o12 o13 o14 o15 o16 o17 o18) (As := [.int 4]) (rest := []) lk_X7_78 (c_X7_wrong l D _ L s o1 o2 o3 o4 o5 o6 o7 o8 o9 o10 o11 o12 o13 o14 o15 o16 o17 o18 4 (by omega)) Foc.all (m_at 0 rfl) rfl hl.1 (Nat.le_of_ble_eq_true rfl) ⟨Nat.le_of_ble_eq_true rfl, Nat.le_of_ble_eq_true rfl⟩ rfl dX7_date_24 ⟨Nat.le_refl _, Nat.le_refl _⟩ (fun H locs hw => ?_)
  refine lv_aload_n hx hb dX7_date_27 rfl (lv_at hl 0 rfl) ?_
  refine lv_iconst (v := 5) hx hb dX7_date_28 (by decide) ?_
  refine r_callV X hw (ws' := mW D L s o1 o2 o3 o4 o5 o6 o7 o8 o9 o10 o11 o12 o13 o14 o15 o16 o17 o18) (As := [.int 5]) (rest := [.int (sp_X7_wrong s 4)]) lk_X7_78 (c_X7_wrong l D _ L s o1 o2 o3 o4 o5 o6 o7 o8 o9 o10 o11 o12 o13 o14 o15 o16 o17 o18 5 (by omega)) Foc.all (m_at 0 rfl) rfl hl.1 (Nat.le_of_ble_eq_true rfl) ⟨Nat.le_of_ble_eq_true rfl, Nat.le_of_ble_eq_true rfl⟩ rfl dX7_date_29 ⟨Nat.le_refl _, Nat.le_refl _⟩ (fun H locs hw => ?_)
  refine lv_iadd hx hb dX7_date_32 ?_
  refine lv_aload_n hx hb dX7_date_33 rfl (lv_at hl 0 rfl) ?_
  refine lv_bipush (v := 6) hx hb dX7_date_34 (by decide) ?_
  refine r_callV X hw (ws' := mW D L s o1 o2 o3 o4 o5 o6 o7 o8 o9 o10 o11 o12 o13 o14 o15 o16 o17 o18) (As := [.int 6]) (rest := [.int ((sp_X7_wrong s 4) + (sp_X7_wrong s 5))]) lk_X7_78 (c_X7_wrong l D _ L s o1 o2 o3 o4 o5 o6 o7 o8 o9 o10 o11 o12 o13 o14 o15 o16 o17 o18 6 (by omega)) Foc.all (m_at 0 rfl) rfl hl.1 (Nat.le_of_ble_eq_true rfl) ⟨Nat.le_of_ble_eq_true rfl, Nat.le_of_ble_eq_true rfl⟩ rfl dX7_date_36 ⟨Nat.le_refl _, Nat.le_refl _⟩ (fun H locs hw => ?_)
  refine lv_iadd hx hb dX7_date_39 ?_
  refine lv_if_le (tgt := 46) hx hb dX7_date_40 (by decide) (fun _ => ?_) (fun h => absurd (Int32.not_lt.mp hwr) h)
  refine lv_aload_n hx hb dX7_date_46 rfl (lv_at hl 0 rfl) ?_
  refine r_callV X hw (ws' := mW D L s o1 o2 o3 o4 o5 o6 o7 o8 o9 o10 o11 o12 o13 o14 o15 o16 o17 o18) (As := []) (rest := []) lk_X7_157 (c_X7_daysBehind l D _ L s o1 o2 o3 o4 o5 o6 o7 o8 o9 o10 o11 o12 o13 o14 o15 o16 o17 o18 M hM hM1 hM2) Foc.all (m_at 0 rfl) rfl hl.1 (Nat.le_of_ble_eq_true rfl) ⟨Nat.le_of_ble_eq_true rfl, Nat.le_of_ble_eq_true rfl⟩ rfl dX7_date_47 ⟨Nat.le_refl _, Nat.le_refl _⟩ (fun H locs hw => ?_)
  refine lv_iconst (v := 5) hx hb dX7_date_50 (by decide) ?_
  refine lv_iadd hx hb dX7_date_51 ?_
  refine lv_bipush (v := 7) hx hb dX7_date_52 (by decide) ?_
  refine lv_irem hx hb dX7_date_54 (by decide) ?_
  refine lv_iconst (v := 1) hx hb dX7_date_55 (by decide) ?_
  refine lv_iadd hx hb dX7_date_56 ?_
  refine lv_istore_n (lv' := [(2, .int ((((sp_X7_daysBehind s) + 5) - ((sp_X7_daysBehind s) + 5) / 7 * 7) + 1)), (0, .ref (L 0)), (1, .int 2)]) hx hb dX7_date_57 rfl hl (by decide) rfl (fun ls hl => ?_)
  refine lv_iload_n hx hb dX7_date_58 rfl (lv_at hl 2 rfl) ?_
  refine r_tabIn (tgt := 91) hx hb 2 rfl dX7_date_59 (by decide) (by decide) rfl (by decide) ?_
  refine lv_aload_n hx hb dX7_date_91 rfl (lv_at hl 1 rfl) ?_
  refine lv_iconst (v := 3) hx hb dX7_date_92 (by decide) ?_
  refine r_callV X hw (ws' := mW D L s o1 o2 o3 o4 o5 o6 o7 o8 o9 o10 o11 o12 o13 o14 o15 o16 o17 o18) (As := [.int 3]) (rest := []) lk_X7_49 (c_X7_number l D _ L s o1 o2 o3 o4 o5 o6 o7 o8 o9 o10 o11 o12 o13 o14 o15 o16 o17 o18 3 (by omega)) Foc.all (m_at 0 rfl) rfl hl.1 (Nat.le_of_ble_eq_true rfl) ⟨Nat.le_of_ble_eq_true rfl, Nat.le_of_ble_eq_true rfl⟩ rfl dX7_date_93 ⟨Nat.le_refl _, Nat.le_refl _⟩ (fun H locs hw => ?_)
  refine lv_iload_n hx hb dX7_date_96 rfl (lv_at hl 0 rfl) ?_
  refine lv_icmp_ne (tgt := 104) hx hb dX7_date_97 (by decide) (fun c1 => ?_) (fun c1 => ?_)
  · skip
    refine lv_iconst (v := 0) hx hb dX7_date_104 (by decide) ?_
    exact r_ret X hw hk hret rfl (by unfold sp_X7_date2; rw [if_neg c1]) rfl dX7_date_105
  · skip
    refine lv_iconst (v := 1) hx hb dX7_date_100 (by decide) ?_
    refine lv_goto (tgt := 105) hx hb dX7_date_101 (by decide) ?_
    exact r_ret X hw hk hret rfl (by unfold sp_X7_date2; rw [if_pos c1]) rfl dX7_date_105

noncomputable def sp_X7_date4 (s : Row) : Int32 := (if (sp_X7_isLeap s) = 0 then 364 - (sp_X7_daysAhead s (sp_X7_isLeap s)) else 365 - (sp_X7_daysAhead s (sp_X7_isLeap s)))
set_option maxRecDepth 100000 in
set_option maxHeartbeats 4000000 in
theorem c_X7_date4 (l : Launch) (D : va_G) (sz : Nat) (L : Nat → Nat) (s : Row) (o1 : Row) (o2 : Int32) (o3 : Int32) (o4 : Row) (o5 : Row) (o6 : Row) (o7 : Int32) (o8 : Row) (o9 : Int32) (o10 : Row) (o11 : Int32) (o12 : Int32) (o13 : Int32) (o14 : Int32) (o15 : Int32) (o16 : Int32) (o17 : Row) (o18 : Row) (hwr : ¬ 0 < (sp_X7_wrong s 4 + sp_X7_wrong s 5) + sp_X7_wrong s 6) (M : Nat) (hM : sp_X7_number s 5 = nI M) (hM1 : 1 ≤ M) (hM2 : M ≤ 12) : MI l yX7_date cX7_date 3 (some .int) 6 129 D sz [.ref (L 0), .int 4] (mW D L s o1 o2 o3 o4 o5 o6 o7 o8 o9 o10 o11 o12 o13 o14 o15 o16 o17 o18) (sp_X7_date4 s) (mW D L s o1 o2 o3 o4 o5 o6 o7 o8 o9 o10 o11 o12 o13 o14 o15 o16 o17 o18) := by
  refine r_enterI (by decide) (Nat.le_of_ble_eq_true rfl) ?_
  intro p e st m args below meth c ls A X hret hk hw hl
  have X : CX D p m c cX7_date 3 st args RX7 A := X
  have hx := X.1.1
  have hb := X.1.2.1
  have hown := X.1.2.2.2.1
  have hts := X.1.2.2.2.2
  have hl : lv_has ls 3 [(0, .ref (L 0)), (1, .int 4)] := hl
  refine lv_iload_n hx hb dX7_date_0 rfl (lv_at hl 1 rfl) ?_
  refine lv_iconst (v := 0) hx hb dX7_date_1 (by decide) ?_
  refine lv_iconst (v := 4) hx hb dX7_date_2 (by decide) ?_
  refine r_callS X hw (ws' := mW D L s o1 o2 o3 o4 o5 o6 o7 o8 o9 o10 o11 o12 o13 o14 o15 o16 o17 o18) (As := [.int 4, .int 0, .int 4]) (rest := []) lk_X7_45 (c_X7_in l D _ 4 0 4) Foc.nil rfl hl.1 (Nat.le_of_ble_eq_true rfl) ⟨Nat.le_of_ble_eq_true rfl, Nat.le_of_ble_eq_true rfl⟩ rfl dX7_date_3 ⟨Nat.le_refl _, Nat.le_refl _⟩ (fun H locs hw => ?_)
  refine lv_if_ne (tgt := 12) hx hb dX7_date_6 (by decide) (fun _ => ?_) (fun h => absurd h (by decide))
  refine lv_iload_n hx hb dX7_date_12 rfl (lv_at hl 1 rfl) ?_
  refine lv_iconst (v := 3) hx hb dX7_date_13 (by decide) ?_
  refine lv_icmp_ne (tgt := 22) hx hb dX7_date_14 (by decide) (fun _ => ?_) (fun h => absurd h (by decide))
  refine lv_aload_n hx hb dX7_date_22 rfl (lv_at hl 0 rfl) ?_
  refine lv_iconst (v := 4) hx hb dX7_date_23 (by decide) ?_
  refine r_callV X hw (ws' := mW D L s o1 o2 o3 o4 o5 o6 o7 o8 o9 o10 o11 o12 o13 o14 o15 o16 o17 o18) (As := [.int 4]) (rest := []) lk_X7_78 (c_X7_wrong l D _ L s o1 o2 o3 o4 o5 o6 o7 o8 o9 o10 o11 o12 o13 o14 o15 o16 o17 o18 4 (by omega)) Foc.all (m_at 0 rfl) rfl hl.1 (Nat.le_of_ble_eq_true rfl) ⟨Nat.le_of_ble_eq_true rfl, Nat.le_of_ble_eq_true rfl⟩ rfl dX7_date_24 ⟨Nat.le_refl _, Nat.le_refl _⟩ (fun H locs hw => ?_)
  refine lv_aload_n hx hb dX7_date_27 rfl (lv_at hl 0 rfl) ?_
  refine lv_iconst (v := 5) hx hb dX7_date_28 (by decide) ?_
  refine r_callV X hw (ws' := mW D L s o1 o2 o3 o4 o5 o6 o7 o8 o9 o10 o11 o12 o13 o14 o15 o16 o17 o18) (As := [.int 5]) (rest := [.int (sp_X7_wrong s 4)]) lk_X7_78 (c_X7_wrong l D _ L s o1 o2 o3 o4 o5 o6 o7 o8 o9 o10 o11 o12 o13 o14 o15 o16 o17 o18 5 (by omega)) Foc.all (m_at 0 rfl) rfl hl.1 (Nat.le_of_ble_eq_true rfl) ⟨Nat.le_of_ble_eq_true rfl, Nat.le_of_ble_eq_true rfl⟩ rfl dX7_date_29 ⟨Nat.le_refl _, Nat.le_refl _⟩ (fun H locs hw => ?_)
  refine lv_iadd hx hb dX7_date_32 ?_
  refine lv_aload_n hx hb dX7_date_33 rfl (lv_at hl 0 rfl) ?_
  refine lv_bipush (v := 6) hx hb dX7_date_34 (by decide) ?_
  refine r_callV X hw (ws' := mW D L s o1 o2 o3 o4 o5 o6 o7 o8 o9 o10 o11 o12 o13 o14 o15 o16 o17 o18) (As := [.int 6]) (rest := [.int ((sp_X7_wrong s 4) + (sp_X7_wrong s 5))]) lk_X7_78 (c_X7_wrong l D _ L s o1 o2 o3 o4 o5 o6 o7 o8 o9 o10 o11 o12 o13 o14 o15 o16 o17 o18 6 (by omega)) Foc.all (m_at 0 rfl) rfl hl.1 (Nat.le_of_ble_eq_true rfl) ⟨Nat.le_of_ble_eq_true rfl, Nat.le_of_ble_eq_true rfl⟩ rfl dX7_date_36 ⟨Nat.le_refl _, Nat.le_refl _⟩ (fun H locs hw => ?_)
  refine lv_iadd hx hb dX7_date_39 ?_
  refine lv_if_le (tgt := 46) hx hb dX7_date_40 (by decide) (fun _ => ?_) (fun h => absurd (Int32.not_lt.mp hwr) h)
  refine lv_aload_n hx hb dX7_date_46 rfl (lv_at hl 0 rfl) ?_
  refine r_callV X hw (ws' := mW D L s o1 o2 o3 o4 o5 o6 o7 o8 o9 o10 o11 o12 o13 o14 o15 o16 o17 o18) (As := []) (rest := []) lk_X7_157 (c_X7_daysBehind l D _ L s o1 o2 o3 o4 o5 o6 o7 o8 o9 o10 o11 o12 o13 o14 o15 o16 o17 o18 M hM hM1 hM2) Foc.all (m_at 0 rfl) rfl hl.1 (Nat.le_of_ble_eq_true rfl) ⟨Nat.le_of_ble_eq_true rfl, Nat.le_of_ble_eq_true rfl⟩ rfl dX7_date_47 ⟨Nat.le_refl _, Nat.le_refl _⟩ (fun H locs hw => ?_)
  refine lv_iconst (v := 5) hx hb dX7_date_50 (by decide) ?_
  refine lv_iadd hx hb dX7_date_51 ?_
  refine lv_bipush (v := 7) hx hb dX7_date_52 (by decide) ?_
  refine lv_irem hx hb dX7_date_54 (by decide) ?_
  refine lv_iconst (v := 1) hx hb dX7_date_55 (by decide) ?_
  refine lv_iadd hx hb dX7_date_56 ?_
  refine lv_istore_n (lv' := [(2, .int ((((sp_X7_daysBehind s) + 5) - ((sp_X7_daysBehind s) + 5) / 7 * 7) + 1)), (0, .ref (L 0)), (1, .int 4)]) hx hb dX7_date_57 rfl hl (by decide) rfl (fun ls hl => ?_)
  refine lv_iload_n hx hb dX7_date_58 rfl (lv_at hl 2 rfl) ?_
  refine lv_tableOut (tgt := 106) hx hb dX7_date_59 (by decide) (by decide) ?_
  refine lv_aload_n hx hb dX7_date_106 rfl (lv_at hl 1 rfl) ?_
  refine r_callV X hw (ws' := mW D L s o1 o2 o3 o4 o5 o6 o7 o8 o9 o10 o11 o12 o13 o14 o15 o16 o17 o18) (As := []) (rest := []) lk_X7_66 (c_X7_isLeap l D _ L s o1 o2 o3 o4 o5 o6 o7 o8 o9 o10 o11 o12 o13 o14 o15 o16 o17 o18) Foc.all (m_at 0 rfl) rfl hl.1 (Nat.le_of_ble_eq_true rfl) ⟨Nat.le_of_ble_eq_true rfl, Nat.le_of_ble_eq_true rfl⟩ rfl dX7_date_107 ⟨Nat.le_refl _, Nat.le_refl _⟩ (fun H locs hw => ?_)
  refine lv_if_eq (tgt := 119) hx hb dX7_date_110 (by decide) (fun c1 => ?_) (fun c1 => ?_)
  · skip
    refine lv_sipush (v := 364) hx hb dX7_date_119 (by decide) ?_
    refine lv_aload_n hx hb dX7_date_122 rfl (lv_at hl 1 rfl) ?_
    refine lv_aload_n hx hb dX7_date_123 rfl (lv_at hl 1 rfl) ?_
    refine r_callV X hw (ws' := mW D L s o1 o2 o3 o4 o5 o6 o7 o8 o9 o10 o11 o12 o13 o14 o15 o16 o17 o18) (As := []) (rest := [.ref (L 0), .int 364]) lk_X7_66 (c_X7_isLeap l D _ L s o1 o2 o3 o4 o5 o6 o7 o8 o9 o10 o11 o12 o13 o14 o15 o16 o17 o18) Foc.all (m_at 0 rfl) rfl hl.1 (Nat.le_of_ble_eq_true rfl) ⟨Nat.le_of_ble_eq_true rfl, Nat.le_of_ble_eq_true rfl⟩ rfl dX7_date_124 ⟨Nat.le_refl _, Nat.le_refl _⟩ (fun H locs hw => ?_)
    refine r_callV X hw (ws' := mW D L s o1 o2 o3 o4 o5 o6 o7 o8 o9 o10 o11 o12 o13 o14 o15 o16 o17 o18) (As := [.int (sp_X7_isLeap s)]) (rest := [.int 364]) lk_X7_153 (c_X7_daysAhead l D _ L s o1 o2 o3 o4 o5 o6 o7 o8 o9 o10 o11 o12 o13 o14 o15 o16 o17 o18 (sp_X7_isLeap s) M hM hM1 hM2) Foc.all (m_at 0 rfl) rfl hl.1 (Nat.le_of_ble_eq_true rfl) ⟨Nat.le_of_ble_eq_true rfl, Nat.le_of_ble_eq_true rfl⟩ rfl dX7_date_127 ⟨Nat.le_refl _, Nat.le_refl _⟩ (fun H locs hw => ?_)
    refine lv_isub hx hb dX7_date_130 ?_
    exact r_ret X hw hk hret rfl (by unfold sp_X7_date4; rw [if_pos c1]) rfl dX7_date_131
  · skip
    refine lv_sipush (v := 365) hx hb dX7_date_113 (by decide) ?_
    refine lv_goto (tgt := 122) hx hb dX7_date_116 (by decide) ?_
    refine lv_aload_n hx hb dX7_date_122 rfl (lv_at hl 1 rfl) ?_
    refine lv_aload_n hx hb dX7_date_123 rfl (lv_at hl 1 rfl) ?_
    refine r_callV X hw (ws' := mW D L s o1 o2 o3 o4 o5 o6 o7 o8 o9 o10 o11 o12 o13 o14 o15 o16 o17 o18) (As := []) (rest := [.ref (L 0), .int 365]) lk_X7_66 (c_X7_isLeap l D _ L s o1 o2 o3 o4 o5 o6 o7 o8 o9 o10 o11 o12 o13 o14 o15 o16 o17 o18) Foc.all (m_at 0 rfl) rfl hl.1 (Nat.le_of_ble_eq_true rfl) ⟨Nat.le_of_ble_eq_true rfl, Nat.le_of_ble_eq_true rfl⟩ rfl dX7_date_124 ⟨Nat.le_refl _, Nat.le_refl _⟩ (fun H locs hw => ?_)
    refine r_callV X hw (ws' := mW D L s o1 o2 o3 o4 o5 o6 o7 o8 o9 o10 o11 o12 o13 o14 o15 o16 o17 o18) (As := [.int (sp_X7_isLeap s)]) (rest := [.int 365]) lk_X7_153 (c_X7_daysAhead l D _ L s o1 o2 o3 o4 o5 o6 o7 o8 o9 o10 o11 o12 o13 o14 o15 o16 o17 o18 (sp_X7_isLeap s) M hM hM1 hM2) Foc.all (m_at 0 rfl) rfl hl.1 (Nat.le_of_ble_eq_true rfl) ⟨Nat.le_of_ble_eq_true rfl, Nat.le_of_ble_eq_true rfl⟩ rfl dX7_date_127 ⟨Nat.le_refl _, Nat.le_refl _⟩ (fun H locs hw => ?_)
    refine lv_isub hx hb dX7_date_130 ?_
    exact r_ret X hw hk hret rfl (by unfold sp_X7_date4; rw [if_neg c1]) rfl dX7_date_131

set_option maxRecDepth 100000 in
set_option maxHeartbeats 4000000 in
theorem c_X7_date_bad (l : Launch) (D : va_G) (sz : Nat) (L : Nat → Nat) (o0 : Row) (o1 : Row) (o2 : Int32) (o3 : Int32) (o4 : Row) (o5 : Row) (o6 : Row) (o7 : Int32) (o8 : Row) (o9 : Int32) (o10 : Row) (o11 : Int32) (o12 : Int32) (o13 : Int32) (o14 : Int32) (o15 : Int32) (o16 : Int32) (o17 : Row) (o18 : Row) (a1 : Int32) (hbad : ¬ (¬ sp_X7_in a1 0 4 = 0)) : MI l yX7_date cX7_date 3 (some .int) 1 22 D sz [.ref (L 0), .int a1] (mW D L o0 o1 o2 o3 o4 o5 o6 o7 o8 o9 o10 o11 o12 o13 o14 o15 o16 o17 o18) (-1000001) (mW D L o0 o1 o2 o3 o4 o5 o6 o7 o8 o9 o10 o11 o12 o13 o14 o15 o16 o17 o18) := by
  refine r_enterI (by decide) (Nat.le_of_ble_eq_true rfl) ?_
  intro p e st m args below meth c ls A X hret hk hw hl
  have X : CX D p m c cX7_date 3 st args RX7 A := X
  have hx := X.1.1
  have hb := X.1.2.1
  have hown := X.1.2.2.2.1
  have hts := X.1.2.2.2.2
  have hl : lv_has ls 3 [(0, .ref (L 0)), (1, .int a1)] := hl
  refine lv_iload_n hx hb dX7_date_0 rfl (lv_at hl 1 rfl) ?_
  refine lv_iconst (v := 0) hx hb dX7_date_1 (by decide) ?_
  refine lv_iconst (v := 4) hx hb dX7_date_2 (by decide) ?_
  refine r_callS X hw (ws' := mW D L o0 o1 o2 o3 o4 o5 o6 o7 o8 o9 o10 o11 o12 o13 o14 o15 o16 o17 o18) (As := [.int a1, .int 0, .int 4]) (rest := []) lk_X7_45 (c_X7_in l D _ a1 0 4) Foc.nil rfl hl.1 (Nat.le_of_ble_eq_true rfl) ⟨Nat.le_of_ble_eq_true rfl, Nat.le_of_ble_eq_true rfl⟩ rfl dX7_date_3 ⟨Nat.le_refl _, Nat.le_refl _⟩ (fun H locs hw => ?_)
  refine lv_if_ne (tgt := 12) hx hb dX7_date_6 (by decide) (fun c1 => ?_) (fun c1 => ?_)
  · skip
    exact absurd c1 hbad
  · skip
    refine lv_ldc (v := (-1000001)) hx hb hown (hts _ kc_X7_106) dX7_date_9 ?_
    exact r_ret X hw hk hret rfl rfl rfl dX7_date_11

set_option maxRecDepth 100000 in
set_option maxHeartbeats 4000000 in
theorem c_X7_log_ok (l : Launch) (D : va_G) (sz : Nat) (L : Nat → Nat) (s : Row) (o1 : Row) (o2 : Int32) (o3 : Int32) (o4 : Row) (o5 : Row) (o6 : Row) (o7 : Int32) (o8 : Row) (o9 : Int32) (o10 : Row) (o11 : Int32) (o12 : Int32) (o13 : Int32) (o14 : Int32) (o15 : Int32) (o16 : Int32) (o17 : Row) (o18 : Row) (k w : Nat) (hk : k < 2147483648) (hw10 : w < 10) (g : Nat) (hg6 : g ≤ 6) (hg : s 36 = nI g) (hkg : k < g) : MI l yX7_log cX7_log 3 (some .int) 1 22 D sz [.ref (L 0), .int (nI k), .int (nI w)] (mW D L s o1 o2 o3 o4 o5 o6 o7 o8 o9 o10 o11 o12 o13 o14 o15 o16 o17 o18) (s (67 + 10 * k + w)) (mW D L s o1 o2 o3 o4 o5 o6 o7 o8 o9 o10 o11 o12 o13 o14 o15 o16 o17 o18) := by
  refine r_enterI (by decide) (Nat.le_of_ble_eq_true rfl) ?_
  intro p e st m args below meth c ls A X hret hk hw hl
  have X : CX D p m c cX7_log 3 st args RX7 A := X
  have hx := X.1.1
  have hb := X.1.2.1
  have hown := X.1.2.2.2.1
  have hts := X.1.2.2.2.2
  have hl : lv_has ls 3 [(0, .ref (L 0)), (1, .int (nI k)), (2, .int (nI w))] := hl
  refine lv_iload_n hx hb dX7_log_0 rfl (lv_at hl 1 rfl) ?_
  refine lv_if_lt (tgt := 14) hx hb dX7_log_1 (by decide) (fun h => absurd h (nI_pos (by omega))) (fun _ => ?_)
  refine lv_iload_n hx hb dX7_log_4 rfl (lv_at hl 2 rfl) ?_
  refine lv_iconst (v := 0) hx hb dX7_log_5 (by decide) ?_
  refine lv_bipush (v := 9) hx hb dX7_log_6 (by decide) ?_
  refine r_callS X hw (ws' := mW D L s o1 o2 o3 o4 o5 o6 o7 o8 o9 o10 o11 o12 o13 o14 o15 o16 o17 o18) (As := [.int (nI w), .int 0, .int 9]) (rest := []) lk_X7_45 (c_X7_in l D _ (nI w) 0 9) Foc.nil rfl hl.1 (Nat.le_of_ble_eq_true rfl) ⟨Nat.le_of_ble_eq_true rfl, Nat.le_of_ble_eq_true rfl⟩ rfl dX7_log_8 ⟨Nat.le_refl _, Nat.le_refl _⟩ (fun H locs hw => ?_)
  refine lv_if_ne (tgt := 17) hx hb dX7_log_11 (by decide) (fun _ => ?_) (fun h => absurd h (in_ok w 9 (by omega) (by decide)))
  refine lv_iload_n hx hb dX7_log_17 rfl (lv_at hl 1 rfl) ?_
  refine lv_aload_n hx hb dX7_log_18 rfl (lv_at hl 0 rfl) ?_
  refine r_get X hw (v := .ref (L 1)) fl_X7_7 (m_at 0 rfl) rfl dX7_log_19 ?_
  refine lv_bipush (v := 36) hx hb dX7_log_22 (by decide) ?_
  refine r_iald X hw (f := s) 36 (m_at 1 rfl) rfl (by decide) (by decide) dX7_log_24 ?_
  rw [hg]
  refine r_geN (tgt := 45) hx hb k g rfl rfl (by omega) (by omega) dX7_log_25 (by decide) (fun c1 => absurd c1 (by omega)) (fun c1 => ?_)
  refine lv_aload_n hx hb dX7_log_28 rfl (lv_at hl 0 rfl) ?_
  refine r_get X hw (v := .ref (L 1)) fl_X7_7 (m_at 0 rfl) rfl dX7_log_29 ?_
  refine lv_bipush (v := 67) hx hb dX7_log_32 (by decide) ?_
  refine lv_bipush (v := 10) hx hb dX7_log_34 (by decide) ?_
  refine lv_iload_n hx hb dX7_log_36 rfl (lv_at hl 1 rfl) ?_
  refine r_mulN hx hb 10 k rfl rfl dX7_log_37 ?_
  refine r_addN hx hb 67 (10 * k) rfl rfl dX7_log_38 ?_
  refine lv_iload_n hx hb dX7_log_39 rfl (lv_at hl 2 rfl) ?_
  refine r_addN hx hb (67 + (10 * k)) w rfl rfl dX7_log_40 ?_
  refine r_iald X hw (f := s) (67 + (10 * k) + w) (m_at 1 rfl) rfl (by omega) (by decide) dX7_log_41 ?_
  refine lv_goto (tgt := 47) hx hb dX7_log_42 (by decide) ?_
  exact r_ret X hw hk hret rfl rfl rfl dX7_log_47

set_option maxRecDepth 100000 in
set_option maxHeartbeats 4000000 in
theorem c_X7_log_nf (l : Launch) (D : va_G) (sz : Nat) (L : Nat → Nat) (s : Row) (o1 : Row) (o2 : Int32) (o3 : Int32) (o4 : Row) (o5 : Row) (o6 : Row) (o7 : Int32) (o8 : Row) (o9 : Int32) (o10 : Row) (o11 : Int32) (o12 : Int32) (o13 : Int32) (o14 : Int32) (o15 : Int32) (o16 : Int32) (o17 : Row) (o18 : Row) (k w : Nat) (hk : k < 2147483648) (hw10 : w < 10) (g : Nat) (hg6 : g ≤ 6) (hg : s 36 = nI g) (hkg : g ≤ k) : MI l yX7_log cX7_log 3 (some .int) 1 22 D sz [.ref (L 0), .int (nI k), .int (nI w)] (mW D L s o1 o2 o3 o4 o5 o6 o7 o8 o9 o10 o11 o12 o13 o14 o15 o16 o17 o18) (-1000004) (mW D L s o1 o2 o3 o4 o5 o6 o7 o8 o9 o10 o11 o12 o13 o14 o15 o16 o17 o18) := by
  refine r_enterI (by decide) (Nat.le_of_ble_eq_true rfl) ?_
  intro p e st m args below meth c ls A X hret hk hw hl
  have X : CX D p m c cX7_log 3 st args RX7 A := X
  have hx := X.1.1
  have hb := X.1.2.1
  have hown := X.1.2.2.2.1
  have hts := X.1.2.2.2.2
  have hl : lv_has ls 3 [(0, .ref (L 0)), (1, .int (nI k)), (2, .int (nI w))] := hl
  refine lv_iload_n hx hb dX7_log_0 rfl (lv_at hl 1 rfl) ?_
  refine lv_if_lt (tgt := 14) hx hb dX7_log_1 (by decide) (fun h => absurd h (nI_pos (by omega))) (fun _ => ?_)
  refine lv_iload_n hx hb dX7_log_4 rfl (lv_at hl 2 rfl) ?_
  refine lv_iconst (v := 0) hx hb dX7_log_5 (by decide) ?_
  refine lv_bipush (v := 9) hx hb dX7_log_6 (by decide) ?_
  refine r_callS X hw (ws' := mW D L s o1 o2 o3 o4 o5 o6 o7 o8 o9 o10 o11 o12 o13 o14 o15 o16 o17 o18) (As := [.int (nI w), .int 0, .int 9]) (rest := []) lk_X7_45 (c_X7_in l D _ (nI w) 0 9) Foc.nil rfl hl.1 (Nat.le_of_ble_eq_true rfl) ⟨Nat.le_of_ble_eq_true rfl, Nat.le_of_ble_eq_true rfl⟩ rfl dX7_log_8 ⟨Nat.le_refl _, Nat.le_refl _⟩ (fun H locs hw => ?_)
  refine lv_if_ne (tgt := 17) hx hb dX7_log_11 (by decide) (fun _ => ?_) (fun h => absurd h (in_ok w 9 (by omega) (by decide)))
  refine lv_iload_n hx hb dX7_log_17 rfl (lv_at hl 1 rfl) ?_
  refine lv_aload_n hx hb dX7_log_18 rfl (lv_at hl 0 rfl) ?_
  refine r_get X hw (v := .ref (L 1)) fl_X7_7 (m_at 0 rfl) rfl dX7_log_19 ?_
  refine lv_bipush (v := 36) hx hb dX7_log_22 (by decide) ?_
  refine r_iald X hw (f := s) 36 (m_at 1 rfl) rfl (by decide) (by decide) dX7_log_24 ?_
  rw [hg]
  refine r_geN (tgt := 45) hx hb k g rfl rfl (by omega) (by omega) dX7_log_25 (by decide) (fun c1 => ?_) (fun c1 => absurd c1 (by omega))
  refine lv_ldc (v := (-1000004)) hx hb hown (hts _ kc_X7_113) dX7_log_45 ?_
  exact r_ret X hw hk hret rfl rfl rfl dX7_log_47

set_option maxRecDepth 100000 in
set_option maxHeartbeats 4000000 in
theorem c_X7_log_bad (l : Launch) (D : va_G) (sz : Nat) (L : Nat → Nat) (o0 : Row) (o1 : Row) (o2 : Int32) (o3 : Int32) (o4 : Row) (o5 : Row) (o6 : Row) (o7 : Int32) (o8 : Row) (o9 : Int32) (o10 : Row) (o11 : Int32) (o12 : Int32) (o13 : Int32) (o14 : Int32) (o15 : Int32) (o16 : Int32) (o17 : Row) (o18 : Row) (a1 a2 : Int32) (hbad : ¬ ((¬ a1 < 0) ∧ ¬ sp_X7_in a2 0 9 = 0)) : MI l yX7_log cX7_log 3 (some .int) 1 22 D sz [.ref (L 0), .int a1, .int a2] (mW D L o0 o1 o2 o3 o4 o5 o6 o7 o8 o9 o10 o11 o12 o13 o14 o15 o16 o17 o18) (-1000001) (mW D L o0 o1 o2 o3 o4 o5 o6 o7 o8 o9 o10 o11 o12 o13 o14 o15 o16 o17 o18) := by
  refine r_enterI (by decide) (Nat.le_of_ble_eq_true rfl) ?_
  intro p e st m args below meth c ls A X hret hk hw hl
  have X : CX D p m c cX7_log 3 st args RX7 A := X
  have hx := X.1.1
  have hb := X.1.2.1
  have hown := X.1.2.2.2.1
  have hts := X.1.2.2.2.2
  have hl : lv_has ls 3 [(0, .ref (L 0)), (1, .int a1), (2, .int a2)] := hl
  refine lv_iload_n hx hb dX7_log_0 rfl (lv_at hl 1 rfl) ?_
  refine lv_if_lt (tgt := 14) hx hb dX7_log_1 (by decide) (fun c1 => ?_) (fun c1 => ?_)
  · skip
    refine lv_ldc (v := (-1000001)) hx hb hown (hts _ kc_X7_106) dX7_log_14 ?_
    exact r_ret X hw hk hret rfl rfl rfl dX7_log_16
  · skip
    refine lv_iload_n hx hb dX7_log_4 rfl (lv_at hl 2 rfl) ?_
    refine lv_iconst (v := 0) hx hb dX7_log_5 (by decide) ?_
    refine lv_bipush (v := 9) hx hb dX7_log_6 (by decide) ?_
    refine r_callS X hw (ws' := mW D L o0 o1 o2 o3 o4 o5 o6 o7 o8 o9 o10 o11 o12 o13 o14 o15 o16 o17 o18) (As := [.int a2, .int 0, .int 9]) (rest := []) lk_X7_45 (c_X7_in l D _ a2 0 9) Foc.nil rfl hl.1 (Nat.le_of_ble_eq_true rfl) ⟨Nat.le_of_ble_eq_true rfl, Nat.le_of_ble_eq_true rfl⟩ rfl dX7_log_8 ⟨Nat.le_refl _, Nat.le_refl _⟩ (fun H locs hw => ?_)
    refine lv_if_ne (tgt := 17) hx hb dX7_log_11 (by decide) (fun c2 => ?_) (fun c2 => ?_)
    · skip
      exact absurd ⟨c1, c2⟩ hbad
    · skip
      refine lv_ldc (v := (-1000001)) hx hb hown (hts _ kc_X7_106) dX7_log_14 ?_
      exact r_ret X hw hk hret rfl rfl rfl dX7_log_16

/-- how many registers can be read ahead of the next tick -/
def rblR (p q z : Nat) : Nat → Nat → Nat
  | 0, n => n
  | f + 1, n => if z ≤ p + n * q then n else rblR p q z f (n + 1)

set_option maxRecDepth 100000 in
set_option maxHeartbeats 4000000 in
theorem c_X7_readable (l : Launch) (D : va_G) (sz : Nat) (L : Nat → Nat) (s : Row) (o1 : Row) (o2 : Int32) (o3 : Int32) (o4 : Row) (o5 : Row) (o6 : Row) (o7 : Int32) (o8 : Row) (o9 : Int32) (o10 : Row) (o11 : Int32) (o12 : Int32) (o13 : Int32) (o14 : Int32) (o15 : Int32) (o16 : Int32) (o17 : Row) (o18 : Row) (pp z q : Nat) (hok : rOK s pp z q) : MI l yX7_readable cX7_readable 2 (some .int) 0 0 D sz [.ref (L 0)] (mW D L s o1 o2 o3 o4 o5 o6 o7 o8 o9 o10 o11 o12 o13 o14 o15 o16 o17 o18) (nI (rblR pp q z 6 1)) (mW D L s o1 o2 o3 o4 o5 o6 o7 o8 o9 o10 o11 o12 o13 o14 o15 o16 o17 o18) := by
  refine r_enterI (by decide) (Nat.le_of_ble_eq_true rfl) ?_
  intro p e st m args below meth c ls A X hret hk hw hl
  have X : CX D p m c cX7_readable 2 st args RX7 A := X
  have hx := X.1.1
  have hb := X.1.2.1
  have hown := X.1.2.2.2.1
  have hts := X.1.2.2.2.2
  have hl : lv_has ls 2 [(0, .ref (L 0))] := hl
  obtain ⟨hz60, hq8⟩ := hok.2.2.2.2.2
  obtain ⟨fin, hfin⟩ : ∃ y, y = rblR pp q z 6 1 := ⟨_, rfl⟩
  have hpz := hok.2.2.2.1
  refine lv_iconst (v := 1) hx hb dX7_readable_0 (by decide) ?_
  refine lv_istore_n (lv' := [(1, .int 1), (0, .ref (L 0))]) hx hb dX7_readable_1 rfl hl (by decide) rfl (fun ls hl => ?_)
  have key2 : ∀ (n2 : Nat) (n : Nat), (1 ≤ n) → (n ≤ 7) → (7 - n < n2) → (rblR pp q z (7 - n) n = fin) → ∀ (H : Heap) (locs : List Loc) (ls : Array Slot), Wd D A st.heap H locs (mW D L s o1 o2 o3 o4 o5 o6 o7 o8 o9 o10 o11 o12 o13 o14 o15 o16 o17 o18) → lv_has ls 2 [(0, .ref (L 0)), (1, .int (nI n))] → W p l e (rmOf 0 0 0 0) st m args below meth c H locs 0 0 (QI below args st D A (nI (rblR pp q z 6 1)) (mW D L s o1 o2 o3 o4 o5 o6 o7 o8 o9 o10 o11 o12 o13 o14 o15 o16 o17 o18)) (F0 m 2 ls []) := by
    intro n2
    induction n2 with
    | zero => intro n hn1 hn7 hm hq; omega
    | succ n2 ih2 =>
      intro n hn1 hn7 hm hq H locs ls hw hl
      have hnq : n * q ≤ 7 * 8 := Nat.mul_le_mul hn7 hq8
      refine lv_iload_n hx hb dX7_readable_2 rfl (lv_at hl 1 rfl) ?_
      refine lv_bipush (v := 7) hx hb dX7_readable_3 (by decide) ?_
      refine r_geN (tgt := 41) hx hb n 7 rfl rfl (by omega) (by omega) dX7_readable_5 (by decide) (fun c1 => ?_) (fun c1 => ?_)
      · skip
        refine lv_iload_n hx hb dX7_readable_41 rfl (lv_at hl 1 rfl) ?_
        exact r_ret X hw hk hret rfl (by rw [show 7 - n = 0 from by omega] at hq; unfold rblR at hq; rw [← hfin, ← hq]) rfl dX7_readable_42
      · skip
        refine lv_aload_n hx hb dX7_readable_8 rfl (lv_at hl 0 rfl) ?_
        refine r_get X hw (v := .ref (L 1)) fl_X7_7 (m_at 0 rfl) rfl dX7_readable_9 ?_
        refine lv_bipush (v := 28) hx hb dX7_readable_12 (by decide) ?_
        refine r_iald X hw (f := s) 28 (m_at 1 rfl) rfl (by decide) (by decide) dX7_readable_14 ?_
        rw [hok.1]
        refine lv_iload_n hx hb dX7_readable_15 rfl (lv_at hl 1 rfl) ?_
        refine lv_aload_n hx hb dX7_readable_16 rfl (lv_at hl 0 rfl) ?_
        refine r_get X hw (v := .ref (L 1)) fl_X7_7 (m_at 0 rfl) rfl dX7_readable_17 ?_
        refine lv_bipush (v := 37) hx hb dX7_readable_20 (by decide) ?_
        refine r_iald X hw (f := s) 37 (m_at 1 rfl) rfl (by decide) (by decide) dX7_readable_22 ?_
        rw [hok.2.2.1]
        refine r_mulN hx hb n q rfl rfl dX7_readable_23 ?_
        refine r_addN hx hb pp (n * q) rfl rfl dX7_readable_24 ?_
        refine lv_aload_n hx hb dX7_readable_25 rfl (lv_at hl 0 rfl) ?_
        refine r_get X hw (v := .ref (L 1)) fl_X7_7 (m_at 0 rfl) rfl dX7_readable_26 ?_
        refine lv_bipush (v := 39) hx hb dX7_readable_29 (by decide) ?_
        refine r_iald X hw (f := s) 39 (m_at 1 rfl) rfl (by decide) (by decide) dX7_readable_31 ?_
        rw [hok.2.1]
        refine r_geN (tgt := 41) hx hb (pp + (n * q)) z rfl rfl (by omega) (by omega) dX7_readable_32 (by decide) (fun c2 => ?_) (fun c2 => ?_)
        · skip
          refine lv_iload_n hx hb dX7_readable_41 rfl (lv_at hl 1 rfl) ?_
          exact r_ret X hw hk hret rfl (by rw [show 7 - n = (7 - (n + 1)) + 1 from by omega] at hq; unfold rblR at hq; rw [if_pos c2] at hq; rw [← hfin, ← hq]) rfl dX7_readable_42
        · skip
          refine r_iincN (lv' := [(1, .int (nI (n + 1))), (0, .ref (L 0))]) hx hb n 1 rfl dX7_readable_35 hl (k := 1) rfl rfl (by decide) rfl (fun ls hl => ?_)
          refine lv_goto (tgt := 2) hx hb dX7_readable_38 (by decide) ?_
          exact ih2 (n + 1) (by omega) (by omega) (by omega) (by rw [show 7 - n = (7 - (n + 1)) + 1 from by omega] at hq; unfold rblR at hq; rw [if_neg (Nat.not_le.mpr c2)] at hq; exact hq) _ _ _ hw (lv_sub hl [1, 0] rfl)
  exact key2 7 1 (by omega) (by omega) (by omega) hfin.symm _ _ _ hw (lv_sub hl [1, 0] rfl)

noncomputable def sp_X7_safeIn (pp z q : Nat) : Int32 := (if z ≤ (pp + (6 * q)) then (if z ≤ (6 * q) then (-1000004) else nI (z - pp)) else 0)
set_option maxRecDepth 100000 in
set_option maxHeartbeats 4000000 in
theorem c_X7_safeIn (l : Launch) (D : va_G) (sz : Nat) (L : Nat → Nat) (s : Row) (o1 : Row) (o2 : Int32) (o3 : Int32) (o4 : Row) (o5 : Row) (o6 : Row) (o7 : Int32) (o8 : Row) (o9 : Int32) (o10 : Row) (o11 : Int32) (o12 : Int32) (o13 : Int32) (o14 : Int32) (o15 : Int32) (o16 : Int32) (o17 : Row) (o18 : Row) (pp z q : Nat) (hok : rOK s pp z q) : MI l yX7_safeIn cX7_safeIn 2 (some .int) 0 0 D sz [.ref (L 0)] (mW D L s o1 o2 o3 o4 o5 o6 o7 o8 o9 o10 o11 o12 o13 o14 o15 o16 o17 o18) (sp_X7_safeIn pp z q) (mW D L s o1 o2 o3 o4 o5 o6 o7 o8 o9 o10 o11 o12 o13 o14 o15 o16 o17 o18) := by
  refine r_enterI (by decide) (Nat.le_of_ble_eq_true rfl) ?_
  intro p e st m args below meth c ls A X hret hk hw hl
  have X : CX D p m c cX7_safeIn 2 st args RX7 A := X
  have hx := X.1.1
  have hb := X.1.2.1
  have hown := X.1.2.2.2.1
  have hts := X.1.2.2.2.2
  have hl : lv_has ls 2 [(0, .ref (L 0))] := hl
  obtain ⟨hz60, hq8⟩ := hok.2.2.2.2.2
  have hpz := hok.2.2.2.1
  refine lv_bipush (v := 6) hx hb dX7_safeIn_0 (by decide) ?_
  refine lv_aload_n hx hb dX7_safeIn_2 rfl (lv_at hl 0 rfl) ?_
  refine r_get X hw (v := .ref (L 1)) fl_X7_7 (m_at 0 rfl) rfl dX7_safeIn_3 ?_
  refine lv_bipush (v := 37) hx hb dX7_safeIn_6 (by decide) ?_
  refine r_iald X hw (f := s) 37 (m_at 1 rfl) rfl (by decide) (by decide) dX7_safeIn_8 ?_
  rw [hok.2.2.1]
  refine r_mulN hx hb 6 q rfl rfl dX7_safeIn_9 ?_
  refine lv_istore_n (lv' := [(1, .int (nI (6 * q))), (0, .ref (L 0))]) hx hb dX7_safeIn_10 rfl hl (by decide) rfl (fun ls hl => ?_)
  refine lv_aload_n hx hb dX7_safeIn_11 rfl (lv_at hl 1 rfl) ?_
  refine r_get X hw (v := .ref (L 1)) fl_X7_7 (m_at 0 rfl) rfl dX7_safeIn_12 ?_
  refine lv_bipush (v := 28) hx hb dX7_safeIn_15 (by decide) ?_
  refine r_iald X hw (f := s) 28 (m_at 1 rfl) rfl (by decide) (by decide) dX7_safeIn_17 ?_
  rw [hok.1]
  refine lv_iload_n hx hb dX7_safeIn_18 rfl (lv_at hl 0 rfl) ?_
  refine r_addN hx hb pp (6 * q) rfl rfl dX7_safeIn_19 ?_
  refine lv_aload_n hx hb dX7_safeIn_20 rfl (lv_at hl 1 rfl) ?_
  refine r_get X hw (v := .ref (L 1)) fl_X7_7 (m_at 0 rfl) rfl dX7_safeIn_21 ?_
  refine lv_bipush (v := 39) hx hb dX7_safeIn_24 (by decide) ?_
  refine r_iald X hw (f := s) 39 (m_at 1 rfl) rfl (by decide) (by decide) dX7_safeIn_26 ?_
  rw [hok.2.1]
  refine r_geN (tgt := 32) hx hb (pp + (6 * q)) z rfl rfl (by omega) (by omega) dX7_safeIn_27 (by decide) (fun c1 => ?_) (fun c1 => ?_)
  · skip
    refine lv_iload_n hx hb dX7_safeIn_32 rfl (lv_at hl 0 rfl) ?_
    refine lv_aload_n hx hb dX7_safeIn_33 rfl (lv_at hl 1 rfl) ?_
    refine r_get X hw (v := .ref (L 1)) fl_X7_7 (m_at 0 rfl) rfl dX7_safeIn_34 ?_
    refine lv_bipush (v := 39) hx hb dX7_safeIn_37 (by decide) ?_
    refine r_iald X hw (f := s) 39 (m_at 1 rfl) rfl (by decide) (by decide) dX7_safeIn_39 ?_
    rw [hok.2.1]
    refine r_geN (tgt := 61) hx hb (6 * q) z rfl rfl (by omega) (by omega) dX7_safeIn_40 (by decide) (fun c2 => ?_) (fun c2 => ?_)
    · skip
      refine lv_ldc (v := (-1000004)) hx hb hown (hts _ kc_X7_113) dX7_safeIn_61 ?_
      exact r_ret X hw hk hret rfl (by unfold sp_X7_safeIn; rw [if_pos c1]; rw [if_pos c2]) rfl dX7_safeIn_63
    · skip
      refine lv_aload_n hx hb dX7_safeIn_43 rfl (lv_at hl 1 rfl) ?_
      refine r_get X hw (v := .ref (L 1)) fl_X7_7 (m_at 0 rfl) rfl dX7_safeIn_44 ?_
      refine lv_bipush (v := 39) hx hb dX7_safeIn_47 (by decide) ?_
      refine r_iald X hw (f := s) 39 (m_at 1 rfl) rfl (by decide) (by decide) dX7_safeIn_49 ?_
      rw [hok.2.1]
      refine lv_aload_n hx hb dX7_safeIn_50 rfl (lv_at hl 1 rfl) ?_
      refine r_get X hw (v := .ref (L 1)) fl_X7_7 (m_at 0 rfl) rfl dX7_safeIn_51 ?_
      refine lv_bipush (v := 28) hx hb dX7_safeIn_54 (by decide) ?_
      refine r_iald X hw (f := s) 28 (m_at 1 rfl) rfl (by decide) (by decide) dX7_safeIn_56 ?_
      rw [hok.1]
      refine r_subN hx hb z pp rfl rfl (by omega) dX7_safeIn_57 ?_
      refine lv_goto (tgt := 63) hx hb dX7_safeIn_58 (by decide) ?_
      exact r_ret X hw hk hret rfl (by unfold sp_X7_safeIn; rw [if_pos c1]; rw [if_neg (Nat.not_le.mpr c2)]) rfl dX7_safeIn_63
  · skip
    refine lv_iconst (v := 0) hx hb dX7_safeIn_30 (by decide) ?_
    exact r_ret X hw hk hret rfl (by unfold sp_X7_safeIn; rw [if_neg (Nat.not_le.mpr c1)]) rfl dX7_safeIn_31

noncomputable def wrN (s : Row) : Nat → Int32
  | 0 => 0
  | i + 1 => wrN s i ||| (if sp_X7_wrong s i ≤ 0 then 0 else (1 : Int32) <<< (nI i &&& 31))

set_option maxRecDepth 100000 in
set_option maxHeartbeats 4000000 in
theorem c_X7_wrongOnes (l : Launch) (D : va_G) (sz : Nat) (L : Nat → Nat) (s : Row) (o1 : Row) (o2 : Int32) (o3 : Int32) (o4 : Row) (o5 : Row) (o6 : Row) (o7 : Int32) (o8 : Row) (o9 : Int32) (o10 : Row) (o11 : Int32) (o12 : Int32) (o13 : Int32) (o14 : Int32) (o15 : Int32) (o16 : Int32) (o17 : Row) (o18 : Row) : MI l yX7_wrongOnes cX7_wrongOnes 3 (some .int) 6 129 D sz [.ref (L 0)] (mW D L s o1 o2 o3 o4 o5 o6 o7 o8 o9 o10 o11 o12 o13 o14 o15 o16 o17 o18) (wrN s 7) (mW D L s o1 o2 o3 o4 o5 o6 o7 o8 o9 o10 o11 o12 o13 o14 o15 o16 o17 o18) := by
  refine r_enterI (by decide) (Nat.le_of_ble_eq_true rfl) ?_
  intro p e st m args below meth c ls A X hret hk hw hl
  have X : CX D p m c cX7_wrongOnes 3 st args RX7 A := X
  have hx := X.1.1
  have hb := X.1.2.1
  have hown := X.1.2.2.2.1
  have hts := X.1.2.2.2.2
  have hl : lv_has ls 3 [(0, .ref (L 0))] := hl
  refine lv_iconst (v := 0) hx hb dX7_wrongOnes_0 (by decide) ?_
  refine lv_istore_n (lv' := [(1, .int 0), (0, .ref (L 0))]) hx hb dX7_wrongOnes_1 rfl hl (by decide) rfl (fun ls hl => ?_)
  refine lv_iconst (v := 0) hx hb dX7_wrongOnes_2 (by decide) ?_
  refine lv_istore_n (lv' := [(2, .int 0), (1, .int 0), (0, .ref (L 0))]) hx hb dX7_wrongOnes_3 rfl hl (by decide) rfl (fun ls hl => ?_)
  have key4 : ∀ (n4 : Nat) (i : Nat) (x : Int32), (i ≤ 7) → (7 - i < n4) → (x = wrN s i) → ∀ (H : Heap) (locs : List Loc) (ls : Array Slot), Wd D A st.heap H locs (mW D L s o1 o2 o3 o4 o5 o6 o7 o8 o9 o10 o11 o12 o13 o14 o15 o16 o17 o18) → lv_has ls 3 [(0, .ref (L 0)), (1, .int x), (2, .int (nI i))] → W p l e (rmOf 6 0 0 129) st m args below meth c H locs 0 0 (QI below args st D A (wrN s 7) (mW D L s o1 o2 o3 o4 o5 o6 o7 o8 o9 o10 o11 o12 o13 o14 o15 o16 o17 o18)) (F0 m 4 ls []) := by
    intro n4
    induction n4 with
    | zero => intro i x hi hm hx0; omega
    | succ n4 ih4 =>
      intro i x hi hm hx0 H locs ls hw hl
      refine lv_iload_n hx hb dX7_wrongOnes_4 rfl (lv_at hl 2 rfl) ?_
      refine lv_bipush (v := 7) hx hb dX7_wrongOnes_5 (by decide) ?_
      refine r_geN (tgt := 34) hx hb i 7 rfl rfl (by omega) (by omega) dX7_wrongOnes_7 (by decide) (fun c1 => ?_) (fun c1 => ?_)
      · skip
        refine lv_iload_n hx hb dX7_wrongOnes_34 rfl (lv_at hl 1 rfl) ?_
        exact r_ret X hw hk hret rfl (by rw [hx0, show i = 7 from by omega]) rfl dX7_wrongOnes_35
      · skip
        refine lv_iload_n hx hb dX7_wrongOnes_10 rfl (lv_at hl 1 rfl) ?_
        refine lv_aload_n hx hb dX7_wrongOnes_11 rfl (lv_at hl 0 rfl) ?_
        refine lv_iload_n hx hb dX7_wrongOnes_12 rfl (lv_at hl 2 rfl) ?_
        refine r_callV X hw (ws' := mW D L s o1 o2 o3 o4 o5 o6 o7 o8 o9 o10 o11 o12 o13 o14 o15 o16 o17 o18) (As := [.int (nI i)]) (rest := [.int x]) lk_X7_78 (c_X7_wrong l D _ L s o1 o2 o3 o4 o5 o6 o7 o8 o9 o10 o11 o12 o13 o14 o15 o16 o17 o18 i (by omega)) Foc.all (m_at 0 rfl) rfl hl.1 (Nat.le_of_ble_eq_true rfl) ⟨Nat.le_of_ble_eq_true rfl, Nat.le_of_ble_eq_true rfl⟩ rfl dX7_wrongOnes_13 ⟨Nat.le_refl _, Nat.le_refl _⟩ (fun H locs hw => ?_)
        refine lv_if_le (tgt := 25) hx hb dX7_wrongOnes_16 (by decide) (fun c2 => ?_) (fun c2 => ?_)
        · skip
          refine lv_iconst (v := 0) hx hb dX7_wrongOnes_25 (by decide) ?_
          refine lv_ior hx hb dX7_wrongOnes_26 ?_
          refine lv_istore_n (lv' := [(1, .int (x ||| 0)), (0, .ref (L 0)), (2, .int (nI i))]) hx hb dX7_wrongOnes_27 rfl hl (by decide) rfl (fun ls hl => ?_)
          refine r_iincN (lv' := [(2, .int (nI (i + 1))), (1, .int (x ||| 0)), (0, .ref (L 0))]) hx hb i 1 rfl dX7_wrongOnes_28 hl (k := 2) rfl rfl (by decide) rfl (fun ls hl => ?_)
          refine lv_goto (tgt := 4) hx hb dX7_wrongOnes_31 (by decide) ?_
          exact ih4 (i + 1) (x ||| 0) (by omega) (by omega) (by show _ = wrN s i ||| _; rw [if_pos c2]; rw [hx0]) _ _ _ hw (lv_sub hl [2, 1, 0] rfl)
        · skip
          refine lv_iconst (v := 1) hx hb dX7_wrongOnes_19 (by decide) ?_
          refine lv_iload_n hx hb dX7_wrongOnes_20 rfl (lv_at hl 2 rfl) ?_
          refine lv_ishl hx hb dX7_wrongOnes_21 ?_
          refine lv_goto (tgt := 26) hx hb dX7_wrongOnes_22 (by decide) ?_
          refine lv_ior hx hb dX7_wrongOnes_26 ?_
          refine lv_istore_n (lv' := [(1, .int (x ||| ((1 : Int32) <<< ((nI i) &&& 31)))), (0, .ref (L 0)), (2, .int (nI i))]) hx hb dX7_wrongOnes_27 rfl hl (by decide) rfl (fun ls hl => ?_)
          refine r_iincN (lv' := [(2, .int (nI (i + 1))), (1, .int (x ||| ((1 : Int32) <<< ((nI i) &&& 31)))), (0, .ref (L 0))]) hx hb i 1 rfl dX7_wrongOnes_28 hl (k := 2) rfl rfl (by decide) rfl (fun ls hl => ?_)
          refine lv_goto (tgt := 4) hx hb dX7_wrongOnes_31 (by decide) ?_
          exact ih4 (i + 1) (x ||| ((1 : Int32) <<< ((nI i) &&& 31))) (by omega) (by omega) (by show _ = wrN s i ||| _; rw [if_neg c2]; rw [hx0]) _ _ _ hw (lv_sub hl [2, 1, 0] rfl)
  exact key4 8 0 0 (by omega) (by omega) rfl _ _ _ hw (lv_sub hl [2, 1, 0] rfl)
