/-! the object at a call; what is right of small numbers; questions -/
theorem OB_mem (D : va_G) (o : Nat) (z : OX) (s : ChS) : (o, .inr (6, [.ref (z.2.2.1 0), .ref (z.2.2.2.2.2.1 0), .ref (z.2.2.2.2.2.2.2.2.2.2.2.1), .ref (z.2.2.2.2.2.2.2.2.2.2.2.2.2.2.2.2.1), .ref (z.1), .int (nI (z.2.2.2.2.2.2.2.2.2.2.2.2.2.2.2.2.2.2.2.2.2.2.2.2.2.2.2.2.2.2)), .ref (z.2.1), .int (nI (z.2.2.2.2.2.2.2.2.2.2.2.2.2.2.2.2.2.2.2.1))])) ∈ OB D o z s := m_fl 0 rfl (m_fl 0 rfl (m_at 0 rfl))
theorem fl_drop {a b x : va_W} : ∃ r9, (([a, b, x] : List va_W).flatten).Perm (([a, b] : List va_W).flatten ++ r9) := ⟨x, by simp [List.flatten_cons, List.append_assoc]⟩
theorem isR {i : Nat} (h : i < 7) : ¬ sp_X6_isRegister (nI i) = 0 := (show ∀ i : Fin 7, ¬ sp_X6_isRegister (nI i.1) = 0 from by decide +kernel) ⟨i, h⟩
theorem isA {i : Nat} (h : i < 3) : ¬ sp_X6_isAlarm (nI i) = 0 := (show ∀ i : Fin 3, ¬ sp_X6_isAlarm (nI i.1) = 0 from by decide +kernel) ⟨i, h⟩
section RDV
variable {p : Program} {l : Launch} {e : Env} {R : Room} {s : State} {m : MethodId} {args : Array Value} {below : List Frame} {meth : Method} {c : Code} {H : Heap} {locs : List Loc} {cells slots : Nat} {Q : State → Prop}
variable {cc : ByteArray} {pc : Nat} {ls : Array Slot} {rest : List Value} {x y : Int32}
theorem r_divN (hx : p.tables.exec = Jvm.exec) (hb : c.code = cc) (i j : Nat) (ex : x = nI i) (ey : y = nI j) (hi : i < 2147483648) (h0 : 0 < j) (hj : j < 2147483648) (hdg : decode cc pc = .ok (.idiv, 1)) (k : W p l e R s m args below meth c H locs cells slots Q (F0 m (pc + 1) ls (.int (nI (i / j)) :: rest))) : W p l e R s m args below meth c H locs cells slots Q (F0 m pc ls (.int y :: .int x :: rest)) := by
  subst ex; subst ey
  exact lv_idiv hx hb hdg (fun h => absurd ((nI_eq hj (by decide)).mp (h.trans (show (0 : Int32) = nI 0 from rfl))) (by omega)) (by rw [pk_div hi h0 hj]; exact k)
theorem r_remN (hx : p.tables.exec = Jvm.exec) (hb : c.code = cc) (i j : Nat) (ex : x = nI i) (ey : y = nI j) (hi : i < 2147483648) (h0 : 0 < j) (hj : j < 2147483648) (hdg : decode cc pc = .ok (.irem, 1)) (k : W p l e R s m args below meth c H locs cells slots Q (F0 m (pc + 1) ls (.int (nI (i % j)) :: rest))) : W p l e R s m args below meth c H locs cells slots Q (F0 m pc ls (.int y :: .int x :: rest)) := by
  subst ex; subst ey
  exact lv_irem hx hb hdg (fun h => absurd ((nI_eq hj (by decide)).mp (h.trans (show (0 : Int32) = nI 0 from rfl))) (by omega)) (by rw [pk_rem hi h0 hj]; exact k)
end RDV
theorem bc_all : ∀ b : Fin 256, sp_J6_bitCount_0f7a4 (nI b.1) = btN (nI b.1) 8 := by decide +kernel
theorem bc_eq {x : Int32} (h : byte x) : sp_J6_bitCount_0f7a4 x = btN x 8 := by
  obtain ⟨b, hb, rfl⟩ := h
  exact bc_all ⟨b, hb⟩
/-- the alarms' flags so far -/
def flN (xa : Row) : Nat → Int32
  | 0 => 0
  | k + 1 => flN xa k ||| xa (9 * k + 7) <<< ((nI k) &&& 31)

theorem flag_all : ∀ fb : Fin 8, ((0 ||| sp_X6_bitOf (nI fb.1) 0 <<< ((nI 0) &&& 31)) ||| sp_X6_bitOf (nI fb.1) (nI 1) <<< ((nI 1) &&& 31)) ||| sp_X6_bitOf (nI fb.1) (nI 2) <<< ((nI 2) &&& 31) = nI fb.1 := by decide +kernel
theorem LR.flags {K : Nat} {xb xg : Row} {s : ChS} {y : LRs} (h : LR K xb xg s y) : s.fl = flN y.2.2.2 3 := by
  obtain ⟨-, ⟨-, ⟨fb, hfb, h2⟩, -, h4⟩, -, -⟩ := h
  have a0 := (h4 0 (by decide)).2.2.2.1
  have a1 := (h4 1 (by decide)).2.2.2.1
  have a2 := (h4 2 (by decide)).2.2.2.1
  show s.fl = ((0 ||| y.2.2.2 (9 * 0 + 7) <<< ((nI 0) &&& 31)) ||| y.2.2.2 (9 * 1 + 7) <<< ((nI 1) &&& 31)) ||| y.2.2.2 (9 * 2 + 7) <<< ((nI 2) &&& 31)
  rw [← a0, ← a1, ← a2, h2]
  exact (flag_all ⟨fb, hfb⟩).symm
theorem wL_pos {b fi ln : Int32} : wL b fi ln ≤ 0 ↔ wL b fi ln = 0 := by
  unfold wL
  (repeat' split) <;> decide
theorem LR.c11 {K : Nat} {xb xg : Row} {s : ChS} {y : LRs} (h : LR K xb xg s y) (hK : K < 1000) : s.zs = if 6 ≤ y.2.2.1 5 then 6 else y.2.2.1 5 := by
  obtain ⟨-, -, ⟨a, B, h1, h2, h3, h4, h5⟩, hT⟩ := h
  have e : y.2.2.1 5 = nI B := hT.2.2.2.2.2.2.2.2.1.symm.trans h4
  rw [h3, e]
  have q : (6 : Int32) ≤ nI B ↔ 6 ≤ B := nI_leI (a := 6) (by decide) (by omega)
  by_cases c : B < 6
  · rw [if_pos c, if_neg (fun w => by have := q.mp w; omega)]
  · rw [if_neg c, if_pos (q.mpr (by omega))]
    rfl

set_option maxRecDepth 100000 in
set_option maxHeartbeats 4000000 in
theorem c_L_areAlarms (l : Launch) (D : va_G) (sz : Nat) (o : Nat) (z : OX) (s : ChS) (kv kt ka : Nat) (xv xt xa : Row) (xb xg xn : Row) (K : Nat) (hL : LR K xb xg s (xv, xn, xt, xa)) (hz : zOK z) : MI l yL_areAlarms cL_areAlarms 8 (some .boolean) 3 68 D sz [.ref o, .ref kv, .ref kt, .ref ka] (([OB D o z s, [(kv, .inl (D.1 100, 7, .inl xv)), (kt, .inl (D.1 100, 11, .inl xt)), (ka, .inl (D.1 100, 27, .inl xa))]] : List va_W).flatten) 1 (([OB D o z s, [(kv, .inl (D.1 100, 7, .inl xv)), (kt, .inl (D.1 100, 11, .inl xt)), (ka, .inl (D.1 100, 27, .inl xa))]] : List va_W).flatten) := by
  refine r_enterI (by decide) (Nat.le_of_ble_eq_true rfl) ?_
  intro p e st m args below meth c ls A X hret hk hw hl
  have X : CX D p m c cL_areAlarms 8 st args RL A := X
  have hx := X.1.1
  have hb := X.1.2.1
  have hown := X.1.2.2.2.1
  have hts := X.1.2.2.2.2
  have hl : lv_has ls 8 [(0, .ref o), (1, .ref kv), (2, .ref kt), (3, .ref ka)] := hl
  refine lv_iconst (v := 0) hx hb dL_areAlarms_0 (by decide) ?_
  refine lv_istore (lv' := [(4, .int 0), (0, .ref o), (1, .ref kv), (2, .ref kt), (3, .ref ka)]) hx hb dL_areAlarms_1 hl (by decide) rfl (fun ls hl => ?_)
  refine lv_iconst (v := 1) hx hb dL_areAlarms_3 (by decide) ?_
  refine lv_istore (lv' := [(5, .int 1), (4, .int 0), (0, .ref o), (1, .ref kv), (2, .ref kt), (3, .ref ka)]) hx hb dL_areAlarms_4 hl (by decide) rfl (fun ls hl => ?_)
  refine lv_iconst (v := 0) hx hb dL_areAlarms_6 (by decide) ?_
  refine lv_istore (lv' := [(6, .int 0), (5, .int 1), (4, .int 0), (0, .ref o), (1, .ref kv), (2, .ref kt), (3, .ref ka)]) hx hb dL_areAlarms_7 hl (by decide) rfl (fun ls hl => ?_)
  have key9 : ∀ (n9 : Nat) (k : Nat) (x4 : Int32), (k ≤ 3) → (3 - k < n9) → (x4 = flN xa k) → ∀ (H : Heap) (locs : List Loc) (ls : Array Slot), Wd D A st.heap H locs (([OB D o z s, [(kv, .inl (D.1 100, 7, .inl xv)), (kt, .inl (D.1 100, 11, .inl xt)), (ka, .inl (D.1 100, 27, .inl xa))]] : List va_W).flatten) → lv_has ls 8 [(0, .ref o), (1, .ref kv), (2, .ref kt), (3, .ref ka), (4, .int x4), (5, .int 1), (6, .int (nI k))] → W p l e (rmOf 3 0 0 68) st m args below meth c H locs 0 0 (QI below args st D A 1 (([OB D o z s, [(kv, .inl (D.1 100, 7, .inl xv)), (kt, .inl (D.1 100, 11, .inl xt)), (ka, .inl (D.1 100, 27, .inl xa))]] : List va_W).flatten)) (F0 m 9 ls []) := by
    intro n9
    induction n9 with
    | zero => intro k x4 hk3 hm hx4; omega
    | succ n9 ih9 =>
      intro k x4 hk3 hm hx4 H locs ls hw hl
      refine lv_iload hx hb dL_areAlarms_9 (lv_at hl 6 rfl) ?_
      refine lv_iconst (v := 3) hx hb dL_areAlarms_11 (by decide) ?_
      refine r_geN (tgt := 131) hx hb k 3 rfl rfl (by omega) (by omega) dL_areAlarms_12 (by decide) (fun c1 => ?_) (fun c1 => ?_)
      · skip
        refine lv_iload hx hb dL_areAlarms_131 (lv_at hl 5 rfl) ?_
        refine lv_if_eq (tgt := 162) hx hb dL_areAlarms_133 (by decide) (fun h => absurd h (by decide)) (fun _ => ?_)
        refine lv_aload_n hx hb dL_areAlarms_136 rfl (lv_at hl 0 rfl) ?_
        refine lv_iconst (v := 3) hx hb dL_areAlarms_137 (by decide) ?_
        refine r_callV X hw (ws' := ([OB D o z s, [(kv, .inl (D.1 100, 7, .inl xv)), (kt, .inl (D.1 100, 11, .inl xt)), (ka, .inl (D.1 100, 27, .inl xa))]] : List va_W).flatten) (As := [.int 3]) (rest := []) lk_L_69 (k_count3 l D _ o z s hz) (Foc.at1 0 rfl rfl (ce rfl rfl)) (m_fl 0 rfl (OB_mem D o z s)) rfl hl.1 (Nat.le_of_ble_eq_true rfl) ⟨Nat.le_of_ble_eq_true rfl, Nat.le_of_ble_eq_true rfl⟩ rfl dL_areAlarms_138 ⟨Nat.le_refl _, Nat.le_refl _⟩ (fun H locs hw => ?_)
        refine lv_iload hx hb dL_areAlarms_141 (lv_at hl 4 rfl) ?_
        refine lv_icmp_ne (tgt := 162) hx hb dL_areAlarms_143 (by decide) (fun h => absurd (by rw [hx4, show k = 3 from by omega]; exact hL.flags) h) (fun _ => ?_)
        refine lv_aload_n hx hb dL_areAlarms_146 rfl (lv_at hl 0 rfl) ?_
        refine lv_iconst (v := 4) hx hb dL_areAlarms_147 (by decide) ?_
        refine r_callV X hw (ws' := ([OB D o z s, [(kv, .inl (D.1 100, 7, .inl xv)), (kt, .inl (D.1 100, 11, .inl xt)), (ka, .inl (D.1 100, 27, .inl xa))]] : List va_W).flatten) (As := [.int 4]) (rest := []) lk_L_69 (k_count4 l D _ o z s hz) (Foc.at1 0 rfl rfl (ce rfl rfl)) (m_fl 0 rfl (OB_mem D o z s)) rfl hl.1 (Nat.le_of_ble_eq_true rfl) ⟨Nat.le_of_ble_eq_true rfl, Nat.le_of_ble_eq_true rfl⟩ rfl dL_areAlarms_148 ⟨Nat.le_refl _, Nat.le_refl _⟩ (fun H locs hw => ?_)
        refine lv_aload_n hx hb dL_areAlarms_151 rfl (lv_at hl 2 rfl) ?_
        refine lv_bipush (v := 7) hx hb dL_areAlarms_152 (by decide) ?_
        refine r_iald X hw (f := xt) 7 (m_fl 1 rfl (m_at 1 rfl)) rfl (by decide) (by decide) dL_areAlarms_154 ?_
        refine lv_icmp_ne (tgt := 162) hx hb dL_areAlarms_155 (by decide) (fun h => absurd hL.2.1.2.2.1 h) (fun _ => ?_)
        refine lv_iconst (v := 1) hx hb dL_areAlarms_158 (by decide) ?_
        refine lv_goto (tgt := 163) hx hb dL_areAlarms_159 (by decide) ?_
        exact r_ret X hw hk hret rfl rfl rfl dL_areAlarms_163
      · skip
        refine lv_iload hx hb dL_areAlarms_15 (lv_at hl 5 rfl) ?_
        refine lv_if_eq (tgt := 131) hx hb dL_areAlarms_17 (by decide) (fun h => absurd h (by decide)) (fun _ => ?_)
        refine lv_iload hx hb dL_areAlarms_20 (lv_at hl 4 rfl) ?_
        refine lv_aload_n hx hb dL_areAlarms_22 rfl (lv_at hl 3 rfl) ?_
        refine lv_bipush (v := 9) hx hb dL_areAlarms_23 (by decide) ?_
        refine lv_iload hx hb dL_areAlarms_25 (lv_at hl 6 rfl) ?_
        refine r_mulN hx hb 9 k rfl rfl dL_areAlarms_27 ?_
        refine lv_bipush (v := 7) hx hb dL_areAlarms_28 (by decide) ?_
        refine r_addN hx hb (9 * k) 7 rfl rfl dL_areAlarms_30 ?_
        refine r_iald X hw (f := xa) (9 * k + 7) (m_fl 1 rfl (m_at 2 rfl)) rfl (by omega) (by decide) dL_areAlarms_31 ?_
        refine lv_iload hx hb dL_areAlarms_32 (lv_at hl 6 rfl) ?_
        refine lv_ishl hx hb dL_areAlarms_34 ?_
        refine lv_ior hx hb dL_areAlarms_35 ?_
        refine lv_istore (lv' := [(4, .int (x4 ||| ((xa (9 * k + 7)) <<< ((nI k) &&& 31)))), (0, .ref o), (1, .ref kv), (2, .ref kt), (3, .ref ka), (5, .int 1), (6, .int (nI k))]) hx hb dL_areAlarms_36 hl (by decide) rfl (fun ls hl => ?_)
        refine lv_iconst (v := 0) hx hb dL_areAlarms_38 (by decide) ?_
        refine lv_istore (lv' := [(7, .int 0), (4, .int (x4 ||| ((xa (9 * k + 7)) <<< ((nI k) &&& 31)))), (0, .ref o), (1, .ref kv), (2, .ref kt), (3, .ref ka), (5, .int 1), (6, .int (nI k))]) hx hb dL_areAlarms_39 hl (by decide) rfl (fun ls hl => ?_)
        refine lv_iload hx hb dL_areAlarms_41 (lv_at hl 0 rfl) ?_
        refine lv_bipush (v := 9) hx hb dL_areAlarms_43 (by decide) ?_
        refine lv_icmp_ge (tgt := 87) hx hb dL_areAlarms_45 (by decide) (fun h => absurd h (by decide)) (fun _ => ?_)
        refine lv_iload hx hb dL_areAlarms_48 (lv_at hl 6 rfl) ?_
        refine lv_if_eq (tgt := 78) hx hb dL_areAlarms_50 (by decide) (fun h => absurd h (by decide)) (fun _ => ?_)
        refine lv_aload_n hx hb dL_areAlarms_53 rfl (lv_at hl 2 rfl) ?_
        refine lv_iload hx hb dL_areAlarms_54 (lv_at hl 7 rfl) ?_
        refine lv_iload hx hb dL_areAlarms_56 (lv_at hl 0 rfl) ?_
        refine r_callV X hw (ws' := ([OB D o z s, [(kv, .inl (D.1 100, 7, .inl xv)), (kt, .inl (D.1 100, 11, .inl xt)), (ka, .inl (D.1 100, 27, .inl xa))]] : List va_W).flatten) (As := [.int (nI k), .int 0]) (rest := []) lk_L_75 (k_alarmOf0 l D _ o z s hz k (by omega) (isA (by omega))) (Foc.at1 0 rfl rfl (ce rfl rfl)) (m_fl 0 rfl (OB_mem D o z s)) rfl hl.1 (Nat.le_of_ble_eq_true rfl) ⟨Nat.le_of_ble_eq_true rfl, Nat.le_of_ble_eq_true rfl⟩ rfl dL_areAlarms_58 ⟨Nat.le_refl _, Nat.le_refl _⟩ (fun H locs hw => ?_)
        refine lv_aload_n hx hb dL_areAlarms_61 rfl (lv_at hl 5 rfl) ?_
        refine lv_bipush (v := 9) hx hb dL_areAlarms_62 (by decide) ?_
        refine lv_iload hx hb dL_areAlarms_64 (lv_at hl 7 rfl) ?_
        refine r_mulN hx hb 9 k rfl rfl dL_areAlarms_66 ?_
        refine lv_iload hx hb dL_areAlarms_67 (lv_at hl 0 rfl) ?_
        refine r_addN hx hb (9 * k) 0 rfl rfl dL_areAlarms_69 ?_
        refine r_iald X hw (f := xa) (9 * k + 0) (m_fl 1 rfl (m_at 2 rfl)) rfl (by omega) (by decide) dL_areAlarms_70 ?_
        refine lv_icmp_ne (tgt := 78) hx hb dL_areAlarms_71 (by decide) (fun h => absurd ((hL.2.1.2.2.2 k (by omega)).1 0 (by decide)).1 h) (fun _ => ?_)
        refine lv_iconst (v := 1) hx hb dL_areAlarms_74 (by decide) ?_
        refine lv_goto (tgt := 79) hx hb dL_areAlarms_75 (by decide) ?_
        refine lv_istore (lv' := [(5, .int 1), (7, .int 0), (4, .int (x4 ||| ((xa (9 * k + 7)) <<< ((nI k) &&& 31)))), (0, .ref o), (1, .ref kv), (2, .ref kt), (3, .ref ka), (6, .int (nI k))]) hx hb dL_areAlarms_79 hl (by decide) rfl (fun ls hl => ?_)
        refine r_iincN (lv' := [(7, .int 1), (5, .int 1), (4, .int (x4 ||| ((xa (9 * k + 7)) <<< ((nI k) &&& 31)))), (0, .ref o), (1, .ref kv), (2, .ref kt), (3, .ref ka), (6, .int (nI k))]) hx hb 0 1 rfl dL_areAlarms_81 hl (k := 1) rfl rfl (by decide) rfl (fun ls hl => ?_)
        refine lv_goto (tgt := 41) hx hb dL_areAlarms_84 (by decide) ?_
        refine lv_iload hx hb dL_areAlarms_41 (lv_at hl 0 rfl) ?_
        refine lv_bipush (v := 9) hx hb dL_areAlarms_43 (by decide) ?_
        refine lv_icmp_ge (tgt := 87) hx hb dL_areAlarms_45 (by decide) (fun h => absurd h (by decide)) (fun _ => ?_)
        refine lv_iload hx hb dL_areAlarms_48 (lv_at hl 1 rfl) ?_
        refine lv_if_eq (tgt := 78) hx hb dL_areAlarms_50 (by decide) (fun h => absurd h (by decide)) (fun _ => ?_)
        refine lv_aload_n hx hb dL_areAlarms_53 rfl (lv_at hl 3 rfl) ?_
        refine lv_iload hx hb dL_areAlarms_54 (lv_at hl 7 rfl) ?_
        refine lv_iload hx hb dL_areAlarms_56 (lv_at hl 0 rfl) ?_
        refine r_callV X hw (ws' := ([OB D o z s, [(kv, .inl (D.1 100, 7, .inl xv)), (kt, .inl (D.1 100, 11, .inl xt)), (ka, .inl (D.1 100, 27, .inl xa))]] : List va_W).flatten) (As := [.int (nI k), .int 1]) (rest := []) lk_L_75 (k_alarmOf1 l D _ o z s hz k (by omega) (isA (by omega))) (Foc.at1 0 rfl rfl (ce rfl rfl)) (m_fl 0 rfl (OB_mem D o z s)) rfl hl.1 (Nat.le_of_ble_eq_true rfl) ⟨Nat.le_of_ble_eq_true rfl, Nat.le_of_ble_eq_true rfl⟩ rfl dL_areAlarms_58 ⟨Nat.le_refl _, Nat.le_refl _⟩ (fun H locs hw => ?_)
        refine lv_aload_n hx hb dL_areAlarms_61 rfl (lv_at hl 6 rfl) ?_
        refine lv_bipush (v := 9) hx hb dL_areAlarms_62 (by decide) ?_
        refine lv_iload hx hb dL_areAlarms_64 (lv_at hl 7 rfl) ?_
        refine r_mulN hx hb 9 k rfl rfl dL_areAlarms_66 ?_
        refine lv_iload hx hb dL_areAlarms_67 (lv_at hl 0 rfl) ?_
        refine r_addN hx hb (9 * k) 1 rfl rfl dL_areAlarms_69 ?_
        refine r_iald X hw (f := xa) (9 * k + 1) (m_fl 1 rfl (m_at 2 rfl)) rfl (by omega) (by decide) dL_areAlarms_70 ?_
        refine lv_icmp_ne (tgt := 78) hx hb dL_areAlarms_71 (by decide) (fun h => absurd ((hL.2.1.2.2.2 k (by omega)).1 1 (by decide)).1 h) (fun _ => ?_)
        refine lv_iconst (v := 1) hx hb dL_areAlarms_74 (by decide) ?_
        refine lv_goto (tgt := 79) hx hb dL_areAlarms_75 (by decide) ?_
        refine lv_istore (lv' := [(5, .int 1), (7, .int 1), (4, .int (x4 ||| ((xa (9 * k + 7)) <<< ((nI k) &&& 31)))), (0, .ref o), (1, .ref kv), (2, .ref kt), (3, .ref ka), (6, .int (nI k))]) hx hb dL_areAlarms_79 hl (by decide) rfl (fun ls hl => ?_)
        refine r_iincN (lv' := [(7, .int 2), (5, .int 1), (4, .int (x4 ||| ((xa (9 * k + 7)) <<< ((nI k) &&& 31)))), (0, .ref o), (1, .ref kv), (2, .ref kt), (3, .ref ka), (6, .int (nI k))]) hx hb 1 1 rfl dL_areAlarms_81 hl (k := 1) rfl rfl (by decide) rfl (fun ls hl => ?_)
        refine lv_goto (tgt := 41) hx hb dL_areAlarms_84 (by decide) ?_
        refine lv_iload hx hb dL_areAlarms_41 (lv_at hl 0 rfl) ?_
        refine lv_bipush (v := 9) hx hb dL_areAlarms_43 (by decide) ?_
        refine lv_icmp_ge (tgt := 87) hx hb dL_areAlarms_45 (by decide) (fun h => absurd h (by decide)) (fun _ => ?_)
        refine lv_iload hx hb dL_areAlarms_48 (lv_at hl 1 rfl) ?_
        refine lv_if_eq (tgt := 78) hx hb dL_areAlarms_50 (by decide) (fun h => absurd h (by decide)) (fun _ => ?_)
        refine lv_aload_n hx hb dL_areAlarms_53 rfl (lv_at hl 3 rfl) ?_
        refine lv_iload hx hb dL_areAlarms_54 (lv_at hl 7 rfl) ?_
        refine lv_iload hx hb dL_areAlarms_56 (lv_at hl 0 rfl) ?_
        refine r_callV X hw (ws' := ([OB D o z s, [(kv, .inl (D.1 100, 7, .inl xv)), (kt, .inl (D.1 100, 11, .inl xt)), (ka, .inl (D.1 100, 27, .inl xa))]] : List va_W).flatten) (As := [.int (nI k), .int 2]) (rest := []) lk_L_75 (k_alarmOf2 l D _ o z s hz k (by omega) (isA (by omega))) (Foc.at1 0 rfl rfl (ce rfl rfl)) (m_fl 0 rfl (OB_mem D o z s)) rfl hl.1 (Nat.le_of_ble_eq_true rfl) ⟨Nat.le_of_ble_eq_true rfl, Nat.le_of_ble_eq_true rfl⟩ rfl dL_areAlarms_58 ⟨Nat.le_refl _, Nat.le_refl _⟩ (fun H locs hw => ?_)
        refine lv_aload_n hx hb dL_areAlarms_61 rfl (lv_at hl 6 rfl) ?_
        refine lv_bipush (v := 9) hx hb dL_areAlarms_62 (by decide) ?_
        refine lv_iload hx hb dL_areAlarms_64 (lv_at hl 7 rfl) ?_
        refine r_mulN hx hb 9 k rfl rfl dL_areAlarms_66 ?_
        refine lv_iload hx hb dL_areAlarms_67 (lv_at hl 0 rfl) ?_
        refine r_addN hx hb (9 * k) 2 rfl rfl dL_areAlarms_69 ?_
        refine r_iald X hw (f := xa) (9 * k + 2) (m_fl 1 rfl (m_at 2 rfl)) rfl (by omega) (by decide) dL_areAlarms_70 ?_
        refine lv_icmp_ne (tgt := 78) hx hb dL_areAlarms_71 (by decide) (fun h => absurd ((hL.2.1.2.2.2 k (by omega)).1 2 (by decide)).1 h) (fun _ => ?_)
        refine lv_iconst (v := 1) hx hb dL_areAlarms_74 (by decide) ?_
        refine lv_goto (tgt := 79) hx hb dL_areAlarms_75 (by decide) ?_
        refine lv_istore (lv' := [(5, .int 1), (7, .int 2), (4, .int (x4 ||| ((xa (9 * k + 7)) <<< ((nI k) &&& 31)))), (0, .ref o), (1, .ref kv), (2, .ref kt), (3, .ref ka), (6, .int (nI k))]) hx hb dL_areAlarms_79 hl (by decide) rfl (fun ls hl => ?_)
        refine r_iincN (lv' := [(7, .int 3), (5, .int 1), (4, .int (x4 ||| ((xa (9 * k + 7)) <<< ((nI k) &&& 31)))), (0, .ref o), (1, .ref kv), (2, .ref kt), (3, .ref ka), (6, .int (nI k))]) hx hb 2 1 rfl dL_areAlarms_81 hl (k := 1) rfl rfl (by decide) rfl (fun ls hl => ?_)
        refine lv_goto (tgt := 41) hx hb dL_areAlarms_84 (by decide) ?_
        refine lv_iload hx hb dL_areAlarms_41 (lv_at hl 0 rfl) ?_
        refine lv_bipush (v := 9) hx hb dL_areAlarms_43 (by decide) ?_
        refine lv_icmp_ge (tgt := 87) hx hb dL_areAlarms_45 (by decide) (fun h => absurd h (by decide)) (fun _ => ?_)
        refine lv_iload hx hb dL_areAlarms_48 (lv_at hl 1 rfl) ?_
        refine lv_if_eq (tgt := 78) hx hb dL_areAlarms_50 (by decide) (fun h => absurd h (by decide)) (fun _ => ?_)
        refine lv_aload_n hx hb dL_areAlarms_53 rfl (lv_at hl 3 rfl) ?_
        refine lv_iload hx hb dL_areAlarms_54 (lv_at hl 7 rfl) ?_
        refine lv_iload hx hb dL_areAlarms_56 (lv_at hl 0 rfl) ?_
        refine r_callV X hw (ws' := ([OB D o z s, [(kv, .inl (D.1 100, 7, .inl xv)), (kt, .inl (D.1 100, 11, .inl xt)), (ka, .inl (D.1 100, 27, .inl xa))]] : List va_W).flatten) (As := [.int (nI k), .int 3]) (rest := []) lk_L_75 (k_alarmOf3 l D _ o z s hz k (by omega) (isA (by omega))) (Foc.at1 0 rfl rfl (ce rfl rfl)) (m_fl 0 rfl (OB_mem D o z s)) rfl hl.1 (Nat.le_of_ble_eq_true rfl) ⟨Nat.le_of_ble_eq_true rfl, Nat.le_of_ble_eq_true rfl⟩ rfl dL_areAlarms_58 ⟨Nat.le_refl _, Nat.le_refl _⟩ (fun H locs hw => ?_)
        refine lv_aload_n hx hb dL_areAlarms_61 rfl (lv_at hl 6 rfl) ?_
        refine lv_bipush (v := 9) hx hb dL_areAlarms_62 (by decide) ?_
        refine lv_iload hx hb dL_areAlarms_64 (lv_at hl 7 rfl) ?_
        refine r_mulN hx hb 9 k rfl rfl dL_areAlarms_66 ?_
        refine lv_iload hx hb dL_areAlarms_67 (lv_at hl 0 rfl) ?_
        refine r_addN hx hb (9 * k) 3 rfl rfl dL_areAlarms_69 ?_
        refine r_iald X hw (f := xa) (9 * k + 3) (m_fl 1 rfl (m_at 2 rfl)) rfl (by omega) (by decide) dL_areAlarms_70 ?_
        refine lv_icmp_ne (tgt := 78) hx hb dL_areAlarms_71 (by decide) (fun h => absurd ((hL.2.1.2.2.2 k (by omega)).1 3 (by decide)).1 h) (fun _ => ?_)
        refine lv_iconst (v := 1) hx hb dL_areAlarms_74 (by decide) ?_
        refine lv_goto (tgt := 79) hx hb dL_areAlarms_75 (by decide) ?_
        refine lv_istore (lv' := [(5, .int 1), (7, .int 3), (4, .int (x4 ||| ((xa (9 * k + 7)) <<< ((nI k) &&& 31)))), (0, .ref o), (1, .ref kv), (2, .ref kt), (3, .ref ka), (6, .int (nI k))]) hx hb dL_areAlarms_79 hl (by decide) rfl (fun ls hl => ?_)
        refine r_iincN (lv' := [(7, .int 4), (5, .int 1), (4, .int (x4 ||| ((xa (9 * k + 7)) <<< ((nI k) &&& 31)))), (0, .ref o), (1, .ref kv), (2, .ref kt), (3, .ref ka), (6, .int (nI k))]) hx hb 3 1 rfl dL_areAlarms_81 hl (k := 1) rfl rfl (by decide) rfl (fun ls hl => ?_)
        refine lv_goto (tgt := 41) hx hb dL_areAlarms_84 (by decide) ?_
        refine lv_iload hx hb dL_areAlarms_41 (lv_at hl 0 rfl) ?_
        refine lv_bipush (v := 9) hx hb dL_areAlarms_43 (by decide) ?_
        refine lv_icmp_ge (tgt := 87) hx hb dL_areAlarms_45 (by decide) (fun h => absurd h (by decide)) (fun _ => ?_)
        refine lv_iload hx hb dL_areAlarms_48 (lv_at hl 1 rfl) ?_
        refine lv_if_eq (tgt := 78) hx hb dL_areAlarms_50 (by decide) (fun h => absurd h (by decide)) (fun _ => ?_)
        refine lv_aload_n hx hb dL_areAlarms_53 rfl (lv_at hl 3 rfl) ?_
        refine lv_iload hx hb dL_areAlarms_54 (lv_at hl 7 rfl) ?_
        refine lv_iload hx hb dL_areAlarms_56 (lv_at hl 0 rfl) ?_
        refine r_callV X hw (ws' := ([OB D o z s, [(kv, .inl (D.1 100, 7, .inl xv)), (kt, .inl (D.1 100, 11, .inl xt)), (ka, .inl (D.1 100, 27, .inl xa))]] : List va_W).flatten) (As := [.int (nI k), .int 4]) (rest := []) lk_L_75 (k_alarmOf4 l D _ o z s hz k (by omega) (isA (by omega))) (Foc.at1 0 rfl rfl (ce rfl rfl)) (m_fl 0 rfl (OB_mem D o z s)) rfl hl.1 (Nat.le_of_ble_eq_true rfl) ⟨Nat.le_of_ble_eq_true rfl, Nat.le_of_ble_eq_true rfl⟩ rfl dL_areAlarms_58 ⟨Nat.le_refl _, Nat.le_refl _⟩ (fun H locs hw => ?_)
        refine lv_aload_n hx hb dL_areAlarms_61 rfl (lv_at hl 6 rfl) ?_
        refine lv_bipush (v := 9) hx hb dL_areAlarms_62 (by decide) ?_
        refine lv_iload hx hb dL_areAlarms_64 (lv_at hl 7 rfl) ?_
        refine r_mulN hx hb 9 k rfl rfl dL_areAlarms_66 ?_
        refine lv_iload hx hb dL_areAlarms_67 (lv_at hl 0 rfl) ?_
        refine r_addN hx hb (9 * k) 4 rfl rfl dL_areAlarms_69 ?_
        refine r_iald X hw (f := xa) (9 * k + 4) (m_fl 1 rfl (m_at 2 rfl)) rfl (by omega) (by decide) dL_areAlarms_70 ?_
        refine lv_icmp_ne (tgt := 78) hx hb dL_areAlarms_71 (by decide) (fun h => absurd ((hL.2.1.2.2.2 k (by omega)).1 4 (by decide)).1 h) (fun _ => ?_)
        refine lv_iconst (v := 1) hx hb dL_areAlarms_74 (by decide) ?_
        refine lv_goto (tgt := 79) hx hb dL_areAlarms_75 (by decide) ?_
        refine lv_istore (lv' := [(5, .int 1), (7, .int 4), (4, .int (x4 ||| ((xa (9 * k + 7)) <<< ((nI k) &&& 31)))), (0, .ref o), (1, .ref kv), (2, .ref kt), (3, .ref ka), (6, .int (nI k))]) hx hb dL_areAlarms_79 hl (by decide) rfl (fun ls hl => ?_)
        refine r_iincN (lv' := [(7, .int 5), (5, .int 1), (4, .int (x4 ||| ((xa (9 * k + 7)) <<< ((nI k) &&& 31)))), (0, .ref o), (1, .ref kv), (2, .ref kt), (3, .ref ka), (6, .int (nI k))]) hx hb 4 1 rfl dL_areAlarms_81 hl (k := 1) rfl rfl (by decide) rfl (fun ls hl => ?_)
        refine lv_goto (tgt := 41) hx hb dL_areAlarms_84 (by decide) ?_
        refine lv_iload hx hb dL_areAlarms_41 (lv_at hl 0 rfl) ?_
        refine lv_bipush (v := 9) hx hb dL_areAlarms_43 (by decide) ?_
        refine lv_icmp_ge (tgt := 87) hx hb dL_areAlarms_45 (by decide) (fun h => absurd h (by decide)) (fun _ => ?_)
        refine lv_iload hx hb dL_areAlarms_48 (lv_at hl 1 rfl) ?_
        refine lv_if_eq (tgt := 78) hx hb dL_areAlarms_50 (by decide) (fun h => absurd h (by decide)) (fun _ => ?_)
        refine lv_aload_n hx hb dL_areAlarms_53 rfl (lv_at hl 3 rfl) ?_
        refine lv_iload hx hb dL_areAlarms_54 (lv_at hl 7 rfl) ?_
        refine lv_iload hx hb dL_areAlarms_56 (lv_at hl 0 rfl) ?_
        refine r_callV X hw (ws' := ([OB D o z s, [(kv, .inl (D.1 100, 7, .inl xv)), (kt, .inl (D.1 100, 11, .inl xt)), (ka, .inl (D.1 100, 27, .inl xa))]] : List va_W).flatten) (As := [.int (nI k), .int 5]) (rest := []) lk_L_75 (k_alarmOf5 l D _ o z s hz k (by omega) (isA (by omega))) (Foc.at1 0 rfl rfl (ce rfl rfl)) (m_fl 0 rfl (OB_mem D o z s)) rfl hl.1 (Nat.le_of_ble_eq_true rfl) ⟨Nat.le_of_ble_eq_true rfl, Nat.le_of_ble_eq_true rfl⟩ rfl dL_areAlarms_58 ⟨Nat.le_refl _, Nat.le_refl _⟩ (fun H locs hw => ?_)
        refine lv_aload_n hx hb dL_areAlarms_61 rfl (lv_at hl 6 rfl) ?_
        refine lv_bipush (v := 9) hx hb dL_areAlarms_62 (by decide) ?_
        refine lv_iload hx hb dL_areAlarms_64 (lv_at hl 7 rfl) ?_
        refine r_mulN hx hb 9 k rfl rfl dL_areAlarms_66 ?_
        refine lv_iload hx hb dL_areAlarms_67 (lv_at hl 0 rfl) ?_
        refine r_addN hx hb (9 * k) 5 rfl rfl dL_areAlarms_69 ?_
        refine r_iald X hw (f := xa) (9 * k + 5) (m_fl 1 rfl (m_at 2 rfl)) rfl (by omega) (by decide) dL_areAlarms_70 ?_
        refine lv_icmp_ne (tgt := 78) hx hb dL_areAlarms_71 (by decide) (fun h => absurd (hL.2.1.2.2.2 k (by omega)).2.1 h) (fun _ => ?_)
        refine lv_iconst (v := 1) hx hb dL_areAlarms_74 (by decide) ?_
        refine lv_goto (tgt := 79) hx hb dL_areAlarms_75 (by decide) ?_
        refine lv_istore (lv' := [(5, .int 1), (7, .int 5), (4, .int (x4 ||| ((xa (9 * k + 7)) <<< ((nI k) &&& 31)))), (0, .ref o), (1, .ref kv), (2, .ref kt), (3, .ref ka), (6, .int (nI k))]) hx hb dL_areAlarms_79 hl (by decide) rfl (fun ls hl => ?_)
        refine r_iincN (lv' := [(7, .int 6), (5, .int 1), (4, .int (x4 ||| ((xa (9 * k + 7)) <<< ((nI k) &&& 31)))), (0, .ref o), (1, .ref kv), (2, .ref kt), (3, .ref ka), (6, .int (nI k))]) hx hb 5 1 rfl dL_areAlarms_81 hl (k := 1) rfl rfl (by decide) rfl (fun ls hl => ?_)
        refine lv_goto (tgt := 41) hx hb dL_areAlarms_84 (by decide) ?_
        refine lv_iload hx hb dL_areAlarms_41 (lv_at hl 0 rfl) ?_
        refine lv_bipush (v := 9) hx hb dL_areAlarms_43 (by decide) ?_
        refine lv_icmp_ge (tgt := 87) hx hb dL_areAlarms_45 (by decide) (fun h => absurd h (by decide)) (fun _ => ?_)
        refine lv_iload hx hb dL_areAlarms_48 (lv_at hl 1 rfl) ?_
        refine lv_if_eq (tgt := 78) hx hb dL_areAlarms_50 (by decide) (fun h => absurd h (by decide)) (fun _ => ?_)
        refine lv_aload_n hx hb dL_areAlarms_53 rfl (lv_at hl 3 rfl) ?_
        refine lv_iload hx hb dL_areAlarms_54 (lv_at hl 7 rfl) ?_
        refine lv_iload hx hb dL_areAlarms_56 (lv_at hl 0 rfl) ?_
        refine r_callV X hw (ws' := ([OB D o z s, [(kv, .inl (D.1 100, 7, .inl xv)), (kt, .inl (D.1 100, 11, .inl xt)), (ka, .inl (D.1 100, 27, .inl xa))]] : List va_W).flatten) (As := [.int (nI k), .int 6]) (rest := []) lk_L_75 (k_alarmOf6 l D _ o z s hz k (by omega) (isA (by omega))) (Foc.at1 0 rfl rfl (ce rfl rfl)) (m_fl 0 rfl (OB_mem D o z s)) rfl hl.1 (Nat.le_of_ble_eq_true rfl) ⟨Nat.le_of_ble_eq_true rfl, Nat.le_of_ble_eq_true rfl⟩ rfl dL_areAlarms_58 ⟨Nat.le_refl _, Nat.le_refl _⟩ (fun H locs hw => ?_)
        refine lv_aload_n hx hb dL_areAlarms_61 rfl (lv_at hl 6 rfl) ?_
        refine lv_bipush (v := 9) hx hb dL_areAlarms_62 (by decide) ?_
        refine lv_iload hx hb dL_areAlarms_64 (lv_at hl 7 rfl) ?_
        refine r_mulN hx hb 9 k rfl rfl dL_areAlarms_66 ?_
        refine lv_iload hx hb dL_areAlarms_67 (lv_at hl 0 rfl) ?_
        refine r_addN hx hb (9 * k) 6 rfl rfl dL_areAlarms_69 ?_
        refine r_iald X hw (f := xa) (9 * k + 6) (m_fl 1 rfl (m_at 2 rfl)) rfl (by omega) (by decide) dL_areAlarms_70 ?_
        refine lv_icmp_ne (tgt := 78) hx hb dL_areAlarms_71 (by decide) (fun h => absurd (hL.2.1.2.2.2 k (by omega)).2.2.1 h) (fun _ => ?_)
        refine lv_iconst (v := 1) hx hb dL_areAlarms_74 (by decide) ?_
        refine lv_goto (tgt := 79) hx hb dL_areAlarms_75 (by decide) ?_
        refine lv_istore (lv' := [(5, .int 1), (7, .int 6), (4, .int (x4 ||| ((xa (9 * k + 7)) <<< ((nI k) &&& 31)))), (0, .ref o), (1, .ref kv), (2, .ref kt), (3, .ref ka), (6, .int (nI k))]) hx hb dL_areAlarms_79 hl (by decide) rfl (fun ls hl => ?_)
        refine r_iincN (lv' := [(7, .int 7), (5, .int 1), (4, .int (x4 ||| ((xa (9 * k + 7)) <<< ((nI k) &&& 31)))), (0, .ref o), (1, .ref kv), (2, .ref kt), (3, .ref ka), (6, .int (nI k))]) hx hb 6 1 rfl dL_areAlarms_81 hl (k := 1) rfl rfl (by decide) rfl (fun ls hl => ?_)
        refine lv_goto (tgt := 41) hx hb dL_areAlarms_84 (by decide) ?_
        refine lv_iload hx hb dL_areAlarms_41 (lv_at hl 0 rfl) ?_
        refine lv_bipush (v := 9) hx hb dL_areAlarms_43 (by decide) ?_
        refine lv_icmp_ge (tgt := 87) hx hb dL_areAlarms_45 (by decide) (fun h => absurd h (by decide)) (fun _ => ?_)
        refine lv_iload hx hb dL_areAlarms_48 (lv_at hl 1 rfl) ?_
        refine lv_if_eq (tgt := 78) hx hb dL_areAlarms_50 (by decide) (fun h => absurd h (by decide)) (fun _ => ?_)
        refine lv_aload_n hx hb dL_areAlarms_53 rfl (lv_at hl 3 rfl) ?_
        refine lv_iload hx hb dL_areAlarms_54 (lv_at hl 7 rfl) ?_
        refine lv_iload hx hb dL_areAlarms_56 (lv_at hl 0 rfl) ?_
        refine r_callV X hw (ws' := ([OB D o z s, [(kv, .inl (D.1 100, 7, .inl xv)), (kt, .inl (D.1 100, 11, .inl xt)), (ka, .inl (D.1 100, 27, .inl xa))]] : List va_W).flatten) (As := [.int (nI k), .int 7]) (rest := []) lk_L_75 (k_alarmOf7 l D _ o z s hz k (by omega) (isA (by omega))) (Foc.at1 0 rfl rfl (ce rfl rfl)) (m_fl 0 rfl (OB_mem D o z s)) rfl hl.1 (Nat.le_of_ble_eq_true rfl) ⟨Nat.le_of_ble_eq_true rfl, Nat.le_of_ble_eq_true rfl⟩ rfl dL_areAlarms_58 ⟨Nat.le_refl _, Nat.le_refl _⟩ (fun H locs hw => ?_)
        refine lv_aload_n hx hb dL_areAlarms_61 rfl (lv_at hl 6 rfl) ?_
        refine lv_bipush (v := 9) hx hb dL_areAlarms_62 (by decide) ?_
        refine lv_iload hx hb dL_areAlarms_64 (lv_at hl 7 rfl) ?_
        refine r_mulN hx hb 9 k rfl rfl dL_areAlarms_66 ?_
        refine lv_iload hx hb dL_areAlarms_67 (lv_at hl 0 rfl) ?_
        refine r_addN hx hb (9 * k) 7 rfl rfl dL_areAlarms_69 ?_
        refine r_iald X hw (f := xa) (9 * k + 7) (m_fl 1 rfl (m_at 2 rfl)) rfl (by omega) (by decide) dL_areAlarms_70 ?_
        refine lv_icmp_ne (tgt := 78) hx hb dL_areAlarms_71 (by decide) (fun h => absurd (hL.2.1.2.2.2 k (by omega)).2.2.2.1 h) (fun _ => ?_)
        refine lv_iconst (v := 1) hx hb dL_areAlarms_74 (by decide) ?_
        refine lv_goto (tgt := 79) hx hb dL_areAlarms_75 (by decide) ?_
        refine lv_istore (lv' := [(5, .int 1), (7, .int 7), (4, .int (x4 ||| ((xa (9 * k + 7)) <<< ((nI k) &&& 31)))), (0, .ref o), (1, .ref kv), (2, .ref kt), (3, .ref ka), (6, .int (nI k))]) hx hb dL_areAlarms_79 hl (by decide) rfl (fun ls hl => ?_)
        refine r_iincN (lv' := [(7, .int 8), (5, .int 1), (4, .int (x4 ||| ((xa (9 * k + 7)) <<< ((nI k) &&& 31)))), (0, .ref o), (1, .ref kv), (2, .ref kt), (3, .ref ka), (6, .int (nI k))]) hx hb 7 1 rfl dL_areAlarms_81 hl (k := 1) rfl rfl (by decide) rfl (fun ls hl => ?_)
        refine lv_goto (tgt := 41) hx hb dL_areAlarms_84 (by decide) ?_
        refine lv_iload hx hb dL_areAlarms_41 (lv_at hl 0 rfl) ?_
        refine lv_bipush (v := 9) hx hb dL_areAlarms_43 (by decide) ?_
        refine lv_icmp_ge (tgt := 87) hx hb dL_areAlarms_45 (by decide) (fun h => absurd h (by decide)) (fun _ => ?_)
        refine lv_iload hx hb dL_areAlarms_48 (lv_at hl 1 rfl) ?_
        refine lv_if_eq (tgt := 78) hx hb dL_areAlarms_50 (by decide) (fun h => absurd h (by decide)) (fun _ => ?_)
        refine lv_aload_n hx hb dL_areAlarms_53 rfl (lv_at hl 3 rfl) ?_
        refine lv_iload hx hb dL_areAlarms_54 (lv_at hl 7 rfl) ?_
        refine lv_iload hx hb dL_areAlarms_56 (lv_at hl 0 rfl) ?_
        refine r_callV X hw (ws' := ([OB D o z s, [(kv, .inl (D.1 100, 7, .inl xv)), (kt, .inl (D.1 100, 11, .inl xt)), (ka, .inl (D.1 100, 27, .inl xa))]] : List va_W).flatten) (As := [.int (nI k), .int 8]) (rest := []) lk_L_75 (k_alarmOf8 l D _ o z s hz k (by omega) (isA (by omega))) (Foc.at1 0 rfl rfl (ce rfl rfl)) (m_fl 0 rfl (OB_mem D o z s)) rfl hl.1 (Nat.le_of_ble_eq_true rfl) ⟨Nat.le_of_ble_eq_true rfl, Nat.le_of_ble_eq_true rfl⟩ rfl dL_areAlarms_58 ⟨Nat.le_refl _, Nat.le_refl _⟩ (fun H locs hw => ?_)
        refine lv_aload_n hx hb dL_areAlarms_61 rfl (lv_at hl 6 rfl) ?_
        refine lv_bipush (v := 9) hx hb dL_areAlarms_62 (by decide) ?_
        refine lv_iload hx hb dL_areAlarms_64 (lv_at hl 7 rfl) ?_
        refine r_mulN hx hb 9 k rfl rfl dL_areAlarms_66 ?_
        refine lv_iload hx hb dL_areAlarms_67 (lv_at hl 0 rfl) ?_
        refine r_addN hx hb (9 * k) 8 rfl rfl dL_areAlarms_69 ?_
        refine r_iald X hw (f := xa) (9 * k + 8) (m_fl 1 rfl (m_at 2 rfl)) rfl (by omega) (by decide) dL_areAlarms_70 ?_
        refine lv_icmp_ne (tgt := 78) hx hb dL_areAlarms_71 (by decide) (fun h => absurd (hL.2.1.2.2.2 k (by omega)).2.2.2.2 h) (fun _ => ?_)
        refine lv_iconst (v := 1) hx hb dL_areAlarms_74 (by decide) ?_
        refine lv_goto (tgt := 79) hx hb dL_areAlarms_75 (by decide) ?_
        refine lv_istore (lv' := [(5, .int 1), (7, .int 8), (4, .int (x4 ||| ((xa (9 * k + 7)) <<< ((nI k) &&& 31)))), (0, .ref o), (1, .ref kv), (2, .ref kt), (3, .ref ka), (6, .int (nI k))]) hx hb dL_areAlarms_79 hl (by decide) rfl (fun ls hl => ?_)
        refine r_iincN (lv' := [(7, .int 9), (5, .int 1), (4, .int (x4 ||| ((xa (9 * k + 7)) <<< ((nI k) &&& 31)))), (0, .ref o), (1, .ref kv), (2, .ref kt), (3, .ref ka), (6, .int (nI k))]) hx hb 8 1 rfl dL_areAlarms_81 hl (k := 1) rfl rfl (by decide) rfl (fun ls hl => ?_)
        refine lv_goto (tgt := 41) hx hb dL_areAlarms_84 (by decide) ?_
        refine lv_iload hx hb dL_areAlarms_41 (lv_at hl 0 rfl) ?_
        refine lv_bipush (v := 9) hx hb dL_areAlarms_43 (by decide) ?_
        refine lv_icmp_ge (tgt := 87) hx hb dL_areAlarms_45 (by decide) (fun _ => ?_) (fun h => absurd (by decide) h)
        refine lv_iload hx hb dL_areAlarms_87 (lv_at hl 1 rfl) ?_
        refine lv_if_eq (tgt := 122) hx hb dL_areAlarms_89 (by decide) (fun h => absurd h (by decide)) (fun _ => ?_)
        refine lv_aload_n hx hb dL_areAlarms_92 rfl (lv_at hl 3 rfl) ?_
        refine lv_iload hx hb dL_areAlarms_93 (lv_at hl 7 rfl) ?_
        refine lv_bipush (v := 9) hx hb dL_areAlarms_95 (by decide) ?_
        refine r_callV X hw (ws' := ([OB D o z s, [(kv, .inl (D.1 100, 7, .inl xv)), (kt, .inl (D.1 100, 11, .inl xt)), (ka, .inl (D.1 100, 27, .inl xa))]] : List va_W).flatten) (As := [.int (nI k), .int 9]) (rest := []) lk_L_75 (k_alarmOf9 l D _ o z s hz k (by omega) (isA (by omega))) (Foc.at1 0 rfl rfl (ce rfl rfl)) (m_fl 0 rfl (OB_mem D o z s)) rfl hl.1 (Nat.le_of_ble_eq_true rfl) ⟨Nat.le_of_ble_eq_true rfl, Nat.le_of_ble_eq_true rfl⟩ rfl dL_areAlarms_97 ⟨Nat.le_refl _, Nat.le_refl _⟩ (fun H locs hw => ?_)
        refine lv_aload_n hx hb dL_areAlarms_100 rfl (lv_at hl 4 rfl) ?_
        refine lv_aload_n hx hb dL_areAlarms_101 rfl (lv_at hl 6 rfl) ?_
        refine lv_iload hx hb dL_areAlarms_102 (lv_at hl 7 rfl) ?_
        refine r_callS X hw (ws' := ([OB D o z s, [(kv, .inl (D.1 100, 7, .inl xv)), (kt, .inl (D.1 100, 11, .inl xt)), (ka, .inl (D.1 100, 27, .inl xa))]] : List va_W).flatten) (As := [.ref kv, .ref ka, .int (nI k)]) (rest := [.int (sp_X6_alarmOf9 s k)]) lk_L_41 (c_L_matches l D _ kv ka xv xa k (by omega)) (Foc.trans (Foc.at1 1 rfl rfl (ce rfl rfl)) (Foc.pick [0, 1] (r := [(kt, .inl (D.1 100, 11, .inl xt))]) rfl rfl)) rfl hl.1 (Nat.le_of_ble_eq_true rfl) ⟨Nat.le_of_ble_eq_true rfl, Nat.le_of_ble_eq_true rfl⟩ rfl dL_areAlarms_104 ⟨Nat.le_refl _, Nat.le_refl _⟩ (fun H locs hw => ?_)
        refine lv_if_eq (tgt := 114) hx hb dL_areAlarms_107 (by decide) (fun c2 => ?_) (fun c2 => ?_)
        · skip
          refine lv_iconst (v := 0) hx hb dL_areAlarms_114 (by decide) ?_
          refine lv_icmp_ne (tgt := 122) hx hb dL_areAlarms_115 (by decide) (fun h => absurd (by unfold sp_X6_alarmOf9; rw [match_eq (xv := xv) hL.2.1 (fun r hr => (hL.1 r (by omega)).1) (show k < 3 from by omega), if_pos c2]) h) (fun _ => ?_)
          refine lv_iconst (v := 1) hx hb dL_areAlarms_118 (by decide) ?_
          refine lv_goto (tgt := 123) hx hb dL_areAlarms_119 (by decide) ?_
          refine lv_istore (lv' := [(5, .int 1), (7, .int 9), (4, .int (x4 ||| ((xa (9 * k + 7)) <<< ((nI k) &&& 31)))), (0, .ref o), (1, .ref kv), (2, .ref kt), (3, .ref ka), (6, .int (nI k))]) hx hb dL_areAlarms_123 hl (by decide) rfl (fun ls hl => ?_)
          refine r_iincN (lv' := [(6, .int (nI (k + 1))), (5, .int 1), (7, .int 9), (4, .int (x4 ||| ((xa (9 * k + 7)) <<< ((nI k) &&& 31)))), (0, .ref o), (1, .ref kv), (2, .ref kt), (3, .ref ka)]) hx hb k 1 rfl dL_areAlarms_125 hl (k := 7) rfl rfl (by decide) rfl (fun ls hl => ?_)
          refine lv_goto (tgt := 9) hx hb dL_areAlarms_128 (by decide) ?_
          exact ih9 (k + 1) (x4 ||| ((xa (9 * k + 7)) <<< ((nI k) &&& 31))) (by omega) (by omega) (by show _ = flN xa k ||| _; rw [hx4]) _ _ _ hw (lv_sub hl [4, 5, 6, 7, 3, 1, 0] rfl)
        · skip
          refine lv_iconst (v := 1) hx hb dL_areAlarms_110 (by decide) ?_
          refine lv_goto (tgt := 115) hx hb dL_areAlarms_111 (by decide) ?_
          refine lv_icmp_ne (tgt := 122) hx hb dL_areAlarms_115 (by decide) (fun h => absurd (by unfold sp_X6_alarmOf9; rw [match_eq (xv := xv) hL.2.1 (fun r hr => (hL.1 r (by omega)).1) (show k < 3 from by omega), if_neg c2]) h) (fun _ => ?_)
          refine lv_iconst (v := 1) hx hb dL_areAlarms_118 (by decide) ?_
          refine lv_goto (tgt := 123) hx hb dL_areAlarms_119 (by decide) ?_
          refine lv_istore (lv' := [(5, .int 1), (7, .int 9), (4, .int (x4 ||| ((xa (9 * k + 7)) <<< ((nI k) &&& 31)))), (0, .ref o), (1, .ref kv), (2, .ref kt), (3, .ref ka), (6, .int (nI k))]) hx hb dL_areAlarms_123 hl (by decide) rfl (fun ls hl => ?_)
          refine r_iincN (lv' := [(6, .int (nI (k + 1))), (5, .int 1), (7, .int 9), (4, .int (x4 ||| ((xa (9 * k + 7)) <<< ((nI k) &&& 31)))), (0, .ref o), (1, .ref kv), (2, .ref kt), (3, .ref ka)]) hx hb k 1 rfl dL_areAlarms_125 hl (k := 7) rfl rfl (by decide) rfl (fun ls hl => ?_)
          refine lv_goto (tgt := 9) hx hb dL_areAlarms_128 (by decide) ?_
          exact ih9 (k + 1) (x4 ||| ((xa (9 * k + 7)) <<< ((nI k) &&& 31))) (by omega) (by omega) (by show _ = flN xa k ||| _; rw [hx4]) _ _ _ hw (lv_sub hl [4, 5, 6, 7, 3, 1, 0] rfl)
  exact key9 4 0 0 (by omega) (by omega) rfl _ _ _ hw (lv_sub hl [3, 4, 5, 6, 2, 1, 0] rfl)

set_option maxRecDepth 100000 in
set_option maxHeartbeats 4000000 in
theorem c_L_areRegisters (l : Launch) (D : va_G) (sz : Nat) (o : Nat) (z : OX) (s : ChS) (kv kb kg kn kt : Nat) (xv xb xg xn xt : Row) (xa : Row) (K : Nat) (hL : LR K xb xg s (xv, xn, xt, xa)) (hK : K < 1000) (hz : zOK z) : MIN l yL_areRegisters cL_areRegisters 12 (some .boolean) 5 1 7 108 D sz [.ref o, .ref kv, .ref kb, .ref kg, .ref kn, .ref kt] (([OB D o z s, [(kv, .inl (D.1 100, 7, .inl xv)), (kb, .inl (D.1 100, 7, .inl xb)), (kg, .inl (D.1 100, 7, .inl xg)), (kn, .inl (D.1 100, 7, .inl xn)), (kt, .inl (D.1 100, 11, .inl xt))]] : List va_W).flatten) 1 (([OB D o z s, [(kv, .inl (D.1 100, 7, .inl xv)), (kb, .inl (D.1 100, 7, .inl xb)), (kg, .inl (D.1 100, 7, .inl xg)), (kn, .inl (D.1 100, 7, .inl xn)), (kt, .inl (D.1 100, 11, .inl xt))]] : List va_W).flatten) := by
  refine r_enterM (by decide) (Nat.le_of_ble_eq_true rfl) ?_
  intro p e st m args below meth c ls A X hret hk hw hl
  have X : CX D p m c cL_areRegisters 12 st args RL A := X
  have hx := X.1.1
  have hb := X.1.2.1
  have hown := X.1.2.2.2.1
  have hts := X.1.2.2.2.2
  have hl : lv_has ls 12 [(0, .ref o), (1, .ref kv), (2, .ref kb), (3, .ref kg), (4, .ref kn), (5, .ref kt)] := hl
  refine lv_iconst (v := 0) hx hb dL_areRegisters_0 (by decide) ?_
  refine lv_istore (lv' := [(6, .int 0), (0, .ref o), (1, .ref kv), (2, .ref kb), (3, .ref kg), (4, .ref kn), (5, .ref kt)]) hx hb dL_areRegisters_1 hl (by decide) rfl (fun ls hl => ?_)
  refine lv_iconst (v := 0) hx hb dL_areRegisters_3 (by decide) ?_
  refine lv_istore (lv' := [(7, .int 0), (6, .int 0), (0, .ref o), (1, .ref kv), (2, .ref kb), (3, .ref kg), (4, .ref kn), (5, .ref kt)]) hx hb dL_areRegisters_4 hl (by decide) rfl (fun ls hl => ?_)
  refine lv_bipush (v := 7) hx hb dL_areRegisters_6 (by decide) ?_
  refine r_newa X hw 7 rfl (by decide) (in_all 55 (by decide +kernel) rfl) (Nat.le_of_ble_eq_true rfl) (Nat.le_of_ble_eq_true rfl) dL_areRegisters_8 (fun q1 H hw => ?_)
  replace hw : Wd D A st.heap H _ (([OB D o z s, [(kv, .inl (D.1 100, 7, .inl xv)), (kb, .inl (D.1 100, 7, .inl xb)), (kg, .inl (D.1 100, 7, .inl xg)), (kn, .inl (D.1 100, 7, .inl xn)), (kt, .inl (D.1 100, 11, .inl xt))], [(q1, .inl (D.1 100, 7, .inl z0))]] : List va_W).flatten) := hw
  refine lv_astore (lv' := [(8, .ref q1), (7, .int 0), (6, .int 0), (0, .ref o), (1, .ref kv), (2, .ref kb), (3, .ref kg), (4, .ref kn), (5, .ref kt)]) hx hb dL_areRegisters_10 hl (by decide) rfl (fun ls hl => ?_)
  refine lv_iconst (v := 1) hx hb dL_areRegisters_12 (by decide) ?_
  refine lv_istore (lv' := [(9, .int 1), (8, .ref q1), (7, .int 0), (6, .int 0), (0, .ref o), (1, .ref kv), (2, .ref kb), (3, .ref kg), (4, .ref kn), (5, .ref kt)]) hx hb dL_areRegisters_13 hl (by decide) rfl (fun ls hl => ?_)
  refine lv_iconst (v := 0) hx hb dL_areRegisters_15 (by decide) ?_
  refine lv_istore (lv' := [(10, .int 0), (9, .int 1), (8, .ref q1), (7, .int 0), (6, .int 0), (0, .ref o), (1, .ref kv), (2, .ref kb), (3, .ref kg), (4, .ref kn), (5, .ref kt)]) hx hb dL_areRegisters_16 hl (by decide) rfl (fun ls hl => ?_)
  have key18 : ∀ (n18 : Nat) (r : Nat) (x6 x7 : Int32) (xx : Row), (r ≤ 7) → (7 - r < n18) → (x6 = cwN s.v r) → (x7 = cfN s.f r) → ∀ (H : Heap) (locs : List Loc) (ls : Array Slot), Wd D A st.heap H locs (([OB D o z s, [(kv, .inl (D.1 100, 7, .inl xv)), (kb, .inl (D.1 100, 7, .inl xb)), (kg, .inl (D.1 100, 7, .inl xg)), (kn, .inl (D.1 100, 7, .inl xn)), (kt, .inl (D.1 100, 11, .inl xt))], [(q1, .inl (D.1 100, 7, .inl xx))]] : List va_W).flatten) → lv_has ls 12 [(0, .ref o), (1, .ref kv), (2, .ref kb), (3, .ref kg), (4, .ref kn), (5, .ref kt), (6, .int x6), (7, .int x7), (8, .ref q1), (9, .int 1), (10, .int (nI r))] → W p l e (rmOf 5 1 7 108) st m args below meth c H locs (0 + 1) (0 + 7) (QIN below args st D A 1 7 1 (([OB D o z s, [(kv, .inl (D.1 100, 7, .inl xv)), (kb, .inl (D.1 100, 7, .inl xb)), (kg, .inl (D.1 100, 7, .inl xg)), (kn, .inl (D.1 100, 7, .inl xn)), (kt, .inl (D.1 100, 11, .inl xt))]] : List va_W).flatten)) (F0 m 18 ls []) := by
    intro n18
    induction n18 with
    | zero => intro r x6 x7 xx hr7 hm hx6 hx7; omega
    | succ n18 ih18 =>
      intro r x6 x7 xx hr7 hm hx6 hx7 H locs ls hw hl
      refine lv_iload hx hb dL_areRegisters_18 (lv_at hl 10 rfl) ?_
      refine lv_bipush (v := 7) hx hb dL_areRegisters_20 (by decide) ?_
      refine r_geN (tgt := 251) hx hb r 7 rfl rfl (by omega) (by omega) dL_areRegisters_22 (by decide) (fun c2 => ?_) (fun c2 => ?_)
      · skip
        refine lv_iload hx hb dL_areRegisters_251 (lv_at hl 9 rfl) ?_
        refine lv_if_eq (tgt := 451) hx hb dL_areRegisters_253 (by decide) (fun h => absurd h (by decide)) (fun _ => ?_)
        refine lv_aload_n hx hb dL_areRegisters_256 rfl (lv_at hl 0 rfl) ?_
        refine lv_iconst (v := 0) hx hb dL_areRegisters_257 (by decide) ?_
        refine r_callV X hw (ws' := ([OB D o z s, [(kv, .inl (D.1 100, 7, .inl xv)), (kb, .inl (D.1 100, 7, .inl xb)), (kg, .inl (D.1 100, 7, .inl xg)), (kn, .inl (D.1 100, 7, .inl xn)), (kt, .inl (D.1 100, 11, .inl xt))], [(q1, .inl (D.1 100, 7, .inl xx))]] : List va_W).flatten) (As := [.int 0]) (rest := []) lk_L_69 (k_count0 l D _ o z s hz) (Foc.at1 0 rfl rfl (ce rfl (ce rfl rfl))) (m_fl 0 rfl (OB_mem D o z s)) rfl hl.1 (Nat.le_of_ble_eq_true rfl) ⟨Nat.le_of_ble_eq_true rfl, Nat.le_of_ble_eq_true rfl⟩ rfl dL_areRegisters_258 ⟨Nat.le_refl _, Nat.le_refl _⟩ (fun H locs hw => ?_)
        refine lv_aload hx hb dL_areRegisters_261 (lv_at hl 5 rfl) ?_
        refine lv_iconst (v := 0) hx hb dL_areRegisters_263 (by decide) ?_
        refine r_iald X hw (f := xt) 0 (m_fl 1 rfl (m_at 4 rfl)) rfl (by decide) (by decide) dL_areRegisters_264 ?_
        refine lv_icmp_ne (tgt := 451) hx hb dL_areRegisters_265 (by decide) (fun h => absurd hL.2.2.2.2.2.2.1 h) (fun _ => ?_)
        refine lv_aload_n hx hb dL_areRegisters_268 rfl (lv_at hl 0 rfl) ?_
        refine lv_iconst (v := 1) hx hb dL_areRegisters_269 (by decide) ?_
        refine r_callV X hw (ws' := ([OB D o z s, [(kv, .inl (D.1 100, 7, .inl xv)), (kb, .inl (D.1 100, 7, .inl xb)), (kg, .inl (D.1 100, 7, .inl xg)), (kn, .inl (D.1 100, 7, .inl xn)), (kt, .inl (D.1 100, 11, .inl xt))], [(q1, .inl (D.1 100, 7, .inl xx))]] : List va_W).flatten) (As := [.int 1]) (rest := []) lk_L_69 (k_count1 l D _ o z s hz) (Foc.at1 0 rfl rfl (ce rfl (ce rfl rfl))) (m_fl 0 rfl (OB_mem D o z s)) rfl hl.1 (Nat.le_of_ble_eq_true rfl) ⟨Nat.le_of_ble_eq_true rfl, Nat.le_of_ble_eq_true rfl⟩ rfl dL_areRegisters_270 ⟨Nat.le_refl _, Nat.le_refl _⟩ (fun H locs hw => ?_)
        refine lv_aload hx hb dL_areRegisters_273 (lv_at hl 5 rfl) ?_
        refine lv_iconst (v := 1) hx hb dL_areRegisters_275 (by decide) ?_
        refine r_iald X hw (f := xt) 1 (m_fl 1 rfl (m_at 4 rfl)) rfl (by decide) (by decide) dL_areRegisters_276 ?_
        refine lv_icmp_ne (tgt := 451) hx hb dL_areRegisters_277 (by decide) (fun h => absurd hL.2.2.2.2.2.2.2.1 h) (fun _ => ?_)
        refine lv_aload_n hx hb dL_areRegisters_280 rfl (lv_at hl 0 rfl) ?_
        refine lv_iconst (v := 2) hx hb dL_areRegisters_281 (by decide) ?_
        refine r_callV X hw (ws' := ([OB D o z s, [(kv, .inl (D.1 100, 7, .inl xv)), (kb, .inl (D.1 100, 7, .inl xb)), (kg, .inl (D.1 100, 7, .inl xg)), (kn, .inl (D.1 100, 7, .inl xn)), (kt, .inl (D.1 100, 11, .inl xt))], [(q1, .inl (D.1 100, 7, .inl xx))]] : List va_W).flatten) (As := [.int 2]) (rest := []) lk_L_69 (k_count2 l D _ o z s hz) (Foc.at1 0 rfl rfl (ce rfl (ce rfl rfl))) (m_fl 0 rfl (OB_mem D o z s)) rfl hl.1 (Nat.le_of_ble_eq_true rfl) ⟨Nat.le_of_ble_eq_true rfl, Nat.le_of_ble_eq_true rfl⟩ rfl dL_areRegisters_282 ⟨Nat.le_refl _, Nat.le_refl _⟩ (fun H locs hw => ?_)
        refine lv_iload hx hb dL_areRegisters_285 (lv_at hl 6 rfl) ?_
        refine lv_icmp_ne (tgt := 451) hx hb dL_areRegisters_287 (by decide) (fun h => absurd (by rw [hx6, show r = 7 from by omega]; rfl) h) (fun _ => ?_)
        refine lv_aload_n hx hb dL_areRegisters_290 rfl (lv_at hl 0 rfl) ?_
        refine lv_iconst (v := 5) hx hb dL_areRegisters_291 (by decide) ?_
        refine r_callV X hw (ws' := ([OB D o z s, [(kv, .inl (D.1 100, 7, .inl xv)), (kb, .inl (D.1 100, 7, .inl xb)), (kg, .inl (D.1 100, 7, .inl xg)), (kn, .inl (D.1 100, 7, .inl xn)), (kt, .inl (D.1 100, 11, .inl xt))], [(q1, .inl (D.1 100, 7, .inl xx))]] : List va_W).flatten) (As := [.int 5]) (rest := []) lk_L_69 (k_count5 l D _ o z s hz) (Foc.at1 0 rfl rfl (ce rfl (ce rfl rfl))) (m_fl 0 rfl (OB_mem D o z s)) rfl hl.1 (Nat.le_of_ble_eq_true rfl) ⟨Nat.le_of_ble_eq_true rfl, Nat.le_of_ble_eq_true rfl⟩ rfl dL_areRegisters_292 ⟨Nat.le_refl _, Nat.le_refl _⟩ (fun H locs hw => ?_)
        refine lv_iload hx hb dL_areRegisters_295 (lv_at hl 7 rfl) ?_
        refine lv_icmp_ne (tgt := 451) hx hb dL_areRegisters_297 (by decide) (fun h => absurd (by rw [hx7, show r = 7 from by omega]; rfl) h) (fun _ => ?_)
        refine lv_aload_n hx hb dL_areRegisters_300 rfl (lv_at hl 0 rfl) ?_
        refine lv_bipush (v := 6) hx hb dL_areRegisters_301 (by decide) ?_
        refine r_callV X hw (ws' := ([OB D o z s, [(kv, .inl (D.1 100, 7, .inl xv)), (kb, .inl (D.1 100, 7, .inl xb)), (kg, .inl (D.1 100, 7, .inl xg)), (kn, .inl (D.1 100, 7, .inl xn)), (kt, .inl (D.1 100, 11, .inl xt))], [(q1, .inl (D.1 100, 7, .inl xx))]] : List va_W).flatten) (As := [.int 6]) (rest := []) lk_L_69 (k_count6 l D _ o z s hz) (Foc.at1 0 rfl rfl (ce rfl (ce rfl rfl))) (m_fl 0 rfl (OB_mem D o z s)) rfl hl.1 (Nat.le_of_ble_eq_true rfl) ⟨Nat.le_of_ble_eq_true rfl, Nat.le_of_ble_eq_true rfl⟩ rfl dL_areRegisters_303 ⟨Nat.le_refl _, Nat.le_refl _⟩ (fun H locs hw => ?_)
        refine lv_aload hx hb dL_areRegisters_306 (lv_at hl 5 rfl) ?_
        refine lv_iconst (v := 5) hx hb dL_areRegisters_308 (by decide) ?_
        refine r_iald X hw (f := xt) 5 (m_fl 1 rfl (m_at 4 rfl)) rfl (by decide) (by decide) dL_areRegisters_309 ?_
        refine lv_icmp_ne (tgt := 451) hx hb dL_areRegisters_310 (by decide) (fun h => absurd hL.2.2.2.2.2.2.2.2.2.2.2.1 h) (fun _ => ?_)
        refine lv_aload_n hx hb dL_areRegisters_313 rfl (lv_at hl 0 rfl) ?_
        refine lv_bipush (v := 7) hx hb dL_areRegisters_314 (by decide) ?_
        refine r_callV X hw (ws' := ([OB D o z s, [(kv, .inl (D.1 100, 7, .inl xv)), (kb, .inl (D.1 100, 7, .inl xb)), (kg, .inl (D.1 100, 7, .inl xg)), (kn, .inl (D.1 100, 7, .inl xn)), (kt, .inl (D.1 100, 11, .inl xt))], [(q1, .inl (D.1 100, 7, .inl xx))]] : List va_W).flatten) (As := [.int 7]) (rest := []) lk_L_69 (k_count7 l D _ o z s hz) (Foc.at1 0 rfl rfl (ce rfl (ce rfl rfl))) (m_fl 0 rfl (OB_mem D o z s)) rfl hl.1 (Nat.le_of_ble_eq_true rfl) ⟨Nat.le_of_ble_eq_true rfl, Nat.le_of_ble_eq_true rfl⟩ rfl dL_areRegisters_316 ⟨Nat.le_refl _, Nat.le_refl _⟩ (fun H locs hw => ?_)
        refine lv_aload hx hb dL_areRegisters_319 (lv_at hl 5 rfl) ?_
        refine lv_bipush (v := 6) hx hb dL_areRegisters_321 (by decide) ?_
        refine r_iald X hw (f := xt) 6 (m_fl 1 rfl (m_at 4 rfl)) rfl (by decide) (by decide) dL_areRegisters_323 ?_
        refine lv_icmp_ne (tgt := 451) hx hb dL_areRegisters_324 (by decide) (fun h => absurd hL.2.2.2.2.2.2.2.2.2.2.2.2.1 h) (fun _ => ?_)
        refine lv_aload_n hx hb dL_areRegisters_327 rfl (lv_at hl 0 rfl) ?_
        refine lv_bipush (v := 8) hx hb dL_areRegisters_328 (by decide) ?_
        refine r_callV X hw (ws' := ([OB D o z s, [(kv, .inl (D.1 100, 7, .inl xv)), (kb, .inl (D.1 100, 7, .inl xb)), (kg, .inl (D.1 100, 7, .inl xg)), (kn, .inl (D.1 100, 7, .inl xn)), (kt, .inl (D.1 100, 11, .inl xt))], [(q1, .inl (D.1 100, 7, .inl xx))]] : List va_W).flatten) (As := [.int 8]) (rest := []) lk_L_69 (k_count8 l D _ o z s hz) (Foc.at1 0 rfl rfl (ce rfl (ce rfl rfl))) (m_fl 0 rfl (OB_mem D o z s)) rfl hl.1 (Nat.le_of_ble_eq_true rfl) ⟨Nat.le_of_ble_eq_true rfl, Nat.le_of_ble_eq_true rfl⟩ rfl dL_areRegisters_330 ⟨Nat.le_refl _, Nat.le_refl _⟩ (fun H locs hw => ?_)
        refine lv_aload hx hb dL_areRegisters_333 (lv_at hl 5 rfl) ?_
        refine lv_iconst (v := 3) hx hb dL_areRegisters_335 (by decide) ?_
        refine r_iald X hw (f := xt) 3 (m_fl 1 rfl (m_at 4 rfl)) rfl (by decide) (by decide) dL_areRegisters_336 ?_
        refine lv_icmp_ne (tgt := 451) hx hb dL_areRegisters_337 (by decide) (fun h => absurd hL.2.2.2.2.2.2.2.2.2.1 h) (fun _ => ?_)
        refine lv_aload_n hx hb dL_areRegisters_340 rfl (lv_at hl 0 rfl) ?_
        refine lv_bipush (v := 9) hx hb dL_areRegisters_341 (by decide) ?_
        refine r_callV X hw (ws' := ([OB D o z s, [(kv, .inl (D.1 100, 7, .inl xv)), (kb, .inl (D.1 100, 7, .inl xb)), (kg, .inl (D.1 100, 7, .inl xg)), (kn, .inl (D.1 100, 7, .inl xn)), (kt, .inl (D.1 100, 11, .inl xt))], [(q1, .inl (D.1 100, 7, .inl xx))]] : List va_W).flatten) (As := [.int 9]) (rest := []) lk_L_69 (k_count9 l D _ o z s hz) (Foc.at1 0 rfl rfl (ce rfl (ce rfl rfl))) (m_fl 0 rfl (OB_mem D o z s)) rfl hl.1 (Nat.le_of_ble_eq_true rfl) ⟨Nat.le_of_ble_eq_true rfl, Nat.le_of_ble_eq_true rfl⟩ rfl dL_areRegisters_343 ⟨Nat.le_refl _, Nat.le_refl _⟩ (fun H locs hw => ?_)
        refine lv_aload hx hb dL_areRegisters_346 (lv_at hl 5 rfl) ?_
        refine lv_iconst (v := 4) hx hb dL_areRegisters_348 (by decide) ?_
        refine r_iald X hw (f := xt) 4 (m_fl 1 rfl (m_at 4 rfl)) rfl (by decide) (by decide) dL_areRegisters_349 ?_
        refine lv_icmp_ne (tgt := 451) hx hb dL_areRegisters_350 (by decide) (fun h => absurd hL.2.2.2.2.2.2.2.2.2.2.1 h) (fun _ => ?_)
        refine lv_aload_n hx hb dL_areRegisters_353 rfl (lv_at hl 0 rfl) ?_
        refine lv_bipush (v := 10) hx hb dL_areRegisters_354 (by decide) ?_
        refine r_callV X hw (ws' := ([OB D o z s, [(kv, .inl (D.1 100, 7, .inl xv)), (kb, .inl (D.1 100, 7, .inl xb)), (kg, .inl (D.1 100, 7, .inl xg)), (kn, .inl (D.1 100, 7, .inl xn)), (kt, .inl (D.1 100, 11, .inl xt))], [(q1, .inl (D.1 100, 7, .inl xx))]] : List va_W).flatten) (As := [.int 10]) (rest := []) lk_L_69 (k_count10 l D _ o z s hz) (Foc.at1 0 rfl rfl (ce rfl (ce rfl rfl))) (m_fl 0 rfl (OB_mem D o z s)) rfl hl.1 (Nat.le_of_ble_eq_true rfl) ⟨Nat.le_of_ble_eq_true rfl, Nat.le_of_ble_eq_true rfl⟩ rfl dL_areRegisters_356 ⟨Nat.le_refl _, Nat.le_refl _⟩ (fun H locs hw => ?_)
        refine lv_aload hx hb dL_areRegisters_359 (lv_at hl 5 rfl) ?_
        refine lv_iconst (v := 2) hx hb dL_areRegisters_361 (by decide) ?_
        refine r_iald X hw (f := xt) 2 (m_fl 1 rfl (m_at 4 rfl)) rfl (by decide) (by decide) dL_areRegisters_362 ?_
        refine lv_icmp_ne (tgt := 451) hx hb dL_areRegisters_363 (by decide) (fun h => absurd hL.2.2.2.2.2.2.2.2.1 h) (fun _ => ?_)
        refine lv_aload_n hx hb dL_areRegisters_366 rfl (lv_at hl 0 rfl) ?_
        refine lv_bipush (v := 11) hx hb dL_areRegisters_367 (by decide) ?_
        refine r_callV X hw (ws' := ([OB D o z s, [(kv, .inl (D.1 100, 7, .inl xv)), (kb, .inl (D.1 100, 7, .inl xb)), (kg, .inl (D.1 100, 7, .inl xg)), (kn, .inl (D.1 100, 7, .inl xn)), (kt, .inl (D.1 100, 11, .inl xt))], [(q1, .inl (D.1 100, 7, .inl xx))]] : List va_W).flatten) (As := [.int 11]) (rest := []) lk_L_69 (k_count11 l D _ o z s hz) (Foc.at1 0 rfl rfl (ce rfl (ce rfl rfl))) (m_fl 0 rfl (OB_mem D o z s)) rfl hl.1 (Nat.le_of_ble_eq_true rfl) ⟨Nat.le_of_ble_eq_true rfl, Nat.le_of_ble_eq_true rfl⟩ rfl dL_areRegisters_369 ⟨Nat.le_refl _, Nat.le_refl _⟩ (fun H locs hw => ?_)
        refine lv_aload hx hb dL_areRegisters_372 (lv_at hl 5 rfl) ?_
        refine lv_iconst (v := 5) hx hb dL_areRegisters_374 (by decide) ?_
        refine r_iald X hw (f := xt) 5 (m_fl 1 rfl (m_at 4 rfl)) rfl (by decide) (by decide) dL_areRegisters_375 ?_
        refine lv_bipush (v := 6) hx hb dL_areRegisters_376 (by decide) ?_
        refine lv_icmp_ge (tgt := 388) hx hb dL_areRegisters_378 (by decide) (fun c3 => ?_) (fun c3 => ?_)
        · skip
          refine lv_bipush (v := 6) hx hb dL_areRegisters_388 (by decide) ?_
          refine lv_icmp_ne (tgt := 451) hx hb dL_areRegisters_390 (by decide) (fun h => absurd (by show s.zs = _; have q := hL.c11 hK; rw [if_pos c3] at q; exact q) h) (fun _ => ?_)
          refine lv_aload_n hx hb dL_areRegisters_393 rfl (lv_at hl 0 rfl) ?_
          refine lv_bipush (v := 20) hx hb dL_areRegisters_394 (by decide) ?_
          refine r_callV X hw (ws' := ([OB D o z s, [(kv, .inl (D.1 100, 7, .inl xv)), (kb, .inl (D.1 100, 7, .inl xb)), (kg, .inl (D.1 100, 7, .inl xg)), (kn, .inl (D.1 100, 7, .inl xn)), (kt, .inl (D.1 100, 11, .inl xt))], [(q1, .inl (D.1 100, 7, .inl xx))]] : List va_W).flatten) (As := [.int 20]) (rest := []) lk_L_69 (k_count20 l D _ o z s hz) (Foc.at1 0 rfl rfl (ce rfl (ce rfl rfl))) (m_fl 0 rfl (OB_mem D o z s)) rfl hl.1 (Nat.le_of_ble_eq_true rfl) ⟨Nat.le_of_ble_eq_true rfl, Nat.le_of_ble_eq_true rfl⟩ rfl dL_areRegisters_396 ⟨Nat.le_refl _, Nat.le_refl _⟩ (fun H locs hw => ?_)
          refine lv_aload hx hb dL_areRegisters_399 (lv_at hl 5 rfl) ?_
          refine lv_bipush (v := 8) hx hb dL_areRegisters_401 (by decide) ?_
          refine r_iald X hw (f := xt) 8 (m_fl 1 rfl (m_at 4 rfl)) rfl (by decide) (by decide) dL_areRegisters_403 ?_
          refine lv_icmp_ne (tgt := 451) hx hb dL_areRegisters_404 (by decide) (fun h => absurd hL.2.2.2.1 h) (fun _ => ?_)
          refine lv_aload_n hx hb dL_areRegisters_407 rfl (lv_at hl 0 rfl) ?_
          refine lv_bipush (v := 21) hx hb dL_areRegisters_408 (by decide) ?_
          refine r_callV X hw (ws' := ([OB D o z s, [(kv, .inl (D.1 100, 7, .inl xv)), (kb, .inl (D.1 100, 7, .inl xb)), (kg, .inl (D.1 100, 7, .inl xg)), (kn, .inl (D.1 100, 7, .inl xn)), (kt, .inl (D.1 100, 11, .inl xt))], [(q1, .inl (D.1 100, 7, .inl xx))]] : List va_W).flatten) (As := [.int 21]) (rest := []) lk_L_69 (k_count21 l D _ o z s hz) (Foc.at1 0 rfl rfl (ce rfl (ce rfl rfl))) (m_fl 0 rfl (OB_mem D o z s)) rfl hl.1 (Nat.le_of_ble_eq_true rfl) ⟨Nat.le_of_ble_eq_true rfl, Nat.le_of_ble_eq_true rfl⟩ rfl dL_areRegisters_410 ⟨Nat.le_refl _, Nat.le_refl _⟩ (fun H locs hw => ?_)
          refine lv_aload hx hb dL_areRegisters_413 (lv_at hl 5 rfl) ?_
          refine lv_bipush (v := 9) hx hb dL_areRegisters_415 (by decide) ?_
          refine r_iald X hw (f := xt) 9 (m_fl 1 rfl (m_at 4 rfl)) rfl (by decide) (by decide) dL_areRegisters_417 ?_
          refine lv_icmp_ne (tgt := 451) hx hb dL_areRegisters_418 (by decide) (fun h => absurd hL.2.2.2.2.1 h) (fun _ => ?_)
          refine lv_aload_n hx hb dL_areRegisters_421 rfl (lv_at hl 0 rfl) ?_
          refine lv_bipush (v := 22) hx hb dL_areRegisters_422 (by decide) ?_
          refine r_callV X hw (ws' := ([OB D o z s, [(kv, .inl (D.1 100, 7, .inl xv)), (kb, .inl (D.1 100, 7, .inl xb)), (kg, .inl (D.1 100, 7, .inl xg)), (kn, .inl (D.1 100, 7, .inl xn)), (kt, .inl (D.1 100, 11, .inl xt))], [(q1, .inl (D.1 100, 7, .inl xx))]] : List va_W).flatten) (As := [.int 22]) (rest := []) lk_L_69 (k_count22 l D _ o z s hz) (Foc.at1 0 rfl rfl (ce rfl (ce rfl rfl))) (m_fl 0 rfl (OB_mem D o z s)) rfl hl.1 (Nat.le_of_ble_eq_true rfl) ⟨Nat.le_of_ble_eq_true rfl, Nat.le_of_ble_eq_true rfl⟩ rfl dL_areRegisters_424 ⟨Nat.le_refl _, Nat.le_refl _⟩ (fun H locs hw => ?_)
          refine lv_aload hx hb dL_areRegisters_427 (lv_at hl 5 rfl) ?_
          refine lv_bipush (v := 10) hx hb dL_areRegisters_429 (by decide) ?_
          refine r_iald X hw (f := xt) 10 (m_fl 1 rfl (m_at 4 rfl)) rfl (by decide) (by decide) dL_areRegisters_431 ?_
          refine lv_icmp_ne (tgt := 451) hx hb dL_areRegisters_432 (by decide) (fun h => absurd hL.2.2.2.2.2.1 h) (fun _ => ?_)
          refine lv_aload_n hx hb dL_areRegisters_435 rfl (lv_at hl 0 rfl) ?_
          refine lv_iconst (v := 3) hx hb dL_areRegisters_436 (by decide) ?_
          refine r_callV X hw (ws' := ([OB D o z s, [(kv, .inl (D.1 100, 7, .inl xv)), (kb, .inl (D.1 100, 7, .inl xb)), (kg, .inl (D.1 100, 7, .inl xg)), (kn, .inl (D.1 100, 7, .inl xn)), (kt, .inl (D.1 100, 11, .inl xt))], [(q1, .inl (D.1 100, 7, .inl xx))]] : List va_W).flatten) (As := [.int 3]) (rest := []) lk_L_72 (k_date3 l D _ o z s hz) (Foc.at1 0 rfl rfl (ce rfl (ce rfl rfl))) (m_fl 0 rfl (OB_mem D o z s)) rfl hl.1 (Nat.le_of_ble_eq_true rfl) ⟨Nat.le_of_ble_eq_true rfl, Nat.le_of_ble_eq_true rfl⟩ rfl dL_areRegisters_437 ⟨Nat.le_refl _, Nat.le_refl _⟩ (fun H locs hw => ?_)
          refine lv_aload_n hx hb dL_areRegisters_440 rfl (lv_at hl 1 rfl) ?_
          refine r_callS X hw (ws' := ([OB D o z s, [(kv, .inl (D.1 100, 7, .inl xv)), (kb, .inl (D.1 100, 7, .inl xb)), (kg, .inl (D.1 100, 7, .inl xg)), (kn, .inl (D.1 100, 7, .inl xn)), (kt, .inl (D.1 100, 11, .inl xt))], [(q1, .inl (D.1 100, 7, .inl xx))]] : List va_W).flatten) (As := [.ref kv]) (rest := [.int (sp_X6_date3 s)]) lk_L_19 (c_L_month l D _ kv xv) (Foc.trans (Foc.at1 1 rfl rfl (ce rfl (ce rfl rfl))) (Foc.pick [0] (r := [(kb, .inl (D.1 100, 7, .inl xb)), (kg, .inl (D.1 100, 7, .inl xg)), (kn, .inl (D.1 100, 7, .inl xn)), (kt, .inl (D.1 100, 11, .inl xt))]) rfl rfl)) rfl hl.1 (Nat.le_of_ble_eq_true rfl) ⟨Nat.le_of_ble_eq_true rfl, Nat.le_of_ble_eq_true rfl⟩ rfl dL_areRegisters_441 ⟨Nat.le_refl _, Nat.le_refl _⟩ (fun H locs hw => ?_)
          refine lv_icmp_ne (tgt := 451) hx hb dL_areRegisters_444 (by decide) (fun h => absurd (show _ = sp_L_most xv 4 from last_eq hL.1 (show 4 < 7 from by decide)) h) (fun _ => ?_)
          refine lv_iconst (v := 1) hx hb dL_areRegisters_447 (by decide) ?_
          refine lv_goto (tgt := 452) hx hb dL_areRegisters_448 (by decide) ?_
          exact r_retM X hw fl_drop hk hret rfl rfl (Nat.le_of_ble_eq_true rfl) (Nat.le_of_ble_eq_true rfl) dL_areRegisters_452
        · skip
          refine lv_aload hx hb dL_areRegisters_381 (lv_at hl 5 rfl) ?_
          refine lv_iconst (v := 5) hx hb dL_areRegisters_383 (by decide) ?_
          refine r_iald X hw (f := xt) 5 (m_fl 1 rfl (m_at 4 rfl)) rfl (by decide) (by decide) dL_areRegisters_384 ?_
          refine lv_goto (tgt := 390) hx hb dL_areRegisters_385 (by decide) ?_
          refine lv_icmp_ne (tgt := 451) hx hb dL_areRegisters_390 (by decide) (fun h => absurd (by show s.zs = _; have q := hL.c11 hK; rw [if_neg c3] at q; exact q) h) (fun _ => ?_)
          refine lv_aload_n hx hb dL_areRegisters_393 rfl (lv_at hl 0 rfl) ?_
          refine lv_bipush (v := 20) hx hb dL_areRegisters_394 (by decide) ?_
          refine r_callV X hw (ws' := ([OB D o z s, [(kv, .inl (D.1 100, 7, .inl xv)), (kb, .inl (D.1 100, 7, .inl xb)), (kg, .inl (D.1 100, 7, .inl xg)), (kn, .inl (D.1 100, 7, .inl xn)), (kt, .inl (D.1 100, 11, .inl xt))], [(q1, .inl (D.1 100, 7, .inl xx))]] : List va_W).flatten) (As := [.int 20]) (rest := []) lk_L_69 (k_count20 l D _ o z s hz) (Foc.at1 0 rfl rfl (ce rfl (ce rfl rfl))) (m_fl 0 rfl (OB_mem D o z s)) rfl hl.1 (Nat.le_of_ble_eq_true rfl) ⟨Nat.le_of_ble_eq_true rfl, Nat.le_of_ble_eq_true rfl⟩ rfl dL_areRegisters_396 ⟨Nat.le_refl _, Nat.le_refl _⟩ (fun H locs hw => ?_)
          refine lv_aload hx hb dL_areRegisters_399 (lv_at hl 5 rfl) ?_
          refine lv_bipush (v := 8) hx hb dL_areRegisters_401 (by decide) ?_
          refine r_iald X hw (f := xt) 8 (m_fl 1 rfl (m_at 4 rfl)) rfl (by decide) (by decide) dL_areRegisters_403 ?_
          refine lv_icmp_ne (tgt := 451) hx hb dL_areRegisters_404 (by decide) (fun h => absurd hL.2.2.2.1 h) (fun _ => ?_)
          refine lv_aload_n hx hb dL_areRegisters_407 rfl (lv_at hl 0 rfl) ?_
          refine lv_bipush (v := 21) hx hb dL_areRegisters_408 (by decide) ?_
          refine r_callV X hw (ws' := ([OB D o z s, [(kv, .inl (D.1 100, 7, .inl xv)), (kb, .inl (D.1 100, 7, .inl xb)), (kg, .inl (D.1 100, 7, .inl xg)), (kn, .inl (D.1 100, 7, .inl xn)), (kt, .inl (D.1 100, 11, .inl xt))], [(q1, .inl (D.1 100, 7, .inl xx))]] : List va_W).flatten) (As := [.int 21]) (rest := []) lk_L_69 (k_count21 l D _ o z s hz) (Foc.at1 0 rfl rfl (ce rfl (ce rfl rfl))) (m_fl 0 rfl (OB_mem D o z s)) rfl hl.1 (Nat.le_of_ble_eq_true rfl) ⟨Nat.le_of_ble_eq_true rfl, Nat.le_of_ble_eq_true rfl⟩ rfl dL_areRegisters_410 ⟨Nat.le_refl _, Nat.le_refl _⟩ (fun H locs hw => ?_)
          refine lv_aload hx hb dL_areRegisters_413 (lv_at hl 5 rfl) ?_
          refine lv_bipush (v := 9) hx hb dL_areRegisters_415 (by decide) ?_
          refine r_iald X hw (f := xt) 9 (m_fl 1 rfl (m_at 4 rfl)) rfl (by decide) (by decide) dL_areRegisters_417 ?_
          refine lv_icmp_ne (tgt := 451) hx hb dL_areRegisters_418 (by decide) (fun h => absurd hL.2.2.2.2.1 h) (fun _ => ?_)
          refine lv_aload_n hx hb dL_areRegisters_421 rfl (lv_at hl 0 rfl) ?_
          refine lv_bipush (v := 22) hx hb dL_areRegisters_422 (by decide) ?_
          refine r_callV X hw (ws' := ([OB D o z s, [(kv, .inl (D.1 100, 7, .inl xv)), (kb, .inl (D.1 100, 7, .inl xb)), (kg, .inl (D.1 100, 7, .inl xg)), (kn, .inl (D.1 100, 7, .inl xn)), (kt, .inl (D.1 100, 11, .inl xt))], [(q1, .inl (D.1 100, 7, .inl xx))]] : List va_W).flatten) (As := [.int 22]) (rest := []) lk_L_69 (k_count22 l D _ o z s hz) (Foc.at1 0 rfl rfl (ce rfl (ce rfl rfl))) (m_fl 0 rfl (OB_mem D o z s)) rfl hl.1 (Nat.le_of_ble_eq_true rfl) ⟨Nat.le_of_ble_eq_true rfl, Nat.le_of_ble_eq_true rfl⟩ rfl dL_areRegisters_424 ⟨Nat.le_refl _, Nat.le_refl _⟩ (fun H locs hw => ?_)
          refine lv_aload hx hb dL_areRegisters_427 (lv_at hl 5 rfl) ?_
          refine lv_bipush (v := 10) hx hb dL_areRegisters_429 (by decide) ?_
          refine r_iald X hw (f := xt) 10 (m_fl 1 rfl (m_at 4 rfl)) rfl (by decide) (by decide) dL_areRegisters_431 ?_
          refine lv_icmp_ne (tgt := 451) hx hb dL_areRegisters_432 (by decide) (fun h => absurd hL.2.2.2.2.2.1 h) (fun _ => ?_)
          refine lv_aload_n hx hb dL_areRegisters_435 rfl (lv_at hl 0 rfl) ?_
          refine lv_iconst (v := 3) hx hb dL_areRegisters_436 (by decide) ?_
          refine r_callV X hw (ws' := ([OB D o z s, [(kv, .inl (D.1 100, 7, .inl xv)), (kb, .inl (D.1 100, 7, .inl xb)), (kg, .inl (D.1 100, 7, .inl xg)), (kn, .inl (D.1 100, 7, .inl xn)), (kt, .inl (D.1 100, 11, .inl xt))], [(q1, .inl (D.1 100, 7, .inl xx))]] : List va_W).flatten) (As := [.int 3]) (rest := []) lk_L_72 (k_date3 l D _ o z s hz) (Foc.at1 0 rfl rfl (ce rfl (ce rfl rfl))) (m_fl 0 rfl (OB_mem D o z s)) rfl hl.1 (Nat.le_of_ble_eq_true rfl) ⟨Nat.le_of_ble_eq_true rfl, Nat.le_of_ble_eq_true rfl⟩ rfl dL_areRegisters_437 ⟨Nat.le_refl _, Nat.le_refl _⟩ (fun H locs hw => ?_)
          refine lv_aload_n hx hb dL_areRegisters_440 rfl (lv_at hl 1 rfl) ?_
          refine r_callS X hw (ws' := ([OB D o z s, [(kv, .inl (D.1 100, 7, .inl xv)), (kb, .inl (D.1 100, 7, .inl xb)), (kg, .inl (D.1 100, 7, .inl xg)), (kn, .inl (D.1 100, 7, .inl xn)), (kt, .inl (D.1 100, 11, .inl xt))], [(q1, .inl (D.1 100, 7, .inl xx))]] : List va_W).flatten) (As := [.ref kv]) (rest := [.int (sp_X6_date3 s)]) lk_L_19 (c_L_month l D _ kv xv) (Foc.trans (Foc.at1 1 rfl rfl (ce rfl (ce rfl rfl))) (Foc.pick [0] (r := [(kb, .inl (D.1 100, 7, .inl xb)), (kg, .inl (D.1 100, 7, .inl xg)), (kn, .inl (D.1 100, 7, .inl xn)), (kt, .inl (D.1 100, 11, .inl xt))]) rfl rfl)) rfl hl.1 (Nat.le_of_ble_eq_true rfl) ⟨Nat.le_of_ble_eq_true rfl, Nat.le_of_ble_eq_true rfl⟩ rfl dL_areRegisters_441 ⟨Nat.le_refl _, Nat.le_refl _⟩ (fun H locs hw => ?_)
          refine lv_icmp_ne (tgt := 451) hx hb dL_areRegisters_444 (by decide) (fun h => absurd (show _ = sp_L_most xv 4 from last_eq hL.1 (show 4 < 7 from by decide)) h) (fun _ => ?_)
          refine lv_iconst (v := 1) hx hb dL_areRegisters_447 (by decide) ?_
          refine lv_goto (tgt := 452) hx hb dL_areRegisters_448 (by decide) ?_
          exact r_retM X hw fl_drop hk hret rfl rfl (Nat.le_of_ble_eq_true rfl) (Nat.le_of_ble_eq_true rfl) dL_areRegisters_452
      · skip
        refine lv_iload hx hb dL_areRegisters_25 (lv_at hl 9 rfl) ?_
        refine lv_if_eq (tgt := 251) hx hb dL_areRegisters_27 (by decide) (fun h => absurd h (by decide)) (fun _ => ?_)
        have cut89 : ∀ (y : Int32), wL (xv r) (sp_L_least r) (sp_L_most xv r) = y → ∀ (H : Heap) (locs : List Loc) (ls : Array Slot), Wd D A st.heap H locs (([OB D o z s, [(kv, .inl (D.1 100, 7, .inl xv)), (kb, .inl (D.1 100, 7, .inl xb)), (kg, .inl (D.1 100, 7, .inl xg)), (kn, .inl (D.1 100, 7, .inl xn)), (kt, .inl (D.1 100, 11, .inl xt))], [(q1, .inl (D.1 100, 7, .inl xx))]] : List va_W).flatten) → lv_has ls 12 [(0, .ref o), (1, .ref kv), (2, .ref kb), (3, .ref kg), (4, .ref kn), (5, .ref kt), (6, .int x6), (7, .int x7), (8, .ref q1), (9, .int 1), (10, .int (nI r)), (11, .int y)] → W p l e (rmOf 5 1 7 108) st m args below meth c H locs (0 + 1) (0 + 7) (QIN below args st D A 1 7 1 (([OB D o z s, [(kv, .inl (D.1 100, 7, .inl xv)), (kb, .inl (D.1 100, 7, .inl xb)), (kg, .inl (D.1 100, 7, .inl xg)), (kn, .inl (D.1 100, 7, .inl xn)), (kt, .inl (D.1 100, 11, .inl xt))]] : List va_W).flatten)) (F0 m 89 ls []) := by
          intro y hy H locs ls hw hl
          refine lv_aload hx hb dL_areRegisters_89 (lv_at hl 8 rfl) ?_
          refine lv_aload_n hx hb dL_areRegisters_91 rfl (lv_at hl 2 rfl) ?_
          refine lv_aload_n hx hb dL_areRegisters_92 rfl (lv_at hl 3 rfl) ?_
          refine lv_iload hx hb dL_areRegisters_93 (lv_at hl 10 rfl) ?_
          refine lv_aload_n hx hb dL_areRegisters_95 rfl (lv_at hl 1 rfl) ?_
          refine lv_iload hx hb dL_areRegisters_96 (lv_at hl 10 rfl) ?_
          refine r_callS X hw (ws' := ([OB D o z s, [(kv, .inl (D.1 100, 7, .inl xv)), (kb, .inl (D.1 100, 7, .inl xb)), (kg, .inl (D.1 100, 7, .inl xg)), (kn, .inl (D.1 100, 7, .inl xn)), (kt, .inl (D.1 100, 11, .inl xt))], [(q1, .inl (D.1 100, 7, .inl xx))]] : List va_W).flatten) (As := [.ref kv, .int (nI r)]) (rest := [.int (nI r), .ref kg, .ref kb, .ref q1]) lk_L_30 (c_L_next l D _ kv xv r (by omega)) (Foc.trans (Foc.at1 1 rfl rfl (ce rfl (ce rfl rfl))) (Foc.pick [0] (r := [(kb, .inl (D.1 100, 7, .inl xb)), (kg, .inl (D.1 100, 7, .inl xg)), (kn, .inl (D.1 100, 7, .inl xn)), (kt, .inl (D.1 100, 11, .inl xt))]) rfl rfl)) rfl hl.1 (Nat.le_of_ble_eq_true rfl) ⟨Nat.le_of_ble_eq_true rfl, Nat.le_of_ble_eq_true rfl⟩ rfl dL_areRegisters_98 ⟨Nat.le_refl _, Nat.le_refl _⟩ (fun H locs hw => ?_)
          refine r_callSv X hw (ws' := ([OB D o z s, [(kv, .inl (D.1 100, 7, .inl xv)), (kb, .inl (D.1 100, 7, .inl xb)), (kg, .inl (D.1 100, 7, .inl xg)), (kn, .inl (D.1 100, 7, .inl xn)), (kt, .inl (D.1 100, 11, .inl xt))], [(q1, .inl (D.1 100, 7, .inl (upd xx r (puN (xb r) (xg r) (sp_L_next xv r) 8))))]] : List va_W).flatten) (As := [.ref q1, .ref kb, .ref kg, .int (nI r), .int (sp_L_next xv r)]) (rest := []) lk_L_33 (c_L_put l D _ q1 kb kg xx xb xg r (sp_L_next xv r) (by omega)) (Foc.trans (Foc.at2 1 1 rfl rfl rfl rfl (ce rfl rfl)) (Foc.pick [5, 1, 1] (r := [(kv, .inl (D.1 100, 7, .inl xv)), (kn, .inl (D.1 100, 7, .inl xn)), (kt, .inl (D.1 100, 11, .inl xt))]) rfl rfl)) rfl hl.1 (Nat.le_of_ble_eq_true rfl) ⟨Nat.le_of_ble_eq_true rfl, Nat.le_of_ble_eq_true rfl⟩ rfl dL_areRegisters_101 ⟨Nat.le_refl _, Nat.le_refl _⟩ (fun H locs hw => ?_)
          refine lv_iload hx hb dL_areRegisters_104 (lv_at hl 6 rfl) ?_
          refine lv_iload hx hb dL_areRegisters_106 (lv_at hl 11 rfl) ?_
          refine lv_if_le (tgt := 118) hx hb dL_areRegisters_108 (by decide) (fun c4 => ?_) (fun c4 => ?_)
          · skip
            refine lv_iconst (v := 0) hx hb dL_areRegisters_118 (by decide) ?_
            refine lv_ior hx hb dL_areRegisters_119 ?_
            refine lv_istore (lv' := [(6, .int (x6 ||| 0)), (0, .ref o), (1, .ref kv), (2, .ref kb), (3, .ref kg), (4, .ref kn), (5, .ref kt), (7, .int x7), (8, .ref q1), (9, .int 1), (10, .int (nI r)), (11, .int y)]) hx hb dL_areRegisters_120 hl (by decide) rfl (fun ls hl => ?_)
            refine lv_iload hx hb dL_areRegisters_122 (lv_at hl 7 rfl) ?_
            refine lv_aload_n hx hb dL_areRegisters_124 rfl (lv_at hl 3 rfl) ?_
            refine lv_iload hx hb dL_areRegisters_125 (lv_at hl 10 rfl) ?_
            refine r_iald X hw (f := xb) r (m_fl 1 rfl (m_at 1 rfl)) rfl (by omega) (by decide) dL_areRegisters_127 ?_
            refine r_callS X hw (ws' := ([OB D o z s, [(kv, .inl (D.1 100, 7, .inl xv)), (kb, .inl (D.1 100, 7, .inl xb)), (kg, .inl (D.1 100, 7, .inl xg)), (kn, .inl (D.1 100, 7, .inl xn)), (kt, .inl (D.1 100, 11, .inl xt))], [(q1, .inl (D.1 100, 7, .inl (upd xx r (puN (xb r) (xg r) (sp_L_next xv r) 8))))]] : List va_W).flatten) (As := [.int (xb r)]) (rest := [.int x7]) lk_L_63 (c_L_bits l D _ (xb r)) Foc.nil rfl hl.1 (Nat.le_of_ble_eq_true rfl) ⟨Nat.le_of_ble_eq_true rfl, Nat.le_of_ble_eq_true rfl⟩ rfl dL_areRegisters_128 ⟨Nat.le_refl _, Nat.le_refl _⟩ (fun H locs hw => ?_)
            refine lv_iadd hx hb dL_areRegisters_131 ?_
            refine lv_istore (lv' := [(7, .int (x7 + (btN (xb r) 8))), (6, .int (x6 ||| 0)), (0, .ref o), (1, .ref kv), (2, .ref kb), (3, .ref kg), (4, .ref kn), (5, .ref kt), (8, .ref q1), (9, .int 1), (10, .int (nI r)), (11, .int y)]) hx hb dL_areRegisters_132 hl (by decide) rfl (fun ls hl => ?_)
            refine lv_aload_n hx hb dL_areRegisters_134 rfl (lv_at hl 2 rfl) ?_
            refine lv_iload hx hb dL_areRegisters_135 (lv_at hl 10 rfl) ?_
            refine lv_iconst (v := 0) hx hb dL_areRegisters_137 (by decide) ?_
            refine r_callV X hw (ws' := ([OB D o z s, [(kv, .inl (D.1 100, 7, .inl xv)), (kb, .inl (D.1 100, 7, .inl xb)), (kg, .inl (D.1 100, 7, .inl xg)), (kn, .inl (D.1 100, 7, .inl xn)), (kt, .inl (D.1 100, 11, .inl xt))], [(q1, .inl (D.1 100, 7, .inl (upd xx r (puN (xb r) (xg r) (sp_L_next xv r) 8))))]] : List va_W).flatten) (As := [.int (nI r), .int 0]) (rest := []) lk_L_66 (k_registerOf0 l D _ o z s hz r (by omega) (isR (by omega))) (Foc.at1 0 rfl rfl (ce rfl (ce rfl rfl))) (m_fl 0 rfl (OB_mem D o z s)) rfl hl.1 (Nat.le_of_ble_eq_true rfl) ⟨Nat.le_of_ble_eq_true rfl, Nat.le_of_ble_eq_true rfl⟩ rfl dL_areRegisters_138 ⟨Nat.le_refl _, Nat.le_refl _⟩ (fun H locs hw => ?_)
            refine lv_aload_n hx hb dL_areRegisters_141 rfl (lv_at hl 3 rfl) ?_
            refine lv_iload hx hb dL_areRegisters_142 (lv_at hl 10 rfl) ?_
            refine r_iald X hw (f := xv) r (m_fl 1 rfl (m_at 0 rfl)) rfl (by omega) (by decide) dL_areRegisters_144 ?_
            refine lv_icmp_ne (tgt := 242) hx hb dL_areRegisters_145 (by decide) (fun h => absurd (hL.1 r (by omega)).1 h) (fun _ => ?_)
            refine lv_aload_n hx hb dL_areRegisters_148 rfl (lv_at hl 2 rfl) ?_
            refine lv_iload hx hb dL_areRegisters_149 (lv_at hl 10 rfl) ?_
            refine lv_iconst (v := 1) hx hb dL_areRegisters_151 (by decide) ?_
            refine r_callV X hw (ws' := ([OB D o z s, [(kv, .inl (D.1 100, 7, .inl xv)), (kb, .inl (D.1 100, 7, .inl xb)), (kg, .inl (D.1 100, 7, .inl xg)), (kn, .inl (D.1 100, 7, .inl xn)), (kt, .inl (D.1 100, 11, .inl xt))], [(q1, .inl (D.1 100, 7, .inl (upd xx r (puN (xb r) (xg r) (sp_L_next xv r) 8))))]] : List va_W).flatten) (As := [.int (nI r), .int 1]) (rest := []) lk_L_66 (k_registerOf1 l D _ o z s hz r (by omega) (isR (by omega))) (Foc.at1 0 rfl rfl (ce rfl (ce rfl rfl))) (m_fl 0 rfl (OB_mem D o z s)) rfl hl.1 (Nat.le_of_ble_eq_true rfl) ⟨Nat.le_of_ble_eq_true rfl, Nat.le_of_ble_eq_true rfl⟩ rfl dL_areRegisters_152 ⟨Nat.le_refl _, Nat.le_refl _⟩ (fun H locs hw => ?_)
            refine lv_aload_n hx hb dL_areRegisters_155 rfl (lv_at hl 3 rfl) ?_
            refine lv_iload hx hb dL_areRegisters_156 (lv_at hl 10 rfl) ?_
            refine r_iald X hw (f := xv) r (m_fl 1 rfl (m_at 0 rfl)) rfl (by omega) (by decide) dL_areRegisters_158 ?_
            refine r_callS X hw (ws' := ([OB D o z s, [(kv, .inl (D.1 100, 7, .inl xv)), (kb, .inl (D.1 100, 7, .inl xb)), (kg, .inl (D.1 100, 7, .inl xg)), (kn, .inl (D.1 100, 7, .inl xn)), (kt, .inl (D.1 100, 11, .inl xt))], [(q1, .inl (D.1 100, 7, .inl (upd xx r (puN (xb r) (xg r) (sp_L_next xv r) 8))))]] : List va_W).flatten) (As := [.int (xv r)]) (rest := [.int (sp_X6_registerOf1 s r)]) lk_L_9 (c_L_number l D _ (xv r)) Foc.nil rfl hl.1 (Nat.le_of_ble_eq_true rfl) ⟨Nat.le_of_ble_eq_true rfl, Nat.le_of_ble_eq_true rfl⟩ rfl dL_areRegisters_159 ⟨Nat.le_refl _, Nat.le_refl _⟩ (fun H locs hw => ?_)
            refine lv_icmp_ne (tgt := 242) hx hb dL_areRegisters_162 (by decide) (fun h => absurd (num_eq hL.1 (show r < 7 from by omega)) h) (fun _ => ?_)
            refine lv_aload_n hx hb dL_areRegisters_165 rfl (lv_at hl 2 rfl) ?_
            refine lv_iload hx hb dL_areRegisters_166 (lv_at hl 10 rfl) ?_
            refine lv_iconst (v := 2) hx hb dL_areRegisters_168 (by decide) ?_
            refine r_callV X hw (ws' := ([OB D o z s, [(kv, .inl (D.1 100, 7, .inl xv)), (kb, .inl (D.1 100, 7, .inl xb)), (kg, .inl (D.1 100, 7, .inl xg)), (kn, .inl (D.1 100, 7, .inl xn)), (kt, .inl (D.1 100, 11, .inl xt))], [(q1, .inl (D.1 100, 7, .inl (upd xx r (puN (xb r) (xg r) (sp_L_next xv r) 8))))]] : List va_W).flatten) (As := [.int (nI r), .int 2]) (rest := []) lk_L_66 (k_registerOf2 l D _ o z s hz r (by omega) (isR (by omega))) (Foc.at1 0 rfl rfl (ce rfl (ce rfl rfl))) (m_fl 0 rfl (OB_mem D o z s)) rfl hl.1 (Nat.le_of_ble_eq_true rfl) ⟨Nat.le_of_ble_eq_true rfl, Nat.le_of_ble_eq_true rfl⟩ rfl dL_areRegisters_169 ⟨Nat.le_refl _, Nat.le_refl _⟩ (fun H locs hw => ?_)
            refine lv_iload hx hb dL_areRegisters_172 (lv_at hl 11 rfl) ?_
            refine lv_icmp_ne (tgt := 242) hx hb dL_areRegisters_174 (by decide) (fun h => absurd ((why_eq hL.1 (show r < 7 from by omega)).trans hy) h) (fun _ => ?_)
            refine lv_aload_n hx hb dL_areRegisters_177 rfl (lv_at hl 2 rfl) ?_
            refine lv_iload hx hb dL_areRegisters_178 (lv_at hl 10 rfl) ?_
            refine lv_iconst (v := 3) hx hb dL_areRegisters_180 (by decide) ?_
            refine r_callV X hw (ws' := ([OB D o z s, [(kv, .inl (D.1 100, 7, .inl xv)), (kb, .inl (D.1 100, 7, .inl xb)), (kg, .inl (D.1 100, 7, .inl xg)), (kn, .inl (D.1 100, 7, .inl xn)), (kt, .inl (D.1 100, 11, .inl xt))], [(q1, .inl (D.1 100, 7, .inl (upd xx r (puN (xb r) (xg r) (sp_L_next xv r) 8))))]] : List va_W).flatten) (As := [.int (nI r), .int 3]) (rest := []) lk_L_66 (k_registerOf3 l D _ o z s hz r (by omega) (isR (by omega))) (Foc.at1 0 rfl rfl (ce rfl (ce rfl rfl))) (m_fl 0 rfl (OB_mem D o z s)) rfl hl.1 (Nat.le_of_ble_eq_true rfl) ⟨Nat.le_of_ble_eq_true rfl, Nat.le_of_ble_eq_true rfl⟩ rfl dL_areRegisters_181 ⟨Nat.le_refl _, Nat.le_refl _⟩ (fun H locs hw => ?_)
            refine lv_aload_n hx hb dL_areRegisters_184 rfl (lv_at hl 3 rfl) ?_
            refine lv_iload hx hb dL_areRegisters_185 (lv_at hl 10 rfl) ?_
            refine r_callS X hw (ws' := ([OB D o z s, [(kv, .inl (D.1 100, 7, .inl xv)), (kb, .inl (D.1 100, 7, .inl xb)), (kg, .inl (D.1 100, 7, .inl xg)), (kn, .inl (D.1 100, 7, .inl xn)), (kt, .inl (D.1 100, 11, .inl xt))], [(q1, .inl (D.1 100, 7, .inl (upd xx r (puN (xb r) (xg r) (sp_L_next xv r) 8))))]] : List va_W).flatten) (As := [.ref kv, .int (nI r)]) (rest := [.int (sp_X6_registerOf3 s r)]) lk_L_26 (c_L_most l D _ kv xv r (by omega)) (Foc.trans (Foc.at1 1 rfl rfl (ce rfl (ce rfl rfl))) (Foc.pick [0] (r := [(kb, .inl (D.1 100, 7, .inl xb)), (kg, .inl (D.1 100, 7, .inl xg)), (kn, .inl (D.1 100, 7, .inl xn)), (kt, .inl (D.1 100, 11, .inl xt))]) rfl rfl)) rfl hl.1 (Nat.le_of_ble_eq_true rfl) ⟨Nat.le_of_ble_eq_true rfl, Nat.le_of_ble_eq_true rfl⟩ rfl dL_areRegisters_187 ⟨Nat.le_refl _, Nat.le_refl _⟩ (fun H locs hw => ?_)
            refine lv_icmp_ne (tgt := 242) hx hb dL_areRegisters_190 (by decide) (fun h => absurd (last_eq hL.1 (show r < 7 from by omega)) h) (fun _ => ?_)
            refine lv_aload_n hx hb dL_areRegisters_193 rfl (lv_at hl 2 rfl) ?_
            refine lv_iload hx hb dL_areRegisters_194 (lv_at hl 10 rfl) ?_
            refine lv_iconst (v := 4) hx hb dL_areRegisters_196 (by decide) ?_
            refine r_callV X hw (ws' := ([OB D o z s, [(kv, .inl (D.1 100, 7, .inl xv)), (kb, .inl (D.1 100, 7, .inl xb)), (kg, .inl (D.1 100, 7, .inl xg)), (kn, .inl (D.1 100, 7, .inl xn)), (kt, .inl (D.1 100, 11, .inl xt))], [(q1, .inl (D.1 100, 7, .inl (upd xx r (puN (xb r) (xg r) (sp_L_next xv r) 8))))]] : List va_W).flatten) (As := [.int (nI r), .int 4]) (rest := []) lk_L_66 (k_registerOf4 l D _ o z s hz r (by omega) (isR (by omega))) (Foc.at1 0 rfl rfl (ce rfl (ce rfl rfl))) (m_fl 0 rfl (OB_mem D o z s)) rfl hl.1 (Nat.le_of_ble_eq_true rfl) ⟨Nat.le_of_ble_eq_true rfl, Nat.le_of_ble_eq_true rfl⟩ rfl dL_areRegisters_197 ⟨Nat.le_refl _, Nat.le_refl _⟩ (fun H locs hw => ?_)
            refine lv_aload_n hx hb dL_areRegisters_200 rfl (lv_at hl 4 rfl) ?_
            refine lv_iload hx hb dL_areRegisters_201 (lv_at hl 10 rfl) ?_
            refine r_iald X hw (f := xb) r (m_fl 1 rfl (m_at 1 rfl)) rfl (by omega) (by decide) dL_areRegisters_203 ?_
            refine lv_icmp_ne (tgt := 242) hx hb dL_areRegisters_204 (by decide) (fun h => absurd (hL.1 r (by omega)).2.1 h) (fun _ => ?_)
            refine lv_aload_n hx hb dL_areRegisters_207 rfl (lv_at hl 2 rfl) ?_
            refine lv_iload hx hb dL_areRegisters_208 (lv_at hl 10 rfl) ?_
            refine lv_iconst (v := 5) hx hb dL_areRegisters_210 (by decide) ?_
            refine r_callV X hw (ws' := ([OB D o z s, [(kv, .inl (D.1 100, 7, .inl xv)), (kb, .inl (D.1 100, 7, .inl xb)), (kg, .inl (D.1 100, 7, .inl xg)), (kn, .inl (D.1 100, 7, .inl xn)), (kt, .inl (D.1 100, 11, .inl xt))], [(q1, .inl (D.1 100, 7, .inl (upd xx r (puN (xb r) (xg r) (sp_L_next xv r) 8))))]] : List va_W).flatten) (As := [.int (nI r), .int 5]) (rest := []) lk_L_66 (k_registerOf5 l D _ o z s hz r (by omega) (isR (by omega))) (Foc.at1 0 rfl rfl (ce rfl (ce rfl rfl))) (m_fl 0 rfl (OB_mem D o z s)) rfl hl.1 (Nat.le_of_ble_eq_true rfl) ⟨Nat.le_of_ble_eq_true rfl, Nat.le_of_ble_eq_true rfl⟩ rfl dL_areRegisters_211 ⟨Nat.le_refl _, Nat.le_refl _⟩ (fun H locs hw => ?_)
            refine lv_aload hx hb dL_areRegisters_214 (lv_at hl 6 rfl) ?_
            refine lv_iload hx hb dL_areRegisters_216 (lv_at hl 10 rfl) ?_
            refine r_iald X hw (f := xn) r (m_fl 1 rfl (m_at 3 rfl)) rfl (by omega) (by decide) dL_areRegisters_218 ?_
            refine lv_icmp_ne (tgt := 242) hx hb dL_areRegisters_219 (by decide) (fun h => absurd (hL.1 r (by omega)).2.2.2.1 h) (fun _ => ?_)
            refine lv_aload_n hx hb dL_areRegisters_222 rfl (lv_at hl 2 rfl) ?_
            refine lv_iload hx hb dL_areRegisters_223 (lv_at hl 10 rfl) ?_
            refine lv_bipush (v := 6) hx hb dL_areRegisters_225 (by decide) ?_
            refine r_callV X hw (ws' := ([OB D o z s, [(kv, .inl (D.1 100, 7, .inl xv)), (kb, .inl (D.1 100, 7, .inl xb)), (kg, .inl (D.1 100, 7, .inl xg)), (kn, .inl (D.1 100, 7, .inl xn)), (kt, .inl (D.1 100, 11, .inl xt))], [(q1, .inl (D.1 100, 7, .inl (upd xx r (puN (xb r) (xg r) (sp_L_next xv r) 8))))]] : List va_W).flatten) (As := [.int (nI r), .int 6]) (rest := []) lk_L_66 (k_registerOf6 l D _ o z s hz r (by omega) (isR (by omega))) (Foc.at1 0 rfl rfl (ce rfl (ce rfl rfl))) (m_fl 0 rfl (OB_mem D o z s)) rfl hl.1 (Nat.le_of_ble_eq_true rfl) ⟨Nat.le_of_ble_eq_true rfl, Nat.le_of_ble_eq_true rfl⟩ rfl dL_areRegisters_227 ⟨Nat.le_refl _, Nat.le_refl _⟩ (fun H locs hw => ?_)
            refine lv_aload hx hb dL_areRegisters_230 (lv_at hl 8 rfl) ?_
            refine lv_iload hx hb dL_areRegisters_232 (lv_at hl 10 rfl) ?_
            refine r_iald X hw (f := upd xx r (puN (xb r) (xg r) (sp_L_next xv r) 8)) r (m_fl 2 rfl (m_at 0 rfl)) rfl (by omega) (by decide) dL_areRegisters_234 ?_
            refine lv_icmp_ne (tgt := 242) hx hb dL_areRegisters_235 (by decide) (fun h => absurd (by show sp_X5_withCells s.f s.g r (sp_X5_nextValue s.v r (sp_X5_lastValue s.v r)) = _; rw [upd_eq, (next_eq hL.1 (show r < 7 from by omega)).1]; exact (put_eq hL.1 (show r < 7 from by omega) (next_eq hL.1 (show r < 7 from by omega)).2.1).1) h) (fun _ => ?_)
            refine lv_iconst (v := 1) hx hb dL_areRegisters_238 (by decide) ?_
            refine lv_goto (tgt := 243) hx hb dL_areRegisters_239 (by decide) ?_
            refine lv_istore (lv' := [(9, .int 1), (7, .int (x7 + (btN (xb r) 8))), (6, .int (x6 ||| 0)), (0, .ref o), (1, .ref kv), (2, .ref kb), (3, .ref kg), (4, .ref kn), (5, .ref kt), (8, .ref q1), (10, .int (nI r)), (11, .int y)]) hx hb dL_areRegisters_243 hl (by decide) rfl (fun ls hl => ?_)
            have hwy : sp_X5_whyWrong s.v r = wL (xv r) (sp_L_least r) (sp_L_most xv r) := why_eq hL.1 (show r < 7 from by omega)
            refine r_iincN (lv' := [(10, .int (nI (r + 1))), (9, .int 1), (7, .int (x7 + (btN (xb r) 8))), (6, .int (x6 ||| 0)), (0, .ref o), (1, .ref kv), (2, .ref kb), (3, .ref kg), (4, .ref kn), (5, .ref kt), (8, .ref q1), (11, .int y)]) hx hb r 1 rfl dL_areRegisters_245 hl (k := 10) rfl rfl (by decide) rfl (fun ls hl => ?_)
            refine lv_goto (tgt := 18) hx hb dL_areRegisters_248 (by decide) ?_
            exact ih18 (r + 1) (x6 ||| 0) (x7 + (btN (xb r) 8)) (upd xx r (puN (xb r) (xg r) (sp_L_next xv r) 8)) (by omega) (by omega) (by show _ = (if sp_X5_whyWrong s.v r = 0 then cwN s.v r else cwN s.v r ||| (1 : Int32) <<< (nI r &&& 31)); rw [if_pos (hwy.trans (wL_pos.mp (by rw [hy]; exact c4))), hx6]; exact Int32.or_zero) (by show _ = cfN s.f r + sp_J6_bitCount_0f7a4 (s.f r); rw [(hL.1 r (by omega)).2.1, bc_eq (hL.1 r (by omega)).2.2.2.2.2.1, hx7]) _ _ _ hw (lv_sub hl [4, 5, 6, 7, 8, 9, 3, 2, 10, 1, 0] rfl)
          · skip
            refine lv_iconst (v := 1) hx hb dL_areRegisters_111 (by decide) ?_
            refine lv_iload hx hb dL_areRegisters_112 (lv_at hl 10 rfl) ?_
            refine lv_ishl hx hb dL_areRegisters_114 ?_
            refine lv_goto (tgt := 119) hx hb dL_areRegisters_115 (by decide) ?_
            refine lv_ior hx hb dL_areRegisters_119 ?_
            refine lv_istore (lv' := [(6, .int (x6 ||| ((1 : Int32) <<< ((nI r) &&& 31)))), (0, .ref o), (1, .ref kv), (2, .ref kb), (3, .ref kg), (4, .ref kn), (5, .ref kt), (7, .int x7), (8, .ref q1), (9, .int 1), (10, .int (nI r)), (11, .int y)]) hx hb dL_areRegisters_120 hl (by decide) rfl (fun ls hl => ?_)
            refine lv_iload hx hb dL_areRegisters_122 (lv_at hl 7 rfl) ?_
            refine lv_aload_n hx hb dL_areRegisters_124 rfl (lv_at hl 3 rfl) ?_
            refine lv_iload hx hb dL_areRegisters_125 (lv_at hl 10 rfl) ?_
            refine r_iald X hw (f := xb) r (m_fl 1 rfl (m_at 1 rfl)) rfl (by omega) (by decide) dL_areRegisters_127 ?_
            refine r_callS X hw (ws' := ([OB D o z s, [(kv, .inl (D.1 100, 7, .inl xv)), (kb, .inl (D.1 100, 7, .inl xb)), (kg, .inl (D.1 100, 7, .inl xg)), (kn, .inl (D.1 100, 7, .inl xn)), (kt, .inl (D.1 100, 11, .inl xt))], [(q1, .inl (D.1 100, 7, .inl (upd xx r (puN (xb r) (xg r) (sp_L_next xv r) 8))))]] : List va_W).flatten) (As := [.int (xb r)]) (rest := [.int x7]) lk_L_63 (c_L_bits l D _ (xb r)) Foc.nil rfl hl.1 (Nat.le_of_ble_eq_true rfl) ⟨Nat.le_of_ble_eq_true rfl, Nat.le_of_ble_eq_true rfl⟩ rfl dL_areRegisters_128 ⟨Nat.le_refl _, Nat.le_refl _⟩ (fun H locs hw => ?_)
            refine lv_iadd hx hb dL_areRegisters_131 ?_
            refine lv_istore (lv' := [(7, .int (x7 + (btN (xb r) 8))), (6, .int (x6 ||| ((1 : Int32) <<< ((nI r) &&& 31)))), (0, .ref o), (1, .ref kv), (2, .ref kb), (3, .ref kg), (4, .ref kn), (5, .ref kt), (8, .ref q1), (9, .int 1), (10, .int (nI r)), (11, .int y)]) hx hb dL_areRegisters_132 hl (by decide) rfl (fun ls hl => ?_)
            refine lv_aload_n hx hb dL_areRegisters_134 rfl (lv_at hl 2 rfl) ?_
            refine lv_iload hx hb dL_areRegisters_135 (lv_at hl 10 rfl) ?_
            refine lv_iconst (v := 0) hx hb dL_areRegisters_137 (by decide) ?_
            refine r_callV X hw (ws' := ([OB D o z s, [(kv, .inl (D.1 100, 7, .inl xv)), (kb, .inl (D.1 100, 7, .inl xb)), (kg, .inl (D.1 100, 7, .inl xg)), (kn, .inl (D.1 100, 7, .inl xn)), (kt, .inl (D.1 100, 11, .inl xt))], [(q1, .inl (D.1 100, 7, .inl (upd xx r (puN (xb r) (xg r) (sp_L_next xv r) 8))))]] : List va_W).flatten) (As := [.int (nI r), .int 0]) (rest := []) lk_L_66 (k_registerOf0 l D _ o z s hz r (by omega) (isR (by omega))) (Foc.at1 0 rfl rfl (ce rfl (ce rfl rfl))) (m_fl 0 rfl (OB_mem D o z s)) rfl hl.1 (Nat.le_of_ble_eq_true rfl) ⟨Nat.le_of_ble_eq_true rfl, Nat.le_of_ble_eq_true rfl⟩ rfl dL_areRegisters_138 ⟨Nat.le_refl _, Nat.le_refl _⟩ (fun H locs hw => ?_)
            refine lv_aload_n hx hb dL_areRegisters_141 rfl (lv_at hl 3 rfl) ?_
            refine lv_iload hx hb dL_areRegisters_142 (lv_at hl 10 rfl) ?_
            refine r_iald X hw (f := xv) r (m_fl 1 rfl (m_at 0 rfl)) rfl (by omega) (by decide) dL_areRegisters_144 ?_
            refine lv_icmp_ne (tgt := 242) hx hb dL_areRegisters_145 (by decide) (fun h => absurd (hL.1 r (by omega)).1 h) (fun _ => ?_)
            refine lv_aload_n hx hb dL_areRegisters_148 rfl (lv_at hl 2 rfl) ?_
            refine lv_iload hx hb dL_areRegisters_149 (lv_at hl 10 rfl) ?_
            refine lv_iconst (v := 1) hx hb dL_areRegisters_151 (by decide) ?_
            refine r_callV X hw (ws' := ([OB D o z s, [(kv, .inl (D.1 100, 7, .inl xv)), (kb, .inl (D.1 100, 7, .inl xb)), (kg, .inl (D.1 100, 7, .inl xg)), (kn, .inl (D.1 100, 7, .inl xn)), (kt, .inl (D.1 100, 11, .inl xt))], [(q1, .inl (D.1 100, 7, .inl (upd xx r (puN (xb r) (xg r) (sp_L_next xv r) 8))))]] : List va_W).flatten) (As := [.int (nI r), .int 1]) (rest := []) lk_L_66 (k_registerOf1 l D _ o z s hz r (by omega) (isR (by omega))) (Foc.at1 0 rfl rfl (ce rfl (ce rfl rfl))) (m_fl 0 rfl (OB_mem D o z s)) rfl hl.1 (Nat.le_of_ble_eq_true rfl) ⟨Nat.le_of_ble_eq_true rfl, Nat.le_of_ble_eq_true rfl⟩ rfl dL_areRegisters_152 ⟨Nat.le_refl _, Nat.le_refl _⟩ (fun H locs hw => ?_)
            refine lv_aload_n hx hb dL_areRegisters_155 rfl (lv_at hl 3 rfl) ?_
            refine lv_iload hx hb dL_areRegisters_156 (lv_at hl 10 rfl) ?_
            refine r_iald X hw (f := xv) r (m_fl 1 rfl (m_at 0 rfl)) rfl (by omega) (by decide) dL_areRegisters_158 ?_
            refine r_callS X hw (ws' := ([OB D o z s, [(kv, .inl (D.1 100, 7, .inl xv)), (kb, .inl (D.1 100, 7, .inl xb)), (kg, .inl (D.1 100, 7, .inl xg)), (kn, .inl (D.1 100, 7, .inl xn)), (kt, .inl (D.1 100, 11, .inl xt))], [(q1, .inl (D.1 100, 7, .inl (upd xx r (puN (xb r) (xg r) (sp_L_next xv r) 8))))]] : List va_W).flatten) (As := [.int (xv r)]) (rest := [.int (sp_X6_registerOf1 s r)]) lk_L_9 (c_L_number l D _ (xv r)) Foc.nil rfl hl.1 (Nat.le_of_ble_eq_true rfl) ⟨Nat.le_of_ble_eq_true rfl, Nat.le_of_ble_eq_true rfl⟩ rfl dL_areRegisters_159 ⟨Nat.le_refl _, Nat.le_refl _⟩ (fun H locs hw => ?_)
            refine lv_icmp_ne (tgt := 242) hx hb dL_areRegisters_162 (by decide) (fun h => absurd (num_eq hL.1 (show r < 7 from by omega)) h) (fun _ => ?_)
            refine lv_aload_n hx hb dL_areRegisters_165 rfl (lv_at hl 2 rfl) ?_
            refine lv_iload hx hb dL_areRegisters_166 (lv_at hl 10 rfl) ?_
            refine lv_iconst (v := 2) hx hb dL_areRegisters_168 (by decide) ?_
            refine r_callV X hw (ws' := ([OB D o z s, [(kv, .inl (D.1 100, 7, .inl xv)), (kb, .inl (D.1 100, 7, .inl xb)), (kg, .inl (D.1 100, 7, .inl xg)), (kn, .inl (D.1 100, 7, .inl xn)), (kt, .inl (D.1 100, 11, .inl xt))], [(q1, .inl (D.1 100, 7, .inl (upd xx r (puN (xb r) (xg r) (sp_L_next xv r) 8))))]] : List va_W).flatten) (As := [.int (nI r), .int 2]) (rest := []) lk_L_66 (k_registerOf2 l D _ o z s hz r (by omega) (isR (by omega))) (Foc.at1 0 rfl rfl (ce rfl (ce rfl rfl))) (m_fl 0 rfl (OB_mem D o z s)) rfl hl.1 (Nat.le_of_ble_eq_true rfl) ⟨Nat.le_of_ble_eq_true rfl, Nat.le_of_ble_eq_true rfl⟩ rfl dL_areRegisters_169 ⟨Nat.le_refl _, Nat.le_refl _⟩ (fun H locs hw => ?_)
            refine lv_iload hx hb dL_areRegisters_172 (lv_at hl 11 rfl) ?_
            refine lv_icmp_ne (tgt := 242) hx hb dL_areRegisters_174 (by decide) (fun h => absurd ((why_eq hL.1 (show r < 7 from by omega)).trans hy) h) (fun _ => ?_)
            refine lv_aload_n hx hb dL_areRegisters_177 rfl (lv_at hl 2 rfl) ?_
            refine lv_iload hx hb dL_areRegisters_178 (lv_at hl 10 rfl) ?_
            refine lv_iconst (v := 3) hx hb dL_areRegisters_180 (by decide) ?_
            refine r_callV X hw (ws' := ([OB D o z s, [(kv, .inl (D.1 100, 7, .inl xv)), (kb, .inl (D.1 100, 7, .inl xb)), (kg, .inl (D.1 100, 7, .inl xg)), (kn, .inl (D.1 100, 7, .inl xn)), (kt, .inl (D.1 100, 11, .inl xt))], [(q1, .inl (D.1 100, 7, .inl (upd xx r (puN (xb r) (xg r) (sp_L_next xv r) 8))))]] : List va_W).flatten) (As := [.int (nI r), .int 3]) (rest := []) lk_L_66 (k_registerOf3 l D _ o z s hz r (by omega) (isR (by omega))) (Foc.at1 0 rfl rfl (ce rfl (ce rfl rfl))) (m_fl 0 rfl (OB_mem D o z s)) rfl hl.1 (Nat.le_of_ble_eq_true rfl) ⟨Nat.le_of_ble_eq_true rfl, Nat.le_of_ble_eq_true rfl⟩ rfl dL_areRegisters_181 ⟨Nat.le_refl _, Nat.le_refl _⟩ (fun H locs hw => ?_)
            refine lv_aload_n hx hb dL_areRegisters_184 rfl (lv_at hl 3 rfl) ?_
            refine lv_iload hx hb dL_areRegisters_185 (lv_at hl 10 rfl) ?_
            refine r_callS X hw (ws' := ([OB D o z s, [(kv, .inl (D.1 100, 7, .inl xv)), (kb, .inl (D.1 100, 7, .inl xb)), (kg, .inl (D.1 100, 7, .inl xg)), (kn, .inl (D.1 100, 7, .inl xn)), (kt, .inl (D.1 100, 11, .inl xt))], [(q1, .inl (D.1 100, 7, .inl (upd xx r (puN (xb r) (xg r) (sp_L_next xv r) 8))))]] : List va_W).flatten) (As := [.ref kv, .int (nI r)]) (rest := [.int (sp_X6_registerOf3 s r)]) lk_L_26 (c_L_most l D _ kv xv r (by omega)) (Foc.trans (Foc.at1 1 rfl rfl (ce rfl (ce rfl rfl))) (Foc.pick [0] (r := [(kb, .inl (D.1 100, 7, .inl xb)), (kg, .inl (D.1 100, 7, .inl xg)), (kn, .inl (D.1 100, 7, .inl xn)), (kt, .inl (D.1 100, 11, .inl xt))]) rfl rfl)) rfl hl.1 (Nat.le_of_ble_eq_true rfl) ⟨Nat.le_of_ble_eq_true rfl, Nat.le_of_ble_eq_true rfl⟩ rfl dL_areRegisters_187 ⟨Nat.le_refl _, Nat.le_refl _⟩ (fun H locs hw => ?_)
            refine lv_icmp_ne (tgt := 242) hx hb dL_areRegisters_190 (by decide) (fun h => absurd (last_eq hL.1 (show r < 7 from by omega)) h) (fun _ => ?_)
            refine lv_aload_n hx hb dL_areRegisters_193 rfl (lv_at hl 2 rfl) ?_
            refine lv_iload hx hb dL_areRegisters_194 (lv_at hl 10 rfl) ?_
            refine lv_iconst (v := 4) hx hb dL_areRegisters_196 (by decide) ?_
            refine r_callV X hw (ws' := ([OB D o z s, [(kv, .inl (D.1 100, 7, .inl xv)), (kb, .inl (D.1 100, 7, .inl xb)), (kg, .inl (D.1 100, 7, .inl xg)), (kn, .inl (D.1 100, 7, .inl xn)), (kt, .inl (D.1 100, 11, .inl xt))], [(q1, .inl (D.1 100, 7, .inl (upd xx r (puN (xb r) (xg r) (sp_L_next xv r) 8))))]] : List va_W).flatten) (As := [.int (nI r), .int 4]) (rest := []) lk_L_66 (k_registerOf4 l D _ o z s hz r (by omega) (isR (by omega))) (Foc.at1 0 rfl rfl (ce rfl (ce rfl rfl))) (m_fl 0 rfl (OB_mem D o z s)) rfl hl.1 (Nat.le_of_ble_eq_true rfl) ⟨Nat.le_of_ble_eq_true rfl, Nat.le_of_ble_eq_true rfl⟩ rfl dL_areRegisters_197 ⟨Nat.le_refl _, Nat.le_refl _⟩ (fun H locs hw => ?_)
            refine lv_aload_n hx hb dL_areRegisters_200 rfl (lv_at hl 4 rfl) ?_
            refine lv_iload hx hb dL_areRegisters_201 (lv_at hl 10 rfl) ?_
            refine r_iald X hw (f := xb) r (m_fl 1 rfl (m_at 1 rfl)) rfl (by omega) (by decide) dL_areRegisters_203 ?_
            refine lv_icmp_ne (tgt := 242) hx hb dL_areRegisters_204 (by decide) (fun h => absurd (hL.1 r (by omega)).2.1 h) (fun _ => ?_)
            refine lv_aload_n hx hb dL_areRegisters_207 rfl (lv_at hl 2 rfl) ?_
            refine lv_iload hx hb dL_areRegisters_208 (lv_at hl 10 rfl) ?_
            refine lv_iconst (v := 5) hx hb dL_areRegisters_210 (by decide) ?_
            refine r_callV X hw (ws' := ([OB D o z s, [(kv, .inl (D.1 100, 7, .inl xv)), (kb, .inl (D.1 100, 7, .inl xb)), (kg, .inl (D.1 100, 7, .inl xg)), (kn, .inl (D.1 100, 7, .inl xn)), (kt, .inl (D.1 100, 11, .inl xt))], [(q1, .inl (D.1 100, 7, .inl (upd xx r (puN (xb r) (xg r) (sp_L_next xv r) 8))))]] : List va_W).flatten) (As := [.int (nI r), .int 5]) (rest := []) lk_L_66 (k_registerOf5 l D _ o z s hz r (by omega) (isR (by omega))) (Foc.at1 0 rfl rfl (ce rfl (ce rfl rfl))) (m_fl 0 rfl (OB_mem D o z s)) rfl hl.1 (Nat.le_of_ble_eq_true rfl) ⟨Nat.le_of_ble_eq_true rfl, Nat.le_of_ble_eq_true rfl⟩ rfl dL_areRegisters_211 ⟨Nat.le_refl _, Nat.le_refl _⟩ (fun H locs hw => ?_)
            refine lv_aload hx hb dL_areRegisters_214 (lv_at hl 6 rfl) ?_
            refine lv_iload hx hb dL_areRegisters_216 (lv_at hl 10 rfl) ?_
            refine r_iald X hw (f := xn) r (m_fl 1 rfl (m_at 3 rfl)) rfl (by omega) (by decide) dL_areRegisters_218 ?_
            refine lv_icmp_ne (tgt := 242) hx hb dL_areRegisters_219 (by decide) (fun h => absurd (hL.1 r (by omega)).2.2.2.1 h) (fun _ => ?_)
            refine lv_aload_n hx hb dL_areRegisters_222 rfl (lv_at hl 2 rfl) ?_
            refine lv_iload hx hb dL_areRegisters_223 (lv_at hl 10 rfl) ?_
            refine lv_bipush (v := 6) hx hb dL_areRegisters_225 (by decide) ?_
            refine r_callV X hw (ws' := ([OB D o z s, [(kv, .inl (D.1 100, 7, .inl xv)), (kb, .inl (D.1 100, 7, .inl xb)), (kg, .inl (D.1 100, 7, .inl xg)), (kn, .inl (D.1 100, 7, .inl xn)), (kt, .inl (D.1 100, 11, .inl xt))], [(q1, .inl (D.1 100, 7, .inl (upd xx r (puN (xb r) (xg r) (sp_L_next xv r) 8))))]] : List va_W).flatten) (As := [.int (nI r), .int 6]) (rest := []) lk_L_66 (k_registerOf6 l D _ o z s hz r (by omega) (isR (by omega))) (Foc.at1 0 rfl rfl (ce rfl (ce rfl rfl))) (m_fl 0 rfl (OB_mem D o z s)) rfl hl.1 (Nat.le_of_ble_eq_true rfl) ⟨Nat.le_of_ble_eq_true rfl, Nat.le_of_ble_eq_true rfl⟩ rfl dL_areRegisters_227 ⟨Nat.le_refl _, Nat.le_refl _⟩ (fun H locs hw => ?_)
            refine lv_aload hx hb dL_areRegisters_230 (lv_at hl 8 rfl) ?_
            refine lv_iload hx hb dL_areRegisters_232 (lv_at hl 10 rfl) ?_
            refine r_iald X hw (f := upd xx r (puN (xb r) (xg r) (sp_L_next xv r) 8)) r (m_fl 2 rfl (m_at 0 rfl)) rfl (by omega) (by decide) dL_areRegisters_234 ?_
            refine lv_icmp_ne (tgt := 242) hx hb dL_areRegisters_235 (by decide) (fun h => absurd (by show sp_X5_withCells s.f s.g r (sp_X5_nextValue s.v r (sp_X5_lastValue s.v r)) = _; rw [upd_eq, (next_eq hL.1 (show r < 7 from by omega)).1]; exact (put_eq hL.1 (show r < 7 from by omega) (next_eq hL.1 (show r < 7 from by omega)).2.1).1) h) (fun _ => ?_)
            refine lv_iconst (v := 1) hx hb dL_areRegisters_238 (by decide) ?_
            refine lv_goto (tgt := 243) hx hb dL_areRegisters_239 (by decide) ?_
            refine lv_istore (lv' := [(9, .int 1), (7, .int (x7 + (btN (xb r) 8))), (6, .int (x6 ||| ((1 : Int32) <<< ((nI r) &&& 31)))), (0, .ref o), (1, .ref kv), (2, .ref kb), (3, .ref kg), (4, .ref kn), (5, .ref kt), (8, .ref q1), (10, .int (nI r)), (11, .int y)]) hx hb dL_areRegisters_243 hl (by decide) rfl (fun ls hl => ?_)
            have hwy : sp_X5_whyWrong s.v r = wL (xv r) (sp_L_least r) (sp_L_most xv r) := why_eq hL.1 (show r < 7 from by omega)
            refine r_iincN (lv' := [(10, .int (nI (r + 1))), (9, .int 1), (7, .int (x7 + (btN (xb r) 8))), (6, .int (x6 ||| ((1 : Int32) <<< ((nI r) &&& 31)))), (0, .ref o), (1, .ref kv), (2, .ref kb), (3, .ref kg), (4, .ref kn), (5, .ref kt), (8, .ref q1), (11, .int y)]) hx hb r 1 rfl dL_areRegisters_245 hl (k := 10) rfl rfl (by decide) rfl (fun ls hl => ?_)
            refine lv_goto (tgt := 18) hx hb dL_areRegisters_248 (by decide) ?_
            exact ih18 (r + 1) (x6 ||| ((1 : Int32) <<< ((nI r) &&& 31))) (x7 + (btN (xb r) 8)) (upd xx r (puN (xb r) (xg r) (sp_L_next xv r) 8)) (by omega) (by omega) (by show _ = (if sp_X5_whyWrong s.v r = 0 then cwN s.v r else cwN s.v r ||| (1 : Int32) <<< (nI r &&& 31)); rw [if_neg (fun w => c4 (by rw [← hy]; exact wL_pos.mpr (hwy.symm.trans w))), hx6]) (by show _ = cfN s.f r + sp_J6_bitCount_0f7a4 (s.f r); rw [(hL.1 r (by omega)).2.1, bc_eq (hL.1 r (by omega)).2.2.2.2.2.1, hx7]) _ _ _ hw (lv_sub hl [4, 5, 6, 7, 8, 9, 3, 2, 10, 1, 0] rfl)
        refine lv_aload_n hx hb dL_areRegisters_30 rfl (lv_at hl 1 rfl) ?_
        refine lv_iload hx hb dL_areRegisters_31 (lv_at hl 10 rfl) ?_
        refine r_iald X hw (f := xv) r (m_fl 1 rfl (m_at 0 rfl)) rfl (by omega) (by decide) dL_areRegisters_33 ?_
        refine lv_iconst (v := 0) hx hb dL_areRegisters_34 (by decide) ?_
        refine lv_bipush (v := 99) hx hb dL_areRegisters_35 (by decide) ?_
        refine r_callS X hw (ws' := ([OB D o z s, [(kv, .inl (D.1 100, 7, .inl xv)), (kb, .inl (D.1 100, 7, .inl xb)), (kg, .inl (D.1 100, 7, .inl xg)), (kn, .inl (D.1 100, 7, .inl xn)), (kt, .inl (D.1 100, 11, .inl xt))], [(q1, .inl (D.1 100, 7, .inl xx))]] : List va_W).flatten) (As := [.int (xv r), .int 0, .int 99]) (rest := []) lk_L_15 (c_L_isCode l D _ (xv r) 0 99) Foc.nil rfl hl.1 (Nat.le_of_ble_eq_true rfl) ⟨Nat.le_of_ble_eq_true rfl, Nat.le_of_ble_eq_true rfl⟩ rfl dL_areRegisters_37 ⟨Nat.le_refl _, Nat.le_refl _⟩ (fun H locs hw => ?_)
        refine lv_if_eq (tgt := 86) hx hb dL_areRegisters_40 (by decide) (fun c5 => ?_) (fun c5 => ?_)
        · skip
          refine lv_iconst (v := 1) hx hb dL_areRegisters_86 (by decide) ?_
          refine lv_istore (lv' := [(11, .int 1), (0, .ref o), (1, .ref kv), (2, .ref kb), (3, .ref kg), (4, .ref kn), (5, .ref kt), (6, .int x6), (7, .int x7), (8, .ref q1), (9, .int 1), (10, .int (nI r))]) hx hb dL_areRegisters_87 hl (by decide) rfl (fun ls hl => ?_)
          have hy : wL (xv r) (sp_L_least r) (sp_L_most xv r) = 1 := by unfold wL; rw [if_pos c5]
          exact cut89 (1) hy _ _ _ hw (lv_sub hl [1, 2, 3, 4, 5, 6, 7, 8, 9, 10, 11, 0] rfl)
        · skip
          refine lv_aload_n hx hb dL_areRegisters_43 rfl (lv_at hl 1 rfl) ?_
          refine lv_iload hx hb dL_areRegisters_44 (lv_at hl 10 rfl) ?_
          refine r_iald X hw (f := xv) r (m_fl 1 rfl (m_at 0 rfl)) rfl (by omega) (by decide) dL_areRegisters_46 ?_
          refine r_callS X hw (ws' := ([OB D o z s, [(kv, .inl (D.1 100, 7, .inl xv)), (kb, .inl (D.1 100, 7, .inl xb)), (kg, .inl (D.1 100, 7, .inl xg)), (kn, .inl (D.1 100, 7, .inl xn)), (kt, .inl (D.1 100, 11, .inl xt))], [(q1, .inl (D.1 100, 7, .inl xx))]] : List va_W).flatten) (As := [.int (xv r)]) (rest := []) lk_L_9 (c_L_number l D _ (xv r)) Foc.nil rfl hl.1 (Nat.le_of_ble_eq_true rfl) ⟨Nat.le_of_ble_eq_true rfl, Nat.le_of_ble_eq_true rfl⟩ rfl dL_areRegisters_47 ⟨Nat.le_refl _, Nat.le_refl _⟩ (fun H locs hw => ?_)
          refine lv_iload hx hb dL_areRegisters_50 (lv_at hl 10 rfl) ?_
          refine r_callS X hw (ws' := ([OB D o z s, [(kv, .inl (D.1 100, 7, .inl xv)), (kb, .inl (D.1 100, 7, .inl xb)), (kg, .inl (D.1 100, 7, .inl xg)), (kn, .inl (D.1 100, 7, .inl xn)), (kt, .inl (D.1 100, 11, .inl xt))], [(q1, .inl (D.1 100, 7, .inl xx))]] : List va_W).flatten) (As := [.int (nI r)]) (rest := [.int (sp_L_number (xv r))]) lk_L_23 (c_L_least l D _ r (by omega)) Foc.nil rfl hl.1 (Nat.le_of_ble_eq_true rfl) ⟨Nat.le_of_ble_eq_true rfl, Nat.le_of_ble_eq_true rfl⟩ rfl dL_areRegisters_52 ⟨Nat.le_refl _, Nat.le_refl _⟩ (fun H locs hw => ?_)
          refine lv_icmp_ge (tgt := 62) hx hb dL_areRegisters_55 (by decide) (fun c6 => ?_) (fun c6 => ?_)
          · skip
            refine lv_aload_n hx hb dL_areRegisters_62 rfl (lv_at hl 1 rfl) ?_
            refine lv_iload hx hb dL_areRegisters_63 (lv_at hl 10 rfl) ?_
            refine r_iald X hw (f := xv) r (m_fl 1 rfl (m_at 0 rfl)) rfl (by omega) (by decide) dL_areRegisters_65 ?_
            refine r_callS X hw (ws' := ([OB D o z s, [(kv, .inl (D.1 100, 7, .inl xv)), (kb, .inl (D.1 100, 7, .inl xb)), (kg, .inl (D.1 100, 7, .inl xg)), (kn, .inl (D.1 100, 7, .inl xn)), (kt, .inl (D.1 100, 11, .inl xt))], [(q1, .inl (D.1 100, 7, .inl xx))]] : List va_W).flatten) (As := [.int (xv r)]) (rest := []) lk_L_9 (c_L_number l D _ (xv r)) Foc.nil rfl hl.1 (Nat.le_of_ble_eq_true rfl) ⟨Nat.le_of_ble_eq_true rfl, Nat.le_of_ble_eq_true rfl⟩ rfl dL_areRegisters_66 ⟨Nat.le_refl _, Nat.le_refl _⟩ (fun H locs hw => ?_)
            refine lv_aload_n hx hb dL_areRegisters_69 rfl (lv_at hl 1 rfl) ?_
            refine lv_iload hx hb dL_areRegisters_70 (lv_at hl 10 rfl) ?_
            refine r_callS X hw (ws' := ([OB D o z s, [(kv, .inl (D.1 100, 7, .inl xv)), (kb, .inl (D.1 100, 7, .inl xb)), (kg, .inl (D.1 100, 7, .inl xg)), (kn, .inl (D.1 100, 7, .inl xn)), (kt, .inl (D.1 100, 11, .inl xt))], [(q1, .inl (D.1 100, 7, .inl xx))]] : List va_W).flatten) (As := [.ref kv, .int (nI r)]) (rest := [.int (sp_L_number (xv r))]) lk_L_26 (c_L_most l D _ kv xv r (by omega)) (Foc.trans (Foc.at1 1 rfl rfl (ce rfl (ce rfl rfl))) (Foc.pick [0] (r := [(kb, .inl (D.1 100, 7, .inl xb)), (kg, .inl (D.1 100, 7, .inl xg)), (kn, .inl (D.1 100, 7, .inl xn)), (kt, .inl (D.1 100, 11, .inl xt))]) rfl rfl)) rfl hl.1 (Nat.le_of_ble_eq_true rfl) ⟨Nat.le_of_ble_eq_true rfl, Nat.le_of_ble_eq_true rfl⟩ rfl dL_areRegisters_72 ⟨Nat.le_refl _, Nat.le_refl _⟩ (fun H locs hw => ?_)
            refine lv_icmp_le (tgt := 82) hx hb dL_areRegisters_75 (by decide) (fun c7 => ?_) (fun c7 => ?_)
            · skip
              refine lv_iconst (v := 0) hx hb dL_areRegisters_82 (by decide) ?_
              refine lv_goto (tgt := 87) hx hb dL_areRegisters_83 (by decide) ?_
              refine lv_istore (lv' := [(11, .int 0), (0, .ref o), (1, .ref kv), (2, .ref kb), (3, .ref kg), (4, .ref kn), (5, .ref kt), (6, .int x6), (7, .int x7), (8, .ref q1), (9, .int 1), (10, .int (nI r))]) hx hb dL_areRegisters_87 hl (by decide) rfl (fun ls hl => ?_)
              have hy : wL (xv r) (sp_L_least r) (sp_L_most xv r) = 0 := by unfold wL; rw [if_neg c5]; rw [if_pos c6]; rw [if_pos c7]
              exact cut89 (0) hy _ _ _ hw (lv_sub hl [1, 2, 3, 4, 5, 6, 7, 8, 9, 10, 11, 0] rfl)
            · skip
              refine lv_iconst (v := 3) hx hb dL_areRegisters_78 (by decide) ?_
              refine lv_goto (tgt := 87) hx hb dL_areRegisters_79 (by decide) ?_
              refine lv_istore (lv' := [(11, .int 3), (0, .ref o), (1, .ref kv), (2, .ref kb), (3, .ref kg), (4, .ref kn), (5, .ref kt), (6, .int x6), (7, .int x7), (8, .ref q1), (9, .int 1), (10, .int (nI r))]) hx hb dL_areRegisters_87 hl (by decide) rfl (fun ls hl => ?_)
              have hy : wL (xv r) (sp_L_least r) (sp_L_most xv r) = 3 := by unfold wL; rw [if_neg c5]; rw [if_pos c6]; rw [if_neg c7]
              exact cut89 (3) hy _ _ _ hw (lv_sub hl [1, 2, 3, 4, 5, 6, 7, 8, 9, 10, 11, 0] rfl)
          · skip
            refine lv_iconst (v := 2) hx hb dL_areRegisters_58 (by decide) ?_
            refine lv_goto (tgt := 87) hx hb dL_areRegisters_59 (by decide) ?_
            refine lv_istore (lv' := [(11, .int 2), (0, .ref o), (1, .ref kv), (2, .ref kb), (3, .ref kg), (4, .ref kn), (5, .ref kt), (6, .int x6), (7, .int x7), (8, .ref q1), (9, .int 1), (10, .int (nI r))]) hx hb dL_areRegisters_87 hl (by decide) rfl (fun ls hl => ?_)
            have hy : wL (xv r) (sp_L_least r) (sp_L_most xv r) = 2 := by unfold wL; rw [if_neg c5]; rw [if_neg c6]
            exact cut89 (2) hy _ _ _ hw (lv_sub hl [1, 2, 3, 4, 5, 6, 7, 8, 9, 10, 11, 0] rfl)
  exact key18 8 0 0 0 z0 (by omega) (by omega) rfl rfl _ _ _ hw (lv_sub hl [5, 6, 7, 8, 9, 10, 4, 3, 2, 1, 0] rfl)
