/-! a phase -/
/-- an alarm after a tick: the accounts, the alarms -/
noncomputable def alS (v : Row) (y : Row × Row) (k : Nat) : Row × Row := if y.2 (9 * k + 6) = 1 then (if sp_L_matches v y.2 k = 0 then y else (upd y.1 7 (y.1 7 + 1), upd (upd y.2 (9 * k + 7) 1) (9 * k + 8) ((upd y.2 (9 * k + 7) 1) (9 * k + 8) + 1))) else y
noncomputable def alL (v : Row) (y : Row × Row) : Nat → Row × Row
  | 0 => y
  | k + 1 => alS v (alL v y k) k
/-- the rows that a phase changes: values, steps, accounts, alarms -/
abbrev LRs : Type := Row × Row × Row × Row

noncomputable def sp_L_phase (xv xb xg xn xt xa : Row) : Int32 × LRs := (if ((upd (upd xt 2 ((xt 2) + 1)) 0 (((upd xt 2 ((xt 2) + 1)) 0) + 1)) 10) ≤ ((upd (upd xt 2 ((xt 2) + 1)) 0 (((upd xt 2 ((xt 2) + 1)) 0) + 1)) 0) then (if ((stL xb xg (xv, xn) 0).1) = 0 then ((1 : Int32), (stL xb xg (xv, xn) 0).2.1, (stL xb xg (xv, xn) 0).2.2, (alL ((stL xb xg (xv, xn) 0).2.1) (upd (upd (upd (upd xt 2 ((xt 2) + 1)) 0 (((upd xt 2 ((xt 2) + 1)) 0) + 1)) 0 0) 1 (((upd (upd (upd xt 2 ((xt 2) + 1)) 0 (((upd xt 2 ((xt 2) + 1)) 0) + 1)) 0 0) 1) + 1), xa) 3).1, (alL ((stL xb xg (xv, xn) 0).2.1) (upd (upd (upd (upd xt 2 ((xt 2) + 1)) 0 (((upd xt 2 ((xt 2) + 1)) 0) + 1)) 0 0) 1 (((upd (upd (upd xt 2 ((xt 2) + 1)) 0 (((upd xt 2 ((xt 2) + 1)) 0) + 1)) 0 0) 1) + 1), xa) 3).2) else (if ((stL xb xg ((stL xb xg (xv, xn) 0).2) 1).1) = 0 then ((1 : Int32), (stL xb xg ((stL xb xg (xv, xn) 0).2) 1).2.1, (stL xb xg ((stL xb xg (xv, xn) 0).2) 1).2.2, (alL ((stL xb xg ((stL xb xg (xv, xn) 0).2) 1).2.1) (upd (upd (upd (upd xt 2 ((xt 2) + 1)) 0 (((upd xt 2 ((xt 2) + 1)) 0) + 1)) 0 0) 1 (((upd (upd (upd xt 2 ((xt 2) + 1)) 0 (((upd xt 2 ((xt 2) + 1)) 0) + 1)) 0 0) 1) + 1), xa) 3).1, (alL ((stL xb xg ((stL xb xg (xv, xn) 0).2) 1).2.1) (upd (upd (upd (upd xt 2 ((xt 2) + 1)) 0 (((upd xt 2 ((xt 2) + 1)) 0) + 1)) 0 0) 1 (((upd (upd (upd xt 2 ((xt 2) + 1)) 0 (((upd xt 2 ((xt 2) + 1)) 0) + 1)) 0 0) 1) + 1), xa) 3).2) else (if ((stL xb xg ((stL xb xg ((stL xb xg (xv, xn) 0).2) 1).2) 2).1) = 0 then ((1 : Int32), (stL xb xg ((stL xb xg ((stL xb xg (xv, xn) 0).2) 1).2) 2).2.1, (stL xb xg ((stL xb xg ((stL xb xg (xv, xn) 0).2) 1).2) 2).2.2, (alL ((stL xb xg ((stL xb xg ((stL xb xg (xv, xn) 0).2) 1).2) 2).2.1) (upd (upd (upd (upd xt 2 ((xt 2) + 1)) 0 (((upd xt 2 ((xt 2) + 1)) 0) + 1)) 0 0) 1 (((upd (upd (upd xt 2 ((xt 2) + 1)) 0 (((upd xt 2 ((xt 2) + 1)) 0) + 1)) 0 0) 1) + 1), xa) 3).1, (alL ((stL xb xg ((stL xb xg ((stL xb xg (xv, xn) 0).2) 1).2) 2).2.1) (upd (upd (upd (upd xt 2 ((xt 2) + 1)) 0 (((upd xt 2 ((xt 2) + 1)) 0) + 1)) 0 0) 1 (((upd (upd (upd xt 2 ((xt 2) + 1)) 0 (((upd xt 2 ((xt 2) + 1)) 0) + 1)) 0 0) 1) + 1), xa) 3).2) else (if ((stL xb xg ((stL xb xg ((stL xb xg ((stL xb xg ((stL xb xg (xv, xn) 0).2) 1).2) 2).2) 3).2) 4).1) = 0 then ((1 : Int32), (stL xb xg ((stL xb xg ((stL xb xg ((stL xb xg ((stL xb xg (xv, xn) 0).2) 1).2) 2).2) 3).2) 4).2.1, (stL xb xg ((stL xb xg ((stL xb xg ((stL xb xg ((stL xb xg (xv, xn) 0).2) 1).2) 2).2) 3).2) 4).2.2, (alL ((stL xb xg ((stL xb xg ((stL xb xg ((stL xb xg ((stL xb xg (xv, xn) 0).2) 1).2) 2).2) 3).2) 4).2.1) (upd (upd (upd (upd xt 2 ((xt 2) + 1)) 0 (((upd xt 2 ((xt 2) + 1)) 0) + 1)) 0 0) 1 (((upd (upd (upd xt 2 ((xt 2) + 1)) 0 (((upd xt 2 ((xt 2) + 1)) 0) + 1)) 0 0) 1) + 1), xa) 3).1, (alL ((stL xb xg ((stL xb xg ((stL xb xg ((stL xb xg ((stL xb xg (xv, xn) 0).2) 1).2) 2).2) 3).2) 4).2.1) (upd (upd (upd (upd xt 2 ((xt 2) + 1)) 0 (((upd xt 2 ((xt 2) + 1)) 0) + 1)) 0 0) 1 (((upd (upd (upd xt 2 ((xt 2) + 1)) 0 (((upd xt 2 ((xt 2) + 1)) 0) + 1)) 0 0) 1) + 1), xa) 3).2) else (if ((stL xb xg ((stL xb xg ((stL xb xg ((stL xb xg ((stL xb xg ((stL xb xg (xv, xn) 0).2) 1).2) 2).2) 3).2) 4).2) 5).1) = 0 then ((1 : Int32), (stL xb xg ((stL xb xg ((stL xb xg ((stL xb xg ((stL xb xg ((stL xb xg (xv, xn) 0).2) 1).2) 2).2) 3).2) 4).2) 5).2.1, (stL xb xg ((stL xb xg ((stL xb xg ((stL xb xg ((stL xb xg ((stL xb xg (xv, xn) 0).2) 1).2) 2).2) 3).2) 4).2) 5).2.2, (alL ((stL xb xg ((stL xb xg ((stL xb xg ((stL xb xg ((stL xb xg ((stL xb xg (xv, xn) 0).2) 1).2) 2).2) 3).2) 4).2) 5).2.1) (upd (upd (upd (upd xt 2 ((xt 2) + 1)) 0 (((upd xt 2 ((xt 2) + 1)) 0) + 1)) 0 0) 1 (((upd (upd (upd xt 2 ((xt 2) + 1)) 0 (((upd xt 2 ((xt 2) + 1)) 0) + 1)) 0 0) 1) + 1), xa) 3).1, (alL ((stL xb xg ((stL xb xg ((stL xb xg ((stL xb xg ((stL xb xg ((stL xb xg (xv, xn) 0).2) 1).2) 2).2) 3).2) 4).2) 5).2.1) (upd (upd (upd (upd xt 2 ((xt 2) + 1)) 0 (((upd xt 2 ((xt 2) + 1)) 0) + 1)) 0 0) 1 (((upd (upd (upd xt 2 ((xt 2) + 1)) 0 (((upd xt 2 ((xt 2) + 1)) 0) + 1)) 0 0) 1) + 1), xa) 3).2) else (if ((stL xb xg ((stL xb xg ((stL xb xg ((stL xb xg ((stL xb xg ((stL xb xg ((stL xb xg (xv, xn) 0).2) 1).2) 2).2) 3).2) 4).2) 5).2) 6).1) = 0 then ((1 : Int32), (stL xb xg ((stL xb xg ((stL xb xg ((stL xb xg ((stL xb xg ((stL xb xg ((stL xb xg (xv, xn) 0).2) 1).2) 2).2) 3).2) 4).2) 5).2) 6).2.1, (stL xb xg ((stL xb xg ((stL xb xg ((stL xb xg ((stL xb xg ((stL xb xg ((stL xb xg (xv, xn) 0).2) 1).2) 2).2) 3).2) 4).2) 5).2) 6).2.2, (alL ((stL xb xg ((stL xb xg ((stL xb xg ((stL xb xg ((stL xb xg ((stL xb xg ((stL xb xg (xv, xn) 0).2) 1).2) 2).2) 3).2) 4).2) 5).2) 6).2.1) (upd (upd (upd (upd xt 2 ((xt 2) + 1)) 0 (((upd xt 2 ((xt 2) + 1)) 0) + 1)) 0 0) 1 (((upd (upd (upd xt 2 ((xt 2) + 1)) 0 (((upd xt 2 ((xt 2) + 1)) 0) + 1)) 0 0) 1) + 1), xa) 3).1, (alL ((stL xb xg ((stL xb xg ((stL xb xg ((stL xb xg ((stL xb xg ((stL xb xg ((stL xb xg (xv, xn) 0).2) 1).2) 2).2) 3).2) 4).2) 5).2) 6).2.1) (upd (upd (upd (upd xt 2 ((xt 2) + 1)) 0 (((upd xt 2 ((xt 2) + 1)) 0) + 1)) 0 0) 1 (((upd (upd (upd xt 2 ((xt 2) + 1)) 0 (((upd xt 2 ((xt 2) + 1)) 0) + 1)) 0 0) 1) + 1), xa) 3).2) else ((1 : Int32), (stL xb xg ((stL xb xg ((stL xb xg ((stL xb xg ((stL xb xg ((stL xb xg ((stL xb xg (xv, xn) 0).2) 1).2) 2).2) 3).2) 4).2) 5).2) 6).2.1, (stL xb xg ((stL xb xg ((stL xb xg ((stL xb xg ((stL xb xg ((stL xb xg ((stL xb xg (xv, xn) 0).2) 1).2) 2).2) 3).2) 4).2) 5).2) 6).2.2, (alL ((stL xb xg ((stL xb xg ((stL xb xg ((stL xb xg ((stL xb xg ((stL xb xg ((stL xb xg (xv, xn) 0).2) 1).2) 2).2) 3).2) 4).2) 5).2) 6).2.1) (upd (upd (upd (upd xt 2 ((xt 2) + 1)) 0 (((upd xt 2 ((xt 2) + 1)) 0) + 1)) 0 0) 1 (((upd (upd (upd xt 2 ((xt 2) + 1)) 0 (((upd xt 2 ((xt 2) + 1)) 0) + 1)) 0 0) 1) + 1), xa) 3).1, (alL ((stL xb xg ((stL xb xg ((stL xb xg ((stL xb xg ((stL xb xg ((stL xb xg ((stL xb xg (xv, xn) 0).2) 1).2) 2).2) 3).2) 4).2) 5).2) 6).2.1) (upd (upd (upd (upd xt 2 ((xt 2) + 1)) 0 (((upd xt 2 ((xt 2) + 1)) 0) + 1)) 0 0) 1 (((upd (upd (upd xt 2 ((xt 2) + 1)) 0 (((upd xt 2 ((xt 2) + 1)) 0) + 1)) 0 0) 1) + 1), xa) 3).2))))))) else (0, xv, xn, upd (upd xt 2 ((xt 2) + 1)) 0 (((upd xt 2 ((xt 2) + 1)) 0) + 1), xa))
set_option maxRecDepth 100000 in
set_option maxHeartbeats 4000000 in
theorem c_L_phase (l : Launch) (D : va_G) (sz : Nat) (kv kb kg kn kt ka : Nat) (xv xb xg xn xt xa : Row) : MI l yL_phase cL_phase 8 (some .boolean) 6 132 D sz [.ref kv, .ref kb, .ref kg, .ref kn, .ref kt, .ref ka] ([(kv, .inl (D.1 100, 7, .inl xv)), (kb, .inl (D.1 100, 7, .inl xb)), (kg, .inl (D.1 100, 7, .inl xg)), (kn, .inl (D.1 100, 7, .inl xn)), (kt, .inl (D.1 100, 11, .inl xt)), (ka, .inl (D.1 100, 27, .inl xa))]) ((sp_L_phase xv xb xg xn xt xa).1) ([(kv, .inl (D.1 100, 7, .inl ((sp_L_phase xv xb xg xn xt xa).2.1))), (kb, .inl (D.1 100, 7, .inl xb)), (kg, .inl (D.1 100, 7, .inl xg)), (kn, .inl (D.1 100, 7, .inl ((sp_L_phase xv xb xg xn xt xa).2.2.1))), (kt, .inl (D.1 100, 11, .inl ((sp_L_phase xv xb xg xn xt xa).2.2.2.1))), (ka, .inl (D.1 100, 27, .inl ((sp_L_phase xv xb xg xn xt xa).2.2.2.2)))]) := by
  refine r_enterI (by decide) (Nat.le_of_ble_eq_true rfl) ?_
  intro p e st m args below meth c ls A X hret hk hw hl
  have X : CX D p m c cL_phase 8 st args RL A := X
  have hx := X.1.1
  have hb := X.1.2.1
  have hown := X.1.2.2.2.1
  have hts := X.1.2.2.2.2
  have hl : lv_has ls 8 [(0, .ref kv), (1, .ref kb), (2, .ref kg), (3, .ref kn), (4, .ref kt), (5, .ref ka)] := hl
  have cut127 : ∀ (v1 n1 t1 : Row), (sp_L_phase xv xb xg xn xt xa = ((1 : Int32), v1, n1, (alL v1 (t1, xa) 3).1, (alL v1 (t1, xa) 3).2)) → ∀ (H : Heap) (locs : List Loc) (ls : Array Slot), Wd D A st.heap H locs ([(kv, .inl (D.1 100, 7, .inl v1)), (kb, .inl (D.1 100, 7, .inl xb)), (kg, .inl (D.1 100, 7, .inl xg)), (kn, .inl (D.1 100, 7, .inl n1)), (kt, .inl (D.1 100, 11, .inl t1)), (ka, .inl (D.1 100, 27, .inl xa))]) → lv_has ls 8 [(0, .ref kv), (1, .ref kb), (2, .ref kg), (3, .ref kn), (4, .ref kt), (5, .ref ka)] → W p l e (rmOf 6 0 0 132) st m args below meth c H locs 0 0 (QI below args st D A ((sp_L_phase xv xb xg xn xt xa).1) ([(kv, .inl (D.1 100, 7, .inl ((sp_L_phase xv xb xg xn xt xa).2.1))), (kb, .inl (D.1 100, 7, .inl xb)), (kg, .inl (D.1 100, 7, .inl xg)), (kn, .inl (D.1 100, 7, .inl ((sp_L_phase xv xb xg xn xt xa).2.2.1))), (kt, .inl (D.1 100, 11, .inl ((sp_L_phase xv xb xg xn xt xa).2.2.2.1))), (ka, .inl (D.1 100, 27, .inl ((sp_L_phase xv xb xg xn xt xa).2.2.2.2)))])) (F0 m 127 ls []) := by
    intro v1 n1 t1 hq H locs ls hw hl
    refine lv_iconst (v := 0) hx hb dL_phase_127 (by decide) ?_
    refine lv_istore (lv' := [(6, .int 0), (0, .ref kv), (1, .ref kb), (2, .ref kg), (3, .ref kn), (4, .ref kt), (5, .ref ka)]) hx hb dL_phase_128 hl (by decide) rfl (fun ls hl => ?_)
    have key130 : ∀ (n130 : Nat) (i : Nat), (i ≤ 3) → (3 - i < n130) → ∀ (H : Heap) (locs : List Loc) (ls : Array Slot), Wd D A st.heap H locs ([(kv, .inl (D.1 100, 7, .inl v1)), (kb, .inl (D.1 100, 7, .inl xb)), (kg, .inl (D.1 100, 7, .inl xg)), (kn, .inl (D.1 100, 7, .inl n1)), (kt, .inl (D.1 100, 11, .inl ((alL v1 (t1, xa) i).1))), (ka, .inl (D.1 100, 27, .inl ((alL v1 (t1, xa) i).2)))]) → lv_has ls 8 [(0, .ref kv), (1, .ref kb), (2, .ref kg), (3, .ref kn), (4, .ref kt), (5, .ref ka), (6, .int (nI i))] → W p l e (rmOf 6 0 0 132) st m args below meth c H locs 0 0 (QI below args st D A ((sp_L_phase xv xb xg xn xt xa).1) ([(kv, .inl (D.1 100, 7, .inl ((sp_L_phase xv xb xg xn xt xa).2.1))), (kb, .inl (D.1 100, 7, .inl xb)), (kg, .inl (D.1 100, 7, .inl xg)), (kn, .inl (D.1 100, 7, .inl ((sp_L_phase xv xb xg xn xt xa).2.2.1))), (kt, .inl (D.1 100, 11, .inl ((sp_L_phase xv xb xg xn xt xa).2.2.2.1))), (ka, .inl (D.1 100, 27, .inl ((sp_L_phase xv xb xg xn xt xa).2.2.2.2)))])) (F0 m 130 ls []) := by
      intro n130
      induction n130 with
      | zero => intro i hi hm; omega
      | succ n130 ih130 =>
        intro i hi hm H locs ls hw hl
        refine lv_iload hx hb dL_phase_130 (lv_at hl 6 rfl) ?_
        refine lv_iconst (v := 3) hx hb dL_phase_132 (by decide) ?_
        refine r_geN (tgt := 204) hx hb i 3 rfl rfl (by omega) (by omega) dL_phase_133 (by decide) (fun c1 => ?_) (fun c1 => ?_)
        · skip
          refine lv_iconst (v := 1) hx hb dL_phase_204 (by decide) ?_
          exact r_ret X hw hk hret rfl (by rw [hq]) (by rw [hq, show i = 3 from by omega]) dL_phase_205
        · skip
          refine lv_aload hx hb dL_phase_136 (lv_at hl 5 rfl) ?_
          refine lv_bipush (v := 9) hx hb dL_phase_138 (by decide) ?_
          refine lv_iload hx hb dL_phase_140 (lv_at hl 6 rfl) ?_
          refine r_mulN hx hb 9 i rfl rfl dL_phase_142 ?_
          refine lv_bipush (v := 6) hx hb dL_phase_143 (by decide) ?_
          refine r_addN hx hb (9 * i) 6 rfl rfl dL_phase_145 ?_
          refine r_iald X hw (f := (alL v1 (t1, xa) i).2) (9 * i + 6) (m_at 5 rfl) rfl (by omega) (by decide) dL_phase_146 ?_
          refine lv_iconst (v := 1) hx hb dL_phase_147 (by decide) ?_
          refine lv_icmp_ne (tgt := 198) hx hb dL_phase_148 (by decide) (fun c2 => ?_) (fun c2 => ?_)
          · skip
            refine r_iincN (lv' := [(6, .int (nI (i + 1))), (0, .ref kv), (1, .ref kb), (2, .ref kg), (3, .ref kn), (4, .ref kt), (5, .ref ka)]) hx hb i 1 rfl dL_phase_198 hl (k := 6) rfl rfl (by decide) rfl (fun ls hl => ?_)
            refine lv_goto (tgt := 130) hx hb dL_phase_201 (by decide) ?_
            exact ih130 (i + 1) (by omega) (by omega) _ _ _ (by rw [show alL v1 (t1, xa) (i + 1) = ((alL v1 (t1, xa) i).1, (alL v1 (t1, xa) i).2) from (by show alS v1 (alL v1 (t1, xa) i) i = _; unfold alS; rw [if_neg c2])]; exact hw) (lv_sub hl [1, 2, 3, 4, 5, 6, 0] rfl)
          · skip
            refine lv_aload_n hx hb dL_phase_151 rfl (lv_at hl 0 rfl) ?_
            refine lv_aload hx hb dL_phase_152 (lv_at hl 5 rfl) ?_
            refine lv_iload hx hb dL_phase_154 (lv_at hl 6 rfl) ?_
            refine r_callS X hw (ws' := [(kv, .inl (D.1 100, 7, .inl v1)), (kb, .inl (D.1 100, 7, .inl xb)), (kg, .inl (D.1 100, 7, .inl xg)), (kn, .inl (D.1 100, 7, .inl n1)), (kt, .inl (D.1 100, 11, .inl ((alL v1 (t1, xa) i).1))), (ka, .inl (D.1 100, 27, .inl ((alL v1 (t1, xa) i).2)))]) (As := [.ref kv, .ref ka, .int (nI i)]) (rest := []) lk_L_41 (c_L_matches l D _ kv ka v1 ((alL v1 (t1, xa) i).2) i (by omega)) (Foc.pick [0, 4] (r := [(kb, .inl (D.1 100, 7, .inl xb)), (kg, .inl (D.1 100, 7, .inl xg)), (kn, .inl (D.1 100, 7, .inl n1)), (kt, .inl (D.1 100, 11, .inl ((alL v1 (t1, xa) i).1)))]) rfl rfl) rfl hl.1 (Nat.le_of_ble_eq_true rfl) ⟨Nat.le_of_ble_eq_true rfl, Nat.le_of_ble_eq_true rfl⟩ rfl dL_phase_156 ⟨Nat.le_refl _, Nat.le_refl _⟩ (fun H locs hw => ?_)
            refine lv_if_eq (tgt := 198) hx hb dL_phase_159 (by decide) (fun c3 => ?_) (fun c3 => ?_)
            · skip
              refine r_iincN (lv' := [(6, .int (nI (i + 1))), (0, .ref kv), (1, .ref kb), (2, .ref kg), (3, .ref kn), (4, .ref kt), (5, .ref ka)]) hx hb i 1 rfl dL_phase_198 hl (k := 6) rfl rfl (by decide) rfl (fun ls hl => ?_)
              refine lv_goto (tgt := 130) hx hb dL_phase_201 (by decide) ?_
              exact ih130 (i + 1) (by omega) (by omega) _ _ _ (by rw [show alL v1 (t1, xa) (i + 1) = ((alL v1 (t1, xa) i).1, (alL v1 (t1, xa) i).2) from (by show alS v1 (alL v1 (t1, xa) i) i = _; unfold alS; rw [if_pos c2]; rw [if_pos c3])]; exact hw) (lv_sub hl [1, 2, 3, 4, 5, 6, 0] rfl)
            · skip
              refine lv_aload hx hb dL_phase_162 (lv_at hl 5 rfl) ?_
              refine lv_bipush (v := 9) hx hb dL_phase_164 (by decide) ?_
              refine lv_iload hx hb dL_phase_166 (lv_at hl 6 rfl) ?_
              refine r_mulN hx hb 9 i rfl rfl dL_phase_168 ?_
              refine lv_bipush (v := 7) hx hb dL_phase_169 (by decide) ?_
              refine r_addN hx hb (9 * i) 7 rfl rfl dL_phase_171 ?_
              refine lv_iconst (v := 1) hx hb dL_phase_172 (by decide) ?_
              refine r_iast X hw (ws' := [(kv, .inl (D.1 100, 7, .inl v1)), (kb, .inl (D.1 100, 7, .inl xb)), (kg, .inl (D.1 100, 7, .inl xg)), (kn, .inl (D.1 100, 7, .inl n1)), (kt, .inl (D.1 100, 11, .inl ((alL v1 (t1, xa) i).1))), (ka, .inl (D.1 100, 27, .inl (upd ((alL v1 (t1, xa) i).2) (9 * i + 7) 1)))]) (9 * i + 7) rfl (by omega) (by decide) (Foc.cell 5 rfl rfl (ce rfl (ce rfl (ce rfl (ce rfl (ce rfl rfl)))))) dL_phase_173 (fun H locs hw => ?_)
              refine lv_aload hx hb dL_phase_174 (lv_at hl 5 rfl) ?_
              refine lv_bipush (v := 9) hx hb dL_phase_176 (by decide) ?_
              refine lv_iload hx hb dL_phase_178 (lv_at hl 6 rfl) ?_
              refine r_mulN hx hb 9 i rfl rfl dL_phase_180 ?_
              refine lv_bipush (v := 8) hx hb dL_phase_181 (by decide) ?_
              refine r_addN hx hb (9 * i) 8 rfl rfl dL_phase_183 ?_
              refine lv_dup2_11 hx hb dL_phase_184 rfl rfl ?_
              refine r_iald X hw (f := upd ((alL v1 (t1, xa) i).2) (9 * i + 7) 1) (9 * i + 8) (m_at 5 rfl) rfl (by omega) (by decide) dL_phase_185 ?_
              refine lv_iconst (v := 1) hx hb dL_phase_186 (by decide) ?_
              refine lv_iadd hx hb dL_phase_187 ?_
              refine r_iast X hw (ws' := [(kv, .inl (D.1 100, 7, .inl v1)), (kb, .inl (D.1 100, 7, .inl xb)), (kg, .inl (D.1 100, 7, .inl xg)), (kn, .inl (D.1 100, 7, .inl n1)), (kt, .inl (D.1 100, 11, .inl ((alL v1 (t1, xa) i).1))), (ka, .inl (D.1 100, 27, .inl (upd (upd ((alL v1 (t1, xa) i).2) (9 * i + 7) 1) (9 * i + 8) (((upd ((alL v1 (t1, xa) i).2) (9 * i + 7) 1) (9 * i + 8)) + 1))))]) (9 * i + 8) rfl (by omega) (by decide) (Foc.cell 5 rfl rfl (ce rfl (ce rfl (ce rfl (ce rfl (ce rfl rfl)))))) dL_phase_188 (fun H locs hw => ?_)
              refine lv_aload hx hb dL_phase_189 (lv_at hl 4 rfl) ?_
              refine lv_bipush (v := 7) hx hb dL_phase_191 (by decide) ?_
              refine lv_dup2_11 hx hb dL_phase_193 rfl rfl ?_
              refine r_iald X hw (f := (alL v1 (t1, xa) i).1) 7 (m_at 4 rfl) rfl (by decide) (by decide) dL_phase_194 ?_
              refine lv_iconst (v := 1) hx hb dL_phase_195 (by decide) ?_
              refine lv_iadd hx hb dL_phase_196 ?_
              refine r_iast X hw (ws' := [(kv, .inl (D.1 100, 7, .inl v1)), (kb, .inl (D.1 100, 7, .inl xb)), (kg, .inl (D.1 100, 7, .inl xg)), (kn, .inl (D.1 100, 7, .inl n1)), (kt, .inl (D.1 100, 11, .inl (upd ((alL v1 (t1, xa) i).1) 7 ((((alL v1 (t1, xa) i).1) 7) + 1)))), (ka, .inl (D.1 100, 27, .inl (upd (upd ((alL v1 (t1, xa) i).2) (9 * i + 7) 1) (9 * i + 8) (((upd ((alL v1 (t1, xa) i).2) (9 * i + 7) 1) (9 * i + 8)) + 1))))]) 7 rfl (by decide) (by decide) (Foc.cell 4 rfl rfl (ce rfl (ce rfl (ce rfl (ce rfl (ce rfl rfl)))))) dL_phase_197 (fun H locs hw => ?_)
              refine r_iincN (lv' := [(6, .int (nI (i + 1))), (0, .ref kv), (1, .ref kb), (2, .ref kg), (3, .ref kn), (4, .ref kt), (5, .ref ka)]) hx hb i 1 rfl dL_phase_198 hl (k := 6) rfl rfl (by decide) rfl (fun ls hl => ?_)
              refine lv_goto (tgt := 130) hx hb dL_phase_201 (by decide) ?_
              exact ih130 (i + 1) (by omega) (by omega) _ _ _ (by rw [show alL v1 (t1, xa) (i + 1) = (upd ((alL v1 (t1, xa) i).1) 7 ((((alL v1 (t1, xa) i).1) 7) + 1), upd (upd ((alL v1 (t1, xa) i).2) (9 * i + 7) 1) (9 * i + 8) (((upd ((alL v1 (t1, xa) i).2) (9 * i + 7) 1) (9 * i + 8)) + 1)) from (by show alS v1 (alL v1 (t1, xa) i) i = _; unfold alS; rw [if_pos c2]; rw [if_neg c3])]; exact hw) (lv_sub hl [1, 2, 3, 4, 5, 6, 0] rfl)
    exact key130 4 0 (by omega) (by omega) _ _ _ hw (lv_sub hl [1, 2, 3, 4, 5, 6, 0] rfl)
  refine lv_aload hx hb dL_phase_0 (lv_at hl 4 rfl) ?_
  refine lv_iconst (v := 2) hx hb dL_phase_2 (by decide) ?_
  refine lv_dup2_11 hx hb dL_phase_3 rfl rfl ?_
  refine r_iald X hw (f := xt) 2 (m_at 4 rfl) rfl (by decide) (by decide) dL_phase_4 ?_
  refine lv_iconst (v := 1) hx hb dL_phase_5 (by decide) ?_
  refine lv_iadd hx hb dL_phase_6 ?_
  refine r_iast X hw (ws' := [(kv, .inl (D.1 100, 7, .inl xv)), (kb, .inl (D.1 100, 7, .inl xb)), (kg, .inl (D.1 100, 7, .inl xg)), (kn, .inl (D.1 100, 7, .inl xn)), (kt, .inl (D.1 100, 11, .inl (upd xt 2 ((xt 2) + 1)))), (ka, .inl (D.1 100, 27, .inl xa))]) 2 rfl (by decide) (by decide) (Foc.cell 4 rfl rfl (ce rfl (ce rfl (ce rfl (ce rfl (ce rfl rfl)))))) dL_phase_7 (fun H locs hw => ?_)
  refine lv_aload hx hb dL_phase_8 (lv_at hl 4 rfl) ?_
  refine lv_iconst (v := 0) hx hb dL_phase_10 (by decide) ?_
  refine lv_dup2_11 hx hb dL_phase_11 rfl rfl ?_
  refine r_iald X hw (f := upd xt 2 ((xt 2) + 1)) 0 (m_at 4 rfl) rfl (by decide) (by decide) dL_phase_12 ?_
  refine lv_iconst (v := 1) hx hb dL_phase_13 (by decide) ?_
  refine lv_iadd hx hb dL_phase_14 ?_
  refine r_iast X hw (ws' := [(kv, .inl (D.1 100, 7, .inl xv)), (kb, .inl (D.1 100, 7, .inl xb)), (kg, .inl (D.1 100, 7, .inl xg)), (kn, .inl (D.1 100, 7, .inl xn)), (kt, .inl (D.1 100, 11, .inl (upd (upd xt 2 ((xt 2) + 1)) 0 (((upd xt 2 ((xt 2) + 1)) 0) + 1)))), (ka, .inl (D.1 100, 27, .inl xa))]) 0 rfl (by decide) (by decide) (Foc.cell 4 rfl rfl (ce rfl (ce rfl (ce rfl (ce rfl (ce rfl rfl)))))) dL_phase_15 (fun H locs hw => ?_)
  refine lv_aload hx hb dL_phase_16 (lv_at hl 4 rfl) ?_
  refine lv_iconst (v := 0) hx hb dL_phase_18 (by decide) ?_
  refine r_iald X hw (f := upd (upd xt 2 ((xt 2) + 1)) 0 (((upd xt 2 ((xt 2) + 1)) 0) + 1)) 0 (m_at 4 rfl) rfl (by decide) (by decide) dL_phase_19 ?_
  refine lv_aload hx hb dL_phase_20 (lv_at hl 4 rfl) ?_
  refine lv_bipush (v := 10) hx hb dL_phase_22 (by decide) ?_
  refine r_iald X hw (f := upd (upd xt 2 ((xt 2) + 1)) 0 (((upd xt 2 ((xt 2) + 1)) 0) + 1)) 10 (m_at 4 rfl) rfl (by decide) (by decide) dL_phase_24 ?_
  refine lv_icmp_ge (tgt := 30) hx hb dL_phase_25 (by decide) (fun c4 => ?_) (fun c4 => ?_)
  · skip
    refine lv_aload hx hb dL_phase_30 (lv_at hl 4 rfl) ?_
    refine lv_iconst (v := 0) hx hb dL_phase_32 (by decide) ?_
    refine lv_iconst (v := 0) hx hb dL_phase_33 (by decide) ?_
    refine r_iast X hw (ws' := [(kv, .inl (D.1 100, 7, .inl xv)), (kb, .inl (D.1 100, 7, .inl xb)), (kg, .inl (D.1 100, 7, .inl xg)), (kn, .inl (D.1 100, 7, .inl xn)), (kt, .inl (D.1 100, 11, .inl (upd (upd (upd xt 2 ((xt 2) + 1)) 0 (((upd xt 2 ((xt 2) + 1)) 0) + 1)) 0 0))), (ka, .inl (D.1 100, 27, .inl xa))]) 0 rfl (by decide) (by decide) (Foc.cell 4 rfl rfl (ce rfl (ce rfl (ce rfl (ce rfl (ce rfl rfl)))))) dL_phase_34 (fun H locs hw => ?_)
    refine lv_aload hx hb dL_phase_35 (lv_at hl 4 rfl) ?_
    refine lv_iconst (v := 1) hx hb dL_phase_37 (by decide) ?_
    refine lv_dup2_11 hx hb dL_phase_38 rfl rfl ?_
    refine r_iald X hw (f := upd (upd (upd xt 2 ((xt 2) + 1)) 0 (((upd xt 2 ((xt 2) + 1)) 0) + 1)) 0 0) 1 (m_at 4 rfl) rfl (by decide) (by decide) dL_phase_39 ?_
    refine lv_iconst (v := 1) hx hb dL_phase_40 (by decide) ?_
    refine lv_iadd hx hb dL_phase_41 ?_
    refine r_iast X hw (ws' := [(kv, .inl (D.1 100, 7, .inl xv)), (kb, .inl (D.1 100, 7, .inl xb)), (kg, .inl (D.1 100, 7, .inl xg)), (kn, .inl (D.1 100, 7, .inl xn)), (kt, .inl (D.1 100, 11, .inl (upd (upd (upd (upd xt 2 ((xt 2) + 1)) 0 (((upd xt 2 ((xt 2) + 1)) 0) + 1)) 0 0) 1 (((upd (upd (upd xt 2 ((xt 2) + 1)) 0 (((upd xt 2 ((xt 2) + 1)) 0) + 1)) 0 0) 1) + 1)))), (ka, .inl (D.1 100, 27, .inl xa))]) 1 rfl (by decide) (by decide) (Foc.cell 4 rfl rfl (ce rfl (ce rfl (ce rfl (ce rfl (ce rfl rfl)))))) dL_phase_42 (fun H locs hw => ?_)
    refine lv_aload_n hx hb dL_phase_43 rfl (lv_at hl 0 rfl) ?_
    refine lv_aload_n hx hb dL_phase_44 rfl (lv_at hl 1 rfl) ?_
    refine lv_aload_n hx hb dL_phase_45 rfl (lv_at hl 2 rfl) ?_
    refine lv_aload_n hx hb dL_phase_46 rfl (lv_at hl 3 rfl) ?_
    refine lv_iconst (v := 0) hx hb dL_phase_47 (by decide) ?_
    refine r_callS X hw (ws' := [(kv, .inl (D.1 100, 7, .inl ((stL xb xg (xv, xn) 0).2.1))), (kb, .inl (D.1 100, 7, .inl xb)), (kg, .inl (D.1 100, 7, .inl xg)), (kn, .inl (D.1 100, 7, .inl ((stL xb xg (xv, xn) 0).2.2))), (kt, .inl (D.1 100, 11, .inl (upd (upd (upd (upd xt 2 ((xt 2) + 1)) 0 (((upd xt 2 ((xt 2) + 1)) 0) + 1)) 0 0) 1 (((upd (upd (upd xt 2 ((xt 2) + 1)) 0 (((upd xt 2 ((xt 2) + 1)) 0) + 1)) 0 0) 1) + 1)))), (ka, .inl (D.1 100, 27, .inl xa))]) (As := [.ref kv, .ref kb, .ref kg, .ref kn, .int 0]) (rest := []) lk_L_37 (c_L_stepY l D _ kv kb kg kn (xv, xn) xb xg 0 (by decide)) (Foc.pick [0, 0, 0, 0] (r := [(kt, .inl (D.1 100, 11, .inl (upd (upd (upd (upd xt 2 ((xt 2) + 1)) 0 (((upd xt 2 ((xt 2) + 1)) 0) + 1)) 0 0) 1 (((upd (upd (upd xt 2 ((xt 2) + 1)) 0 (((upd xt 2 ((xt 2) + 1)) 0) + 1)) 0 0) 1) + 1)))), (ka, .inl (D.1 100, 27, .inl xa))]) rfl rfl) rfl hl.1 (Nat.le_of_ble_eq_true rfl) ⟨Nat.le_of_ble_eq_true rfl, Nat.le_of_ble_eq_true rfl⟩ rfl dL_phase_48 ⟨Nat.le_refl _, Nat.le_refl _⟩ (fun H locs hw => ?_)
    refine lv_if_eq (tgt := 127) hx hb dL_phase_51 (by decide) (fun c5 => ?_) (fun c5 => ?_)
    · skip
      exact cut127 ((stL xb xg (xv, xn) 0).2.1) ((stL xb xg (xv, xn) 0).2.2) (upd (upd (upd (upd xt 2 ((xt 2) + 1)) 0 (((upd xt 2 ((xt 2) + 1)) 0) + 1)) 0 0) 1 (((upd (upd (upd xt 2 ((xt 2) + 1)) 0 (((upd xt 2 ((xt 2) + 1)) 0) + 1)) 0 0) 1) + 1)) (by unfold sp_L_phase; rw [if_pos c4]; rw [if_pos c5]) _ _ _ hw (lv_sub hl [0, 1, 2, 3, 4, 5] rfl)
    · skip
      refine lv_aload_n hx hb dL_phase_54 rfl (lv_at hl 0 rfl) ?_
      refine lv_aload_n hx hb dL_phase_55 rfl (lv_at hl 1 rfl) ?_
      refine lv_aload_n hx hb dL_phase_56 rfl (lv_at hl 2 rfl) ?_
      refine lv_aload_n hx hb dL_phase_57 rfl (lv_at hl 3 rfl) ?_
      refine lv_iconst (v := 1) hx hb dL_phase_58 (by decide) ?_
      refine r_callS X hw (ws' := [(kv, .inl (D.1 100, 7, .inl ((stL xb xg ((stL xb xg (xv, xn) 0).2) 1).2.1))), (kb, .inl (D.1 100, 7, .inl xb)), (kg, .inl (D.1 100, 7, .inl xg)), (kn, .inl (D.1 100, 7, .inl ((stL xb xg ((stL xb xg (xv, xn) 0).2) 1).2.2))), (kt, .inl (D.1 100, 11, .inl (upd (upd (upd (upd xt 2 ((xt 2) + 1)) 0 (((upd xt 2 ((xt 2) + 1)) 0) + 1)) 0 0) 1 (((upd (upd (upd xt 2 ((xt 2) + 1)) 0 (((upd xt 2 ((xt 2) + 1)) 0) + 1)) 0 0) 1) + 1)))), (ka, .inl (D.1 100, 27, .inl xa))]) (As := [.ref kv, .ref kb, .ref kg, .ref kn, .int 1]) (rest := []) lk_L_37 (c_L_stepY l D _ kv kb kg kn ((stL xb xg (xv, xn) 0).2) xb xg 1 (by decide)) (Foc.pick [0, 0, 0, 0] (r := [(kt, .inl (D.1 100, 11, .inl (upd (upd (upd (upd xt 2 ((xt 2) + 1)) 0 (((upd xt 2 ((xt 2) + 1)) 0) + 1)) 0 0) 1 (((upd (upd (upd xt 2 ((xt 2) + 1)) 0 (((upd xt 2 ((xt 2) + 1)) 0) + 1)) 0 0) 1) + 1)))), (ka, .inl (D.1 100, 27, .inl xa))]) rfl rfl) rfl hl.1 (Nat.le_of_ble_eq_true rfl) ⟨Nat.le_of_ble_eq_true rfl, Nat.le_of_ble_eq_true rfl⟩ rfl dL_phase_59 ⟨Nat.le_refl _, Nat.le_refl _⟩ (fun H locs hw => ?_)
      refine lv_if_eq (tgt := 127) hx hb dL_phase_62 (by decide) (fun c6 => ?_) (fun c6 => ?_)
      · skip
        exact cut127 ((stL xb xg ((stL xb xg (xv, xn) 0).2) 1).2.1) ((stL xb xg ((stL xb xg (xv, xn) 0).2) 1).2.2) (upd (upd (upd (upd xt 2 ((xt 2) + 1)) 0 (((upd xt 2 ((xt 2) + 1)) 0) + 1)) 0 0) 1 (((upd (upd (upd xt 2 ((xt 2) + 1)) 0 (((upd xt 2 ((xt 2) + 1)) 0) + 1)) 0 0) 1) + 1)) (by unfold sp_L_phase; rw [if_pos c4]; rw [if_neg c5]; rw [if_pos c6]) _ _ _ hw (lv_sub hl [0, 1, 2, 3, 4, 5] rfl)
      · skip
        refine lv_aload_n hx hb dL_phase_65 rfl (lv_at hl 0 rfl) ?_
        refine lv_aload_n hx hb dL_phase_66 rfl (lv_at hl 1 rfl) ?_
        refine lv_aload_n hx hb dL_phase_67 rfl (lv_at hl 2 rfl) ?_
        refine lv_aload_n hx hb dL_phase_68 rfl (lv_at hl 3 rfl) ?_
        refine lv_iconst (v := 2) hx hb dL_phase_69 (by decide) ?_
        refine r_callS X hw (ws' := [(kv, .inl (D.1 100, 7, .inl ((stL xb xg ((stL xb xg ((stL xb xg (xv, xn) 0).2) 1).2) 2).2.1))), (kb, .inl (D.1 100, 7, .inl xb)), (kg, .inl (D.1 100, 7, .inl xg)), (kn, .inl (D.1 100, 7, .inl ((stL xb xg ((stL xb xg ((stL xb xg (xv, xn) 0).2) 1).2) 2).2.2))), (kt, .inl (D.1 100, 11, .inl (upd (upd (upd (upd xt 2 ((xt 2) + 1)) 0 (((upd xt 2 ((xt 2) + 1)) 0) + 1)) 0 0) 1 (((upd (upd (upd xt 2 ((xt 2) + 1)) 0 (((upd xt 2 ((xt 2) + 1)) 0) + 1)) 0 0) 1) + 1)))), (ka, .inl (D.1 100, 27, .inl xa))]) (As := [.ref kv, .ref kb, .ref kg, .ref kn, .int 2]) (rest := []) lk_L_37 (c_L_stepY l D _ kv kb kg kn ((stL xb xg ((stL xb xg (xv, xn) 0).2) 1).2) xb xg 2 (by decide)) (Foc.pick [0, 0, 0, 0] (r := [(kt, .inl (D.1 100, 11, .inl (upd (upd (upd (upd xt 2 ((xt 2) + 1)) 0 (((upd xt 2 ((xt 2) + 1)) 0) + 1)) 0 0) 1 (((upd (upd (upd xt 2 ((xt 2) + 1)) 0 (((upd xt 2 ((xt 2) + 1)) 0) + 1)) 0 0) 1) + 1)))), (ka, .inl (D.1 100, 27, .inl xa))]) rfl rfl) rfl hl.1 (Nat.le_of_ble_eq_true rfl) ⟨Nat.le_of_ble_eq_true rfl, Nat.le_of_ble_eq_true rfl⟩ rfl dL_phase_70 ⟨Nat.le_refl _, Nat.le_refl _⟩ (fun H locs hw => ?_)
        refine lv_if_eq (tgt := 127) hx hb dL_phase_73 (by decide) (fun c7 => ?_) (fun c7 => ?_)
        · skip
          exact cut127 ((stL xb xg ((stL xb xg ((stL xb xg (xv, xn) 0).2) 1).2) 2).2.1) ((stL xb xg ((stL xb xg ((stL xb xg (xv, xn) 0).2) 1).2) 2).2.2) (upd (upd (upd (upd xt 2 ((xt 2) + 1)) 0 (((upd xt 2 ((xt 2) + 1)) 0) + 1)) 0 0) 1 (((upd (upd (upd xt 2 ((xt 2) + 1)) 0 (((upd xt 2 ((xt 2) + 1)) 0) + 1)) 0 0) 1) + 1)) (by unfold sp_L_phase; rw [if_pos c4]; rw [if_neg c5]; rw [if_neg c6]; rw [if_pos c7]) _ _ _ hw (lv_sub hl [0, 1, 2, 3, 4, 5] rfl)
        · skip
          refine lv_aload_n hx hb dL_phase_76 rfl (lv_at hl 0 rfl) ?_
          refine lv_aload_n hx hb dL_phase_77 rfl (lv_at hl 1 rfl) ?_
          refine lv_aload_n hx hb dL_phase_78 rfl (lv_at hl 2 rfl) ?_
          refine lv_aload_n hx hb dL_phase_79 rfl (lv_at hl 3 rfl) ?_
          refine lv_iconst (v := 3) hx hb dL_phase_80 (by decide) ?_
          refine r_callS X hw (ws' := [(kv, .inl (D.1 100, 7, .inl ((stL xb xg ((stL xb xg ((stL xb xg ((stL xb xg (xv, xn) 0).2) 1).2) 2).2) 3).2.1))), (kb, .inl (D.1 100, 7, .inl xb)), (kg, .inl (D.1 100, 7, .inl xg)), (kn, .inl (D.1 100, 7, .inl ((stL xb xg ((stL xb xg ((stL xb xg ((stL xb xg (xv, xn) 0).2) 1).2) 2).2) 3).2.2))), (kt, .inl (D.1 100, 11, .inl (upd (upd (upd (upd xt 2 ((xt 2) + 1)) 0 (((upd xt 2 ((xt 2) + 1)) 0) + 1)) 0 0) 1 (((upd (upd (upd xt 2 ((xt 2) + 1)) 0 (((upd xt 2 ((xt 2) + 1)) 0) + 1)) 0 0) 1) + 1)))), (ka, .inl (D.1 100, 27, .inl xa))]) (As := [.ref kv, .ref kb, .ref kg, .ref kn, .int 3]) (rest := []) lk_L_37 (c_L_stepY l D _ kv kb kg kn ((stL xb xg ((stL xb xg ((stL xb xg (xv, xn) 0).2) 1).2) 2).2) xb xg 3 (by decide)) (Foc.pick [0, 0, 0, 0] (r := [(kt, .inl (D.1 100, 11, .inl (upd (upd (upd (upd xt 2 ((xt 2) + 1)) 0 (((upd xt 2 ((xt 2) + 1)) 0) + 1)) 0 0) 1 (((upd (upd (upd xt 2 ((xt 2) + 1)) 0 (((upd xt 2 ((xt 2) + 1)) 0) + 1)) 0 0) 1) + 1)))), (ka, .inl (D.1 100, 27, .inl xa))]) rfl rfl) rfl hl.1 (Nat.le_of_ble_eq_true rfl) ⟨Nat.le_of_ble_eq_true rfl, Nat.le_of_ble_eq_true rfl⟩ rfl dL_phase_81 ⟨Nat.le_refl _, Nat.le_refl _⟩ (fun H locs hw => ?_)
          refine lv_istore (lv' := [(6, .int ((stL xb xg ((stL xb xg ((stL xb xg ((stL xb xg (xv, xn) 0).2) 1).2) 2).2) 3).1)), (0, .ref kv), (1, .ref kb), (2, .ref kg), (3, .ref kn), (4, .ref kt), (5, .ref ka)]) hx hb dL_phase_84 hl (by decide) rfl (fun ls hl => ?_)
          refine lv_aload_n hx hb dL_phase_86 rfl (lv_at hl 1 rfl) ?_
          refine lv_aload_n hx hb dL_phase_87 rfl (lv_at hl 2 rfl) ?_
          refine lv_aload_n hx hb dL_phase_88 rfl (lv_at hl 3 rfl) ?_
          refine lv_aload_n hx hb dL_phase_89 rfl (lv_at hl 4 rfl) ?_
          refine lv_iconst (v := 4) hx hb dL_phase_90 (by decide) ?_
          refine r_callS X hw (ws' := [(kv, .inl (D.1 100, 7, .inl ((stL xb xg ((stL xb xg ((stL xb xg ((stL xb xg ((stL xb xg (xv, xn) 0).2) 1).2) 2).2) 3).2) 4).2.1))), (kb, .inl (D.1 100, 7, .inl xb)), (kg, .inl (D.1 100, 7, .inl xg)), (kn, .inl (D.1 100, 7, .inl ((stL xb xg ((stL xb xg ((stL xb xg ((stL xb xg ((stL xb xg (xv, xn) 0).2) 1).2) 2).2) 3).2) 4).2.2))), (kt, .inl (D.1 100, 11, .inl (upd (upd (upd (upd xt 2 ((xt 2) + 1)) 0 (((upd xt 2 ((xt 2) + 1)) 0) + 1)) 0 0) 1 (((upd (upd (upd xt 2 ((xt 2) + 1)) 0 (((upd xt 2 ((xt 2) + 1)) 0) + 1)) 0 0) 1) + 1)))), (ka, .inl (D.1 100, 27, .inl xa))]) (As := [.ref kv, .ref kb, .ref kg, .ref kn, .int 4]) (rest := []) lk_L_37 (c_L_stepY l D _ kv kb kg kn ((stL xb xg ((stL xb xg ((stL xb xg ((stL xb xg (xv, xn) 0).2) 1).2) 2).2) 3).2) xb xg 4 (by decide)) (Foc.pick [0, 0, 0, 0] (r := [(kt, .inl (D.1 100, 11, .inl (upd (upd (upd (upd xt 2 ((xt 2) + 1)) 0 (((upd xt 2 ((xt 2) + 1)) 0) + 1)) 0 0) 1 (((upd (upd (upd xt 2 ((xt 2) + 1)) 0 (((upd xt 2 ((xt 2) + 1)) 0) + 1)) 0 0) 1) + 1)))), (ka, .inl (D.1 100, 27, .inl xa))]) rfl rfl) rfl hl.1 (Nat.le_of_ble_eq_true rfl) ⟨Nat.le_of_ble_eq_true rfl, Nat.le_of_ble_eq_true rfl⟩ rfl dL_phase_91 ⟨Nat.le_refl _, Nat.le_refl _⟩ (fun H locs hw => ?_)
          refine lv_if_eq (tgt := 124) hx hb dL_phase_94 (by decide) (fun c8 => ?_) (fun c8 => ?_)
          · skip
            refine lv_iconst (v := 0) hx hb dL_phase_124 (by decide) ?_
            refine lv_istore (lv' := [(7, .int 0), (6, .int ((stL xb xg ((stL xb xg ((stL xb xg ((stL xb xg (xv, xn) 0).2) 1).2) 2).2) 3).1)), (0, .ref kv), (1, .ref kb), (2, .ref kg), (3, .ref kn), (4, .ref kt), (5, .ref ka)]) hx hb dL_phase_125 hl (by decide) rfl (fun ls hl => ?_)
            exact cut127 ((stL xb xg ((stL xb xg ((stL xb xg ((stL xb xg ((stL xb xg (xv, xn) 0).2) 1).2) 2).2) 3).2) 4).2.1) ((stL xb xg ((stL xb xg ((stL xb xg ((stL xb xg ((stL xb xg (xv, xn) 0).2) 1).2) 2).2) 3).2) 4).2.2) (upd (upd (upd (upd xt 2 ((xt 2) + 1)) 0 (((upd xt 2 ((xt 2) + 1)) 0) + 1)) 0 0) 1 (((upd (upd (upd xt 2 ((xt 2) + 1)) 0 (((upd xt 2 ((xt 2) + 1)) 0) + 1)) 0 0) 1) + 1)) (by unfold sp_L_phase; rw [if_pos c4]; rw [if_neg c5]; rw [if_neg c6]; rw [if_neg c7]; rw [if_pos c8]) _ _ _ hw (lv_sub hl [2, 3, 4, 5, 6, 7] rfl)
          · skip
            refine lv_aload_n hx hb dL_phase_97 rfl (lv_at hl 1 rfl) ?_
            refine lv_aload_n hx hb dL_phase_98 rfl (lv_at hl 2 rfl) ?_
            refine lv_aload_n hx hb dL_phase_99 rfl (lv_at hl 3 rfl) ?_
            refine lv_aload_n hx hb dL_phase_100 rfl (lv_at hl 4 rfl) ?_
            refine lv_iconst (v := 5) hx hb dL_phase_101 (by decide) ?_
            refine r_callS X hw (ws' := [(kv, .inl (D.1 100, 7, .inl ((stL xb xg ((stL xb xg ((stL xb xg ((stL xb xg ((stL xb xg ((stL xb xg (xv, xn) 0).2) 1).2) 2).2) 3).2) 4).2) 5).2.1))), (kb, .inl (D.1 100, 7, .inl xb)), (kg, .inl (D.1 100, 7, .inl xg)), (kn, .inl (D.1 100, 7, .inl ((stL xb xg ((stL xb xg ((stL xb xg ((stL xb xg ((stL xb xg ((stL xb xg (xv, xn) 0).2) 1).2) 2).2) 3).2) 4).2) 5).2.2))), (kt, .inl (D.1 100, 11, .inl (upd (upd (upd (upd xt 2 ((xt 2) + 1)) 0 (((upd xt 2 ((xt 2) + 1)) 0) + 1)) 0 0) 1 (((upd (upd (upd xt 2 ((xt 2) + 1)) 0 (((upd xt 2 ((xt 2) + 1)) 0) + 1)) 0 0) 1) + 1)))), (ka, .inl (D.1 100, 27, .inl xa))]) (As := [.ref kv, .ref kb, .ref kg, .ref kn, .int 5]) (rest := []) lk_L_37 (c_L_stepY l D _ kv kb kg kn ((stL xb xg ((stL xb xg ((stL xb xg ((stL xb xg ((stL xb xg (xv, xn) 0).2) 1).2) 2).2) 3).2) 4).2) xb xg 5 (by decide)) (Foc.pick [0, 0, 0, 0] (r := [(kt, .inl (D.1 100, 11, .inl (upd (upd (upd (upd xt 2 ((xt 2) + 1)) 0 (((upd xt 2 ((xt 2) + 1)) 0) + 1)) 0 0) 1 (((upd (upd (upd xt 2 ((xt 2) + 1)) 0 (((upd xt 2 ((xt 2) + 1)) 0) + 1)) 0 0) 1) + 1)))), (ka, .inl (D.1 100, 27, .inl xa))]) rfl rfl) rfl hl.1 (Nat.le_of_ble_eq_true rfl) ⟨Nat.le_of_ble_eq_true rfl, Nat.le_of_ble_eq_true rfl⟩ rfl dL_phase_102 ⟨Nat.le_refl _, Nat.le_refl _⟩ (fun H locs hw => ?_)
            refine lv_if_eq (tgt := 124) hx hb dL_phase_105 (by decide) (fun c9 => ?_) (fun c9 => ?_)
            · skip
              refine lv_iconst (v := 0) hx hb dL_phase_124 (by decide) ?_
              refine lv_istore (lv' := [(7, .int 0), (6, .int ((stL xb xg ((stL xb xg ((stL xb xg ((stL xb xg (xv, xn) 0).2) 1).2) 2).2) 3).1)), (0, .ref kv), (1, .ref kb), (2, .ref kg), (3, .ref kn), (4, .ref kt), (5, .ref ka)]) hx hb dL_phase_125 hl (by decide) rfl (fun ls hl => ?_)
              exact cut127 ((stL xb xg ((stL xb xg ((stL xb xg ((stL xb xg ((stL xb xg ((stL xb xg (xv, xn) 0).2) 1).2) 2).2) 3).2) 4).2) 5).2.1) ((stL xb xg ((stL xb xg ((stL xb xg ((stL xb xg ((stL xb xg ((stL xb xg (xv, xn) 0).2) 1).2) 2).2) 3).2) 4).2) 5).2.2) (upd (upd (upd (upd xt 2 ((xt 2) + 1)) 0 (((upd xt 2 ((xt 2) + 1)) 0) + 1)) 0 0) 1 (((upd (upd (upd xt 2 ((xt 2) + 1)) 0 (((upd xt 2 ((xt 2) + 1)) 0) + 1)) 0 0) 1) + 1)) (by unfold sp_L_phase; rw [if_pos c4]; rw [if_neg c5]; rw [if_neg c6]; rw [if_neg c7]; rw [if_neg c8]; rw [if_pos c9]) _ _ _ hw (lv_sub hl [2, 3, 4, 5, 6, 7] rfl)
            · skip
              refine lv_aload_n hx hb dL_phase_108 rfl (lv_at hl 1 rfl) ?_
              refine lv_aload_n hx hb dL_phase_109 rfl (lv_at hl 2 rfl) ?_
              refine lv_aload_n hx hb dL_phase_110 rfl (lv_at hl 3 rfl) ?_
              refine lv_aload_n hx hb dL_phase_111 rfl (lv_at hl 4 rfl) ?_
              refine lv_bipush (v := 6) hx hb dL_phase_112 (by decide) ?_
              refine r_callS X hw (ws' := [(kv, .inl (D.1 100, 7, .inl ((stL xb xg ((stL xb xg ((stL xb xg ((stL xb xg ((stL xb xg ((stL xb xg ((stL xb xg (xv, xn) 0).2) 1).2) 2).2) 3).2) 4).2) 5).2) 6).2.1))), (kb, .inl (D.1 100, 7, .inl xb)), (kg, .inl (D.1 100, 7, .inl xg)), (kn, .inl (D.1 100, 7, .inl ((stL xb xg ((stL xb xg ((stL xb xg ((stL xb xg ((stL xb xg ((stL xb xg ((stL xb xg (xv, xn) 0).2) 1).2) 2).2) 3).2) 4).2) 5).2) 6).2.2))), (kt, .inl (D.1 100, 11, .inl (upd (upd (upd (upd xt 2 ((xt 2) + 1)) 0 (((upd xt 2 ((xt 2) + 1)) 0) + 1)) 0 0) 1 (((upd (upd (upd xt 2 ((xt 2) + 1)) 0 (((upd xt 2 ((xt 2) + 1)) 0) + 1)) 0 0) 1) + 1)))), (ka, .inl (D.1 100, 27, .inl xa))]) (As := [.ref kv, .ref kb, .ref kg, .ref kn, .int 6]) (rest := []) lk_L_37 (c_L_stepY l D _ kv kb kg kn ((stL xb xg ((stL xb xg ((stL xb xg ((stL xb xg ((stL xb xg ((stL xb xg (xv, xn) 0).2) 1).2) 2).2) 3).2) 4).2) 5).2) xb xg 6 (by decide)) (Foc.pick [0, 0, 0, 0] (r := [(kt, .inl (D.1 100, 11, .inl (upd (upd (upd (upd xt 2 ((xt 2) + 1)) 0 (((upd xt 2 ((xt 2) + 1)) 0) + 1)) 0 0) 1 (((upd (upd (upd xt 2 ((xt 2) + 1)) 0 (((upd xt 2 ((xt 2) + 1)) 0) + 1)) 0 0) 1) + 1)))), (ka, .inl (D.1 100, 27, .inl xa))]) rfl rfl) rfl hl.1 (Nat.le_of_ble_eq_true rfl) ⟨Nat.le_of_ble_eq_true rfl, Nat.le_of_ble_eq_true rfl⟩ rfl dL_phase_114 ⟨Nat.le_refl _, Nat.le_refl _⟩ (fun H locs hw => ?_)
              refine lv_if_eq (tgt := 124) hx hb dL_phase_117 (by decide) (fun c10 => ?_) (fun c10 => ?_)
              · skip
                refine lv_iconst (v := 0) hx hb dL_phase_124 (by decide) ?_
                refine lv_istore (lv' := [(7, .int 0), (6, .int ((stL xb xg ((stL xb xg ((stL xb xg ((stL xb xg (xv, xn) 0).2) 1).2) 2).2) 3).1)), (0, .ref kv), (1, .ref kb), (2, .ref kg), (3, .ref kn), (4, .ref kt), (5, .ref ka)]) hx hb dL_phase_125 hl (by decide) rfl (fun ls hl => ?_)
                exact cut127 ((stL xb xg ((stL xb xg ((stL xb xg ((stL xb xg ((stL xb xg ((stL xb xg ((stL xb xg (xv, xn) 0).2) 1).2) 2).2) 3).2) 4).2) 5).2) 6).2.1) ((stL xb xg ((stL xb xg ((stL xb xg ((stL xb xg ((stL xb xg ((stL xb xg ((stL xb xg (xv, xn) 0).2) 1).2) 2).2) 3).2) 4).2) 5).2) 6).2.2) (upd (upd (upd (upd xt 2 ((xt 2) + 1)) 0 (((upd xt 2 ((xt 2) + 1)) 0) + 1)) 0 0) 1 (((upd (upd (upd xt 2 ((xt 2) + 1)) 0 (((upd xt 2 ((xt 2) + 1)) 0) + 1)) 0 0) 1) + 1)) (by unfold sp_L_phase; rw [if_pos c4]; rw [if_neg c5]; rw [if_neg c6]; rw [if_neg c7]; rw [if_neg c8]; rw [if_neg c9]; rw [if_pos c10]) _ _ _ hw (lv_sub hl [2, 3, 4, 5, 6, 7] rfl)
              · skip
                refine lv_iconst (v := 1) hx hb dL_phase_120 (by decide) ?_
                refine lv_goto (tgt := 125) hx hb dL_phase_121 (by decide) ?_
                refine lv_istore (lv' := [(7, .int 1), (6, .int ((stL xb xg ((stL xb xg ((stL xb xg ((stL xb xg (xv, xn) 0).2) 1).2) 2).2) 3).1)), (0, .ref kv), (1, .ref kb), (2, .ref kg), (3, .ref kn), (4, .ref kt), (5, .ref ka)]) hx hb dL_phase_125 hl (by decide) rfl (fun ls hl => ?_)
                exact cut127 ((stL xb xg ((stL xb xg ((stL xb xg ((stL xb xg ((stL xb xg ((stL xb xg ((stL xb xg (xv, xn) 0).2) 1).2) 2).2) 3).2) 4).2) 5).2) 6).2.1) ((stL xb xg ((stL xb xg ((stL xb xg ((stL xb xg ((stL xb xg ((stL xb xg ((stL xb xg (xv, xn) 0).2) 1).2) 2).2) 3).2) 4).2) 5).2) 6).2.2) (upd (upd (upd (upd xt 2 ((xt 2) + 1)) 0 (((upd xt 2 ((xt 2) + 1)) 0) + 1)) 0 0) 1 (((upd (upd (upd xt 2 ((xt 2) + 1)) 0 (((upd xt 2 ((xt 2) + 1)) 0) + 1)) 0 0) 1) + 1)) (by unfold sp_L_phase; rw [if_pos c4]; rw [if_neg c5]; rw [if_neg c6]; rw [if_neg c7]; rw [if_neg c8]; rw [if_neg c9]; rw [if_neg c10]) _ _ _ hw (lv_sub hl [2, 3, 4, 5, 6, 7] rfl)
  · skip
    refine lv_iconst (v := 0) hx hb dL_phase_28 (by decide) ?_
    exact r_ret X hw hk hret rfl (by unfold sp_L_phase; rw [if_neg c4]) (by unfold sp_L_phase; rw [if_neg c4]) dL_phase_29

/-- a phase on the rows at once -/
noncomputable def phL (xb xg : Row) (x : LRs) : Int32 × LRs := sp_L_phase x.1 xb xg x.2.1 x.2.2.1 x.2.2.2

theorem c_L_phaseY (l : Launch) (D : va_G) (sz : Nat) (kv kb kg kn kt ka : Nat) (X : LRs) (xb xg : Row) : MI l yL_phase cL_phase 8 (some .boolean) 6 132 D sz [.ref kv, .ref kb, .ref kg, .ref kn, .ref kt, .ref ka] [(kv, .inl (D.1 100, 7, .inl X.1)), (kb, .inl (D.1 100, 7, .inl xb)), (kg, .inl (D.1 100, 7, .inl xg)), (kn, .inl (D.1 100, 7, .inl X.2.1)), (kt, .inl (D.1 100, 11, .inl X.2.2.1)), (ka, .inl (D.1 100, 27, .inl X.2.2.2))] ((phL xb xg X).1) [(kv, .inl (D.1 100, 7, .inl ((phL xb xg X).2.1))), (kb, .inl (D.1 100, 7, .inl xb)), (kg, .inl (D.1 100, 7, .inl xg)), (kn, .inl (D.1 100, 7, .inl ((phL xb xg X).2.2.1))), (kt, .inl (D.1 100, 11, .inl ((phL xb xg X).2.2.2.1))), (ka, .inl (D.1 100, 27, .inl ((phL xb xg X).2.2.2.2)))] := c_L_phase l D sz kv kb kg kn kt ka X.1 xb xg X.2.1 X.2.2.1 X.2.2.2

theorem bo_L_phase (xv xb xg xn xt xa : Row) : (sp_L_phase xv xb xg xn xt xa).1 = 0 ∨ (sp_L_phase xv xb xg xn xt xa).1 = 1 := by
  unfold sp_L_phase
  (repeat' split) <;> first | exact Or.inl rfl | exact Or.inr rfl
theorem alS_ne (v : Row) (y : Row × Row) (k : Nat) {j : Nat} (h : j ≠ 7) : (alS v y k).1 j = y.1 j := by
  unfold alS
  split
  · split
    · rfl
    · exact upd_ne _ _ h
  · rfl
theorem alL_ne (v : Row) (y : Row × Row) {j : Nat} (h : j ≠ 7) : ∀ k, (alL v y k).1 j = y.1 j
  | 0 => rfl
  | k + 1 => (alS_ne v _ k h).trans (alL_ne v y h k)
/-- the phase, the settings in their ranges -/
def lOK (xt : Row) (p z q : Nat) : Prop := xt 0 = nI p ∧ xt 10 = nI z ∧ xt 8 = nI q ∧ p < z ∧ 4 ≤ z ∧ z ≤ 60 ∧ q ≤ 8
/-- the accounts ahead of a tick, and behind it -/
noncomputable def t2 (xt : Row) : Row := upd (upd xt 2 (xt 2 + 1)) 0 ((upd xt 2 (xt 2 + 1)) 0 + 1)
noncomputable def t4 (xt : Row) : Row := upd (upd (t2 xt) 0 0) 1 ((upd (t2 xt) 0 0) 1 + 1)
theorem t2_at (xt : Row) (j : Nat) : t2 xt j = if j = 0 then xt 0 + 1 else (if j = 2 then xt 2 + 1 else xt j) := by
  unfold t2
  by_cases c0 : j = 0
  · rw [if_pos c0, c0, upd_eq, upd_ne _ _ (by decide)]
  · rw [if_neg c0, upd_ne _ _ c0]
    by_cases c2 : j = 2
    · rw [if_pos c2, c2, upd_eq]
    · rw [if_neg c2, upd_ne _ _ c2]
theorem t4_at (xt : Row) (j : Nat) : t4 xt j = if j = 0 then 0 else (if j = 1 then xt 1 + 1 else (if j = 2 then xt 2 + 1 else xt j)) := by
  unfold t4
  by_cases c1 : j = 1
  · subst c1
    rw [upd_eq, upd_ne _ _ (by decide), t2_at]
    rfl
  · rw [upd_ne _ _ c1]
    by_cases c0 : j = 0
    · rw [if_pos c0, c0, upd_eq]
    · rw [upd_ne _ _ c0, if_neg c0, if_neg c1, t2_at, if_neg c0]
theorem ph_f {xv xb xg xn xt xa : Row} (h : ¬ xt 10 ≤ xt 0 + 1) : sp_L_phase xv xb xg xn xt xa = (0, xv, xn, t2 xt, xa) := if_neg (show ¬ t2 xt 10 ≤ t2 xt 0 from by rw [t2_at, t2_at]; exact h)
theorem ph_t {xv xb xg xn xt xa : Row} (h : xt 10 ≤ xt 0 + 1) : ∃ v1 n1, sp_L_phase xv xb xg xn xt xa = ((1 : Int32), v1, n1, (alL v1 (t4 xt, xa) 3).1, (alL v1 (t4 xt, xa) 3).2) := by
  have e : t2 xt 10 ≤ t2 xt 0 := by rw [t2_at, t2_at]; exact h
  have e' : upd (upd xt 2 (xt 2 + 1)) 0 ((upd xt 2 (xt 2 + 1)) 0 + 1) 10 ≤ upd (upd xt 2 (xt 2 + 1)) 0 ((upd xt 2 (xt 2 + 1)) 0 + 1) 0 := e
  unfold sp_L_phase
  rw [if_pos e']
  (repeat' split) <;> exact ⟨_, _, rfl⟩
theorem ph_ok {xv xb xg xn xt xa : Row} {p z q : Nat} (h : lOK xt p z q) : ((sp_L_phase xv xb xg xn xt xa).1 = 0 ∧ lOK (sp_L_phase xv xb xg xn xt xa).2.2.2.1 (p + 1) z q) ∨ ((sp_L_phase xv xb xg xn xt xa).1 = 1 ∧ lOK (sp_L_phase xv xb xg xn xt xa).2.2.2.1 0 z q ∧ p + 1 = z) := by
  obtain ⟨h1, h2, h3, h4, h5, h6, h7⟩ := h
  have e : xt 10 ≤ xt 0 + 1 ↔ z ≤ p + 1 := by rw [h1, h2, show nI p + 1 = nI (p + 1) from nI_add p 1]; exact nI_leI (by omega) (by omega)
  by_cases c : xt 10 ≤ xt 0 + 1
  · right
    obtain ⟨v1, n1, e1⟩ := ph_t (xv := xv) (xb := xb) (xg := xg) (xn := xn) (xa := xa) c
    have hz := e.mp c
    rw [e1]
    refine ⟨rfl, ⟨?_, ?_, ?_, by omega, h5, h6, h7⟩, by omega⟩
    · show (alL v1 (t4 xt, xa) 3).1 0 = _
      rw [alL_ne _ _ (by decide)]; show t4 xt 0 = _; rw [t4_at]; rfl
    · show (alL v1 (t4 xt, xa) 3).1 10 = _
      rw [alL_ne _ _ (by decide)]; show t4 xt 10 = _; rw [t4_at]; exact h2
    · show (alL v1 (t4 xt, xa) 3).1 8 = _
      rw [alL_ne _ _ (by decide)]; show t4 xt 8 = _; rw [t4_at]; exact h3
  · left
    have hz : ¬ z ≤ p + 1 := fun q => c (e.mpr q)
    rw [ph_f c]
    refine ⟨rfl, ?_, ?_, ?_, by omega, h5, h6, h7⟩
    · show t2 xt 0 = _
      rw [t2_at, if_pos rfl, h1]; exact nI_add p 1
    · show t2 xt 10 = _
      rw [t2_at]; exact h2
    · show t2 xt 8 = _
      rw [t2_at]; exact h3
