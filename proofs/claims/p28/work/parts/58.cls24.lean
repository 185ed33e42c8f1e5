/-! constructors -/
abbrev lkL (l : List Nat) : Nat → Nat := fun j => l.getD j 0
theorem pm5 {a b c d e : va_W} : (([a, b, c, d, e] : List va_W).flatten).Perm (([a, b, d, e, c] : List va_W).flatten) := ((List.perm_append_comm (l₁ := [c]) (l₂ := [d, e])).cons b |>.cons a).flatten

theorem nw_X3_9 : NW RX3 9 5 4 [.null, .null, .null, .null] := ⟨RX5, TX5, tyX5, ui_X5, tyX5_ok, rfl, in_all 25 (by decide +kernel) rfl, in_all 26 (by decide +kernel) rfl, in_all 4 (by decide +kernel) rfl, fun j hj => by
  have h : j = 0 ∨ j = 1 ∨ j = 2 ∨ j = 3 := by omega
  rcases h with rfl | rfl | rfl | rfl <;> rfl⟩
theorem nw_X3_18 : NW RX3 18 0 5 [.null, .null, .null, .int 0, .int 0] := ⟨RX0, TX0, tyX0, ui_X0, tyX0_ok, rfl, in_all 56 (by decide +kernel) rfl, in_all 57 (by decide +kernel) rfl, in_all 6 (by decide +kernel) rfl, fun j hj => by
  have h : j = 0 ∨ j = 1 ∨ j = 2 ∨ j = 3 ∨ j = 4 := by omega
  rcases h with rfl | rfl | rfl | rfl | rfl <;> rfl⟩
theorem nw_X3_25 : NW RX3 25 2 3 [.null, .int 0, .int 0] := ⟨RX2, TX2, tyX2, ui_X2, tyX2_ok, rfl, in_all 85 (by decide +kernel) rfl, in_all 86 (by decide +kernel) rfl, in_all 7 (by decide +kernel) rfl, fun j hj => by
  have h : j = 0 ∨ j = 1 ∨ j = 2 := by omega
  rcases h with rfl | rfl | rfl <;> rfl⟩
theorem nw_X6_7 : NW RX6 7 3 11 [.null, .null, .null, .null, .int 0, .int 0, .int 0, .int 0, .int 0, .int 0, .int 0] := ⟨RX3, TX3, tyX3, ui_X3, tyX3_ok, rfl, in_all 19 (by decide +kernel) rfl, in_all 20 (by decide +kernel) rfl, in_all 3 (by decide +kernel) rfl, fun j hj => by
  have h : j = 0 ∨ j = 1 ∨ j = 2 ∨ j = 3 ∨ j = 4 ∨ j = 5 ∨ j = 6 ∨ j = 7 ∨ j = 8 ∨ j = 9 ∨ j = 10 := by omega
  rcases h with rfl | rfl | rfl | rfl | rfl | rfl | rfl | rfl | rfl | rfl | rfl <;> rfl⟩
theorem nw_X6_19 : NW RX6 19 1 4 [.null, .null, .null, .int 0] := ⟨RX1, TX1, tyX1, ui_X1, tyX1_ok, rfl, in_all 150 (by decide +kernel) rfl, in_all 151 (by decide +kernel) rfl, in_all 8 (by decide +kernel) rfl, fun j hj => by
  have h : j = 0 ∨ j = 1 ∨ j = 2 ∨ j = 3 := by omega
  rcases h with rfl | rfl | rfl | rfl <;> rfl⟩
theorem nw_X6_26 : NW RX6 26 4 4 [.null, .int 0, .int 0, .int 0] := ⟨RX4, TX4, tyX4, ui_X4, tyX4_ok, rfl, in_all 171 (by decide +kernel) rfl, in_all 172 (by decide +kernel) rfl, in_all 9 (by decide +kernel) rfl, fun j hj => by
  have h : j = 0 ∨ j = 1 ∨ j = 2 ∨ j = 3 := by omega
  rcases h with rfl | rfl | rfl | rfl <;> rfl⟩
set_option maxRecDepth 100000 in
set_option maxHeartbeats 4000000 in
theorem c_X5_init (l : Launch) (D : va_G) (sz : Nat) (x0 : Nat) : MN (S := Nat × Nat × Nat × Nat) l yX5_init cX5_init 1 1 4 28 60 D sz [.ref x0] ([(x0, .inr (5, [.null, .null, .null, .null]))]) (fun _ => True) (fun u => regsB D x0 u.1 u.2.1 u.2.2.1 u.2.2.2 (upd (va_cpy (kf k_first) z0 0 0 7) 3 6) z0 z0 z0) := by
  refine r_enterN (by decide) (Nat.le_of_ble_eq_true rfl) ?_
  intro p e st m args below meth c ls A X hAO hret hk hin hw hl
  have X : CX D p m c cX5_init 1 st args RX5 A := X
  have hx := X.1.1
  have hb := X.1.2.1
  have hown := X.1.2.2.2.1
  have hts := X.1.2.2.2.2
  have hl : lv_has ls 1 [(0, .ref x0)] := hl
  replace hw : Wd D A st.heap st.heap [] (([[(x0, .inr (5, [.null, .null, .null, .null]))]] : List va_W).flatten) := hw
  refine lv_aload_n hx hb dX5_init_0 rfl (lv_at hl 0 rfl) ?_
  refine r_obj X oi_X5_3 hl.1 ⟨Nat.le_of_ble_eq_true rfl, Nat.le_of_ble_eq_true rfl⟩ dX5_init_1 ?_
  refine lv_aload_n hx hb dX5_init_4 rfl (lv_at hl 0 rfl) ?_
  refine lv_bipush (v := 7) hx hb dX5_init_5 (by decide) ?_
  refine r_newa X hw 7 rfl (by decide) (in_all 55 (by decide +kernel) rfl) (Nat.le_of_ble_eq_true rfl) (Nat.le_of_ble_eq_true rfl) dX5_init_7 (fun q1 H hw => ?_)
  replace hw : Wd D A st.heap H _ (([[(x0, .inr (5, [.null, .null, .null, .null]))], [(q1, .inl (D.1 100, 7, .inl z0))]] : List va_W).flatten) := hw
  refine r_putF X hin hw (ws' := ([[(x0, .inr (5, [.ref q1, .null, .null, .null]))], [(q1, .inl (D.1 100, 7, .inl z0))]] : List va_W).flatten) fp_X5_9 rfl rfl (Nat.le_of_ble_eq_true rfl) (Foc.trans (Foc.at1 0 rfl rfl (ce rfl rfl)) (Foc.cell 0 rfl rfl rfl)) dX5_init_9 (fun H locs hw => ?_)
  refine lv_aload_n hx hb dX5_init_12 rfl (lv_at hl 0 rfl) ?_
  refine lv_bipush (v := 7) hx hb dX5_init_13 (by decide) ?_
  refine r_newa X hw 7 rfl (by decide) (in_all 55 (by decide +kernel) rfl) (Nat.le_of_ble_eq_true rfl) (Nat.le_of_ble_eq_true rfl) dX5_init_15 (fun q2 H hw => ?_)
  replace hw : Wd D A st.heap H _ (([[(x0, .inr (5, [.ref q1, .null, .null, .null]))], [(q1, .inl (D.1 100, 7, .inl z0))], [(q2, .inl (D.1 100, 7, .inl z0))]] : List va_W).flatten) := hw
  refine r_putF X hin hw (ws' := ([[(x0, .inr (5, [.ref q1, .ref q2, .null, .null]))], [(q1, .inl (D.1 100, 7, .inl z0))], [(q2, .inl (D.1 100, 7, .inl z0))]] : List va_W).flatten) fp_X5_15 rfl rfl (Nat.le_of_ble_eq_true rfl) (Foc.trans (Foc.at1 0 rfl rfl (ce rfl (ce rfl rfl))) (Foc.cell 0 rfl rfl rfl)) dX5_init_17 (fun H locs hw => ?_)
  refine lv_aload_n hx hb dX5_init_20 rfl (lv_at hl 0 rfl) ?_
  refine lv_bipush (v := 7) hx hb dX5_init_21 (by decide) ?_
  refine r_newa X hw 7 rfl (by decide) (in_all 55 (by decide +kernel) rfl) (Nat.le_of_ble_eq_true rfl) (Nat.le_of_ble_eq_true rfl) dX5_init_23 (fun q3 H hw => ?_)
  replace hw : Wd D A st.heap H _ (([[(x0, .inr (5, [.ref q1, .ref q2, .null, .null]))], [(q1, .inl (D.1 100, 7, .inl z0))], [(q2, .inl (D.1 100, 7, .inl z0))], [(q3, .inl (D.1 100, 7, .inl z0))]] : List va_W).flatten) := hw
  refine r_putF X hin hw (ws' := ([[(x0, .inr (5, [.ref q1, .ref q2, .ref q3, .null]))], [(q1, .inl (D.1 100, 7, .inl z0))], [(q2, .inl (D.1 100, 7, .inl z0))], [(q3, .inl (D.1 100, 7, .inl z0))]] : List va_W).flatten) fp_X5_18 rfl rfl (Nat.le_of_ble_eq_true rfl) (Foc.trans (Foc.at1 0 rfl rfl (ce rfl (ce rfl (ce rfl rfl)))) (Foc.cell 0 rfl rfl rfl)) dX5_init_25 (fun H locs hw => ?_)
  refine lv_aload_n hx hb dX5_init_28 rfl (lv_at hl 0 rfl) ?_
  refine lv_bipush (v := 7) hx hb dX5_init_29 (by decide) ?_
  refine r_newa X hw 7 rfl (by decide) (in_all 55 (by decide +kernel) rfl) (Nat.le_of_ble_eq_true rfl) (Nat.le_of_ble_eq_true rfl) dX5_init_31 (fun q4 H hw => ?_)
  replace hw : Wd D A st.heap H _ (([[(x0, .inr (5, [.ref q1, .ref q2, .ref q3, .null]))], [(q1, .inl (D.1 100, 7, .inl z0))], [(q2, .inl (D.1 100, 7, .inl z0))], [(q3, .inl (D.1 100, 7, .inl z0))], [(q4, .inl (D.1 100, 7, .inl z0))]] : List va_W).flatten) := hw
  refine r_putF X hin hw (ws' := ([[(x0, .inr (5, [.ref q1, .ref q2, .ref q3, .ref q4]))], [(q1, .inl (D.1 100, 7, .inl z0))], [(q2, .inl (D.1 100, 7, .inl z0))], [(q3, .inl (D.1 100, 7, .inl z0))], [(q4, .inl (D.1 100, 7, .inl z0))]] : List va_W).flatten) fp_X5_21 rfl rfl (Nat.le_of_ble_eq_true rfl) (Foc.trans (Foc.at1 0 rfl rfl (ce rfl (ce rfl (ce rfl (ce rfl rfl))))) (Foc.cell 0 rfl rfl rfl)) dX5_init_33 (fun H locs hw => ?_)
  refine r_getsN X hw X.2.2.1.1 X.2.2.1.2.2.2.2.2.1 dX5_init_36 (fun t5 ht5 => ?_)
  refine lv_iconst (v := 0) hx hb dX5_init_39 (by decide) ?_
  refine lv_aload_n hx hb dX5_init_40 rfl (lv_at hl 0 rfl) ?_
  refine r_get X hw (v := .ref q1) fl_X5_9 (m_fl 0 rfl (m_at 0 rfl)) rfl dX5_init_41 ?_
  refine lv_iconst (v := 0) hx hb dX5_init_44 (by decide) ?_
  refine lv_bipush (v := 7) hx hb dX5_init_45 (by decide) ?_
  refine r_copyT X hw (ws' := ([[(x0, .inr (5, [.ref q1, .ref q2, .ref q3, .ref q4]))], [(q1, .inl (D.1 100, 7, .inl (va_cpy (kf k_first) z0 0 0 7)))], [(q2, .inl (D.1 100, 7, .inl z0))], [(q3, .inl (D.1 100, 7, .inl z0))], [(q4, .inl (D.1 100, 7, .inl z0))]] : List va_W).flatten) 0 0 7 ac_X5_27 ht5 rfl rfl rfl (by decide) (by decide) (by decide) (by decide) (Foc.trans (Foc.at1 1 rfl rfl (ce rfl (ce rfl (ce rfl (ce rfl rfl))))) (Foc.cell 0 rfl rfl rfl)) hl.1 ⟨Nat.le_of_ble_eq_true rfl, by decide⟩ dX5_init_47 (fun H locs hw => ?_)
  refine lv_aload_n hx hb dX5_init_50 rfl (lv_at hl 0 rfl) ?_
  refine r_get X hw (v := .ref q1) fl_X5_9 (m_fl 0 rfl (m_at 0 rfl)) rfl dX5_init_51 ?_
  refine lv_iconst (v := 3) hx hb dX5_init_54 (by decide) ?_
  refine lv_bipush (v := 6) hx hb dX5_init_55 (by decide) ?_
  refine r_iast X hw (ws' := ([[(x0, .inr (5, [.ref q1, .ref q2, .ref q3, .ref q4]))], [(q1, .inl (D.1 100, 7, .inl (upd (va_cpy (kf k_first) z0 0 0 7) 3 6)))], [(q2, .inl (D.1 100, 7, .inl z0))], [(q3, .inl (D.1 100, 7, .inl z0))], [(q4, .inl (D.1 100, 7, .inl z0))]] : List va_W).flatten) 3 rfl (by decide) (by decide) (Foc.trans (Foc.at1 1 rfl rfl (ce rfl (ce rfl (ce rfl (ce rfl rfl))))) (Foc.cell 0 rfl rfl rfl)) dX5_init_57 (fun H locs hw => ?_)
  exact r_retN X hw hk (q1, q2, q3, q4) hret trivial rfl (Nat.le_of_ble_eq_true rfl) (Nat.le_of_ble_eq_true rfl) dX5_init_58
set_option maxRecDepth 100000 in
set_option maxHeartbeats 4000000 in
theorem c_X0_init (l : Launch) (D : va_G) (sz : Nat) (x0 : Nat) : MN (S := Nat × Nat × Nat × (Nat → Nat)) l yX0_init cX0_init 1 1 6 24 20 D sz [.ref x0] ([(x0, .inr (0, [.null, .null, .null, .int 0, .int 0]))]) (fun _ => True) (fun u => alB D x0 u.1 u.2.1 u.2.2.1 u.2.2.2 (fun _ => z0) z0 z0 0 0) := by
  refine r_enterN (by decide) (Nat.le_of_ble_eq_true rfl) ?_
  intro p e st m args below meth c ls A X hAO hret hk hin hw hl
  have X : CX D p m c cX0_init 1 st args RX0 A := X
  have hx := X.1.1
  have hb := X.1.2.1
  have hown := X.1.2.2.2.1
  have hts := X.1.2.2.2.2
  have hl : lv_has ls 1 [(0, .ref x0)] := hl
  replace hw : Wd D A st.heap st.heap [] (([[(x0, .inr (0, [.null, .null, .null, .int 0, .int 0]))]] : List va_W).flatten) := hw
  refine lv_aload_n hx hb dX0_init_0 rfl (lv_at hl 0 rfl) ?_
  refine r_obj X oi_X0_3 hl.1 ⟨Nat.le_of_ble_eq_true rfl, Nat.le_of_ble_eq_true rfl⟩ dX0_init_1 ?_
  refine lv_aload_n hx hb dX0_init_4 rfl (lv_at hl 0 rfl) ?_
  refine lv_iconst (v := 3) hx hb dX0_init_5 (by decide) ?_
  refine lv_iconst (v := 5) hx hb dX0_init_6 (by decide) ?_
  refine r_mna X hAO hw 3 5 rfl rfl (by decide) (by decide) (in_all 62 (by decide +kernel) rfl) (in_all 55 (by decide +kernel) rfl) (Nat.le_of_ble_eq_true rfl) (Nat.le_of_ble_eq_true rfl) dX0_init_7 (fun q1 r2 H hw => ?_)
  replace hw : Wd D A st.heap H _ (([[(x0, .inr (0, [.null, .null, .null, .int 0, .int 0]))], [(q1, .inl (D.1 102, 3, .inr (.inr (.inr (.inr (rows3 r2))))))], [(r2 0, .inl (D.1 100, 5, .inl z0)), (r2 1, .inl (D.1 100, 5, .inl z0)), (r2 2, .inl (D.1 100, 5, .inl z0))]] : List va_W).flatten) := hw
  refine r_putF X hin hw (ws' := ([[(x0, .inr (0, [.ref q1, .null, .null, .int 0, .int 0]))], [(q1, .inl (D.1 102, 3, .inr (.inr (.inr (.inr (rows3 r2))))))], [(r2 0, .inl (D.1 100, 5, .inl z0)), (r2 1, .inl (D.1 100, 5, .inl z0)), (r2 2, .inl (D.1 100, 5, .inl z0))]] : List va_W).flatten) fp_X0_11 rfl rfl (Nat.le_of_ble_eq_true rfl) (Foc.trans (Foc.at1 0 rfl rfl (ce rfl (ce rfl rfl))) (Foc.cell 0 rfl rfl rfl)) dX0_init_11 (fun H locs hw => ?_)
  refine lv_aload_n hx hb dX0_init_14 rfl (lv_at hl 0 rfl) ?_
  refine lv_iconst (v := 3) hx hb dX0_init_15 (by decide) ?_
  refine r_newa X hw 3 rfl (by decide) (in_all 55 (by decide +kernel) rfl) (Nat.le_of_ble_eq_true rfl) (Nat.le_of_ble_eq_true rfl) dX0_init_16 (fun q3 H hw => ?_)
  replace hw : Wd D A st.heap H _ (([[(x0, .inr (0, [.ref q1, .null, .null, .int 0, .int 0]))], [(q1, .inl (D.1 102, 3, .inr (.inr (.inr (.inr (rows3 r2))))))], [(r2 0, .inl (D.1 100, 5, .inl z0)), (r2 1, .inl (D.1 100, 5, .inl z0)), (r2 2, .inl (D.1 100, 5, .inl z0))], [(q3, .inl (D.1 100, 3, .inl z0))]] : List va_W).flatten) := hw
  refine r_putF X hin hw (ws' := ([[(x0, .inr (0, [.ref q1, .ref q3, .null, .int 0, .int 0]))], [(q1, .inl (D.1 102, 3, .inr (.inr (.inr (.inr (rows3 r2))))))], [(r2 0, .inl (D.1 100, 5, .inl z0)), (r2 1, .inl (D.1 100, 5, .inl z0)), (r2 2, .inl (D.1 100, 5, .inl z0))], [(q3, .inl (D.1 100, 3, .inl z0))]] : List va_W).flatten) fp_X0_16 rfl rfl (Nat.le_of_ble_eq_true rfl) (Foc.trans (Foc.at1 0 rfl rfl (ce rfl (ce rfl (ce rfl rfl)))) (Foc.cell 0 rfl rfl rfl)) dX0_init_18 (fun H locs hw => ?_)
  refine lv_aload_n hx hb dX0_init_21 rfl (lv_at hl 0 rfl) ?_
  refine lv_iconst (v := 3) hx hb dX0_init_22 (by decide) ?_
  refine r_newa X hw 3 rfl (by decide) (in_all 55 (by decide +kernel) rfl) (Nat.le_of_ble_eq_true rfl) (Nat.le_of_ble_eq_true rfl) dX0_init_23 (fun q4 H hw => ?_)
  replace hw : Wd D A st.heap H _ (([[(x0, .inr (0, [.ref q1, .ref q3, .null, .int 0, .int 0]))], [(q1, .inl (D.1 102, 3, .inr (.inr (.inr (.inr (rows3 r2))))))], [(r2 0, .inl (D.1 100, 5, .inl z0)), (r2 1, .inl (D.1 100, 5, .inl z0)), (r2 2, .inl (D.1 100, 5, .inl z0))], [(q3, .inl (D.1 100, 3, .inl z0))], [(q4, .inl (D.1 100, 3, .inl z0))]] : List va_W).flatten) := hw
  refine r_putF X hin hw (ws' := ([[(x0, .inr (0, [.ref q1, .ref q3, .ref q4, .int 0, .int 0]))], [(q1, .inl (D.1 102, 3, .inr (.inr (.inr (.inr (rows3 r2))))))], [(r2 0, .inl (D.1 100, 5, .inl z0)), (r2 1, .inl (D.1 100, 5, .inl z0)), (r2 2, .inl (D.1 100, 5, .inl z0))], [(q3, .inl (D.1 100, 3, .inl z0))], [(q4, .inl (D.1 100, 3, .inl z0))]] : List va_W).flatten) fp_X0_20 rfl rfl (Nat.le_of_ble_eq_true rfl) (Foc.trans (Foc.at1 0 rfl rfl (ce rfl (ce rfl (ce rfl (ce rfl rfl))))) (Foc.cell 0 rfl rfl rfl)) dX0_init_25 (fun H locs hw => ?_)
  exact r_retN X (hw.perm pm5) hk (q1, q3, q4, r2) hret trivial rfl (Nat.le_of_ble_eq_true rfl) (Nat.le_of_ble_eq_true rfl) dX0_init_28
set_option maxRecDepth 100000 in
set_option maxHeartbeats 4000000 in
theorem c_X2_init (l : Launch) (D : va_G) (sz : Nat) (x0 : Nat) : MN (S := Nat × (Nat → Nat)) l yX2_init cX2_init 1 1 7 66 20 D sz [.ref x0] ([(x0, .inr (2, [.null, .int 0, .int 0]))]) (fun _ => True) (fun u => lgB D x0 u.1 u.2 (fun _ => z0) 0 0) := by
  refine r_enterN (by decide) (Nat.le_of_ble_eq_true rfl) ?_
  intro p e st m args below meth c ls A X hAO hret hk hin hw hl
  have X : CX D p m c cX2_init 1 st args RX2 A := X
  have hx := X.1.1
  have hb := X.1.2.1
  have hown := X.1.2.2.2.1
  have hts := X.1.2.2.2.2
  have hl : lv_has ls 1 [(0, .ref x0)] := hl
  replace hw : Wd D A st.heap st.heap [] (([[(x0, .inr (2, [.null, .int 0, .int 0]))]] : List va_W).flatten) := hw
  refine lv_aload_n hx hb dX2_init_0 rfl (lv_at hl 0 rfl) ?_
  refine r_obj X oi_X2_3 hl.1 ⟨Nat.le_of_ble_eq_true rfl, Nat.le_of_ble_eq_true rfl⟩ dX2_init_1 ?_
  refine lv_aload_n hx hb dX2_init_4 rfl (lv_at hl 0 rfl) ?_
  refine lv_bipush (v := 6) hx hb dX2_init_5 (by decide) ?_
  refine lv_bipush (v := 10) hx hb dX2_init_7 (by decide) ?_
  refine r_mna X hAO hw 6 10 rfl rfl (by decide) (by decide) (in_all 91 (by decide +kernel) rfl) (in_all 55 (by decide +kernel) rfl) (Nat.le_of_ble_eq_true rfl) (Nat.le_of_ble_eq_true rfl) dX2_init_9 (fun q1 r2 H hw => ?_)
  replace hw : Wd D A st.heap H _ (([[(x0, .inr (2, [.null, .int 0, .int 0]))], [(q1, .inl (D.1 102, 6, .inr (.inr (.inr (.inr (rows6 r2))))))], [(r2 0, .inl (D.1 100, 10, .inl z0)), (r2 1, .inl (D.1 100, 10, .inl z0)), (r2 2, .inl (D.1 100, 10, .inl z0)), (r2 3, .inl (D.1 100, 10, .inl z0)), (r2 4, .inl (D.1 100, 10, .inl z0)), (r2 5, .inl (D.1 100, 10, .inl z0))]] : List va_W).flatten) := hw
  refine r_putF X hin hw (ws' := ([[(x0, .inr (2, [.ref q1, .int 0, .int 0]))], [(q1, .inl (D.1 102, 6, .inr (.inr (.inr (.inr (rows6 r2))))))], [(r2 0, .inl (D.1 100, 10, .inl z0)), (r2 1, .inl (D.1 100, 10, .inl z0)), (r2 2, .inl (D.1 100, 10, .inl z0)), (r2 3, .inl (D.1 100, 10, .inl z0)), (r2 4, .inl (D.1 100, 10, .inl z0)), (r2 5, .inl (D.1 100, 10, .inl z0))]] : List va_W).flatten) fp_X2_11 rfl rfl (Nat.le_of_ble_eq_true rfl) (Foc.trans (Foc.at1 0 rfl rfl (ce rfl (ce rfl rfl))) (Foc.cell 0 rfl rfl rfl)) dX2_init_13 (fun H locs hw => ?_)
  exact r_retN X hw hk (q1, r2) hret trivial rfl (Nat.le_of_ble_eq_true rfl) (Nat.le_of_ble_eq_true rfl) dX2_init_16
set_option maxRecDepth 100000 in
set_option maxHeartbeats 4000000 in
theorem c_X1_init (l : Launch) (D : va_G) (sz : Nat) (x0 : Nat) : MN (S := Nat × Nat × Nat × (Nat → Nat)) l yX1_init cX1_init 1 1 16 121 20 D sz [.ref x0] ([(x0, .inr (1, [.null, .null, .null, .int 0]))]) (fun _ => True) (fun u => buB D x0 u.1 u.2.1 u.2.2.1 u.2.2.2 z0 z0 (fun _ => z0) 0) := by
  refine r_enterN (by decide) (Nat.le_of_ble_eq_true rfl) ?_
  intro p e st m args below meth c ls A X hAO hret hk hin hw hl
  have X : CX D p m c cX1_init 1 st args RX1 A := X
  have hx := X.1.1
  have hb := X.1.2.1
  have hown := X.1.2.2.2.1
  have hts := X.1.2.2.2.2
  have hl : lv_has ls 1 [(0, .ref x0)] := hl
  replace hw : Wd D A st.heap st.heap [] (([[(x0, .inr (1, [.null, .null, .null, .int 0]))]] : List va_W).flatten) := hw
  refine lv_aload_n hx hb dX1_init_0 rfl (lv_at hl 0 rfl) ?_
  refine r_obj X oi_X1_3 hl.1 ⟨Nat.le_of_ble_eq_true rfl, Nat.le_of_ble_eq_true rfl⟩ dX1_init_1 ?_
  refine lv_aload_n hx hb dX1_init_4 rfl (lv_at hl 0 rfl) ?_
  refine lv_bipush (v := 10) hx hb dX1_init_5 (by decide) ?_
  refine r_newa X hw 10 rfl (by decide) (in_all 55 (by decide +kernel) rfl) (Nat.le_of_ble_eq_true rfl) (Nat.le_of_ble_eq_true rfl) dX1_init_7 (fun q1 H hw => ?_)
  replace hw : Wd D A st.heap H _ (([[(x0, .inr (1, [.null, .null, .null, .int 0]))], [(q1, .inl (D.1 100, 10, .inl z0))]] : List va_W).flatten) := hw
  refine r_putF X hin hw (ws' := ([[(x0, .inr (1, [.ref q1, .null, .null, .int 0]))], [(q1, .inl (D.1 100, 10, .inl z0))]] : List va_W).flatten) fp_X1_9 rfl rfl (Nat.le_of_ble_eq_true rfl) (Foc.trans (Foc.at1 0 rfl rfl (ce rfl rfl)) (Foc.cell 0 rfl rfl rfl)) dX1_init_9 (fun H locs hw => ?_)
  refine lv_aload_n hx hb dX1_init_12 rfl (lv_at hl 0 rfl) ?_
  refine lv_bipush (v := 7) hx hb dX1_init_13 (by decide) ?_
  refine r_newa X hw 7 rfl (by decide) (in_all 55 (by decide +kernel) rfl) (Nat.le_of_ble_eq_true rfl) (Nat.le_of_ble_eq_true rfl) dX1_init_15 (fun q2 H hw => ?_)
  replace hw : Wd D A st.heap H _ (([[(x0, .inr (1, [.ref q1, .null, .null, .int 0]))], [(q1, .inl (D.1 100, 10, .inl z0))], [(q2, .inl (D.1 100, 7, .inl z0))]] : List va_W).flatten) := hw
  refine r_putF X hin hw (ws' := ([[(x0, .inr (1, [.ref q1, .ref q2, .null, .int 0]))], [(q1, .inl (D.1 100, 10, .inl z0))], [(q2, .inl (D.1 100, 7, .inl z0))]] : List va_W).flatten) fp_X1_15 rfl rfl (Nat.le_of_ble_eq_true rfl) (Foc.trans (Foc.at1 0 rfl rfl (ce rfl (ce rfl rfl))) (Foc.cell 0 rfl rfl rfl)) dX1_init_17 (fun H locs hw => ?_)
  refine lv_aload_n hx hb dX1_init_20 rfl (lv_at hl 0 rfl) ?_
  refine lv_bipush (v := 13) hx hb dX1_init_21 (by decide) ?_
  refine lv_bipush (v := 7) hx hb dX1_init_23 (by decide) ?_
  refine r_mna X hAO hw 13 7 rfl rfl (by decide) (by decide) (in_all 156 (by decide +kernel) rfl) (in_all 55 (by decide +kernel) rfl) (Nat.le_of_ble_eq_true rfl) (Nat.le_of_ble_eq_true rfl) dX1_init_25 (fun q3 r4 H hw => ?_)
  replace hw : Wd D A st.heap H _ (([[(x0, .inr (1, [.ref q1, .ref q2, .null, .int 0]))], [(q1, .inl (D.1 100, 10, .inl z0))], [(q2, .inl (D.1 100, 7, .inl z0))], [(q3, .inl (D.1 102, 13, .inr (.inr (.inr (.inr (rows13 r4))))))], [(r4 0, .inl (D.1 100, 7, .inl z0)), (r4 1, .inl (D.1 100, 7, .inl z0)), (r4 2, .inl (D.1 100, 7, .inl z0)), (r4 3, .inl (D.1 100, 7, .inl z0)), (r4 4, .inl (D.1 100, 7, .inl z0)), (r4 5, .inl (D.1 100, 7, .inl z0)), (r4 6, .inl (D.1 100, 7, .inl z0)), (r4 7, .inl (D.1 100, 7, .inl z0)), (r4 8, .inl (D.1 100, 7, .inl z0)), (r4 9, .inl (D.1 100, 7, .inl z0)), (r4 10, .inl (D.1 100, 7, .inl z0)), (r4 11, .inl (D.1 100, 7, .inl z0)), (r4 12, .inl (D.1 100, 7, .inl z0))]] : List va_W).flatten) := hw
  refine r_putF X hin hw (ws' := ([[(x0, .inr (1, [.ref q1, .ref q2, .ref q3, .int 0]))], [(q1, .inl (D.1 100, 10, .inl z0))], [(q2, .inl (D.1 100, 7, .inl z0))], [(q3, .inl (D.1 102, 13, .inr (.inr (.inr (.inr (rows13 r4))))))], [(r4 0, .inl (D.1 100, 7, .inl z0)), (r4 1, .inl (D.1 100, 7, .inl z0)), (r4 2, .inl (D.1 100, 7, .inl z0)), (r4 3, .inl (D.1 100, 7, .inl z0)), (r4 4, .inl (D.1 100, 7, .inl z0)), (r4 5, .inl (D.1 100, 7, .inl z0)), (r4 6, .inl (D.1 100, 7, .inl z0)), (r4 7, .inl (D.1 100, 7, .inl z0)), (r4 8, .inl (D.1 100, 7, .inl z0)), (r4 9, .inl (D.1 100, 7, .inl z0)), (r4 10, .inl (D.1 100, 7, .inl z0)), (r4 11, .inl (D.1 100, 7, .inl z0)), (r4 12, .inl (D.1 100, 7, .inl z0))]] : List va_W).flatten) fp_X1_20 rfl rfl (Nat.le_of_ble_eq_true rfl) (Foc.trans (Foc.at1 0 rfl rfl (ce rfl (ce rfl (ce rfl (ce rfl rfl))))) (Foc.cell 0 rfl rfl rfl)) dX1_init_29 (fun H locs hw => ?_)
  exact r_retN X hw hk (q1, q2, q3, r4) hret trivial rfl (Nat.le_of_ble_eq_true rfl) (Nat.le_of_ble_eq_true rfl) dX1_init_32
set_option maxRecDepth 100000 in
set_option maxHeartbeats 4000000 in
theorem c_X4_init (l : Launch) (D : va_G) (sz : Nat) (x0 : Nat) : MN (S := Nat) l yX4_init cX4_init 1 1 1 3 20 D sz [.ref x0] ([(x0, .inr (4, [.null, .int 0, .int 0, .int 0]))]) (fun _ => True) (fun u => orB D x0 u z0 0 0 0) := by
  refine r_enterN (by decide) (Nat.le_of_ble_eq_true rfl) ?_
  intro p e st m args below meth c ls A X hAO hret hk hin hw hl
  have X : CX D p m c cX4_init 1 st args RX4 A := X
  have hx := X.1.1
  have hb := X.1.2.1
  have hown := X.1.2.2.2.1
  have hts := X.1.2.2.2.2
  have hl : lv_has ls 1 [(0, .ref x0)] := hl
  replace hw : Wd D A st.heap st.heap [] (([[(x0, .inr (4, [.null, .int 0, .int 0, .int 0]))]] : List va_W).flatten) := hw
  refine lv_aload_n hx hb dX4_init_0 rfl (lv_at hl 0 rfl) ?_
  refine r_obj X oi_X4_1 hl.1 ⟨Nat.le_of_ble_eq_true rfl, Nat.le_of_ble_eq_true rfl⟩ dX4_init_1 ?_
  refine lv_aload_n hx hb dX4_init_4 rfl (lv_at hl 0 rfl) ?_
  refine lv_iconst (v := 3) hx hb dX4_init_5 (by decide) ?_
  refine r_newa X hw 3 rfl (by decide) (in_all 55 (by decide +kernel) rfl) (Nat.le_of_ble_eq_true rfl) (Nat.le_of_ble_eq_true rfl) dX4_init_6 (fun q1 H hw => ?_)
  replace hw : Wd D A st.heap H _ (([[(x0, .inr (4, [.null, .int 0, .int 0, .int 0]))], [(q1, .inl (D.1 100, 3, .inl z0))]] : List va_W).flatten) := hw
  refine r_putF X hin hw (ws' := ([[(x0, .inr (4, [.ref q1, .int 0, .int 0, .int 0]))], [(q1, .inl (D.1 100, 3, .inl z0))]] : List va_W).flatten) fp_X4_9 rfl rfl (Nat.le_of_ble_eq_true rfl) (Foc.trans (Foc.at1 0 rfl rfl (ce rfl rfl)) (Foc.cell 0 rfl rfl rfl)) dX4_init_8 (fun H locs hw => ?_)
  exact r_retN X hw hk q1 hret trivial rfl (Nat.le_of_ble_eq_true rfl) (Nat.le_of_ble_eq_true rfl) dX4_init_11
noncomputable def ch0 : ChS := ChS.new (upd (va_cpy (kf k_first) z0 0 0 7) 3 6) z0 z0 z0 (fun _ => z0) z0 z0 0 0 (fun _ => z0) 0 0 (upd (upd (upd z0 0 2) 1 0) 2 16) 0 0 0 0 0 0 0
set_option maxRecDepth 100000 in
set_option maxHeartbeats 4000000 in
theorem c_X3_init (l : Launch) (D : va_G) (sz : Nat) (x0 : Nat) : MN (S := (Nat → Nat) × (Nat → Nat) × (Nat → Nat)) l yX3_init cX3_init 1 2 21 133 80 D sz [.ref x0] ([(x0, .inr (3, [.null, .null, .null, .null, .int 0, .int 0, .int 0, .int 0, .int 0, .int 0, .int 0]))]) (fun u => u.1 0 = x0) (fun u => chipB D u.1 u.2.1 u.2.2 ch0.v ch0.f ch0.g ch0.r ch0.av ch0.mk ch0.cm ch0.ar ch0.fl ch0.en ch0.la ch0.zs ch0.se ch0.ph ch0.tk ch0.pc ch0.rc ch0.wc ch0.bc ch0.tc) := by
  refine r_enterN (by decide) (Nat.le_of_ble_eq_true rfl) ?_
  intro p e st m args below meth c ls A X hAO hret hk hin hw hl
  have X : CX D p m c cX3_init 1 st args RX3 A := X
  have hx := X.1.1
  have hb := X.1.2.1
  have hown := X.1.2.2.2.1
  have hts := X.1.2.2.2.2
  have hl : lv_has ls 1 [(0, .ref x0)] := hl
  replace hw : Wd D A st.heap st.heap [] (([[(x0, .inr (3, [.null, .null, .null, .null, .int 0, .int 0, .int 0, .int 0, .int 0, .int 0, .int 0]))]] : List va_W).flatten) := hw
  refine lv_aload_n hx hb dX3_init_0 rfl (lv_at hl 0 rfl) ?_
  refine r_obj X oi_X3_3 hl.1 ⟨Nat.le_of_ble_eq_true rfl, Nat.le_of_ble_eq_true rfl⟩ dX3_init_1 ?_
  refine lv_aload_n hx hb dX3_init_4 rfl (lv_at hl 0 rfl) ?_
  refine r_new X hw nw_X3_9 (Nat.le_of_ble_eq_true rfl) (Nat.le_of_ble_eq_true rfl) dX3_init_5 (fun q1 H hw => ?_)
  replace hw : Wd D A st.heap H _ (([[(x0, .inr (3, [.null, .null, .null, .null, .int 0, .int 0, .int 0, .int 0, .int 0, .int 0, .int 0]))], [(q1, .inr (5, [.null, .null, .null, .null]))]] : List va_W).flatten) := hw
  refine lv_dup hx hb dX3_init_8 rfl ?_
  refine r_callN (S := Nat × Nat × Nat × Nat) X hAO hw (W1 := fun u2 => ([[(x0, .inr (3, [.null, .null, .null, .null, .int 0, .int 0, .int 0, .int 0, .int 0, .int 0, .int 0]))], regsB D q1 u2.1 u2.2.1 u2.2.2.1 u2.2.2.2 (upd (va_cpy (kf k_first) z0 0 0 7) 3 6) z0 z0 z0] : List va_W).flatten) (As := []) (rest := [.ref q1, .ref x0]) lk_X3_11 (c_X5_init l D _ q1) (FocU.at1 1 rfl (fun _ => rfl) (fun _ => rfl)) rfl hl.1 (Nat.le_of_ble_eq_true rfl) ⟨Nat.le_of_ble_eq_true rfl, Nat.le_of_ble_eq_true rfl⟩ rfl dX3_init_9 ⟨Nat.le_of_ble_eq_true rfl, Nat.le_of_ble_eq_true rfl⟩ (fun u2 H locs hu3 hw => ?_)
  refine r_putF X hin hw (ws' := ([[(x0, .inr (3, [.ref q1, .null, .null, .null, .int 0, .int 0, .int 0, .int 0, .int 0, .int 0, .int 0]))], regsB D q1 u2.1 u2.2.1 u2.2.2.1 u2.2.2.2 (upd (va_cpy (kf k_first) z0 0 0 7) 3 6) z0 z0 z0] : List va_W).flatten) fp_X3_12 rfl rfl (Nat.le_of_ble_eq_true rfl) (Foc.trans (Foc.at1 0 rfl rfl (ce rfl rfl)) (Foc.cell 0 rfl rfl rfl)) dX3_init_12 (fun H locs hw => ?_)
  refine lv_aload_n hx hb dX3_init_15 rfl (lv_at hl 0 rfl) ?_
  refine r_new X hw nw_X3_18 (Nat.le_of_ble_eq_true rfl) (Nat.le_of_ble_eq_true rfl) dX3_init_16 (fun q4 H hw => ?_)
  replace hw : Wd D A st.heap H _ (([[(x0, .inr (3, [.ref q1, .null, .null, .null, .int 0, .int 0, .int 0, .int 0, .int 0, .int 0, .int 0]))], regsB D q1 u2.1 u2.2.1 u2.2.2.1 u2.2.2.2 (upd (va_cpy (kf k_first) z0 0 0 7) 3 6) z0 z0 z0, [(q4, .inr (0, [.null, .null, .null, .int 0, .int 0]))]] : List va_W).flatten) := hw
  refine lv_dup hx hb dX3_init_19 rfl ?_
  refine r_callN (S := Nat × Nat × Nat × (Nat → Nat)) X hAO hw (W1 := fun u5 => ([[(x0, .inr (3, [.ref q1, .null, .null, .null, .int 0, .int 0, .int 0, .int 0, .int 0, .int 0, .int 0]))], regsB D q1 u2.1 u2.2.1 u2.2.2.1 u2.2.2.2 (upd (va_cpy (kf k_first) z0 0 0 7) 3 6) z0 z0 z0, alB D q4 u5.1 u5.2.1 u5.2.2.1 u5.2.2.2 (fun _ => z0) z0 z0 0 0] : List va_W).flatten) (As := []) (rest := [.ref q4, .ref x0]) lk_X3_20 (c_X0_init l D _ q4) (FocU.at1 2 rfl (fun _ => rfl) (fun _ => rfl)) rfl hl.1 (Nat.le_of_ble_eq_true rfl) ⟨Nat.le_of_ble_eq_true rfl, Nat.le_of_ble_eq_true rfl⟩ rfl dX3_init_20 ⟨Nat.le_of_ble_eq_true rfl, Nat.le_of_ble_eq_true rfl⟩ (fun u5 H locs hu6 hw => ?_)
  refine r_putF X hin hw (ws' := ([[(x0, .inr (3, [.ref q1, .ref q4, .null, .null, .int 0, .int 0, .int 0, .int 0, .int 0, .int 0, .int 0]))], regsB D q1 u2.1 u2.2.1 u2.2.2.1 u2.2.2.2 (upd (va_cpy (kf k_first) z0 0 0 7) 3 6) z0 z0 z0, alB D q4 u5.1 u5.2.1 u5.2.2.1 u5.2.2.2 (fun _ => z0) z0 z0 0 0] : List va_W).flatten) fp_X3_21 rfl rfl (Nat.le_of_ble_eq_true rfl) (Foc.trans (Foc.at1 0 rfl rfl (ce rfl (ce rfl rfl))) (Foc.cell 0 rfl rfl rfl)) dX3_init_23 (fun H locs hw => ?_)
  refine lv_aload_n hx hb dX3_init_26 rfl (lv_at hl 0 rfl) ?_
  refine r_new X hw nw_X3_25 (Nat.le_of_ble_eq_true rfl) (Nat.le_of_ble_eq_true rfl) dX3_init_27 (fun q7 H hw => ?_)
  replace hw : Wd D A st.heap H _ (([[(x0, .inr (3, [.ref q1, .ref q4, .null, .null, .int 0, .int 0, .int 0, .int 0, .int 0, .int 0, .int 0]))], regsB D q1 u2.1 u2.2.1 u2.2.2.1 u2.2.2.2 (upd (va_cpy (kf k_first) z0 0 0 7) 3 6) z0 z0 z0, alB D q4 u5.1 u5.2.1 u5.2.2.1 u5.2.2.2 (fun _ => z0) z0 z0 0 0, [(q7, .inr (2, [.null, .int 0, .int 0]))]] : List va_W).flatten) := hw
  refine lv_dup hx hb dX3_init_30 rfl ?_
  refine r_callN (S := Nat × (Nat → Nat)) X hAO hw (W1 := fun u8 => ([[(x0, .inr (3, [.ref q1, .ref q4, .null, .null, .int 0, .int 0, .int 0, .int 0, .int 0, .int 0, .int 0]))], regsB D q1 u2.1 u2.2.1 u2.2.2.1 u2.2.2.2 (upd (va_cpy (kf k_first) z0 0 0 7) 3 6) z0 z0 z0, alB D q4 u5.1 u5.2.1 u5.2.2.1 u5.2.2.2 (fun _ => z0) z0 z0 0 0, lgB D q7 u8.1 u8.2 (fun _ => z0) 0 0] : List va_W).flatten) (As := []) (rest := [.ref q7, .ref x0]) lk_X3_27 (c_X2_init l D _ q7) (FocU.at1 3 rfl (fun _ => rfl) (fun _ => rfl)) rfl hl.1 (Nat.le_of_ble_eq_true rfl) ⟨Nat.le_of_ble_eq_true rfl, Nat.le_of_ble_eq_true rfl⟩ rfl dX3_init_31 ⟨Nat.le_of_ble_eq_true rfl, Nat.le_of_ble_eq_true rfl⟩ (fun u8 H locs hu9 hw => ?_)
  refine r_putF X hin hw (ws' := ([[(x0, .inr (3, [.ref q1, .ref q4, .ref q7, .null, .int 0, .int 0, .int 0, .int 0, .int 0, .int 0, .int 0]))], regsB D q1 u2.1 u2.2.1 u2.2.2.1 u2.2.2.2 (upd (va_cpy (kf k_first) z0 0 0 7) 3 6) z0 z0 z0, alB D q4 u5.1 u5.2.1 u5.2.2.1 u5.2.2.2 (fun _ => z0) z0 z0 0 0, lgB D q7 u8.1 u8.2 (fun _ => z0) 0 0] : List va_W).flatten) fp_X3_28 rfl rfl (Nat.le_of_ble_eq_true rfl) (Foc.trans (Foc.at1 0 rfl rfl (ce rfl (ce rfl (ce rfl rfl)))) (Foc.cell 0 rfl rfl rfl)) dX3_init_34 (fun H locs hw => ?_)
  refine lv_aload_n hx hb dX3_init_37 rfl (lv_at hl 0 rfl) ?_
  refine lv_iconst (v := 3) hx hb dX3_init_38 (by decide) ?_
  refine r_newa X hw 3 rfl (by decide) (in_all 55 (by decide +kernel) rfl) (Nat.le_of_ble_eq_true rfl) (Nat.le_of_ble_eq_true rfl) dX3_init_39 (fun q10 H hw => ?_)
  replace hw : Wd D A st.heap H _ (([[(x0, .inr (3, [.ref q1, .ref q4, .ref q7, .null, .int 0, .int 0, .int 0, .int 0, .int 0, .int 0, .int 0]))], regsB D q1 u2.1 u2.2.1 u2.2.2.1 u2.2.2.2 (upd (va_cpy (kf k_first) z0 0 0 7) 3 6) z0 z0 z0, alB D q4 u5.1 u5.2.1 u5.2.2.1 u5.2.2.2 (fun _ => z0) z0 z0 0 0, lgB D q7 u8.1 u8.2 (fun _ => z0) 0 0, [(q10, .inl (D.1 100, 3, .inl z0))]] : List va_W).flatten) := hw
  refine r_putF X hin hw (ws' := ([[(x0, .inr (3, [.ref q1, .ref q4, .ref q7, .ref q10, .int 0, .int 0, .int 0, .int 0, .int 0, .int 0, .int 0]))], regsB D q1 u2.1 u2.2.1 u2.2.2.1 u2.2.2.2 (upd (va_cpy (kf k_first) z0 0 0 7) 3 6) z0 z0 z0, alB D q4 u5.1 u5.2.1 u5.2.2.1 u5.2.2.2 (fun _ => z0) z0 z0 0 0, lgB D q7 u8.1 u8.2 (fun _ => z0) 0 0, [(q10, .inl (D.1 100, 3, .inl z0))]] : List va_W).flatten) fp_X3_32 rfl rfl (Nat.le_of_ble_eq_true rfl) (Foc.trans (Foc.at1 0 rfl rfl (ce rfl (ce rfl (ce rfl (ce rfl rfl))))) (Foc.cell 0 rfl rfl rfl)) dX3_init_41 (fun H locs hw => ?_)
  refine lv_aload_n hx hb dX3_init_44 rfl (lv_at hl 0 rfl) ?_
  refine r_get X hw (v := .ref q10) fl_X3_32 (m_fl 0 rfl (m_at 0 rfl)) rfl dX3_init_45 ?_
  refine lv_iconst (v := 0) hx hb dX3_init_48 (by decide) ?_
  refine lv_iconst (v := 2) hx hb dX3_init_49 (by decide) ?_
  refine r_iast X hw (ws' := ([[(x0, .inr (3, [.ref q1, .ref q4, .ref q7, .ref q10, .int 0, .int 0, .int 0, .int 0, .int 0, .int 0, .int 0]))], regsB D q1 u2.1 u2.2.1 u2.2.2.1 u2.2.2.2 (upd (va_cpy (kf k_first) z0 0 0 7) 3 6) z0 z0 z0, alB D q4 u5.1 u5.2.1 u5.2.2.1 u5.2.2.2 (fun _ => z0) z0 z0 0 0, lgB D q7 u8.1 u8.2 (fun _ => z0) 0 0, [(q10, .inl (D.1 100, 3, .inl (upd z0 0 2)))]] : List va_W).flatten) 0 rfl (by decide) (by decide) (Foc.trans (Foc.at1 4 rfl rfl (ce rfl (ce rfl (ce rfl (ce rfl rfl))))) (Foc.cell 0 rfl rfl rfl)) dX3_init_50 (fun H locs hw => ?_)
  refine lv_aload_n hx hb dX3_init_51 rfl (lv_at hl 0 rfl) ?_
  refine r_get X hw (v := .ref q10) fl_X3_32 (m_fl 0 rfl (m_at 0 rfl)) rfl dX3_init_52 ?_
  refine lv_iconst (v := 1) hx hb dX3_init_55 (by decide) ?_
  refine lv_iconst (v := 0) hx hb dX3_init_56 (by decide) ?_
  refine r_iast X hw (ws' := ([[(x0, .inr (3, [.ref q1, .ref q4, .ref q7, .ref q10, .int 0, .int 0, .int 0, .int 0, .int 0, .int 0, .int 0]))], regsB D q1 u2.1 u2.2.1 u2.2.2.1 u2.2.2.2 (upd (va_cpy (kf k_first) z0 0 0 7) 3 6) z0 z0 z0, alB D q4 u5.1 u5.2.1 u5.2.2.1 u5.2.2.2 (fun _ => z0) z0 z0 0 0, lgB D q7 u8.1 u8.2 (fun _ => z0) 0 0, [(q10, .inl (D.1 100, 3, .inl (upd (upd z0 0 2) 1 0)))]] : List va_W).flatten) 1 rfl (by decide) (by decide) (Foc.trans (Foc.at1 4 rfl rfl (ce rfl (ce rfl (ce rfl (ce rfl rfl))))) (Foc.cell 0 rfl rfl rfl)) dX3_init_57 (fun H locs hw => ?_)
  refine lv_aload_n hx hb dX3_init_58 rfl (lv_at hl 0 rfl) ?_
  refine r_get X hw (v := .ref q10) fl_X3_32 (m_fl 0 rfl (m_at 0 rfl)) rfl dX3_init_59 ?_
  refine lv_iconst (v := 2) hx hb dX3_init_62 (by decide) ?_
  refine lv_bipush (v := 16) hx hb dX3_init_63 (by decide) ?_
  refine r_iast X hw (ws' := ([[(x0, .inr (3, [.ref q1, .ref q4, .ref q7, .ref q10, .int 0, .int 0, .int 0, .int 0, .int 0, .int 0, .int 0]))], regsB D q1 u2.1 u2.2.1 u2.2.2.1 u2.2.2.2 (upd (va_cpy (kf k_first) z0 0 0 7) 3 6) z0 z0 z0, alB D q4 u5.1 u5.2.1 u5.2.2.1 u5.2.2.2 (fun _ => z0) z0 z0 0 0, lgB D q7 u8.1 u8.2 (fun _ => z0) 0 0, [(q10, .inl (D.1 100, 3, .inl (upd (upd (upd z0 0 2) 1 0) 2 16)))]] : List va_W).flatten) 2 rfl (by decide) (by decide) (Foc.trans (Foc.at1 4 rfl rfl (ce rfl (ce rfl (ce rfl (ce rfl rfl))))) (Foc.cell 0 rfl rfl rfl)) dX3_init_65 (fun H locs hw => ?_)
  exact r_retN X hw hk (lkL [x0, q1, u2.1, u2.2.1, u2.2.2.1, u2.2.2.2, q4, u5.1, u5.2.1, u5.2.2.1, q7, u8.1, q10], u5.2.2.2, u8.2) hret rfl rfl (Nat.le_of_ble_eq_true rfl) (Nat.le_of_ble_eq_true rfl) dX3_init_66
