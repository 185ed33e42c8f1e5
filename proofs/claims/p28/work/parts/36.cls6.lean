/-- what is shown is kept, while there is room -/
noncomputable def ksP (x : (Nat → Row) × Nat) (v : Row) : (Nat → Row) × Nat := if 13 ≤ x.2 then x else (upR x.1 x.2 (va_cpy v (x.1 x.2) 0 0 7), x.2 + 1)
theorem ksP_le (x : (Nat → Row) × Nat) (v : Row) (h : x.2 ≤ 13) : (ksP x v).2 ≤ 13 := by
  unfold ksP
  split
  · exact h
  · show x.2 + 1 ≤ 13
    omega
theorem pp_se (s : ChS) : (sp_X3_passPhase s).2.se = s.se := by
  unfold sp_X3_passPhase
  split <;> rfl
theorem pp_la (s : ChS) : (sp_X3_passPhase s).2.la = s.la := by
  unfold sp_X3_passPhase
  split <;> rfl
theorem pp_zs (s : ChS) : (sp_X3_passPhase s).2.zs = s.zs := by
  unfold sp_X3_passPhase
  split <;> rfl
theorem ppF_se (s : ChS) (n : Nat) : (ppF s n).2.se = s.se := by
  induction n with
  | zero => rfl
  | succ n ih => exact (pp_se _).trans ih
theorem ppF_la (s : ChS) (n : Nat) : (ppF s n).2.la = s.la := by
  induction n with
  | zero => rfl
  | succ n ih => exact (pp_la _).trans ih
theorem ppF_zs (s : ChS) (n : Nat) : (ppF s n).2.zs = s.zs := by
  induction n with
  | zero => rfl
  | succ n ih => exact (pp_zs _).trans ih

set_option maxRecDepth 100000 in
set_option maxHeartbeats 4000000 in
theorem c_X1_keepShown (l : Launch) (D : va_G) (sz : Nat) (x0 x1 x2 x3 : Nat) (w : Nat → Nat) (en tb : Row) (sh : Nat → Row) (z0 z1 z2 z3 z4 : Nat) (v f g r : Row) (k : Nat) (hkq : k ≤ 13) : MV l yX1_keepShown cX1_keepShown 2 1 60 D sz [.ref x0, .ref z0] (([buB D x0 x1 x2 x3 w en tb sh (nI k), regsB D z0 z1 z2 z3 z4 v f g r] : List va_W).flatten) (([buB D x0 x1 x2 x3 w en tb ((ksP (sh, k) v).1) (nI (ksP (sh, k) v).2), regsB D z0 z1 z2 z3 z4 v f g r] : List va_W).flatten) := by
  refine r_enterV (by decide) (Nat.le_of_ble_eq_true rfl) ?_
  intro p e st m args below meth c ls A X hret hk hw hl
  have X : CX D p m c cX1_keepShown 2 st args RX1 A := X
  have hx := X.1.1
  have hb := X.1.2.1
  have hown := X.1.2.2.2.1
  have hts := X.1.2.2.2.2
  have hl : lv_has ls 2 [(0, .ref x0), (1, .ref z0)] := hl
  refine lv_aload_n hx hb dX1_keepShown_0 rfl (lv_at hl 0 rfl) ?_
  refine r_get X hw (v := .int (nI k)) fl_X1_62 (m_fl 0 rfl (m_at 0 rfl)) rfl dX1_keepShown_1 ?_
  refine lv_bipush (v := 13) hx hb dX1_keepShown_4 (by decide) ?_
  refine r_geN (tgt := 39) hx hb k 13 rfl rfl (by omega) (by omega) dX1_keepShown_6 (by decide) (fun c1 => ?_) (fun c1 => ?_)
  · skip
    exact r_retV X hw hk hret (by rw [show ksP (sh, k) v = (sh, k) from if_pos c1]) dX1_keepShown_39
  · skip
    refine lv_aload_n hx hb dX1_keepShown_9 rfl (lv_at hl 1 rfl) ?_
    refine r_get X hw (v := .ref z1) fl_X1_69 (m_fl 1 rfl (m_at 0 rfl)) rfl dX1_keepShown_10 ?_
    refine lv_iconst (v := 0) hx hb dX1_keepShown_13 (by decide) ?_
    refine lv_aload_n hx hb dX1_keepShown_14 rfl (lv_at hl 0 rfl) ?_
    refine r_get X hw (v := .ref x3) fl_X1_20 (m_fl 0 rfl (m_at 0 rfl)) rfl dX1_keepShown_15 ?_
    refine lv_aload_n hx hb dX1_keepShown_18 rfl (lv_at hl 0 rfl) ?_
    refine r_get X hw (v := .int (nI k)) fl_X1_62 (m_fl 0 rfl (m_at 0 rfl)) rfl dX1_keepShown_19 ?_
    refine r_ald2 X hw (q := w k) k (m_fl 0 rfl (m_at 3 rfl)) rfl (by omega) (by decide) (if_pos (by omega)) dX1_keepShown_22 ?_
    refine lv_iconst (v := 0) hx hb dX1_keepShown_23 (by decide) ?_
    refine lv_bipush (v := 7) hx hb dX1_keepShown_24 (by decide) ?_
    refine r_copy X hw (f := v) (ws' := ([buB D x0 x1 x2 x3 w en tb (upR sh k (va_cpy v (sh k) 0 0 7)) (nI k), regsB D z0 z1 z2 z3 z4 v f g r] : List va_W).flatten) 0 0 7 ac_X1_44 (m_fl 1 rfl (m_at 1 rfl)) rfl rfl rfl (by decide) (by decide) (by decide) (by decide) (Foc.trans (Foc.at1 0 rfl rfl (ce rfl rfl)) (bu_row_f (by omega))) hl.1 ⟨Nat.le_of_ble_eq_true rfl, by decide⟩ dX1_keepShown_26 (fun H locs hw => ?_)
    refine lv_aload_n hx hb dX1_keepShown_29 rfl (lv_at hl 0 rfl) ?_
    refine lv_dup hx hb dX1_keepShown_30 rfl ?_
    refine r_get X hw (v := .int (nI k)) fl_X1_62 (m_fl 0 rfl (m_at 0 rfl)) rfl dX1_keepShown_31 ?_
    refine lv_iconst (v := 1) hx hb dX1_keepShown_34 (by decide) ?_
    refine r_addN hx hb k 1 rfl rfl dX1_keepShown_35 ?_
    refine r_puti X hw (ws' := ([buB D x0 x1 x2 x3 w en tb (upR sh k (va_cpy v (sh k) 0 0 7)) (nI (k + 1)), regsB D z0 z1 z2 z3 z4 v f g r] : List va_W).flatten) fp_X1_62 (Nat.le_of_ble_eq_true rfl) (Foc.trans (Foc.at1 0 rfl rfl (ce rfl rfl)) (Foc.cell 0 rfl rfl (ce rfl (ce rfl (ce rfl (ce rfl (ce rfl (ce rfl (ce rfl (ce rfl (ce rfl (ce rfl (ce rfl (ce rfl (ce rfl (ce rfl (ce rfl (ce rfl rfl)))))))))))))))))) dX1_keepShown_36 (fun H locs hw => ?_)
    exact r_retV X hw hk hret (by rw [show ksP (sh, k) v = (upR sh k (va_cpy v (sh k) 0 0 7), k + 1) from if_neg (Nat.not_le.mpr c1)]) dX1_keepShown_39

set_option maxRecDepth 100000 in
set_option maxHeartbeats 4000000 in
theorem c_X1_seeAtOnce (l : Launch) (D : va_G) (sz : Nat) (x0 : Nat) (x1 : Nat) (x2 : Nat) (x3 : Nat) (w : Nat → Nat) (en : Row) (tb : Row) (sh : Nat → Row) (n : Int32) (z0 z1 z2 z3 z4 : Nat) (v f g r : Row) : MV l yX1_seeAtOnce cX1_seeAtOnce 2 2 81 D sz [.ref x0, .ref z0] (([buB D x0 x1 x2 x3 w en tb sh n, regsB D z0 z1 z2 z3 z4 v f g r] : List va_W).flatten) (([buB D x0 x1 x2 x3 w (va_cpy v en 0 0 7) tb ((ksP (sh, 0) v).1) (nI (ksP (sh, 0) v).2), regsB D z0 z1 z2 z3 z4 v f g r] : List va_W).flatten) := by
  refine r_enterV (by decide) (Nat.le_of_ble_eq_true rfl) ?_
  intro p e st m args below meth c ls A X hret hk hw hl
  have X : CX D p m c cX1_seeAtOnce 2 st args RX1 A := X
  have hx := X.1.1
  have hb := X.1.2.1
  have hown := X.1.2.2.2.1
  have hts := X.1.2.2.2.2
  have hl : lv_has ls 2 [(0, .ref x0), (1, .ref z0)] := hl
  refine lv_aload_n hx hb dX1_seeAtOnce_0 rfl (lv_at hl 0 rfl) ?_
  refine lv_iconst (v := 0) hx hb dX1_seeAtOnce_1 (by decide) ?_
  refine r_puti X hw (ws' := ([buB D x0 x1 x2 x3 w en tb sh 0, regsB D z0 z1 z2 z3 z4 v f g r] : List va_W).flatten) fp_X1_62 (Nat.le_of_ble_eq_true rfl) (Foc.trans (Foc.at1 0 rfl rfl (ce rfl rfl)) (Foc.cell 0 rfl rfl (ce rfl (ce rfl (ce rfl (ce rfl (ce rfl (ce rfl (ce rfl (ce rfl (ce rfl (ce rfl (ce rfl (ce rfl (ce rfl (ce rfl (ce rfl (ce rfl rfl)))))))))))))))))) dX1_seeAtOnce_2 (fun H locs hw => ?_)
  refine lv_aload_n hx hb dX1_seeAtOnce_5 rfl (lv_at hl 0 rfl) ?_
  refine lv_aload_n hx hb dX1_seeAtOnce_6 rfl (lv_at hl 1 rfl) ?_
  refine r_callVv X hw (ws' := ([buB D x0 x1 x2 x3 w en tb ((ksP (sh, 0) v).1) (nI (ksP (sh, 0) v).2), regsB D z0 z1 z2 z3 z4 v f g r] : List va_W).flatten) (As := [.ref z0]) (rest := []) lk_X1_66 (c_X1_keepShown l D _ x0 x1 x2 x3 w en tb sh z0 z1 z2 z3 z4 v f g r 0 (by omega)) (Foc.at2 0 0 rfl rfl rfl rfl rfl) (m_fl 0 rfl (m_at 0 rfl)) rfl hl.1 (Nat.le_of_ble_eq_true rfl) ⟨Nat.le_of_ble_eq_true rfl, Nat.le_of_ble_eq_true rfl⟩ rfl dX1_seeAtOnce_7 ⟨Nat.le_refl _, Nat.le_refl _⟩ (fun H locs hw => ?_)
  refine lv_aload_n hx hb dX1_seeAtOnce_10 rfl (lv_at hl 1 rfl) ?_
  refine r_get X hw (v := .ref z1) fl_X1_69 (m_fl 1 rfl (m_at 0 rfl)) rfl dX1_seeAtOnce_11 ?_
  refine lv_iconst (v := 0) hx hb dX1_seeAtOnce_14 (by decide) ?_
  refine lv_aload_n hx hb dX1_seeAtOnce_15 rfl (lv_at hl 0 rfl) ?_
  refine r_get X hw (v := .ref x1) fl_X1_9 (m_fl 0 rfl (m_at 0 rfl)) rfl dX1_seeAtOnce_16 ?_
  refine lv_iconst (v := 0) hx hb dX1_seeAtOnce_19 (by decide) ?_
  refine lv_bipush (v := 7) hx hb dX1_seeAtOnce_20 (by decide) ?_
  refine r_copy X hw (f := v) (ws' := ([buB D x0 x1 x2 x3 w (va_cpy v en 0 0 7) tb ((ksP (sh, 0) v).1) (nI (ksP (sh, 0) v).2), regsB D z0 z1 z2 z3 z4 v f g r] : List va_W).flatten) 0 0 7 ac_X1_44 (m_fl 1 rfl (m_at 1 rfl)) rfl rfl rfl (by decide) (by decide) (by decide) (by decide) (Foc.trans (Foc.at1 0 rfl rfl (ce rfl rfl)) (Foc.cell 1 rfl rfl (ce rfl (ce rfl (ce rfl (ce rfl (ce rfl (ce rfl (ce rfl (ce rfl (ce rfl (ce rfl (ce rfl (ce rfl (ce rfl (ce rfl (ce rfl (ce rfl rfl)))))))))))))))))) hl.1 ⟨Nat.le_of_ble_eq_true rfl, by decide⟩ dX1_seeAtOnce_22 (fun H locs hw => ?_)
  exact r_retV X hw hk hret rfl dX1_seeAtOnce_25

/-- a row is what the entry tells -/
noncomputable def sp_X1_isTold (en y : Row) : Int32 := bI (∀ r, r < 7 → y r = en r)
theorem bo_X1_isTold (en y : Row) : sp_X1_isTold en y = 0 ∨ sp_X1_isTold en y = 1 := bI_b _
noncomputable def sp_X1_isTorn (en : Row) (sh : Nat → Row) (k : Nat) : Int32 := bI (∀ j, j < k → sp_X1_isTold en (sh j) = 0)
theorem bo_X1_isTorn (en : Row) (sh : Nat → Row) (k : Nat) : sp_X1_isTorn en sh k = 0 ∨ sp_X1_isTorn en sh k = 1 := bI_b _

set_option maxRecDepth 100000 in
set_option maxHeartbeats 4000000 in
theorem c_X1_isTold (l : Launch) (D : va_G) (sz : Nat) (x0 : Nat) (x1 : Nat) (x2 : Nat) (x3 : Nat) (w : Nat → Nat) (en : Row) (tb : Row) (sh : Nat → Row) (n : Int32) (j : Nat) (hj : j < 13) : MI l yX1_isTold cX1_isTold 3 (some .boolean) 0 0 D sz [.ref x0, .ref (w j)] (buB D x0 x1 x2 x3 w en tb sh n) (sp_X1_isTold en (sh j)) (buB D x0 x1 x2 x3 w en tb sh n) := by
  refine r_enterI (by decide) (Nat.le_of_ble_eq_true rfl) ?_
  intro p e st m args below meth c ls A X hret hk hw hl
  have X : CX D p m c cX1_isTold 3 st args RX1 A := X
  have hx := X.1.1
  have hb := X.1.2.1
  have hown := X.1.2.2.2.1
  have hts := X.1.2.2.2.2
  have hl : lv_has ls 3 [(0, .ref x0), (1, .ref (w j))] := hl
  refine lv_iconst (v := 0) hx hb dX1_isTold_0 (by decide) ?_
  refine lv_istore_n (lv' := [(2, .int 0), (0, .ref x0), (1, .ref (w j))]) hx hb dX1_isTold_1 rfl hl (by decide) rfl (fun ls hl => ?_)
  have key2 : ∀ (n2 : Nat) (i : Nat), (i ≤ 7) → (7 - i < n2) → (∀ r, r < i → sh j r = en r) → ∀ (H : Heap) (locs : List Loc) (ls : Array Slot), Wd D A st.heap H locs (buB D x0 x1 x2 x3 w en tb sh n) → lv_has ls 3 [(0, .ref x0), (1, .ref (w j)), (2, .int (nI i))] → W p l e (rmOf 0 0 0 0) st m args below meth c H locs 0 0 (QI below args st D A (sp_X1_isTold en (sh j)) (buB D x0 x1 x2 x3 w en tb sh n)) (F0 m 2 ls []) := by
    intro n2
    induction n2 with
    | zero => intro i hi hm hall; omega
    | succ n2 ih2 =>
      intro i hi hm hall H locs ls hw hl
      refine lv_iload_n hx hb dX1_isTold_2 rfl (lv_at hl 2 rfl) ?_
      refine lv_bipush (v := 7) hx hb dX1_isTold_3 (by decide) ?_
      refine r_geN (tgt := 34) hx hb i 7 rfl rfl (by omega) (by omega) dX1_isTold_5 (by decide) (fun c1 => ?_) (fun c1 => ?_)
      · skip
        refine lv_iconst (v := 1) hx hb dX1_isTold_34 (by decide) ?_
        exact r_ret X hw hk hret rfl (by rw [show i = 7 from by omega] at hall; exact (bI_t hall).symm) rfl dX1_isTold_35
      · skip
        refine lv_iload_n hx hb dX1_isTold_8 rfl (lv_at hl 2 rfl) ?_
        refine lv_aload_n hx hb dX1_isTold_9 rfl (lv_at hl 1 rfl) ?_
        refine r_alen X hw (v := 7) (bu_row_m (by omega)) rfl dX1_isTold_10 ?_
        refine r_geN (tgt := 34) hx hb i 7 rfl rfl (by omega) (by omega) dX1_isTold_11 (by decide) (fun c2 => absurd c2 (by omega)) (fun c2 => ?_)
        refine lv_aload_n hx hb dX1_isTold_14 rfl (lv_at hl 1 rfl) ?_
        refine lv_iload_n hx hb dX1_isTold_15 rfl (lv_at hl 2 rfl) ?_
        refine r_iald X hw (f := sh j) i (bu_row_m (by omega)) rfl (by omega) (by decide) dX1_isTold_16 ?_
        refine lv_aload_n hx hb dX1_isTold_17 rfl (lv_at hl 0 rfl) ?_
        refine r_get X hw (v := .ref x1) fl_X1_9 (m_at 0 rfl) rfl dX1_isTold_18 ?_
        refine lv_iload_n hx hb dX1_isTold_21 rfl (lv_at hl 2 rfl) ?_
        refine r_iald X hw (f := en) i (m_at 1 rfl) rfl (by omega) (by decide) dX1_isTold_22 ?_
        refine lv_icmp_eq (tgt := 28) hx hb dX1_isTold_23 (by decide) (fun c3 => ?_) (fun c3 => ?_)
        · skip
          refine r_iincN (lv' := [(2, .int (nI (i + 1))), (0, .ref x0), (1, .ref (w j))]) hx hb i 1 rfl dX1_isTold_28 hl (k := 2) rfl rfl (by decide) rfl (fun ls hl => ?_)
          refine lv_goto (tgt := 2) hx hb dX1_isTold_31 (by decide) ?_
          exact ih2 (i + 1) (by omega) (by omega) (fun r9 hr9 => by rcases Nat.lt_succ_iff_lt_or_eq.mp hr9 with q | q; exact hall r9 q; rw [q]; exact c3) _ _ _ hw (lv_sub hl [1, 2, 0] rfl)
        · skip
          refine lv_iconst (v := 0) hx hb dX1_isTold_26 (by decide) ?_
          exact r_ret X hw hk hret rfl (bI_f (fun q => c3 (q i (by omega)))).symm rfl dX1_isTold_27
  exact key2 8 0 (by omega) (by omega) (fun r hr => absurd hr (Nat.not_lt_zero r)) _ _ _ hw (lv_sub hl [1, 2, 0] rfl)

set_option maxRecDepth 100000 in
set_option maxHeartbeats 4000000 in
theorem c_X1_isToldB (l : Launch) (D : va_G) (sz : Nat) (x0 : Nat) (x1 : Nat) (x2 : Nat) (x3 : Nat) (w : Nat → Nat) (en : Row) (tb : Row) (sh : Nat → Row) (n : Int32) : MI l yX1_isTold cX1_isTold 3 (some .boolean) 0 0 D sz [.ref x0, .ref x2] (buB D x0 x1 x2 x3 w en tb sh n) (sp_X1_isTold en tb) (buB D x0 x1 x2 x3 w en tb sh n) := by
  refine r_enterI (by decide) (Nat.le_of_ble_eq_true rfl) ?_
  intro p e st m args below meth c ls A X hret hk hw hl
  have X : CX D p m c cX1_isTold 3 st args RX1 A := X
  have hx := X.1.1
  have hb := X.1.2.1
  have hown := X.1.2.2.2.1
  have hts := X.1.2.2.2.2
  have hl : lv_has ls 3 [(0, .ref x0), (1, .ref x2)] := hl
  refine lv_iconst (v := 0) hx hb dX1_isTold_0 (by decide) ?_
  refine lv_istore_n (lv' := [(2, .int 0), (0, .ref x0), (1, .ref x2)]) hx hb dX1_isTold_1 rfl hl (by decide) rfl (fun ls hl => ?_)
  have key2 : ∀ (n2 : Nat) (i : Nat), (i ≤ 7) → (7 - i < n2) → (∀ r, r < i → tb r = en r) → ∀ (H : Heap) (locs : List Loc) (ls : Array Slot), Wd D A st.heap H locs (buB D x0 x1 x2 x3 w en tb sh n) → lv_has ls 3 [(0, .ref x0), (1, .ref x2), (2, .int (nI i))] → W p l e (rmOf 0 0 0 0) st m args below meth c H locs 0 0 (QI below args st D A (sp_X1_isTold en tb) (buB D x0 x1 x2 x3 w en tb sh n)) (F0 m 2 ls []) := by
    intro n2
    induction n2 with
    | zero => intro i hi hm hall; omega
    | succ n2 ih2 =>
      intro i hi hm hall H locs ls hw hl
      refine lv_iload_n hx hb dX1_isTold_2 rfl (lv_at hl 2 rfl) ?_
      refine lv_bipush (v := 7) hx hb dX1_isTold_3 (by decide) ?_
      refine r_geN (tgt := 34) hx hb i 7 rfl rfl (by omega) (by omega) dX1_isTold_5 (by decide) (fun c1 => ?_) (fun c1 => ?_)
      · skip
        refine lv_iconst (v := 1) hx hb dX1_isTold_34 (by decide) ?_
        exact r_ret X hw hk hret rfl (by rw [show i = 7 from by omega] at hall; exact (bI_t hall).symm) rfl dX1_isTold_35
      · skip
        refine lv_iload_n hx hb dX1_isTold_8 rfl (lv_at hl 2 rfl) ?_
        refine lv_aload_n hx hb dX1_isTold_9 rfl (lv_at hl 1 rfl) ?_
        refine r_alen X hw (v := 7) (m_at 2 rfl) rfl dX1_isTold_10 ?_
        refine r_geN (tgt := 34) hx hb i 7 rfl rfl (by omega) (by omega) dX1_isTold_11 (by decide) (fun c2 => absurd c2 (by omega)) (fun c2 => ?_)
        refine lv_aload_n hx hb dX1_isTold_14 rfl (lv_at hl 1 rfl) ?_
        refine lv_iload_n hx hb dX1_isTold_15 rfl (lv_at hl 2 rfl) ?_
        refine r_iald X hw (f := tb) i (m_at 2 rfl) rfl (by omega) (by decide) dX1_isTold_16 ?_
        refine lv_aload_n hx hb dX1_isTold_17 rfl (lv_at hl 0 rfl) ?_
        refine r_get X hw (v := .ref x1) fl_X1_9 (m_at 0 rfl) rfl dX1_isTold_18 ?_
        refine lv_iload_n hx hb dX1_isTold_21 rfl (lv_at hl 2 rfl) ?_
        refine r_iald X hw (f := en) i (m_at 1 rfl) rfl (by omega) (by decide) dX1_isTold_22 ?_
        refine lv_icmp_eq (tgt := 28) hx hb dX1_isTold_23 (by decide) (fun c3 => ?_) (fun c3 => ?_)
        · skip
          refine r_iincN (lv' := [(2, .int (nI (i + 1))), (0, .ref x0), (1, .ref x2)]) hx hb i 1 rfl dX1_isTold_28 hl (k := 2) rfl rfl (by decide) rfl (fun ls hl => ?_)
          refine lv_goto (tgt := 2) hx hb dX1_isTold_31 (by decide) ?_
          exact ih2 (i + 1) (by omega) (by omega) (fun r9 hr9 => by rcases Nat.lt_succ_iff_lt_or_eq.mp hr9 with q | q; exact hall r9 q; rw [q]; exact c3) _ _ _ hw (lv_sub hl [1, 2, 0] rfl)
        · skip
          refine lv_iconst (v := 0) hx hb dX1_isTold_26 (by decide) ?_
          exact r_ret X hw hk hret rfl (bI_f (fun q => c3 (q i (by omega)))).symm rfl dX1_isTold_27
  exact key2 8 0 (by omega) (by omega) (fun r hr => absurd hr (Nat.not_lt_zero r)) _ _ _ hw (lv_sub hl [1, 2, 0] rfl)

set_option maxRecDepth 100000 in
set_option maxHeartbeats 4000000 in
theorem c_X1_isTorn (l : Launch) (D : va_G) (sz : Nat) (x0 x1 x2 x3 : Nat) (w : Nat → Nat) (en tb : Row) (sh : Nat → Row) (k : Nat) (hkq : k ≤ 13) : MI l yX1_isTorn cX1_isTorn 2 (some .boolean) 1 22 D sz [.ref x0] (buB D x0 x1 x2 x3 w en tb sh (nI k)) (sp_X1_isTorn en sh k) (buB D x0 x1 x2 x3 w en tb sh (nI k)) := by
  refine r_enterI (by decide) (Nat.le_of_ble_eq_true rfl) ?_
  intro p e st m args below meth c ls A X hret hk hw hl
  have X : CX D p m c cX1_isTorn 2 st args RX1 A := X
  have hx := X.1.1
  have hb := X.1.2.1
  have hown := X.1.2.2.2.1
  have hts := X.1.2.2.2.2
  have hl : lv_has ls 2 [(0, .ref x0)] := hl
  refine lv_iconst (v := 0) hx hb dX1_isTorn_0 (by decide) ?_
  refine lv_istore_n (lv' := [(1, .int 0), (0, .ref x0)]) hx hb dX1_isTorn_1 rfl hl (by decide) rfl (fun ls hl => ?_)
  have key2 : ∀ (n2 : Nat) (i : Nat), (i ≤ k) → (k - i < n2) → (∀ r, r < i → sp_X1_isTold en (sh r) = 0) → ∀ (H : Heap) (locs : List Loc) (ls : Array Slot), Wd D A st.heap H locs (buB D x0 x1 x2 x3 w en tb sh (nI k)) → lv_has ls 2 [(0, .ref x0), (1, .int (nI i))] → W p l e (rmOf 1 0 0 22) st m args below meth c H locs 0 0 (QI below args st D A (sp_X1_isTorn en sh k) (buB D x0 x1 x2 x3 w en tb sh (nI k))) (F0 m 2 ls []) := by
    intro n2
    induction n2 with
    | zero => intro i hi hm hall; omega
    | succ n2 ih2 =>
      intro i hi hm hall H locs ls hw hl
      refine lv_iload_n hx hb dX1_isTorn_2 rfl (lv_at hl 1 rfl) ?_
      refine lv_aload_n hx hb dX1_isTorn_3 rfl (lv_at hl 0 rfl) ?_
      refine r_get X hw (v := .int (nI k)) fl_X1_62 (m_at 0 rfl) rfl dX1_isTorn_4 ?_
      refine r_geN (tgt := 37) hx hb i k rfl rfl (by omega) (by omega) dX1_isTorn_7 (by decide) (fun c1 => ?_) (fun c1 => ?_)
      · skip
        refine lv_iconst (v := 1) hx hb dX1_isTorn_37 (by decide) ?_
        exact r_ret X hw hk hret rfl (by rw [show i = k from by omega] at hall; exact (bI_t hall).symm) rfl dX1_isTorn_38
      · skip
        refine lv_iload_n hx hb dX1_isTorn_10 rfl (lv_at hl 1 rfl) ?_
        refine lv_bipush (v := 13) hx hb dX1_isTorn_11 (by decide) ?_
        refine r_geN (tgt := 37) hx hb i 13 rfl rfl (by omega) (by omega) dX1_isTorn_13 (by decide) (fun c2 => absurd c2 (by omega)) (fun c2 => ?_)
        refine lv_aload_n hx hb dX1_isTorn_16 rfl (lv_at hl 0 rfl) ?_
        refine lv_aload_n hx hb dX1_isTorn_17 rfl (lv_at hl 0 rfl) ?_
        refine r_get X hw (v := .ref x3) fl_X1_20 (m_at 0 rfl) rfl dX1_isTorn_18 ?_
        refine lv_iload_n hx hb dX1_isTorn_21 rfl (lv_at hl 1 rfl) ?_
        refine r_ald2 X hw (q := w i) i (m_at 3 rfl) rfl (by omega) (by decide) (if_pos (by omega)) dX1_isTorn_22 ?_
        refine r_callV X hw (ws' := buB D x0 x1 x2 x3 w en tb sh (nI k)) (As := [.ref (w i)]) (rest := []) lk_X1_50 (c_X1_isTold l D _ x0 x1 x2 x3 w en tb sh (nI k) i (by omega)) Foc.all (m_at 0 rfl) rfl hl.1 (Nat.le_of_ble_eq_true rfl) ⟨Nat.le_of_ble_eq_true rfl, Nat.le_of_ble_eq_true rfl⟩ rfl dX1_isTorn_23 ⟨Nat.le_refl _, Nat.le_refl _⟩ (fun H locs hw => ?_)
        refine lv_if_eq (tgt := 31) hx hb dX1_isTorn_26 (by decide) (fun c3 => ?_) (fun c3 => ?_)
        · skip
          refine r_iincN (lv' := [(1, .int (nI (i + 1))), (0, .ref x0)]) hx hb i 1 rfl dX1_isTorn_31 hl (k := 1) rfl rfl (by decide) rfl (fun ls hl => ?_)
          refine lv_goto (tgt := 2) hx hb dX1_isTorn_34 (by decide) ?_
          exact ih2 (i + 1) (by omega) (by omega) (fun r9 hr9 => by rcases Nat.lt_succ_iff_lt_or_eq.mp hr9 with q | q; exact hall r9 q; rw [q]; exact c3) _ _ _ hw (lv_sub hl [1, 0] rfl)
        · skip
          refine lv_iconst (v := 0) hx hb dX1_isTorn_29 (by decide) ?_
          exact r_ret X hw hk hret rfl (bI_f (fun q => c3 (q i (by omega)))).symm rfl dX1_isTorn_30
  exact key2 (k + 1) 0 (by omega) (by omega) (fun r hr => absurd hr (Nat.not_lt_zero r)) _ _ _ hw (lv_sub hl [1, 0] rfl)
