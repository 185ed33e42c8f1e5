set_option maxRecDepth 100000 in
set_option maxHeartbeats 4000000 in
theorem c_X5_copyFrom (l : Launch) (D : va_G) (sz : Nat) (x0 : Nat) (x1 : Nat) (x2 : Nat) (x3 : Nat) (x4 : Nat) (v : Row) (f : Row) (g : Row) (r : Row) (x0' : Nat) (x1' : Nat) (x2' : Nat) (x3' : Nat) (x4' : Nat) (v' : Row) (f' : Row) (g' : Row) (r' : Row) : MV l yX5_copyFrom cX5_copyFrom 2 1 60 D sz [.ref x0, .ref x0'] (([regsB D x0 x1 x2 x3 x4 v f g r, regsB D x0' x1' x2' x3' x4' v' f' g' r'] : List va_W).flatten) (([regsB D x0 x1 x2 x3 x4 (va_cpy v' v 0 0 7) (va_cpy f' f 0 0 7) (va_cpy g' g 0 0 7) (va_cpy r' r 0 0 7), regsB D x0' x1' x2' x3' x4' v' f' g' r'] : List va_W).flatten) := by
  refine r_enterV (by decide) (Nat.le_of_ble_eq_true rfl) ?_
  intro p e st m args below meth c ls A X hret hk hw hl
  have X : CX D p m c cX5_copyFrom 2 st args RX5 A := X
  have hx := X.1.1
  have hb := X.1.2.1
  have hown := X.1.2.2.2.1
  have hts := X.1.2.2.2.2
  have hl : lv_has ls 2 [(0, .ref x0), (1, .ref x0')] := hl
  refine lv_aload_n hx hb dX5_copyFrom_0 rfl (lv_at hl 1 rfl) ?_
  refine r_get X hw (v := .ref x1') fl_X5_9 (m_fl 1 rfl (m_at 0 rfl)) rfl dX5_copyFrom_1 ?_
  refine lv_iconst (v := 0) hx hb dX5_copyFrom_4 (by decide) ?_
  refine lv_aload_n hx hb dX5_copyFrom_5 rfl (lv_at hl 0 rfl) ?_
  refine r_get X hw (v := .ref x1) fl_X5_9 (m_fl 0 rfl (m_at 0 rfl)) rfl dX5_copyFrom_6 ?_
  refine lv_iconst (v := 0) hx hb dX5_copyFrom_9 (by decide) ?_
  refine lv_bipush (v := 7) hx hb dX5_copyFrom_10 (by decide) ?_
  refine r_copy X hw (f := v') (ws' := ([regsB D x0 x1 x2 x3 x4 (va_cpy v' v 0 0 7) f g r, regsB D x0' x1' x2' x3' x4' v' f' g' r'] : List va_W).flatten) 0 0 7 ac_X5_27 (m_fl 1 rfl (m_at 1 rfl)) rfl rfl rfl (by decide) (by decide) (by decide) (by decide) (Foc.trans (Foc.at1 0 rfl rfl (ce rfl rfl)) (Foc.cell 1 rfl rfl (ce rfl (ce rfl (ce rfl (ce rfl rfl)))))) hl.1 ⟨Nat.le_of_ble_eq_true rfl, by decide⟩ dX5_copyFrom_12 (fun H locs hw => ?_)
  refine lv_aload_n hx hb dX5_copyFrom_15 rfl (lv_at hl 1 rfl) ?_
  refine r_get X hw (v := .ref x2') fl_X5_15 (m_fl 1 rfl (m_at 0 rfl)) rfl dX5_copyFrom_16 ?_
  refine lv_iconst (v := 0) hx hb dX5_copyFrom_19 (by decide) ?_
  refine lv_aload_n hx hb dX5_copyFrom_20 rfl (lv_at hl 0 rfl) ?_
  refine r_get X hw (v := .ref x2) fl_X5_15 (m_fl 0 rfl (m_at 0 rfl)) rfl dX5_copyFrom_21 ?_
  refine lv_iconst (v := 0) hx hb dX5_copyFrom_24 (by decide) ?_
  refine lv_bipush (v := 7) hx hb dX5_copyFrom_25 (by decide) ?_
  refine r_copy X hw (f := f') (ws' := ([regsB D x0 x1 x2 x3 x4 (va_cpy v' v 0 0 7) (va_cpy f' f 0 0 7) g r, regsB D x0' x1' x2' x3' x4' v' f' g' r'] : List va_W).flatten) 0 0 7 ac_X5_27 (m_fl 1 rfl (m_at 2 rfl)) rfl rfl rfl (by decide) (by decide) (by decide) (by decide) (Foc.trans (Foc.at1 0 rfl rfl (ce rfl rfl)) (Foc.cell 2 rfl rfl (ce rfl (ce rfl (ce rfl (ce rfl rfl)))))) hl.1 ⟨Nat.le_of_ble_eq_true rfl, by decide⟩ dX5_copyFrom_27 (fun H locs hw => ?_)
  refine lv_aload_n hx hb dX5_copyFrom_30 rfl (lv_at hl 1 rfl) ?_
  refine r_get X hw (v := .ref x3') fl_X5_18 (m_fl 1 rfl (m_at 0 rfl)) rfl dX5_copyFrom_31 ?_
  refine lv_iconst (v := 0) hx hb dX5_copyFrom_34 (by decide) ?_
  refine lv_aload_n hx hb dX5_copyFrom_35 rfl (lv_at hl 0 rfl) ?_
  refine r_get X hw (v := .ref x3) fl_X5_18 (m_fl 0 rfl (m_at 0 rfl)) rfl dX5_copyFrom_36 ?_
  refine lv_iconst (v := 0) hx hb dX5_copyFrom_39 (by decide) ?_
  refine lv_bipush (v := 7) hx hb dX5_copyFrom_40 (by decide) ?_
  refine r_copy X hw (f := g') (ws' := ([regsB D x0 x1 x2 x3 x4 (va_cpy v' v 0 0 7) (va_cpy f' f 0 0 7) (va_cpy g' g 0 0 7) r, regsB D x0' x1' x2' x3' x4' v' f' g' r'] : List va_W).flatten) 0 0 7 ac_X5_27 (m_fl 1 rfl (m_at 3 rfl)) rfl rfl rfl (by decide) (by decide) (by decide) (by decide) (Foc.trans (Foc.at1 0 rfl rfl (ce rfl rfl)) (Foc.cell 3 rfl rfl (ce rfl (ce rfl (ce rfl (ce rfl rfl)))))) hl.1 ⟨Nat.le_of_ble_eq_true rfl, by decide⟩ dX5_copyFrom_42 (fun H locs hw => ?_)
  refine lv_aload_n hx hb dX5_copyFrom_45 rfl (lv_at hl 1 rfl) ?_
  refine r_get X hw (v := .ref x4') fl_X5_21 (m_fl 1 rfl (m_at 0 rfl)) rfl dX5_copyFrom_46 ?_
  refine lv_iconst (v := 0) hx hb dX5_copyFrom_49 (by decide) ?_
  refine lv_aload_n hx hb dX5_copyFrom_50 rfl (lv_at hl 0 rfl) ?_
  refine r_get X hw (v := .ref x4) fl_X5_21 (m_fl 0 rfl (m_at 0 rfl)) rfl dX5_copyFrom_51 ?_
  refine lv_iconst (v := 0) hx hb dX5_copyFrom_54 (by decide) ?_
  refine lv_bipush (v := 7) hx hb dX5_copyFrom_55 (by decide) ?_
  refine r_copy X hw (f := r') (ws' := ([regsB D x0 x1 x2 x3 x4 (va_cpy v' v 0 0 7) (va_cpy f' f 0 0 7) (va_cpy g' g 0 0 7) (va_cpy r' r 0 0 7), regsB D x0' x1' x2' x3' x4' v' f' g' r'] : List va_W).flatten) 0 0 7 ac_X5_27 (m_fl 1 rfl (m_at 4 rfl)) rfl rfl rfl (by decide) (by decide) (by decide) (by decide) (Foc.trans (Foc.at1 0 rfl rfl (ce rfl rfl)) (Foc.cell 4 rfl rfl (ce rfl (ce rfl (ce rfl (ce rfl rfl)))))) hl.1 ⟨Nat.le_of_ble_eq_true rfl, by decide⟩ dX5_copyFrom_57 (fun H locs hw => ?_)
  exact r_retV X hw hk hret rfl dX5_copyFrom_60

set_option maxRecDepth 100000 in
set_option maxHeartbeats 4000000 in
theorem c_X0_changeValue (l : Launch) (D : va_G) (sz : Nat) (x0 : Nat) (x1 : Nat) (x2 : Nat) (x3 : Nat) (w : Nat → Nat) (av : Nat → Row) (mk : Row) (cm : Row) (ar : Int32) (fl : Int32) (a i : Nat) (y : Int32) (ha : a < 3) (hi : i < 5) : MI l yX0_changeValue cX0_changeValue 5 (some .int) 0 0 D sz [.ref x0, .int (nI a), .int (nI i), .int y] (alB D x0 x1 x2 x3 w av mk cm ar fl) (av a i) (alB D x0 x1 x2 x3 w (upR av a (upd (av a) i y)) mk cm ar fl) := by
  refine r_enterI (by decide) (Nat.le_of_ble_eq_true rfl) ?_
  intro p e st m args below meth c ls A X hret hk hw hl
  have X : CX D p m c cX0_changeValue 5 st args RX0 A := X
  have hx := X.1.1
  have hb := X.1.2.1
  have hown := X.1.2.2.2.1
  have hts := X.1.2.2.2.2
  have hl : lv_has ls 5 [(0, .ref x0), (1, .int (nI a)), (2, .int (nI i)), (3, .int y)] := hl
  refine lv_aload_n hx hb dX0_changeValue_0 rfl (lv_at hl 0 rfl) ?_
  refine r_get X hw (v := .ref x1) fl_X0_11 (m_at 0 rfl) rfl dX0_changeValue_1 ?_
  refine lv_iload_n hx hb dX0_changeValue_4 rfl (lv_at hl 1 rfl) ?_
  refine r_ald2 X hw (q := w a) a (m_at 1 rfl) rfl (by omega) (by decide) (if_pos (by omega)) dX0_changeValue_5 ?_
  refine lv_iload_n hx hb dX0_changeValue_6 rfl (lv_at hl 2 rfl) ?_
  refine r_iald X hw (f := av a) i (al_row_m (by omega)) rfl (by omega) (by decide) dX0_changeValue_7 ?_
  refine lv_istore (lv' := [(4, .int ((av a) i)), (0, .ref x0), (1, .int (nI a)), (2, .int (nI i)), (3, .int y)]) hx hb dX0_changeValue_8 hl (by decide) rfl (fun ls hl => ?_)
  refine lv_aload_n hx hb dX0_changeValue_10 rfl (lv_at hl 1 rfl) ?_
  refine r_get X hw (v := .ref x1) fl_X0_11 (m_at 0 rfl) rfl dX0_changeValue_11 ?_
  refine lv_iload_n hx hb dX0_changeValue_14 rfl (lv_at hl 2 rfl) ?_
  refine r_ald2 X hw (q := w a) a (m_at 1 rfl) rfl (by omega) (by decide) (if_pos (by omega)) dX0_changeValue_15 ?_
  refine lv_iload_n hx hb dX0_changeValue_16 rfl (lv_at hl 3 rfl) ?_
  refine lv_iload_n hx hb dX0_changeValue_17 rfl (lv_at hl 4 rfl) ?_
  refine r_iast X hw (ws' := alB D x0 x1 x2 x3 w (upR av a (upd (av a) i y)) mk cm ar fl) i rfl (by omega) (by decide) (al_row_f (by omega)) dX0_changeValue_18 (fun H locs hw => ?_)
  refine lv_iload hx hb dX0_changeValue_19 (lv_at hl 0 rfl) ?_
  exact r_ret X hw hk hret rfl rfl rfl dX0_changeValue_21

noncomputable def sp_X0_changeMask (mk : Row) (ar : Int32) (a : Nat) (y : Nat) : Int32 × Row × Int32 := (if (nI y) = (-1) then (sp_X6_bitOf ar (nI a), mk, ar &&& (((1 : Int32) <<< ((nI a) &&& 31)) ^^^ (-1))) else (sp_X6_bitOf ar (nI a), upd mk a (nI y), ar ||| ((1 : Int32) <<< ((nI a) &&& 31))))
set_option maxRecDepth 100000 in
set_option maxHeartbeats 4000000 in
theorem c_X0_changeMask (l : Launch) (D : va_G) (sz : Nat) (x0 : Nat) (x1 : Nat) (x2 : Nat) (x3 : Nat) (w : Nat → Nat) (av : Nat → Row) (mk : Row) (cm : Row) (ar : Int32) (fl : Int32) (a : Nat) (y : Nat) (ha : a < 3) (hy : y < 32) : MI l yX0_changeMask cX0_changeMask 4 (some .int) 1 21 D sz [.ref x0, .int (nI a), .int (nI y)] (alB D x0 x1 x2 x3 w av mk cm ar fl) ((sp_X0_changeMask mk ar a y).1) (alB D x0 x1 x2 x3 w av ((sp_X0_changeMask mk ar a y).2.1) cm ((sp_X0_changeMask mk ar a y).2.2) fl) := by
  refine r_enterI (by decide) (Nat.le_of_ble_eq_true rfl) ?_
  intro p e st m args below meth c ls A X hret hk hw hl
  have X : CX D p m c cX0_changeMask 4 st args RX0 A := X
  have hx := X.1.1
  have hb := X.1.2.1
  have hown := X.1.2.2.2.1
  have hts := X.1.2.2.2.2
  have hl : lv_has ls 4 [(0, .ref x0), (1, .int (nI a)), (2, .int (nI y))] := hl
  refine lv_aload_n hx hb dX0_changeMask_0 rfl (lv_at hl 0 rfl) ?_
  refine r_get X hw (v := .int ar) fl_X0_29 (m_at 0 rfl) rfl dX0_changeMask_1 ?_
  refine lv_iload_n hx hb dX0_changeMask_4 rfl (lv_at hl 1 rfl) ?_
  refine r_callSN X hw (ws' := alB D x0 x1 x2 x3 w av mk cm ar fl) (As := [.int ar, .int (nI a)]) (rest := []) lkN_X6_bitOf X.2.2.1.2.2.2.2.2.2.2.2.1 (c_X6_bitOf l D _ ar (nI a)) Foc.nil rfl hl.1 (Nat.le_of_ble_eq_true rfl) ⟨Nat.le_of_ble_eq_true rfl, Nat.le_of_ble_eq_true rfl⟩ rfl dX0_changeMask_5 ⟨Nat.le_refl _, Nat.le_refl _⟩ (fun H locs hw => ?_)
  refine lv_istore_n (lv' := [(3, .int (sp_X6_bitOf ar (nI a))), (0, .ref x0), (1, .int (nI a)), (2, .int (nI y))]) hx hb dX0_changeMask_8 rfl hl (by decide) rfl (fun ls hl => ?_)
  refine lv_iload_n hx hb dX0_changeMask_9 rfl (lv_at hl 3 rfl) ?_
  refine lv_iconst (v := (-1)) hx hb dX0_changeMask_10 (by decide) ?_
  refine lv_icmp_ne (tgt := 31) hx hb dX0_changeMask_11 (by decide) (fun c1 => ?_) (fun c1 => ?_)
  · skip
    refine lv_aload_n hx hb dX0_changeMask_31 rfl (lv_at hl 1 rfl) ?_
    refine lv_dup hx hb dX0_changeMask_32 rfl ?_
    refine r_get X hw (v := .int ar) fl_X0_29 (m_at 0 rfl) rfl dX0_changeMask_33 ?_
    refine lv_iconst (v := 1) hx hb dX0_changeMask_36 (by decide) ?_
    refine lv_iload_n hx hb dX0_changeMask_37 rfl (lv_at hl 2 rfl) ?_
    refine lv_ishl hx hb dX0_changeMask_38 ?_
    refine lv_ior hx hb dX0_changeMask_39 ?_
    refine r_puti X hw (ws' := alB D x0 x1 x2 x3 w av mk cm (ar ||| ((1 : Int32) <<< ((nI a) &&& 31))) fl) fp_X0_29 (Nat.le_of_ble_eq_true rfl) (Foc.cell 0 rfl rfl (ce rfl (ce rfl (ce rfl (ce rfl (ce rfl (ce rfl rfl))))))) dX0_changeMask_40 (fun H locs hw => ?_)
    refine lv_aload_n hx hb dX0_changeMask_43 rfl (lv_at hl 1 rfl) ?_
    refine r_get X hw (v := .ref x2) fl_X0_16 (m_at 0 rfl) rfl dX0_changeMask_44 ?_
    refine lv_iload_n hx hb dX0_changeMask_47 rfl (lv_at hl 2 rfl) ?_
    refine lv_iload_n hx hb dX0_changeMask_48 rfl (lv_at hl 3 rfl) ?_
    refine r_iast X hw (ws' := alB D x0 x1 x2 x3 w av (upd mk a (nI y)) cm (ar ||| ((1 : Int32) <<< ((nI a) &&& 31))) fl) a rfl (by omega) (by decide) (Foc.cell 2 rfl rfl (ce rfl (ce rfl (ce rfl (ce rfl (ce rfl (ce rfl rfl))))))) dX0_changeMask_49 (fun H locs hw => ?_)
    refine lv_iload_n hx hb dX0_changeMask_50 rfl (lv_at hl 0 rfl) ?_
    exact r_ret X hw hk hret rfl (by unfold sp_X0_changeMask; rw [if_neg c1]) (by unfold sp_X0_changeMask; rw [if_neg c1]) dX0_changeMask_51
  · skip
    refine lv_aload_n hx hb dX0_changeMask_14 rfl (lv_at hl 1 rfl) ?_
    refine lv_dup hx hb dX0_changeMask_15 rfl ?_
    refine r_get X hw (v := .int ar) fl_X0_29 (m_at 0 rfl) rfl dX0_changeMask_16 ?_
    refine lv_iconst (v := 1) hx hb dX0_changeMask_19 (by decide) ?_
    refine lv_iload_n hx hb dX0_changeMask_20 rfl (lv_at hl 2 rfl) ?_
    refine lv_ishl hx hb dX0_changeMask_21 ?_
    refine lv_iconst (v := (-1)) hx hb dX0_changeMask_22 (by decide) ?_
    refine lv_ixor hx hb dX0_changeMask_23 ?_
    refine lv_iand hx hb dX0_changeMask_24 ?_
    refine r_puti X hw (ws' := alB D x0 x1 x2 x3 w av mk cm (ar &&& (((1 : Int32) <<< ((nI a) &&& 31)) ^^^ (-1))) fl) fp_X0_29 (Nat.le_of_ble_eq_true rfl) (Foc.cell 0 rfl rfl (ce rfl (ce rfl (ce rfl (ce rfl (ce rfl (ce rfl rfl))))))) dX0_changeMask_25 (fun H locs hw => ?_)
    refine lv_goto (tgt := 50) hx hb dX0_changeMask_28 (by decide) ?_
    refine lv_iload_n hx hb dX0_changeMask_50 rfl (lv_at hl 0 rfl) ?_
    exact r_ret X hw hk hret rfl (by unfold sp_X0_changeMask; rw [if_pos c1]) (by unfold sp_X0_changeMask; rw [if_pos c1]) dX0_changeMask_51

noncomputable def sp_X0_changeMaskM (ar : Int32) (a : Nat) : Int32 × Int32 := (sp_X6_bitOf ar (nI a), ar &&& (((1 : Int32) <<< ((nI a) &&& 31)) ^^^ (-1)))
set_option maxRecDepth 100000 in
set_option maxHeartbeats 4000000 in
theorem c_X0_changeMaskM (l : Launch) (D : va_G) (sz : Nat) (x0 : Nat) (x1 : Nat) (x2 : Nat) (x3 : Nat) (w : Nat → Nat) (av : Nat → Row) (mk : Row) (cm : Row) (ar : Int32) (fl : Int32) (a : Nat) (ha : a < 3) : MI l yX0_changeMask cX0_changeMask 4 (some .int) 1 21 D sz [.ref x0, .int (nI a), .int (-1)] (alB D x0 x1 x2 x3 w av mk cm ar fl) ((sp_X0_changeMaskM ar a).1) (alB D x0 x1 x2 x3 w av mk cm ((sp_X0_changeMaskM ar a).2) fl) := by
  refine r_enterI (by decide) (Nat.le_of_ble_eq_true rfl) ?_
  intro p e st m args below meth c ls A X hret hk hw hl
  have X : CX D p m c cX0_changeMask 4 st args RX0 A := X
  have hx := X.1.1
  have hb := X.1.2.1
  have hown := X.1.2.2.2.1
  have hts := X.1.2.2.2.2
  have hl : lv_has ls 4 [(0, .ref x0), (1, .int (nI a)), (2, .int (-1))] := hl
  refine lv_aload_n hx hb dX0_changeMask_0 rfl (lv_at hl 0 rfl) ?_
  refine r_get X hw (v := .int ar) fl_X0_29 (m_at 0 rfl) rfl dX0_changeMask_1 ?_
  refine lv_iload_n hx hb dX0_changeMask_4 rfl (lv_at hl 1 rfl) ?_
  refine r_callSN X hw (ws' := alB D x0 x1 x2 x3 w av mk cm ar fl) (As := [.int ar, .int (nI a)]) (rest := []) lkN_X6_bitOf X.2.2.1.2.2.2.2.2.2.2.2.1 (c_X6_bitOf l D _ ar (nI a)) Foc.nil rfl hl.1 (Nat.le_of_ble_eq_true rfl) ⟨Nat.le_of_ble_eq_true rfl, Nat.le_of_ble_eq_true rfl⟩ rfl dX0_changeMask_5 ⟨Nat.le_refl _, Nat.le_refl _⟩ (fun H locs hw => ?_)
  refine lv_istore_n (lv' := [(3, .int (sp_X6_bitOf ar (nI a))), (0, .ref x0), (1, .int (nI a)), (2, .int (-1))]) hx hb dX0_changeMask_8 rfl hl (by decide) rfl (fun ls hl => ?_)
  refine lv_iload_n hx hb dX0_changeMask_9 rfl (lv_at hl 3 rfl) ?_
  refine lv_iconst (v := (-1)) hx hb dX0_changeMask_10 (by decide) ?_
  refine lv_icmp_ne (tgt := 31) hx hb dX0_changeMask_11 (by decide) (fun h => absurd (by decide) h) (fun _ => ?_)
  refine lv_aload_n hx hb dX0_changeMask_14 rfl (lv_at hl 1 rfl) ?_
  refine lv_dup hx hb dX0_changeMask_15 rfl ?_
  refine r_get X hw (v := .int ar) fl_X0_29 (m_at 0 rfl) rfl dX0_changeMask_16 ?_
  refine lv_iconst (v := 1) hx hb dX0_changeMask_19 (by decide) ?_
  refine lv_iload_n hx hb dX0_changeMask_20 rfl (lv_at hl 2 rfl) ?_
  refine lv_ishl hx hb dX0_changeMask_21 ?_
  refine lv_iconst (v := (-1)) hx hb dX0_changeMask_22 (by decide) ?_
  refine lv_ixor hx hb dX0_changeMask_23 ?_
  refine lv_iand hx hb dX0_changeMask_24 ?_
  refine r_puti X hw (ws' := alB D x0 x1 x2 x3 w av mk cm (ar &&& (((1 : Int32) <<< ((nI a) &&& 31)) ^^^ (-1))) fl) fp_X0_29 (Nat.le_of_ble_eq_true rfl) (Foc.cell 0 rfl rfl (ce rfl (ce rfl (ce rfl (ce rfl (ce rfl (ce rfl rfl))))))) dX0_changeMask_25 (fun H locs hw => ?_)
  refine lv_goto (tgt := 50) hx hb dX0_changeMask_28 (by decide) ?_
  refine lv_iload_n hx hb dX0_changeMask_50 rfl (lv_at hl 0 rfl) ?_
  exact r_ret X hw hk hret rfl (rfl) (rfl) dX0_changeMask_51

/-- an alarm's value of a register is masked, or as the register has it -/
abbrev cMatP (av : Nat → Row) (mk v : Row) (a r : Nat) : Prop := sp_X6_bitOf (mk a) (nI r) = 1 ∨ v r = av a r
noncomputable def sp_X0_matches (av : Nat → Row) (mk v : Row) (a : Nat) : Int32 := bI (∀ r, r < 5 → cMatP av mk v a r)
theorem bo_X0_matches (av : Nat → Row) (mk v : Row) (a : Nat) : sp_X0_matches av mk v a = 0 ∨ sp_X0_matches av mk v a = 1 := bI_b _

set_option maxRecDepth 100000 in
set_option maxHeartbeats 4000000 in
theorem c_X0_matches (l : Launch) (D : va_G) (sz : Nat) (x0 : Nat) (x1 : Nat) (x2 : Nat) (x3 : Nat) (w : Nat → Nat) (av : Nat → Row) (mk : Row) (cm : Row) (ar : Int32) (fl : Int32) (z0 z1 z2 z3 z4 : Nat) (v f g r : Row) (a : Nat) (ha : a < 3) : MI l yX0_matches cX0_matches 5 (some .boolean) 1 21 D sz [.ref x0, .int (nI a), .ref z0] (([alB D x0 x1 x2 x3 w av mk cm ar fl, regsB D z0 z1 z2 z3 z4 v f g r] : List va_W).flatten) (sp_X0_matches av mk v a) (([alB D x0 x1 x2 x3 w av mk cm ar fl, regsB D z0 z1 z2 z3 z4 v f g r] : List va_W).flatten) := by
  refine r_enterI (by decide) (Nat.le_of_ble_eq_true rfl) ?_
  intro p e st m args below meth c ls A X hret hk hw hl
  have X : CX D p m c cX0_matches 5 st args RX0 A := X
  have hx := X.1.1
  have hb := X.1.2.1
  have hown := X.1.2.2.2.1
  have hts := X.1.2.2.2.2
  have hl : lv_has ls 5 [(0, .ref x0), (1, .int (nI a)), (2, .ref z0)] := hl
  refine lv_iconst (v := 0) hx hb dX0_matches_0 (by decide) ?_
  refine lv_istore_n (lv' := [(3, .int 0), (0, .ref x0), (1, .int (nI a)), (2, .ref z0)]) hx hb dX0_matches_1 rfl hl (by decide) rfl (fun ls hl => ?_)
  have key2 : ∀ (n2 : Nat) (i : Nat), (i ≤ 5) → (5 - i < n2) → (∀ r, r < i → cMatP av mk v a r) → ∀ (H : Heap) (locs : List Loc) (ls : Array Slot), Wd D A st.heap H locs (([alB D x0 x1 x2 x3 w av mk cm ar fl, regsB D z0 z1 z2 z3 z4 v f g r] : List va_W).flatten) → lv_has ls 5 [(0, .ref x0), (1, .int (nI a)), (2, .ref z0), (3, .int (nI i))] → W p l e (rmOf 1 0 0 21) st m args below meth c H locs 0 0 (QI below args st D A (sp_X0_matches av mk v a) (([alB D x0 x1 x2 x3 w av mk cm ar fl, regsB D z0 z1 z2 z3 z4 v f g r] : List va_W).flatten)) (F0 m 2 ls []) := by
    intro n2
    induction n2 with
    | zero => intro i hi hm hall; omega
    | succ n2 ih2 =>
      intro i hi hm hall H locs ls hw hl
      refine lv_iload_n hx hb dX0_matches_2 rfl (lv_at hl 3 rfl) ?_
      refine lv_iconst (v := 5) hx hb dX0_matches_3 (by decide) ?_
      refine r_geN (tgt := 58) hx hb i 5 rfl rfl (by omega) (by omega) dX0_matches_4 (by decide) (fun c1 => ?_) (fun c1 => ?_)
      · skip
        refine lv_iconst (v := 1) hx hb dX0_matches_58 (by decide) ?_
        exact r_ret X hw hk hret rfl (by rw [show i = 5 from by omega] at hall; exact (bI_t hall).symm) rfl dX0_matches_59
      · skip
        refine lv_aload_n hx hb dX0_matches_7 rfl (lv_at hl 0 rfl) ?_
        refine r_get X hw (v := .ref x2) fl_X0_16 (m_fl 0 rfl (m_at 0 rfl)) rfl dX0_matches_8 ?_
        refine lv_iload_n hx hb dX0_matches_11 rfl (lv_at hl 1 rfl) ?_
        refine r_iald X hw (f := mk) a (m_fl 0 rfl (m_at 2 rfl)) rfl (by omega) (by decide) dX0_matches_12 ?_
        refine lv_iload_n hx hb dX0_matches_13 rfl (lv_at hl 3 rfl) ?_
        refine r_callSN X hw (ws' := ([alB D x0 x1 x2 x3 w av mk cm ar fl, regsB D z0 z1 z2 z3 z4 v f g r] : List va_W).flatten) (As := [.int (mk a), .int (nI i)]) (rest := []) lkN_X6_bitOf X.2.2.1.2.2.2.2.2.2.2.2.1 (c_X6_bitOf l D _ (mk a) (nI i)) Foc.nil rfl hl.1 (Nat.le_of_ble_eq_true rfl) ⟨Nat.le_of_ble_eq_true rfl, Nat.le_of_ble_eq_true rfl⟩ rfl dX0_matches_14 ⟨Nat.le_refl _, Nat.le_refl _⟩ (fun H locs hw => ?_)
        refine lv_iconst (v := 1) hx hb dX0_matches_17 (by decide) ?_
        refine lv_icmp_ne (tgt := 25) hx hb dX0_matches_18 (by decide) (fun c2 => ?_) (fun c2 => ?_)
        · skip
          refine lv_iconst (v := 0) hx hb dX0_matches_25 (by decide) ?_
          refine lv_istore (lv' := [(4, .int 0), (0, .ref x0), (1, .int (nI a)), (2, .ref z0), (3, .int (nI i))]) hx hb dX0_matches_26 hl (by decide) rfl (fun ls hl => ?_)
          refine lv_iload hx hb dX0_matches_28 (lv_at hl 0 rfl) ?_
          refine lv_if_ne (tgt := 52) hx hb dX0_matches_30 (by decide) (fun h => absurd (by decide) h) (fun _ => ?_)
          refine lv_aload_n hx hb dX0_matches_33 rfl (lv_at hl 3 rfl) ?_
          refine r_get X hw (v := .ref z1) fl_X0_40 (m_fl 1 rfl (m_at 0 rfl)) rfl dX0_matches_34 ?_
          refine lv_iload_n hx hb dX0_matches_37 rfl (lv_at hl 4 rfl) ?_
          refine r_iald X hw (f := v) i (m_fl 1 rfl (m_at 1 rfl)) rfl (by omega) (by decide) dX0_matches_38 ?_
          refine lv_aload_n hx hb dX0_matches_39 rfl (lv_at hl 1 rfl) ?_
          refine r_get X hw (v := .ref x1) fl_X0_11 (m_fl 0 rfl (m_at 0 rfl)) rfl dX0_matches_40 ?_
          refine lv_iload_n hx hb dX0_matches_43 rfl (lv_at hl 2 rfl) ?_
          refine r_ald2 X hw (q := w a) a (m_fl 0 rfl (m_at 1 rfl)) rfl (by omega) (by decide) (if_pos (by omega)) dX0_matches_44 ?_
          refine lv_iload_n hx hb dX0_matches_45 rfl (lv_at hl 4 rfl) ?_
          refine r_iald X hw (f := av a) i (m_fl 0 rfl (al_row_m (by omega))) rfl (by omega) (by decide) dX0_matches_46 ?_
          refine lv_icmp_eq (tgt := 52) hx hb dX0_matches_47 (by decide) (fun c3 => ?_) (fun c3 => ?_)
          · skip
            refine r_iincN (lv' := [(3, .int (nI (i + 1))), (4, .int 0), (0, .ref x0), (1, .int (nI a)), (2, .ref z0)]) hx hb i 1 rfl dX0_matches_52 hl (k := 4) rfl rfl (by decide) rfl (fun ls hl => ?_)
            refine lv_goto (tgt := 2) hx hb dX0_matches_55 (by decide) ?_
            exact ih2 (i + 1) (by omega) (by omega) (fun r9 hr9 => by rcases Nat.lt_succ_iff_lt_or_eq.mp hr9 with q | q; exact hall r9 q; rw [q]; exact Or.inr c3) _ _ _ hw (lv_sub hl [2, 3, 4, 0] rfl)
          · skip
            refine lv_iconst (v := 0) hx hb dX0_matches_50 (by decide) ?_
            exact r_ret X hw hk hret rfl (bI_f (fun q => (q i (by omega)).elim c2 c3)).symm rfl dX0_matches_51
        · skip
          refine lv_iconst (v := 1) hx hb dX0_matches_21 (by decide) ?_
          refine lv_goto (tgt := 26) hx hb dX0_matches_22 (by decide) ?_
          refine lv_istore (lv' := [(4, .int 1), (0, .ref x0), (1, .int (nI a)), (2, .ref z0), (3, .int (nI i))]) hx hb dX0_matches_26 hl (by decide) rfl (fun ls hl => ?_)
          refine lv_iload hx hb dX0_matches_28 (lv_at hl 0 rfl) ?_
          refine lv_if_ne (tgt := 52) hx hb dX0_matches_30 (by decide) (fun _ => ?_) (fun h => absurd h (by decide))
          refine r_iincN (lv' := [(3, .int (nI (i + 1))), (4, .int 1), (0, .ref x0), (1, .int (nI a)), (2, .ref z0)]) hx hb i 1 rfl dX0_matches_52 hl (k := 4) rfl rfl (by decide) rfl (fun ls hl => ?_)
          refine lv_goto (tgt := 2) hx hb dX0_matches_55 (by decide) ?_
          exact ih2 (i + 1) (by omega) (by omega) (fun r9 hr9 => by rcases Nat.lt_succ_iff_lt_or_eq.mp hr9 with q | q; exact hall r9 q; rw [q]; exact Or.inl c2) _ _ _ hw (lv_sub hl [2, 3, 4, 0] rfl)
  exact key2 6 0 (by omega) (by omega) (fun r hr => absurd hr (Nat.not_lt_zero r)) _ _ _ hw (lv_sub hl [1, 2, 3, 0] rfl)

/-- flags and counts behind the first alarms of a tick -/
noncomputable def cmS (av : Nat → Row) (mk v : Row) (ar : Int32) (x : Row × Int32) (i : Nat) : Row × Int32 := if sp_X6_bitOf ar (nI i) = 1 then (if sp_X0_matches av mk v i = 0 then (x.1, x.2) else (upd x.1 i (x.1 i + 1), x.2 ||| (1 : Int32) <<< (nI i &&& 31))) else (x.1, x.2)
noncomputable def cmF (av : Nat → Row) (mk v : Row) (ar : Int32) (x : Row × Int32) : Nat → Row × Int32
  | 0 => x
  | i + 1 => cmS av mk v ar (cmF av mk v ar x i) i

set_option maxRecDepth 100000 in
set_option maxHeartbeats 4000000 in
theorem c_X0_comeIfDue (l : Launch) (D : va_G) (sz : Nat) (x0 : Nat) (x1 : Nat) (x2 : Nat) (x3 : Nat) (w : Nat → Nat) (av : Nat → Row) (mk : Row) (cm : Row) (ar : Int32) (fl : Int32) (z0 z1 z2 z3 z4 : Nat) (v f g r : Row) : MV l yX0_comeIfDue cX0_comeIfDue 3 2 45 D sz [.ref x0, .ref z0] (([alB D x0 x1 x2 x3 w av mk cm ar fl, regsB D z0 z1 z2 z3 z4 v f g r] : List va_W).flatten) (([alB D x0 x1 x2 x3 w av mk ((cmF av mk v ar (cm, fl) 3).1) ar ((cmF av mk v ar (cm, fl) 3).2), regsB D z0 z1 z2 z3 z4 v f g r] : List va_W).flatten) := by
  refine r_enterV (by decide) (Nat.le_of_ble_eq_true rfl) ?_
  intro p e st m args below meth c ls A X hret hk hw hl
  have X : CX D p m c cX0_comeIfDue 3 st args RX0 A := X
  have hx := X.1.1
  have hb := X.1.2.1
  have hown := X.1.2.2.2.1
  have hts := X.1.2.2.2.2
  have hl : lv_has ls 3 [(0, .ref x0), (1, .ref z0)] := hl
  refine lv_iconst (v := 0) hx hb dX0_comeIfDue_0 (by decide) ?_
  refine lv_istore_n (lv' := [(2, .int 0), (0, .ref x0), (1, .ref z0)]) hx hb dX0_comeIfDue_1 rfl hl (by decide) rfl (fun ls hl => ?_)
  have key2 : ∀ (n2 : Nat) (i : Nat), (i ≤ 3) → (3 - i < n2) → ∀ (H : Heap) (locs : List Loc) (ls : Array Slot), Wd D A st.heap H locs (([alB D x0 x1 x2 x3 w av mk ((cmF av mk v ar (cm, fl) i).1) ar ((cmF av mk v ar (cm, fl) i).2), regsB D z0 z1 z2 z3 z4 v f g r] : List va_W).flatten) → lv_has ls 3 [(0, .ref x0), (1, .ref z0), (2, .int (nI i))] → W p l e (rmOf 2 0 0 45) st m args below meth c H locs 0 0 (QV below args st D A (([alB D x0 x1 x2 x3 w av mk ((cmF av mk v ar (cm, fl) 3).1) ar ((cmF av mk v ar (cm, fl) 3).2), regsB D z0 z1 z2 z3 z4 v f g r] : List va_W).flatten)) (F0 m 2 ls []) := by
    intro n2
    induction n2 with
    | zero => intro i hi hm; omega
    | succ n2 ih2 =>
      intro i hi hm H locs ls hw hl
      refine lv_iload_n hx hb dX0_comeIfDue_2 rfl (lv_at hl 2 rfl) ?_
      refine lv_iconst (v := 3) hx hb dX0_comeIfDue_3 (by decide) ?_
      refine r_geN (tgt := 56) hx hb i 3 rfl rfl (by omega) (by omega) dX0_comeIfDue_4 (by decide) (fun c1 => ?_) (fun c1 => ?_)
      · skip
        exact r_retV X hw hk hret (by rw [show i = 3 from by omega]) dX0_comeIfDue_56
      · skip
        refine lv_aload_n hx hb dX0_comeIfDue_7 rfl (lv_at hl 0 rfl) ?_
        refine r_get X hw (v := .int ar) fl_X0_29 (m_fl 0 rfl (m_at 0 rfl)) rfl dX0_comeIfDue_8 ?_
        refine lv_iload_n hx hb dX0_comeIfDue_11 rfl (lv_at hl 2 rfl) ?_
        refine r_callSN X hw (ws' := ([alB D x0 x1 x2 x3 w av mk ((cmF av mk v ar (cm, fl) i).1) ar ((cmF av mk v ar (cm, fl) i).2), regsB D z0 z1 z2 z3 z4 v f g r] : List va_W).flatten) (As := [.int ar, .int (nI i)]) (rest := []) lkN_X6_bitOf X.2.2.1.2.2.2.2.2.2.2.2.1 (c_X6_bitOf l D _ ar (nI i)) Foc.nil rfl hl.1 (Nat.le_of_ble_eq_true rfl) ⟨Nat.le_of_ble_eq_true rfl, Nat.le_of_ble_eq_true rfl⟩ rfl dX0_comeIfDue_12 ⟨Nat.le_refl _, Nat.le_refl _⟩ (fun H locs hw => ?_)
        refine lv_iconst (v := 1) hx hb dX0_comeIfDue_15 (by decide) ?_
        refine lv_icmp_ne (tgt := 50) hx hb dX0_comeIfDue_16 (by decide) (fun c2 => ?_) (fun c2 => ?_)
        · skip
          refine r_iincN (lv' := [(2, .int (nI (i + 1))), (0, .ref x0), (1, .ref z0)]) hx hb i 1 rfl dX0_comeIfDue_50 hl (k := 2) rfl rfl (by decide) rfl (fun ls hl => ?_)
          refine lv_goto (tgt := 2) hx hb dX0_comeIfDue_53 (by decide) ?_
          exact ih2 (i + 1) (by omega) (by omega) _ _ _ (by rw [show cmF av mk v ar (cm, fl) (i + 1) = ((cmF av mk v ar (cm, fl) i).1, (cmF av mk v ar (cm, fl) i).2) from (by show cmS av mk v ar _ i = _; unfold cmS; rw [if_neg c2])]; exact hw) (lv_sub hl [1, 2, 0] rfl)
        · skip
          refine lv_aload_n hx hb dX0_comeIfDue_19 rfl (lv_at hl 0 rfl) ?_
          refine lv_iload_n hx hb dX0_comeIfDue_20 rfl (lv_at hl 2 rfl) ?_
          refine lv_aload_n hx hb dX0_comeIfDue_21 rfl (lv_at hl 1 rfl) ?_
          refine r_callV X hw (ws' := ([alB D x0 x1 x2 x3 w av mk ((cmF av mk v ar (cm, fl) i).1) ar ((cmF av mk v ar (cm, fl) i).2), regsB D z0 z1 z2 z3 z4 v f g r] : List va_W).flatten) (As := [.int (nI i), .ref z0]) (rest := []) lk_X0_44 (c_X0_matches l D _ x0 x1 x2 x3 w av mk ((cmF av mk v ar (cm, fl) i).1) ar ((cmF av mk v ar (cm, fl) i).2) z0 z1 z2 z3 z4 v f g r i (by omega)) (Foc.at2 0 0 rfl rfl rfl rfl rfl) (m_fl 0 rfl (m_at 0 rfl)) rfl hl.1 (Nat.le_of_ble_eq_true rfl) ⟨Nat.le_of_ble_eq_true rfl, Nat.le_of_ble_eq_true rfl⟩ rfl dX0_comeIfDue_22 ⟨Nat.le_refl _, Nat.le_refl _⟩ (fun H locs hw => ?_)
          refine lv_if_eq (tgt := 50) hx hb dX0_comeIfDue_25 (by decide) (fun c3 => ?_) (fun c3 => ?_)
          · skip
            refine r_iincN (lv' := [(2, .int (nI (i + 1))), (0, .ref x0), (1, .ref z0)]) hx hb i 1 rfl dX0_comeIfDue_50 hl (k := 2) rfl rfl (by decide) rfl (fun ls hl => ?_)
            refine lv_goto (tgt := 2) hx hb dX0_comeIfDue_53 (by decide) ?_
            exact ih2 (i + 1) (by omega) (by omega) _ _ _ (by rw [show cmF av mk v ar (cm, fl) (i + 1) = ((cmF av mk v ar (cm, fl) i).1, (cmF av mk v ar (cm, fl) i).2) from (by show cmS av mk v ar _ i = _; unfold cmS; rw [if_pos c2]; rw [if_pos c3])]; exact hw) (lv_sub hl [1, 2, 0] rfl)
          · skip
            refine lv_aload_n hx hb dX0_comeIfDue_28 rfl (lv_at hl 0 rfl) ?_
            refine lv_dup hx hb dX0_comeIfDue_29 rfl ?_
            refine r_get X hw (v := .int ((cmF av mk v ar (cm, fl) i).2)) fl_X0_33 (m_fl 0 rfl (m_at 0 rfl)) rfl dX0_comeIfDue_30 ?_
            refine lv_iconst (v := 1) hx hb dX0_comeIfDue_33 (by decide) ?_
            refine lv_iload_n hx hb dX0_comeIfDue_34 rfl (lv_at hl 2 rfl) ?_
            refine lv_ishl hx hb dX0_comeIfDue_35 ?_
            refine lv_ior hx hb dX0_comeIfDue_36 ?_
            refine r_puti X hw (ws' := ([alB D x0 x1 x2 x3 w av mk ((cmF av mk v ar (cm, fl) i).1) ar (((cmF av mk v ar (cm, fl) i).2) ||| ((1 : Int32) <<< ((nI i) &&& 31))), regsB D z0 z1 z2 z3 z4 v f g r] : List va_W).flatten) fp_X0_33 (Nat.le_of_ble_eq_true rfl) (Foc.trans (Foc.at1 0 rfl rfl (ce rfl rfl)) (Foc.cell 0 rfl rfl (ce rfl (ce rfl (ce rfl (ce rfl (ce rfl (ce rfl rfl)))))))) dX0_comeIfDue_37 (fun H locs hw => ?_)
            refine lv_aload_n hx hb dX0_comeIfDue_40 rfl (lv_at hl 0 rfl) ?_
            refine r_get X hw (v := .ref x3) fl_X0_20 (m_fl 0 rfl (m_at 0 rfl)) rfl dX0_comeIfDue_41 ?_
            refine lv_iload_n hx hb dX0_comeIfDue_44 rfl (lv_at hl 2 rfl) ?_
            refine lv_dup2_11 hx hb dX0_comeIfDue_45 rfl rfl ?_
            refine r_iald X hw (f := (cmF av mk v ar (cm, fl) i).1) i (m_fl 0 rfl (m_at 3 rfl)) rfl (by omega) (by decide) dX0_comeIfDue_46 ?_
            refine lv_iconst (v := 1) hx hb dX0_comeIfDue_47 (by decide) ?_
            refine lv_iadd hx hb dX0_comeIfDue_48 ?_
            refine r_iast X hw (ws' := ([alB D x0 x1 x2 x3 w av mk (upd ((cmF av mk v ar (cm, fl) i).1) i ((((cmF av mk v ar (cm, fl) i).1) i) + 1)) ar (((cmF av mk v ar (cm, fl) i).2) ||| ((1 : Int32) <<< ((nI i) &&& 31))), regsB D z0 z1 z2 z3 z4 v f g r] : List va_W).flatten) i rfl (by omega) (by decide) (Foc.trans (Foc.at1 0 rfl rfl (ce rfl rfl)) (Foc.cell 3 rfl rfl (ce rfl (ce rfl (ce rfl (ce rfl (ce rfl (ce rfl rfl)))))))) dX0_comeIfDue_49 (fun H locs hw => ?_)
            refine r_iincN (lv' := [(2, .int (nI (i + 1))), (0, .ref x0), (1, .ref z0)]) hx hb i 1 rfl dX0_comeIfDue_50 hl (k := 2) rfl rfl (by decide) rfl (fun ls hl => ?_)
            refine lv_goto (tgt := 2) hx hb dX0_comeIfDue_53 (by decide) ?_
            exact ih2 (i + 1) (by omega) (by omega) _ _ _ (by rw [show cmF av mk v ar (cm, fl) (i + 1) = (upd ((cmF av mk v ar (cm, fl) i).1) i ((((cmF av mk v ar (cm, fl) i).1) i) + 1), ((cmF av mk v ar (cm, fl) i).2) ||| ((1 : Int32) <<< ((nI i) &&& 31))) from (by show cmS av mk v ar _ i = _; unfold cmS; rw [if_pos c2]; rw [if_neg c3])]; exact hw) (lv_sub hl [1, 2, 0] rfl)
  exact key2 4 0 (by omega) (by omega) _ _ _ hw (lv_sub hl [1, 2, 0] rfl)

def caN (cm : Row) : Nat → Int32
  | 0 => 0
  | i + 1 => caN cm i + cm i

set_option maxRecDepth 100000 in
set_option maxHeartbeats 4000000 in
theorem c_X0_cameInAll (l : Launch) (D : va_G) (sz : Nat) (x0 : Nat) (x1 : Nat) (x2 : Nat) (x3 : Nat) (w : Nat → Nat) (av : Nat → Row) (mk : Row) (cm : Row) (ar : Int32) (fl : Int32) : MI l yX0_cameInAll cX0_cameInAll 3 (some .int) 0 0 D sz [.ref x0] (alB D x0 x1 x2 x3 w av mk cm ar fl) (caN cm 3) (alB D x0 x1 x2 x3 w av mk cm ar fl) := by
  refine r_enterI (by decide) (Nat.le_of_ble_eq_true rfl) ?_
  intro p e st m args below meth c ls A X hret hk hw hl
  have X : CX D p m c cX0_cameInAll 3 st args RX0 A := X
  have hx := X.1.1
  have hb := X.1.2.1
  have hown := X.1.2.2.2.1
  have hts := X.1.2.2.2.2
  have hl : lv_has ls 3 [(0, .ref x0)] := hl
  refine lv_iconst (v := 0) hx hb dX0_cameInAll_0 (by decide) ?_
  refine lv_istore_n (lv' := [(1, .int 0), (0, .ref x0)]) hx hb dX0_cameInAll_1 rfl hl (by decide) rfl (fun ls hl => ?_)
  refine lv_iconst (v := 0) hx hb dX0_cameInAll_2 (by decide) ?_
  refine lv_istore_n (lv' := [(2, .int 0), (1, .int 0), (0, .ref x0)]) hx hb dX0_cameInAll_3 rfl hl (by decide) rfl (fun ls hl => ?_)
  have key4 : ∀ (n4 : Nat) (i : Nat) (x : Int32), (i ≤ 3) → (3 - i < n4) → (x = caN cm i) → ∀ (H : Heap) (locs : List Loc) (ls : Array Slot), Wd D A st.heap H locs (alB D x0 x1 x2 x3 w av mk cm ar fl) → lv_has ls 3 [(0, .ref x0), (1, .int x), (2, .int (nI i))] → W p l e (rmOf 0 0 0 0) st m args below meth c H locs 0 0 (QI below args st D A (caN cm 3) (alB D x0 x1 x2 x3 w av mk cm ar fl)) (F0 m 4 ls []) := by
    intro n4
    induction n4 with
    | zero => intro i x hi hm hx0; omega
    | succ n4 ih4 =>
      intro i x hi hm hx0 H locs ls hw hl
      refine lv_iload_n hx hb dX0_cameInAll_4 rfl (lv_at hl 2 rfl) ?_
      refine lv_iconst (v := 3) hx hb dX0_cameInAll_5 (by decide) ?_
      refine r_geN (tgt := 24) hx hb i 3 rfl rfl (by omega) (by omega) dX0_cameInAll_6 (by decide) (fun c1 => ?_) (fun c1 => ?_)
      · skip
        refine lv_iload_n hx hb dX0_cameInAll_24 rfl (lv_at hl 1 rfl) ?_
        exact r_ret X hw hk hret rfl (by rw [hx0, show i = 3 from by omega]) rfl dX0_cameInAll_25
      · skip
        refine lv_iload_n hx hb dX0_cameInAll_9 rfl (lv_at hl 1 rfl) ?_
        refine lv_aload_n hx hb dX0_cameInAll_10 rfl (lv_at hl 0 rfl) ?_
        refine r_get X hw (v := .ref x3) fl_X0_20 (m_at 0 rfl) rfl dX0_cameInAll_11 ?_
        refine lv_iload_n hx hb dX0_cameInAll_14 rfl (lv_at hl 2 rfl) ?_
        refine r_iald X hw (f := cm) i (m_at 3 rfl) rfl (by omega) (by decide) dX0_cameInAll_15 ?_
        refine lv_iadd hx hb dX0_cameInAll_16 ?_
        refine lv_istore_n (lv' := [(1, .int (x + (cm i))), (0, .ref x0), (2, .int (nI i))]) hx hb dX0_cameInAll_17 rfl hl (by decide) rfl (fun ls hl => ?_)
        refine r_iincN (lv' := [(2, .int (nI (i + 1))), (1, .int (x + (cm i))), (0, .ref x0)]) hx hb i 1 rfl dX0_cameInAll_18 hl (k := 2) rfl rfl (by decide) rfl (fun ls hl => ?_)
        refine lv_goto (tgt := 4) hx hb dX0_cameInAll_21 (by decide) ?_
        exact ih4 (i + 1) (x + (cm i)) (by omega) (by omega) (by rw [hx0]; rfl) _ _ _ hw (lv_sub hl [2, 1, 0] rfl)
  exact key4 4 0 0 (by omega) (by omega) rfl _ _ _ hw (lv_sub hl [2, 1, 0] rfl)

set_option maxRecDepth 100000 in
set_option maxHeartbeats 4000000 in
theorem c_X0_copyFrom (l : Launch) (D : va_G) (sz : Nat) (x0 : Nat) (x1 : Nat) (x2 : Nat) (x3 : Nat) (w : Nat → Nat) (av : Nat → Row) (mk : Row) (cm : Row) (ar : Int32) (fl : Int32) (x0' : Nat) (x1' : Nat) (x2' : Nat) (x3' : Nat) (w' : Nat → Nat) (av' : Nat → Row) (mk' : Row) (cm' : Row) (ar' : Int32) (fl' : Int32) : MV l yX0_copyFrom cX0_copyFrom 3 1 60 D sz [.ref x0, .ref x0'] (([alB D x0 x1 x2 x3 w av mk cm ar fl, alB D x0' x1' x2' x3' w' av' mk' cm' ar' fl'] : List va_W).flatten) (([alB D x0 x1 x2 x3 w (cpR av' av 5 3) (va_cpy mk' mk 0 0 3) (va_cpy cm' cm 0 0 3) ar' fl', alB D x0' x1' x2' x3' w' av' mk' cm' ar' fl'] : List va_W).flatten) := by
  refine r_enterV (by decide) (Nat.le_of_ble_eq_true rfl) ?_
  intro p e st m args below meth c ls A X hret hk hw hl
  have X : CX D p m c cX0_copyFrom 3 st args RX0 A := X
  have hx := X.1.1
  have hb := X.1.2.1
  have hown := X.1.2.2.2.1
  have hts := X.1.2.2.2.2
  have hl : lv_has ls 3 [(0, .ref x0), (1, .ref x0')] := hl
  refine lv_iconst (v := 0) hx hb dX0_copyFrom_0 (by decide) ?_
  refine lv_istore_n (lv' := [(2, .int 0), (0, .ref x0), (1, .ref x0')]) hx hb dX0_copyFrom_1 rfl hl (by decide) rfl (fun ls hl => ?_)
  have key2 : ∀ (n2 : Nat) (i : Nat), (i ≤ 3) → (3 - i < n2) → ∀ (H : Heap) (locs : List Loc) (ls : Array Slot), Wd D A st.heap H locs (([alB D x0 x1 x2 x3 w (cpR av' av 5 i) mk cm ar fl, alB D x0' x1' x2' x3' w' av' mk' cm' ar' fl'] : List va_W).flatten) → lv_has ls 3 [(0, .ref x0), (1, .ref x0'), (2, .int (nI i))] → W p l e (rmOf 1 0 0 60) st m args below meth c H locs 0 0 (QV below args st D A (([alB D x0 x1 x2 x3 w (cpR av' av 5 3) (va_cpy mk' mk 0 0 3) (va_cpy cm' cm 0 0 3) ar' fl', alB D x0' x1' x2' x3' w' av' mk' cm' ar' fl'] : List va_W).flatten)) (F0 m 2 ls []) := by
    intro n2
    induction n2 with
    | zero => intro i hi hm; omega
    | succ n2 ih2 =>
      intro i hi hm H locs ls hw hl
      refine lv_iload_n hx hb dX0_copyFrom_2 rfl (lv_at hl 2 rfl) ?_
      refine lv_iconst (v := 3) hx hb dX0_copyFrom_3 (by decide) ?_
      refine r_geN (tgt := 31) hx hb i 3 rfl rfl (by omega) (by omega) dX0_copyFrom_4 (by decide) (fun c1 => ?_) (fun c1 => ?_)
      · skip
        have hi9 : i = 3 := by omega
        subst hi9
        refine lv_aload_n hx hb dX0_copyFrom_31 rfl (lv_at hl 1 rfl) ?_
        refine r_get X hw (v := .ref x2') fl_X0_16 (m_fl 1 rfl (m_at 0 rfl)) rfl dX0_copyFrom_32 ?_
        refine lv_iconst (v := 0) hx hb dX0_copyFrom_35 (by decide) ?_
        refine lv_aload_n hx hb dX0_copyFrom_36 rfl (lv_at hl 0 rfl) ?_
        refine r_get X hw (v := .ref x2) fl_X0_16 (m_fl 0 rfl (m_at 0 rfl)) rfl dX0_copyFrom_37 ?_
        refine lv_iconst (v := 0) hx hb dX0_copyFrom_40 (by decide) ?_
        refine lv_iconst (v := 3) hx hb dX0_copyFrom_41 (by decide) ?_
        refine r_copy X hw (f := mk') (ws' := ([alB D x0 x1 x2 x3 w (cpR av' av 5 3) (va_cpy mk' mk 0 0 3) cm ar fl, alB D x0' x1' x2' x3' w' av' mk' cm' ar' fl'] : List va_W).flatten) 0 0 3 ac_X0_23 (m_fl 1 rfl (m_at 2 rfl)) rfl rfl rfl (by decide) (by decide) (by decide) (by decide) (Foc.trans (Foc.at1 0 rfl rfl (ce rfl rfl)) (Foc.cell 2 rfl rfl (ce rfl (ce rfl (ce rfl (ce rfl (ce rfl (ce rfl rfl)))))))) hl.1 ⟨Nat.le_of_ble_eq_true rfl, by decide⟩ dX0_copyFrom_42 (fun H locs hw => ?_)
        refine lv_aload_n hx hb dX0_copyFrom_45 rfl (lv_at hl 1 rfl) ?_
        refine r_get X hw (v := .ref x3') fl_X0_20 (m_fl 1 rfl (m_at 0 rfl)) rfl dX0_copyFrom_46 ?_
        refine lv_iconst (v := 0) hx hb dX0_copyFrom_49 (by decide) ?_
        refine lv_aload_n hx hb dX0_copyFrom_50 rfl (lv_at hl 0 rfl) ?_
        refine r_get X hw (v := .ref x3) fl_X0_20 (m_fl 0 rfl (m_at 0 rfl)) rfl dX0_copyFrom_51 ?_
        refine lv_iconst (v := 0) hx hb dX0_copyFrom_54 (by decide) ?_
        refine lv_iconst (v := 3) hx hb dX0_copyFrom_55 (by decide) ?_
        refine r_copy X hw (f := cm') (ws' := ([alB D x0 x1 x2 x3 w (cpR av' av 5 3) (va_cpy mk' mk 0 0 3) (va_cpy cm' cm 0 0 3) ar fl, alB D x0' x1' x2' x3' w' av' mk' cm' ar' fl'] : List va_W).flatten) 0 0 3 ac_X0_23 (m_fl 1 rfl (m_at 3 rfl)) rfl rfl rfl (by decide) (by decide) (by decide) (by decide) (Foc.trans (Foc.at1 0 rfl rfl (ce rfl rfl)) (Foc.cell 3 rfl rfl (ce rfl (ce rfl (ce rfl (ce rfl (ce rfl (ce rfl rfl)))))))) hl.1 ⟨Nat.le_of_ble_eq_true rfl, by decide⟩ dX0_copyFrom_56 (fun H locs hw => ?_)
        refine lv_aload_n hx hb dX0_copyFrom_59 rfl (lv_at hl 0 rfl) ?_
        refine lv_aload_n hx hb dX0_copyFrom_60 rfl (lv_at hl 1 rfl) ?_
        refine r_get X hw (v := .int ar') fl_X0_29 (m_fl 1 rfl (m_at 0 rfl)) rfl dX0_copyFrom_61 ?_
        refine r_puti X hw (ws' := ([alB D x0 x1 x2 x3 w (cpR av' av 5 3) (va_cpy mk' mk 0 0 3) (va_cpy cm' cm 0 0 3) ar' fl, alB D x0' x1' x2' x3' w' av' mk' cm' ar' fl'] : List va_W).flatten) fp_X0_29 (Nat.le_of_ble_eq_true rfl) (Foc.trans (Foc.at1 0 rfl rfl (ce rfl rfl)) (Foc.cell 0 rfl rfl (ce rfl (ce rfl (ce rfl (ce rfl (ce rfl (ce rfl rfl)))))))) dX0_copyFrom_64 (fun H locs hw => ?_)
        refine lv_aload_n hx hb dX0_copyFrom_67 rfl (lv_at hl 0 rfl) ?_
        refine lv_aload_n hx hb dX0_copyFrom_68 rfl (lv_at hl 1 rfl) ?_
        refine r_get X hw (v := .int fl') fl_X0_33 (m_fl 1 rfl (m_at 0 rfl)) rfl dX0_copyFrom_69 ?_
        refine r_puti X hw (ws' := ([alB D x0 x1 x2 x3 w (cpR av' av 5 3) (va_cpy mk' mk 0 0 3) (va_cpy cm' cm 0 0 3) ar' fl', alB D x0' x1' x2' x3' w' av' mk' cm' ar' fl'] : List va_W).flatten) fp_X0_33 (Nat.le_of_ble_eq_true rfl) (Foc.trans (Foc.at1 0 rfl rfl (ce rfl rfl)) (Foc.cell 0 rfl rfl (ce rfl (ce rfl (ce rfl (ce rfl (ce rfl (ce rfl rfl)))))))) dX0_copyFrom_72 (fun H locs hw => ?_)
        exact r_retV X hw hk hret rfl dX0_copyFrom_75
      · skip
        refine lv_aload_n hx hb dX0_copyFrom_7 rfl (lv_at hl 1 rfl) ?_
        refine r_get X hw (v := .ref x1') fl_X0_11 (m_fl 1 rfl (m_at 0 rfl)) rfl dX0_copyFrom_8 ?_
        refine lv_iload_n hx hb dX0_copyFrom_11 rfl (lv_at hl 2 rfl) ?_
        refine r_ald2 X hw (q := w' i) i (m_fl 1 rfl (m_at 1 rfl)) rfl (by omega) (by decide) (if_pos (by omega)) dX0_copyFrom_12 ?_
        refine lv_iconst (v := 0) hx hb dX0_copyFrom_13 (by decide) ?_
        refine lv_aload_n hx hb dX0_copyFrom_14 rfl (lv_at hl 0 rfl) ?_
        refine r_get X hw (v := .ref x1) fl_X0_11 (m_fl 0 rfl (m_at 0 rfl)) rfl dX0_copyFrom_15 ?_
        refine lv_iload_n hx hb dX0_copyFrom_18 rfl (lv_at hl 2 rfl) ?_
        refine r_ald2 X hw (q := w i) i (m_fl 0 rfl (m_at 1 rfl)) rfl (by omega) (by decide) (if_pos (by omega)) dX0_copyFrom_19 ?_
        refine lv_iconst (v := 0) hx hb dX0_copyFrom_20 (by decide) ?_
        refine lv_iconst (v := 5) hx hb dX0_copyFrom_21 (by decide) ?_
        refine r_copy X hw (f := av' i) (ws' := ([alB D x0 x1 x2 x3 w (upR (cpR av' av 5 i) i (va_cpy (av' i) ((cpR av' av 5 i) i) 0 0 5)) mk cm ar fl, alB D x0' x1' x2' x3' w' av' mk' cm' ar' fl'] : List va_W).flatten) 0 0 5 ac_X0_23 (m_fl 1 rfl (al_row_m (by omega))) rfl rfl rfl (by decide) (by decide) (by decide) (by decide) (Foc.trans (Foc.at1 0 rfl rfl (ce rfl rfl)) (al_row_f (by omega))) hl.1 ⟨Nat.le_of_ble_eq_true rfl, by decide⟩ dX0_copyFrom_22 (fun H locs hw => ?_)
        refine r_iincN (lv' := [(2, .int (nI (i + 1))), (0, .ref x0), (1, .ref x0')]) hx hb i 1 rfl dX0_copyFrom_25 hl (k := 2) rfl rfl (by decide) rfl (fun ls hl => ?_)
        refine lv_goto (tgt := 2) hx hb dX0_copyFrom_28 (by decide) ?_
        exact ih2 (i + 1) (by omega) (by omega) _ _ _ (by rw [← cpR_step]; exact hw) (lv_sub hl [1, 2, 0] rfl)
  exact key2 4 0 (by omega) (by omega) _ _ _ (by rw [cpR_0]; exact hw) (lv_sub hl [1, 2, 0] rfl)

set_option maxRecDepth 100000 in
set_option maxHeartbeats 4000000 in
theorem c_X2_copyFrom (l : Launch) (D : va_G) (sz : Nat) (x0 : Nat) (x1 : Nat) (w : Nat → Nat) (en : Nat → Row) (la : Int32) (zs : Int32) (x0' : Nat) (x1' : Nat) (w' : Nat → Nat) (en' : Nat → Row) (la' : Int32) (zs' : Int32) : MV l yX2_copyFrom cX2_copyFrom 3 1 60 D sz [.ref x0, .ref x0'] (([lgB D x0 x1 w en la zs, lgB D x0' x1' w' en' la' zs'] : List va_W).flatten) (([lgB D x0 x1 w (cpR en' en 10 6) la' zs', lgB D x0' x1' w' en' la' zs'] : List va_W).flatten) := by
  refine r_enterV (by decide) (Nat.le_of_ble_eq_true rfl) ?_
  intro p e st m args below meth c ls A X hret hk hw hl
  have X : CX D p m c cX2_copyFrom 3 st args RX2 A := X
  have hx := X.1.1
  have hb := X.1.2.1
  have hown := X.1.2.2.2.1
  have hts := X.1.2.2.2.2
  have hl : lv_has ls 3 [(0, .ref x0), (1, .ref x0')] := hl
  refine lv_iconst (v := 0) hx hb dX2_copyFrom_0 (by decide) ?_
  refine lv_istore_n (lv' := [(2, .int 0), (0, .ref x0), (1, .ref x0')]) hx hb dX2_copyFrom_1 rfl hl (by decide) rfl (fun ls hl => ?_)
  have key2 : ∀ (n2 : Nat) (i : Nat), (i ≤ 6) → (6 - i < n2) → ∀ (H : Heap) (locs : List Loc) (ls : Array Slot), Wd D A st.heap H locs (([lgB D x0 x1 w (cpR en' en 10 i) la zs, lgB D x0' x1' w' en' la' zs'] : List va_W).flatten) → lv_has ls 3 [(0, .ref x0), (1, .ref x0'), (2, .int (nI i))] → W p l e (rmOf 1 0 0 60) st m args below meth c H locs 0 0 (QV below args st D A (([lgB D x0 x1 w (cpR en' en 10 6) la' zs', lgB D x0' x1' w' en' la' zs'] : List va_W).flatten)) (F0 m 2 ls []) := by
    intro n2
    induction n2 with
    | zero => intro i hi hm; omega
    | succ n2 ih2 =>
      intro i hi hm H locs ls hw hl
      refine lv_iload_n hx hb dX2_copyFrom_2 rfl (lv_at hl 2 rfl) ?_
      refine lv_bipush (v := 6) hx hb dX2_copyFrom_3 (by decide) ?_
      refine r_geN (tgt := 33) hx hb i 6 rfl rfl (by omega) (by omega) dX2_copyFrom_5 (by decide) (fun c1 => ?_) (fun c1 => ?_)
      · skip
        have hi9 : i = 6 := by omega
        subst hi9
        refine lv_aload_n hx hb dX2_copyFrom_33 rfl (lv_at hl 0 rfl) ?_
        refine lv_aload_n hx hb dX2_copyFrom_34 rfl (lv_at hl 1 rfl) ?_
        refine r_get X hw (v := .int la') fl_X2_22 (m_fl 1 rfl (m_at 0 rfl)) rfl dX2_copyFrom_35 ?_
        refine r_puti X hw (ws' := ([lgB D x0 x1 w (cpR en' en 10 6) la' zs, lgB D x0' x1' w' en' la' zs'] : List va_W).flatten) fp_X2_22 (Nat.le_of_ble_eq_true rfl) (Foc.trans (Foc.at1 0 rfl rfl (ce rfl rfl)) (Foc.cell 0 rfl rfl (ce rfl (ce rfl (ce rfl (ce rfl (ce rfl (ce rfl (ce rfl rfl))))))))) dX2_copyFrom_38 (fun H locs hw => ?_)
        refine lv_aload_n hx hb dX2_copyFrom_41 rfl (lv_at hl 0 rfl) ?_
        refine lv_aload_n hx hb dX2_copyFrom_42 rfl (lv_at hl 1 rfl) ?_
        refine r_get X hw (v := .int zs') fl_X2_26 (m_fl 1 rfl (m_at 0 rfl)) rfl dX2_copyFrom_43 ?_
        refine r_puti X hw (ws' := ([lgB D x0 x1 w (cpR en' en 10 6) la' zs', lgB D x0' x1' w' en' la' zs'] : List va_W).flatten) fp_X2_26 (Nat.le_of_ble_eq_true rfl) (Foc.trans (Foc.at1 0 rfl rfl (ce rfl rfl)) (Foc.cell 0 rfl rfl (ce rfl (ce rfl (ce rfl (ce rfl (ce rfl (ce rfl (ce rfl rfl))))))))) dX2_copyFrom_46 (fun H locs hw => ?_)
        exact r_retV X hw hk hret rfl dX2_copyFrom_49
      · skip
        refine lv_aload_n hx hb dX2_copyFrom_8 rfl (lv_at hl 1 rfl) ?_
        refine r_get X hw (v := .ref x1') fl_X2_11 (m_fl 1 rfl (m_at 0 rfl)) rfl dX2_copyFrom_9 ?_
        refine lv_iload_n hx hb dX2_copyFrom_12 rfl (lv_at hl 2 rfl) ?_
        refine r_ald2 X hw (q := w' i) i (m_fl 1 rfl (m_at 1 rfl)) rfl (by omega) (by decide) (if_pos (by omega)) dX2_copyFrom_13 ?_
        refine lv_iconst (v := 0) hx hb dX2_copyFrom_14 (by decide) ?_
        refine lv_aload_n hx hb dX2_copyFrom_15 rfl (lv_at hl 0 rfl) ?_
        refine r_get X hw (v := .ref x1) fl_X2_11 (m_fl 0 rfl (m_at 0 rfl)) rfl dX2_copyFrom_16 ?_
        refine lv_iload_n hx hb dX2_copyFrom_19 rfl (lv_at hl 2 rfl) ?_
        refine r_ald2 X hw (q := w i) i (m_fl 0 rfl (m_at 1 rfl)) rfl (by omega) (by decide) (if_pos (by omega)) dX2_copyFrom_20 ?_
        refine lv_iconst (v := 0) hx hb dX2_copyFrom_21 (by decide) ?_
        refine lv_bipush (v := 10) hx hb dX2_copyFrom_22 (by decide) ?_
        refine r_copy X hw (f := en' i) (ws' := ([lgB D x0 x1 w (upR (cpR en' en 10 i) i (va_cpy (en' i) ((cpR en' en 10 i) i) 0 0 10)) la zs, lgB D x0' x1' w' en' la' zs'] : List va_W).flatten) 0 0 10 ac_X2_16 (m_fl 1 rfl (lg_row_m (by omega))) rfl rfl rfl (by decide) (by decide) (by decide) (by decide) (Foc.trans (Foc.at1 0 rfl rfl (ce rfl rfl)) (lg_row_f (by omega))) hl.1 ⟨Nat.le_of_ble_eq_true rfl, by decide⟩ dX2_copyFrom_24 (fun H locs hw => ?_)
        refine r_iincN (lv' := [(2, .int (nI (i + 1))), (0, .ref x0), (1, .ref x0')]) hx hb i 1 rfl dX2_copyFrom_27 hl (k := 2) rfl rfl (by decide) rfl (fun ls hl => ?_)
        refine lv_goto (tgt := 2) hx hb dX2_copyFrom_30 (by decide) ?_
        exact ih2 (i + 1) (by omega) (by omega) _ _ _ (by rw [← cpR_step]; exact hw) (lv_sub hl [1, 2, 0] rfl)
  exact key2 7 0 (by omega) (by omega) _ _ _ (by rw [cpR_0]; exact hw) (lv_sub hl [1, 2, 0] rfl)
