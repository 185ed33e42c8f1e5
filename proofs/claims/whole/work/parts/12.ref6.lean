/-! bursts of the reference: at once, again, what was shown, what is logged -/
theorem phN_nat (s : Row) : ∀ n, ∃ m, m ≤ n ∧ phN s n = nI m
  | 0 => ⟨0, Nat.le_refl 0, rfl⟩
  | n + 1 => by
    obtain ⟨m, h1, h2⟩ := phN_nat s n
    by_cases h : (sp_X7_phase (phF s n)).1 = 0
    · exact ⟨m, by omega, by show phN s n + _ = _; rw [if_pos h, h2]; exact nI_add m 0⟩
    · exact ⟨m + 1, by omega, by show phN s n + _ = _; rw [if_neg h, h2]; exact nI_1 m⟩
theorem phN_ge (s : Row) (n : Nat) (hn : n < 2147483648) : 0 ≤ phN s n := by
  obtain ⟨m, h1, h2⟩ := phN_nat s n
  rw [h2]
  exact nI_pos' (by omega)
theorem phN_nlt (s : Row) (n : Nat) (hn : n < 2147483648) : ¬ phN s n < 0 := by
  obtain ⟨m, h1, h2⟩ := phN_nat s n
  rw [h2]
  exact nI_pos (by omega)
theorem phF_ok {s : Row} {z q : Nat} : ∀ (n : Nat) {p : Nat}, rOK s p z q → ∃ p', rOK (phF s n) p' z q
  | 0, p, h => ⟨p, h⟩
  | n + 1, p, h => by
    obtain ⟨p', h2⟩ := phF_ok n h
    rcases phase_ok h2 with ⟨-, h3⟩ | ⟨-, h3, -⟩
    · exact ⟨_, h3⟩
    · exact ⟨_, h3⟩

set_option maxRecDepth 100000 in
set_option maxHeartbeats 4000000 in
theorem c_X7_readsAtOnce (l : Launch) (D : va_G) (sz : Nat) (L : Nat → Nat) (s pa : Row) (P ru : Int32) (td ah sh : Row) (n0 : Int32) (o8 : Row) (o9 : Int32) (o10 : Row) (o11 : Int32) (o12 : Int32) (o13 : Int32) (o14 : Int32) (o15 : Int32) (o16 : Int32) (o17 : Row) (o18 : Row) (p z q : Nat) (hok : rOK s p z q) : MV l yX7_readsAtOnce cX7_readsAtOnce 2 12 261 D sz [.ref (L 0)] (mW D L s pa P ru td ah sh n0 o8 o9 o10 o11 o12 o13 o14 o15 o16 o17 o18) (mW D L (phF s (7 * q)) pa P ru (va_cpy s td 0 0 7) ah (va_cpy s sh 0 (7 * 0) 7) 1 o8 o9 o10 o11 o12 o13 o14 o15 o16 o17 o18) := by
  refine r_enterV (by decide) (Nat.le_of_ble_eq_true rfl) ?_
  intro p e st m args below meth c ls A X hret hk hw hl
  have X : CX D p m c cX7_readsAtOnce 2 st args RX7 A := X
  have hx := X.1.1
  have hb := X.1.2.1
  have hown := X.1.2.2.2.1
  have hts := X.1.2.2.2.2
  have hl : lv_has ls 2 [(0, .ref (L 0))] := hl
  refine lv_aload_n hx hb dX7_readsAtOnce_0 rfl (lv_at hl 0 rfl) ?_
  refine lv_iconst (v := 0) hx hb dX7_readsAtOnce_1 (by decide) ?_
  refine r_puti X hw (ws' := mW D L s pa P ru td ah sh 0 o8 o9 o10 o11 o12 o13 o14 o15 o16 o17 o18) fp_X7_114 (Nat.le_of_ble_eq_true rfl) (Foc.cell 0 rfl rfl (ce rfl (ce rfl (ce rfl (ce rfl (ce rfl (ce rfl (ce rfl (ce rfl (ce rfl rfl)))))))))) dX7_readsAtOnce_2 (fun H locs hw => ?_)
  refine lv_aload_n hx hb dX7_readsAtOnce_5 rfl (lv_at hl 0 rfl) ?_
  refine r_callVv X hw (ws' := mW D L s pa P ru td ah (va_cpy s sh 0 (7 * 0) 7) (nI (0 + 1)) o8 o9 o10 o11 o12 o13 o14 o15 o16 o17 o18) (As := []) (rest := []) lk_X7_117 (c_X7_shows l D _ L s pa P ru td ah sh 0 o8 o9 o10 o11 o12 o13 o14 o15 o16 o17 o18 (by omega)) Foc.all (m_at 0 rfl) rfl hl.1 (Nat.le_of_ble_eq_true rfl) ⟨Nat.le_of_ble_eq_true rfl, Nat.le_of_ble_eq_true rfl⟩ rfl dX7_readsAtOnce_6 ⟨Nat.le_refl _, Nat.le_refl _⟩ (fun H locs hw => ?_)
  refine lv_iconst (v := 0) hx hb dX7_readsAtOnce_9 (by decide) ?_
  refine lv_istore_n (lv' := [(1, .int 0), (0, .ref (L 0))]) hx hb dX7_readsAtOnce_10 rfl hl (by decide) rfl (fun ls hl => ?_)
  have key11 : ∀ (n11 : Nat) (i : Nat), (i ≤ 7) → (7 - i < n11) → ∀ (H : Heap) (locs : List Loc) (ls : Array Slot), Wd D A st.heap H locs (mW D L s pa P ru (va_cpy s td 0 0 i) ah (va_cpy s sh 0 (7 * 0) 7) 1 o8 o9 o10 o11 o12 o13 o14 o15 o16 o17 o18) → lv_has ls 2 [(0, .ref (L 0)), (1, .int (nI i))] → W p l e (rmOf 12 0 0 261) st m args below meth c H locs 0 0 (QV below args st D A (mW D L (phF s (7 * q)) pa P ru (va_cpy s td 0 0 7) ah (va_cpy s sh 0 (7 * 0) 7) 1 o8 o9 o10 o11 o12 o13 o14 o15 o16 o17 o18)) (F0 m 11 ls []) := by
    intro n11
    induction n11 with
    | zero => intro i hi hm; omega
    | succ n11 ih11 =>
      intro i hi hm H locs ls hw hl
      have hq8 := hok.2.2.2.2.2.2
      refine lv_iload_n hx hb dX7_readsAtOnce_11 rfl (lv_at hl 1 rfl) ?_
      refine lv_bipush (v := 7) hx hb dX7_readsAtOnce_12 (by decide) ?_
      refine r_geN (tgt := 37) hx hb i 7 rfl rfl (by omega) (by omega) dX7_readsAtOnce_14 (by decide) (fun c1 => ?_) (fun c1 => ?_)
      · skip
        refine lv_aload_n hx hb dX7_readsAtOnce_37 rfl (lv_at hl 0 rfl) ?_
        refine lv_dup hx hb dX7_readsAtOnce_38 rfl ?_
        refine r_get X hw (v := .int 1) fl_X7_114 (m_at 0 rfl) rfl dX7_readsAtOnce_39 ?_
        refine lv_aload_n hx hb dX7_readsAtOnce_42 rfl (lv_at hl 0 rfl) ?_
        refine lv_bipush (v := 7) hx hb dX7_readsAtOnce_43 (by decide) ?_
        refine lv_aload_n hx hb dX7_readsAtOnce_45 rfl (lv_at hl 0 rfl) ?_
        refine r_get X hw (v := .ref (L 1)) fl_X7_7 (m_at 0 rfl) rfl dX7_readsAtOnce_46 ?_
        refine lv_bipush (v := 37) hx hb dX7_readsAtOnce_49 (by decide) ?_
        refine r_iald X hw (f := s) 37 (m_at 1 rfl) rfl (by decide) (by decide) dX7_readsAtOnce_51 ?_
        rw [hok.2.2.1]
        refine r_mulN hx hb 7 q rfl rfl dX7_readsAtOnce_52 ?_
        refine r_callV X hw (ws' := mW D L (phF s (7 * q)) pa P ru (va_cpy s td 0 0 i) ah (va_cpy s sh 0 (7 * 0) 7) 1 o8 o9 o10 o11 o12 o13 o14 o15 o16 o17 o18) (As := [.int (nI (7 * q))]) (rest := [.int 1, .ref (L 0)]) lk_X7_110 (c_X7_passes l D _ L s pa P ru (va_cpy s td 0 0 i) ah (va_cpy s sh 0 (7 * 0) 7) 1 o8 o9 o10 o11 o12 o13 o14 o15 o16 o17 o18 (7 * q) (by omega)) Foc.all (m_at 0 rfl) rfl hl.1 (Nat.le_of_ble_eq_true rfl) ⟨Nat.le_of_ble_eq_true rfl, Nat.le_of_ble_eq_true rfl⟩ rfl dX7_readsAtOnce_53 ⟨Nat.le_refl _, Nat.le_refl _⟩ (fun H locs hw => ?_)
        refine lv_if_ge (tgt := 63) hx hb dX7_readsAtOnce_56 (by decide) (fun _ => ?_) (fun h => absurd (phN_ge s (7 * q) (by omega)) h)
        refine lv_iconst (v := 0) hx hb dX7_readsAtOnce_63 (by decide) ?_
        refine lv_isub hx hb dX7_readsAtOnce_64 ?_
        refine r_puti X hw (ws' := mW D L (phF s (7 * q)) pa P ru (va_cpy s td 0 0 i) ah (va_cpy s sh 0 (7 * 0) 7) (1 - 0) o8 o9 o10 o11 o12 o13 o14 o15 o16 o17 o18) fp_X7_114 (Nat.le_of_ble_eq_true rfl) (Foc.cell 0 rfl rfl (ce rfl (ce rfl (ce rfl (ce rfl (ce rfl (ce rfl (ce rfl (ce rfl (ce rfl rfl)))))))))) dX7_readsAtOnce_65 (fun H locs hw => ?_)
        exact r_retV X hw hk hret (by rw [show i = 7 from by omega, show (1 - 0 : Int32) = 1 from by decide]) dX7_readsAtOnce_68
      · skip
        refine lv_aload_n hx hb dX7_readsAtOnce_17 rfl (lv_at hl 0 rfl) ?_
        refine r_get X hw (v := .ref (L 6)) fl_X7_25 (m_at 0 rfl) rfl dX7_readsAtOnce_18 ?_
        refine lv_iload_n hx hb dX7_readsAtOnce_21 rfl (lv_at hl 1 rfl) ?_
        refine lv_aload_n hx hb dX7_readsAtOnce_22 rfl (lv_at hl 0 rfl) ?_
        refine r_get X hw (v := .ref (L 1)) fl_X7_7 (m_at 0 rfl) rfl dX7_readsAtOnce_23 ?_
        refine lv_iconst (v := 0) hx hb dX7_readsAtOnce_26 (by decide) ?_
        refine lv_iload_n hx hb dX7_readsAtOnce_27 rfl (lv_at hl 1 rfl) ?_
        refine r_addN hx hb 0 i rfl rfl dX7_readsAtOnce_28 ?_
        refine r_iald X hw (f := s) (0 + i) (m_at 1 rfl) rfl (by omega) (by decide) dX7_readsAtOnce_29 ?_
        refine r_iast X hw (ws' := mW D L s pa P ru (upd (va_cpy s td 0 0 i) i (s (0 + i))) ah (va_cpy s sh 0 (7 * 0) 7) 1 o8 o9 o10 o11 o12 o13 o14 o15 o16 o17 o18) i rfl (by omega) (by decide) (Foc.cell 6 rfl rfl (ce rfl (ce rfl (ce rfl (ce rfl (ce rfl (ce rfl (ce rfl (ce rfl (ce rfl rfl)))))))))) dX7_readsAtOnce_30 (fun H locs hw => ?_)
        refine r_iincN (lv' := [(1, .int (nI (i + 1))), (0, .ref (L 0))]) hx hb i 1 rfl dX7_readsAtOnce_31 hl (k := 1) rfl rfl (by decide) rfl (fun ls hl => ?_)
        refine lv_goto (tgt := 11) hx hb dX7_readsAtOnce_34 (by decide) ?_
        exact ih11 (i + 1) (by omega) (by omega) _ _ _ (by rw [← cpy_step00, show s i = s (0 + i) from by rw [Nat.zero_add]]; exact hw) (lv_sub hl [1, 0] rfl)
  exact key11 8 0 (by omega) (by omega) _ _ _ (by rw [cpy_0]; exact hw) (lv_sub hl [1, 0] rfl)

noncomputable def sp_X7_isAsAhead (td ah : Row) : Int32 := bI (∀ r, r < 7 → td r = ah r)
theorem bo_X7_isAsAhead (td ah : Row) : sp_X7_isAsAhead td ah = 0 ∨ sp_X7_isAsAhead td ah = 1 := bI_b _
noncomputable def sp_X7_wasShown (td sh : Row) (n : Nat) : Int32 := bI (∃ k, k < n ∧ ∀ r, r < 7 → td r = sh (7 * k + r))
theorem bo_X7_wasShown (td sh : Row) (n : Nat) : sp_X7_wasShown td sh n = 0 ∨ sp_X7_wasShown td sh n = 1 := bI_b _

set_option maxRecDepth 100000 in
set_option maxHeartbeats 4000000 in
theorem c_X7_isAsAhead (l : Launch) (D : va_G) (sz : Nat) (L : Nat → Nat) (s pa : Row) (P ru : Int32) (td ah sh : Row) (n0 : Int32) (o8 : Row) (o9 : Int32) (o10 : Row) (o11 : Int32) (o12 : Int32) (o13 : Int32) (o14 : Int32) (o15 : Int32) (o16 : Int32) (o17 : Row) (o18 : Row) : MI l yX7_isAsAhead cX7_isAsAhead 3 (some .boolean) 0 0 D sz [.ref (L 0)] (mW D L s pa P ru td ah sh n0 o8 o9 o10 o11 o12 o13 o14 o15 o16 o17 o18) (sp_X7_isAsAhead td ah) (mW D L s pa P ru td ah sh n0 o8 o9 o10 o11 o12 o13 o14 o15 o16 o17 o18) := by
  refine r_enterI (by decide) (Nat.le_of_ble_eq_true rfl) ?_
  intro p e st m args below meth c ls A X hret hk hw hl
  have X : CX D p m c cX7_isAsAhead 3 st args RX7 A := X
  have hx := X.1.1
  have hb := X.1.2.1
  have hown := X.1.2.2.2.1
  have hts := X.1.2.2.2.2
  have hl : lv_has ls 3 [(0, .ref (L 0))] := hl
  refine lv_iconst (v := 1) hx hb dX7_isAsAhead_0 (by decide) ?_
  refine lv_istore_n (lv' := [(1, .int 1), (0, .ref (L 0))]) hx hb dX7_isAsAhead_1 rfl hl (by decide) rfl (fun ls hl => ?_)
  refine lv_iconst (v := 0) hx hb dX7_isAsAhead_2 (by decide) ?_
  refine lv_istore_n (lv' := [(2, .int 0), (1, .int 1), (0, .ref (L 0))]) hx hb dX7_isAsAhead_3 rfl hl (by decide) rfl (fun ls hl => ?_)
  have key4 : ∀ (n4 : Nat) (i : Nat) (x : Int32), (i ≤ 7) → (7 - i < n4) → (BI x (∀ r, r < i → td r = ah r)) → ∀ (H : Heap) (locs : List Loc) (ls : Array Slot), Wd D A st.heap H locs (mW D L s pa P ru td ah sh n0 o8 o9 o10 o11 o12 o13 o14 o15 o16 o17 o18) → lv_has ls 3 [(0, .ref (L 0)), (1, .int x), (2, .int (nI i))] → W p l e (rmOf 0 0 0 0) st m args below meth c H locs 0 0 (QI below args st D A (sp_X7_isAsAhead td ah) (mW D L s pa P ru td ah sh n0 o8 o9 o10 o11 o12 o13 o14 o15 o16 o17 o18)) (F0 m 4 ls []) := by
    intro n4
    induction n4 with
    | zero => intro i x hi hm hB; omega
    | succ n4 ih4 =>
      intro i x hi hm hB H locs ls hw hl
      refine lv_iload_n hx hb dX7_isAsAhead_4 rfl (lv_at hl 2 rfl) ?_
      refine lv_bipush (v := 7) hx hb dX7_isAsAhead_5 (by decide) ?_
      refine r_geN (tgt := 41) hx hb i 7 rfl rfl (by omega) (by omega) dX7_isAsAhead_7 (by decide) (fun c1 => ?_) (fun c1 => ?_)
      · skip
        refine lv_iload_n hx hb dX7_isAsAhead_41 rfl (lv_at hl 1 rfl) ?_
        exact r_ret X hw hk hret (nar_b (bi_b hB)) (by rw [show i = 7 from by omega] at hB; exact bi_end hB) rfl dX7_isAsAhead_42
      · skip
        refine lv_iload_n hx hb dX7_isAsAhead_10 rfl (lv_at hl 1 rfl) ?_
        refine lv_if_eq (tgt := 33) hx hb dX7_isAsAhead_11 (by decide) (fun c2 => ?_) (fun c2 => ?_)
        · skip
          refine lv_iconst (v := 0) hx hb dX7_isAsAhead_33 (by decide) ?_
          refine lv_istore_n (lv' := [(1, .int 0), (0, .ref (L 0)), (2, .int (nI i))]) hx hb dX7_isAsAhead_34 rfl hl (by decide) rfl (fun ls hl => ?_)
          refine r_iincN (lv' := [(2, .int (nI (i + 1))), (1, .int 0), (0, .ref (L 0))]) hx hb i 1 rfl dX7_isAsAhead_35 hl (k := 2) rfl rfl (by decide) rfl (fun ls hl => ?_)
          refine lv_goto (tgt := 4) hx hb dX7_isAsAhead_38 (by decide) ?_
          exact ih4 (i + 1) 0 (by omega) (by omega) (bi_f0 hB c2) _ _ _ hw (lv_sub hl [2, 1, 0] rfl)
        · skip
          refine lv_aload_n hx hb dX7_isAsAhead_14 rfl (lv_at hl 0 rfl) ?_
          refine r_get X hw (v := .ref (L 6)) fl_X7_25 (m_at 0 rfl) rfl dX7_isAsAhead_15 ?_
          refine lv_iload_n hx hb dX7_isAsAhead_18 rfl (lv_at hl 2 rfl) ?_
          refine r_iald X hw (f := td) i (m_at 6 rfl) rfl (by omega) (by decide) dX7_isAsAhead_19 ?_
          refine lv_aload_n hx hb dX7_isAsAhead_20 rfl (lv_at hl 0 rfl) ?_
          refine r_get X hw (v := .ref (L 7)) fl_X7_28 (m_at 0 rfl) rfl dX7_isAsAhead_21 ?_
          refine lv_iload_n hx hb dX7_isAsAhead_24 rfl (lv_at hl 2 rfl) ?_
          refine r_iald X hw (f := ah) i (m_at 7 rfl) rfl (by omega) (by decide) dX7_isAsAhead_25 ?_
          refine lv_icmp_ne (tgt := 33) hx hb dX7_isAsAhead_26 (by decide) (fun c3 => ?_) (fun c3 => ?_)
          · skip
            refine lv_iconst (v := 0) hx hb dX7_isAsAhead_33 (by decide) ?_
            refine lv_istore_n (lv' := [(1, .int 0), (0, .ref (L 0)), (2, .int (nI i))]) hx hb dX7_isAsAhead_34 rfl hl (by decide) rfl (fun ls hl => ?_)
            refine r_iincN (lv' := [(2, .int (nI (i + 1))), (1, .int 0), (0, .ref (L 0))]) hx hb i 1 rfl dX7_isAsAhead_35 hl (k := 2) rfl rfl (by decide) rfl (fun ls hl => ?_)
            refine lv_goto (tgt := 4) hx hb dX7_isAsAhead_38 (by decide) ?_
            exact ih4 (i + 1) 0 (by omega) (by omega) (bi_f (x := x) c3) _ _ _ hw (lv_sub hl [2, 1, 0] rfl)
          · skip
            refine lv_iconst (v := 1) hx hb dX7_isAsAhead_29 (by decide) ?_
            refine lv_goto (tgt := 34) hx hb dX7_isAsAhead_30 (by decide) ?_
            refine lv_istore_n (lv' := [(1, .int 1), (0, .ref (L 0)), (2, .int (nI i))]) hx hb dX7_isAsAhead_34 rfl hl (by decide) rfl (fun ls hl => ?_)
            refine r_iincN (lv' := [(2, .int (nI (i + 1))), (1, .int 1), (0, .ref (L 0))]) hx hb i 1 rfl dX7_isAsAhead_35 hl (k := 2) rfl rfl (by decide) rfl (fun ls hl => ?_)
            refine lv_goto (tgt := 4) hx hb dX7_isAsAhead_38 (by decide) ?_
            exact ih4 (i + 1) 1 (by omega) (by omega) (bi_t hB c2 c3) _ _ _ hw (lv_sub hl [2, 1, 0] rfl)
  exact key4 8 0 1 (by omega) (by omega) bi_0 _ _ _ hw (lv_sub hl [2, 1, 0] rfl)

set_option maxRecDepth 100000 in
set_option maxHeartbeats 4000000 in
theorem c_X7_wasShown (l : Launch) (D : va_G) (sz : Nat) (L : Nat → Nat) (s pa : Row) (P ru : Int32) (td ah sh : Row) (n : Nat) (o8 : Row) (o9 : Int32) (o10 : Row) (o11 : Int32) (o12 : Int32) (o13 : Int32) (o14 : Int32) (o15 : Int32) (o16 : Int32) (o17 : Row) (o18 : Row) (hn : n ≤ 15) : MI l yX7_wasShown cX7_wasShown 4 (some .boolean) 0 0 D sz [.ref (L 0)] (mW D L s pa P ru td ah sh (nI n) o8 o9 o10 o11 o12 o13 o14 o15 o16 o17 o18) (sp_X7_wasShown td sh n) (mW D L s pa P ru td ah sh (nI n) o8 o9 o10 o11 o12 o13 o14 o15 o16 o17 o18) := by
  refine r_enterI (by decide) (Nat.le_of_ble_eq_true rfl) ?_
  intro p e st m args below meth c ls A X hret hk hw hl
  have X : CX D p m c cX7_wasShown 4 st args RX7 A := X
  have hx := X.1.1
  have hb := X.1.2.1
  have hown := X.1.2.2.2.1
  have hts := X.1.2.2.2.2
  have hl : lv_has ls 4 [(0, .ref (L 0))] := hl
  refine lv_iconst (v := 0) hx hb dX7_wasShown_0 (by decide) ?_
  refine lv_istore_n (lv' := [(1, .int 0), (0, .ref (L 0))]) hx hb dX7_wasShown_1 rfl hl (by decide) rfl (fun ls hl => ?_)
  have key2 : ∀ (n2 : Nat) (k : Nat), (k ≤ n) → (n - k < n2) → (∀ j, j < k → ¬ ∀ r, r < 7 → td r = sh (7 * j + r)) → ∀ (H : Heap) (locs : List Loc) (ls : Array Slot), Wd D A st.heap H locs (mW D L s pa P ru td ah sh (nI n) o8 o9 o10 o11 o12 o13 o14 o15 o16 o17 o18) → lv_has ls 4 [(0, .ref (L 0)), (1, .int (nI k))] → W p l e (rmOf 0 0 0 0) st m args below meth c H locs 0 0 (QI below args st D A (sp_X7_wasShown td sh n) (mW D L s pa P ru td ah sh (nI n) o8 o9 o10 o11 o12 o13 o14 o15 o16 o17 o18)) (F0 m 2 ls []) := by
    intro n2
    induction n2 with
    | zero => intro k hk1 hm hno; omega
    | succ n2 ih2 =>
      intro k hk1 hm hno H locs ls hw hl
      refine lv_iload_n hx hb dX7_wasShown_2 rfl (lv_at hl 1 rfl) ?_
      refine lv_aload_n hx hb dX7_wasShown_3 rfl (lv_at hl 0 rfl) ?_
      refine r_get X hw (v := .int (nI n)) fl_X7_114 (m_at 0 rfl) rfl dX7_wasShown_4 ?_
      refine r_geN (tgt := 68) hx hb k n rfl rfl (by omega) (by omega) dX7_wasShown_7 (by decide) (fun c1 => ?_) (fun c1 => ?_)
      · skip
        refine lv_iconst (v := 0) hx hb dX7_wasShown_68 (by decide) ?_
        exact r_ret X hw hk hret rfl (by refine (bI_f ?_).symm; rintro ⟨j, hj, g⟩; exact hno j (by omega) g) rfl dX7_wasShown_69
      · skip
        refine lv_iconst (v := 1) hx hb dX7_wasShown_10 (by decide) ?_
        refine lv_istore_n (lv' := [(2, .int 1), (0, .ref (L 0)), (1, .int (nI k))]) hx hb dX7_wasShown_11 rfl hl (by decide) rfl (fun ls hl => ?_)
        refine lv_iconst (v := 0) hx hb dX7_wasShown_12 (by decide) ?_
        refine lv_istore_n (lv' := [(3, .int 0), (2, .int 1), (0, .ref (L 0)), (1, .int (nI k))]) hx hb dX7_wasShown_13 rfl hl (by decide) rfl (fun ls hl => ?_)
        have key14 : ∀ (n14 : Nat) (i : Nat) (x : Int32), (i ≤ 7) → (7 - i < n14) → (BI x (∀ r, r < i → td r = sh (7 * k + r))) → ∀ (H : Heap) (locs : List Loc) (ls : Array Slot), Wd D A st.heap H locs (mW D L s pa P ru td ah sh (nI n) o8 o9 o10 o11 o12 o13 o14 o15 o16 o17 o18) → lv_has ls 4 [(0, .ref (L 0)), (1, .int (nI k)), (2, .int x), (3, .int (nI i))] → W p l e (rmOf 0 0 0 0) st m args below meth c H locs 0 0 (QI below args st D A (sp_X7_wasShown td sh n) (mW D L s pa P ru td ah sh (nI n) o8 o9 o10 o11 o12 o13 o14 o15 o16 o17 o18)) (F0 m 14 ls []) := by
          intro n14
          induction n14 with
          | zero => intro i x hi hm2 hB; omega
          | succ n14 ih14 =>
            intro i x hi hm2 hB H locs ls hw hl
            refine lv_iload_n hx hb dX7_wasShown_14 rfl (lv_at hl 3 rfl) ?_
            refine lv_bipush (v := 7) hx hb dX7_wasShown_15 (by decide) ?_
            refine r_geN (tgt := 56) hx hb i 7 rfl rfl (by omega) (by omega) dX7_wasShown_17 (by decide) (fun c2 => ?_) (fun c2 => ?_)
            · skip
              refine lv_iload_n hx hb dX7_wasShown_56 rfl (lv_at hl 2 rfl) ?_
              refine lv_if_eq (tgt := 62) hx hb dX7_wasShown_57 (by decide) (fun c3 => ?_) (fun c3 => ?_)
              · skip
                refine r_iincN (lv' := [(1, .int (nI (k + 1))), (0, .ref (L 0)), (2, .int x), (3, .int (nI i))]) hx hb k 1 rfl dX7_wasShown_62 hl (k := 1) rfl rfl (by decide) rfl (fun ls hl => ?_)
                refine lv_goto (tgt := 2) hx hb dX7_wasShown_65 (by decide) ?_
                exact ih2 (k + 1) (by omega) (by omega) (fun j hj => by rcases Nat.lt_succ_iff_lt_or_eq.mp hj with q | q; exact hno j q; subst q; rw [show i = 7 from by omega] at hB; rcases hB with ⟨g, -⟩ | ⟨-, g⟩; exact absurd (g.symm.trans c3) (by decide); exact g) _ _ _ hw (lv_sub hl [1, 0] rfl)
              · skip
                refine lv_iconst (v := 1) hx hb dX7_wasShown_60 (by decide) ?_
                exact r_ret X hw hk hret rfl (by rw [show i = 7 from by omega] at hB; rcases hB with ⟨-, g⟩ | ⟨g, -⟩; exact (bI_t ⟨k, by omega, g⟩).symm; exact absurd g c3) rfl dX7_wasShown_61
            · skip
              refine lv_iload_n hx hb dX7_wasShown_20 rfl (lv_at hl 2 rfl) ?_
              refine lv_if_eq (tgt := 48) hx hb dX7_wasShown_21 (by decide) (fun c4 => ?_) (fun c4 => ?_)
              · skip
                refine lv_iconst (v := 0) hx hb dX7_wasShown_48 (by decide) ?_
                refine lv_istore_n (lv' := [(2, .int 0), (0, .ref (L 0)), (1, .int (nI k)), (3, .int (nI i))]) hx hb dX7_wasShown_49 rfl hl (by decide) rfl (fun ls hl => ?_)
                refine r_iincN (lv' := [(3, .int (nI (i + 1))), (2, .int 0), (0, .ref (L 0)), (1, .int (nI k))]) hx hb i 1 rfl dX7_wasShown_50 hl (k := 3) rfl rfl (by decide) rfl (fun ls hl => ?_)
                refine lv_goto (tgt := 14) hx hb dX7_wasShown_53 (by decide) ?_
                exact ih14 (i + 1) 0 (by omega) (by omega) (bi_f0 hB c4) _ _ _ hw (lv_sub hl [2, 3, 1, 0] rfl)
              · skip
                refine lv_aload_n hx hb dX7_wasShown_24 rfl (lv_at hl 0 rfl) ?_
                refine r_get X hw (v := .ref (L 6)) fl_X7_25 (m_at 0 rfl) rfl dX7_wasShown_25 ?_
                refine lv_iload_n hx hb dX7_wasShown_28 rfl (lv_at hl 3 rfl) ?_
                refine r_iald X hw (f := td) i (m_at 6 rfl) rfl (by omega) (by decide) dX7_wasShown_29 ?_
                refine lv_aload_n hx hb dX7_wasShown_30 rfl (lv_at hl 0 rfl) ?_
                refine r_get X hw (v := .ref (L 8)) fl_X7_31 (m_at 0 rfl) rfl dX7_wasShown_31 ?_
                refine lv_bipush (v := 7) hx hb dX7_wasShown_34 (by decide) ?_
                refine lv_iload_n hx hb dX7_wasShown_36 rfl (lv_at hl 1 rfl) ?_
                refine r_mulN hx hb 7 k rfl rfl dX7_wasShown_37 ?_
                refine lv_iload_n hx hb dX7_wasShown_38 rfl (lv_at hl 3 rfl) ?_
                refine r_addN hx hb (7 * k) i rfl rfl dX7_wasShown_39 ?_
                refine r_iald X hw (f := sh) (7 * k + i) (m_at 8 rfl) rfl (by omega) (by decide) dX7_wasShown_40 ?_
                refine lv_icmp_ne (tgt := 48) hx hb dX7_wasShown_41 (by decide) (fun c5 => ?_) (fun c5 => ?_)
                · skip
                  refine lv_iconst (v := 0) hx hb dX7_wasShown_48 (by decide) ?_
                  refine lv_istore_n (lv' := [(2, .int 0), (0, .ref (L 0)), (1, .int (nI k)), (3, .int (nI i))]) hx hb dX7_wasShown_49 rfl hl (by decide) rfl (fun ls hl => ?_)
                  refine r_iincN (lv' := [(3, .int (nI (i + 1))), (2, .int 0), (0, .ref (L 0)), (1, .int (nI k))]) hx hb i 1 rfl dX7_wasShown_50 hl (k := 3) rfl rfl (by decide) rfl (fun ls hl => ?_)
                  refine lv_goto (tgt := 14) hx hb dX7_wasShown_53 (by decide) ?_
                  exact ih14 (i + 1) 0 (by omega) (by omega) (bi_f (x := x) c5) _ _ _ hw (lv_sub hl [2, 3, 1, 0] rfl)
                · skip
                  refine lv_iconst (v := 1) hx hb dX7_wasShown_44 (by decide) ?_
                  refine lv_goto (tgt := 49) hx hb dX7_wasShown_45 (by decide) ?_
                  refine lv_istore_n (lv' := [(2, .int 1), (0, .ref (L 0)), (1, .int (nI k)), (3, .int (nI i))]) hx hb dX7_wasShown_49 rfl hl (by decide) rfl (fun ls hl => ?_)
                  refine r_iincN (lv' := [(3, .int (nI (i + 1))), (2, .int 1), (0, .ref (L 0)), (1, .int (nI k))]) hx hb i 1 rfl dX7_wasShown_50 hl (k := 3) rfl rfl (by decide) rfl (fun ls hl => ?_)
                  refine lv_goto (tgt := 14) hx hb dX7_wasShown_53 (by decide) ?_
                  exact ih14 (i + 1) 1 (by omega) (by omega) (bi_t hB c4 c5) _ _ _ hw (lv_sub hl [2, 3, 1, 0] rfl)
        exact key14 8 0 1 (by omega) (by omega) bi_0 _ _ _ hw (lv_sub hl [2, 3, 1, 0] rfl)
  exact key2 (n + 1) 0 (by omega) (by omega) (fun j hj => absurd hj (Nat.not_lt_zero j)) _ _ _ hw (lv_sub hl [1, 0] rfl)
