/-- signs of a text -/
def chOK (tx : Row) : Prop := ∀ j, narrow .char (.int (tx j)) = .int (tx j) ∧ fits .char (.int (tx j)) = true

theorem ps_1 {tx : Row} {e9 r i q : Nat} {nu : Row} (h : eo tx e9 q = q) : ps tx e9 (r + 1) i q nu = (1, eo tx e9 q, upd nu i (nuF tx q (eo tx e9 q - q))) := if_pos h
theorem ps_2 {tx : Row} {e9 r i q : Nat} {nu : Row} (h : ¬ eo tx e9 q = q) (h2 : e9 ≤ eo tx e9 q) : ps tx e9 (r + 1) i q nu = (1, eo tx e9 q, upd nu i (nuF tx q (eo tx e9 q - q))) := (if_neg h).trans (if_pos h2)
theorem ps_3 {tx : Row} {e9 r i q : Nat} {nu : Row} (h : ¬ eo tx e9 q = q) (h2 : ¬ e9 ≤ eo tx e9 q) (h3 : ¬ tx (eo tx e9 q) = sep r) : ps tx e9 (r + 1) i q nu = (1, eo tx e9 q, upd nu i (nuF tx q (eo tx e9 q - q))) := (if_neg h).trans ((if_neg h2).trans (if_neg h3))
theorem ps_s {tx : Row} {e9 r i q : Nat} {nu : Row} (h : ¬ eo tx e9 q = q) (h2 : ¬ e9 ≤ eo tx e9 q) (h3 : tx (eo tx e9 q) = sep r) : ps tx e9 (r + 1) i q nu = ps tx e9 r (i + 1) (eo tx e9 q + 1) (upd nu i (nuF tx q (eo tx e9 q - q))) := (if_neg h).trans ((if_neg h2).trans (if_pos h3))
theorem pso_0 {tx : Row} {e9 q : Nat} {nu : Row} (h : nbC (tx q) = 0) : pso tx e9 q nu = (1, q, nu) := if_pos h
theorem pso_m {tx : Row} {e9 q m : Nat} {nu : Row} {R : Int32 × Nat × Row} (h : nbC (tx q) = m + 1) (hc : ps tx e9 (m + 1) 0 (q + 1) nu = R) : pso tx e9 q nu = R := by
  unfold pso
  rw [if_neg (by rw [h]; exact Nat.succ_ne_zero m), h]
  exact hc
noncomputable def psB (tx : Row) (e9 : Nat) (b : Int32) (r i q : Nat) (nu : Row) : Int32 × Nat × Row := if b = 0 then ps tx e9 r i q nu else (b, q, nu)
theorem psB_0 {tx : Row} {e9 r i q : Nat} {nu : Row} : psB tx e9 0 r i q nu = ps tx e9 r i q nu := if_pos rfl
theorem psB_1 {tx : Row} {e9 r i q : Nat} {nu : Row} : psB tx e9 1 r i q nu = (1, q, nu) := if_neg (by decide)
theorem psB_n {tx : Row} {e9 r i q : Nat} {nu : Row} {b : Int32} (h : ¬ b = 0) : psB tx e9 b r i q nu = (b, q, nu) := if_neg h
theorem psB_z {tx : Row} {e9 r i q : Nat} {nu : Row} {b : Int32} (h : r = 0) : psB tx e9 b r i q nu = (b, q, nu) := by
  subst h
  unfold psB
  split
  · next g => rw [g]; rfl
  · rfl
theorem psB_s {tx : Row} {e9 r i q : Nat} {nu : Row} {b : Int32} {R : Int32 × Nat × Row} (h : b = 0) (hc : ps tx e9 r i q nu = R) : psB tx e9 b r i q nu = R := (if_pos h).trans hc

set_option maxRecDepth 100000 in
set_option maxHeartbeats 4000000 in
theorem c_X4_parse (l : Launch) (D : va_G) (sz : Nat) (x0 : Nat) (x1 : Nat) (nu : Row) (lt : Int32) (br : Int32) (le : Int32) (t : Nat) (tx : Row) (e9 q : Nat) (he9 : e9 ≤ 60) (hq9 : q < e9) (htx : chOK tx) : MV l yX4_parse cX4_parse 9 1 24 D sz [.ref x0, .ref t, .int (nI e9), .int (nI q)] (([orB D x0 x1 nu lt br le, [(t, .inl (D.1 101, 60, .inl tx))]] : List va_W).flatten) (([orB D x0 x1 ((pso tx e9 q nu).2.2) (tx q) ((pso tx e9 q nu).1) (nI ((pso tx e9 q nu).2.1 - q)), [(t, .inl (D.1 101, 60, .inl tx))]] : List va_W).flatten) := by
  refine r_enterV (by decide) (Nat.le_of_ble_eq_true rfl) ?_
  intro p e st m args below meth c ls A X hret hk hw hl
  have X : CX D p m c cX4_parse 9 st args RX4 A := X
  have hx := X.1.1
  have hb := X.1.2.1
  have hown := X.1.2.2.2.1
  have hts := X.1.2.2.2.2
  have hl : lv_has ls 9 [(0, .ref x0), (1, .ref t), (2, .int (nI e9)), (3, .int (nI q))] := hl
  have key47 : ∀ (n47 : Nat) (mw r i a : Nat) (nu9 : Row) (b : Int32), (mw ≤ 3) → (i + r = mw) → (q ≤ a ∧ a ≤ e9) → (r < n47) → (psB tx e9 b r i a nu9 = pso tx e9 q nu) → ∀ (H : Heap) (locs : List Loc) (ls : Array Slot), Wd D A st.heap H locs (([orB D x0 x1 nu9 (tx q) b le, [(t, .inl (D.1 101, 60, .inl tx))]] : List va_W).flatten) → lv_has ls 9 [(0, .ref x0), (1, .ref t), (2, .int (nI e9)), (3, .int (nI q)), (4, .int (nI mw)), (5, .int (nI a)), (6, .int (nI i))] → W p l e (rmOf 1 0 0 24) st m args below meth c H locs 0 0 (QV below args st D A (([orB D x0 x1 ((pso tx e9 q nu).2.2) (tx q) ((pso tx e9 q nu).1) (nI ((pso tx e9 q nu).2.1 - q)), [(t, .inl (D.1 101, 60, .inl tx))]] : List va_W).flatten)) (F0 m 47 ls []) := by
    intro n47
    induction n47 with
    | zero => intro mw r i a nu9 b hm3 hir hqa hm9 hR; omega
    | succ n47 ih47 =>
      intro mw r i a nu9 b hm3 hir hqa hm9 hR H locs ls hw hl
      refine lv_iload hx hb dX4_parse_47 (lv_at hl 6 rfl) ?_
      refine lv_iload hx hb dX4_parse_49 (lv_at hl 4 rfl) ?_
      refine r_geN (tgt := 158) hx hb i mw rfl rfl (by omega) (by omega) dX4_parse_51 (by decide) (fun c1 => ?_) (fun c1 => ?_)
      · skip
        refine lv_aload_n hx hb dX4_parse_158 rfl (lv_at hl 0 rfl) ?_
        refine lv_iload hx hb dX4_parse_159 (lv_at hl 5 rfl) ?_
        refine lv_iload_n hx hb dX4_parse_161 rfl (lv_at hl 3 rfl) ?_
        refine r_subN hx hb a q rfl rfl (by omega) dX4_parse_162 ?_
        refine r_puti X hw (ws' := ([orB D x0 x1 nu9 (tx q) b (nI (a - q)), [(t, .inl (D.1 101, 60, .inl tx))]] : List va_W).flatten) fp_X4_32 (Nat.le_of_ble_eq_true rfl) (Foc.trans (Foc.at1 0 rfl rfl (ce rfl rfl)) (Foc.cell 0 rfl rfl (ce rfl rfl))) dX4_parse_163 (fun H locs hw => ?_)
        exact r_retV X hw hk hret (by rw [show pso tx e9 q nu = (b, a, nu9) from hR.symm.trans (psB_z (by omega))]) dX4_parse_166
      · skip
        obtain ⟨r, rfl⟩ : ∃ r9, r = r9 + 1 := ⟨r - 1, by omega⟩
        refine lv_aload_n hx hb dX4_parse_54 rfl (lv_at hl 0 rfl) ?_
        refine r_get X hw (v := .int b) fl_X4_21 (m_fl 0 rfl (m_at 0 rfl)) rfl dX4_parse_55 ?_
        refine lv_if_ne (tgt := 158) hx hb dX4_parse_58 (by decide) (fun c2 => ?_) (fun c2 => ?_)
        · skip
          refine lv_aload_n hx hb dX4_parse_158 rfl (lv_at hl 0 rfl) ?_
          refine lv_iload hx hb dX4_parse_159 (lv_at hl 5 rfl) ?_
          refine lv_iload_n hx hb dX4_parse_161 rfl (lv_at hl 3 rfl) ?_
          refine r_subN hx hb a q rfl rfl (by omega) dX4_parse_162 ?_
          refine r_puti X hw (ws' := ([orB D x0 x1 nu9 (tx q) b (nI (a - q)), [(t, .inl (D.1 101, 60, .inl tx))]] : List va_W).flatten) fp_X4_32 (Nat.le_of_ble_eq_true rfl) (Foc.trans (Foc.at1 0 rfl rfl (ce rfl rfl)) (Foc.cell 0 rfl rfl (ce rfl rfl))) dX4_parse_163 (fun H locs hw => ?_)
          exact r_retV X hw hk hret (by rw [show pso tx e9 q nu = (b, a, nu9) from hR.symm.trans (psB_n c2)]) dX4_parse_166
        · skip
          refine lv_aload_n hx hb dX4_parse_61 rfl (lv_at hl 1 rfl) ?_
          refine lv_iload_n hx hb dX4_parse_62 rfl (lv_at hl 2 rfl) ?_
          refine lv_iload hx hb dX4_parse_63 (lv_at hl 5 rfl) ?_
          have hbq3 := eo_b tx (show a ≤ e9 from by omega)
          refine r_callS X hw (ws' := ([orB D x0 x1 nu9 (tx q) b le, [(t, .inl (D.1 101, 60, .inl tx))]] : List va_W).flatten) (As := [.ref t, .int (nI e9), .int (nI a)]) (rest := []) lk_X4_25 (c_X4_endOfDigits l D _ t tx e9 a (by omega) (by omega)) (Foc.trans (Foc.at1 1 rfl rfl (ce rfl rfl)) (Foc.cell 0 rfl rfl rfl)) rfl hl.1 (Nat.le_of_ble_eq_true rfl) ⟨Nat.le_of_ble_eq_true rfl, Nat.le_of_ble_eq_true rfl⟩ rfl dX4_parse_65 ⟨Nat.le_refl _, Nat.le_refl _⟩ (fun H locs hw => ?_)
          refine lv_istore (lv' := [(7, .int (nI (eo tx e9 a))), (0, .ref x0), (1, .ref t), (2, .int (nI e9)), (3, .int (nI q)), (4, .int (nI mw)), (5, .int (nI a)), (6, .int (nI i))]) hx hb dX4_parse_68 hl (by decide) rfl (fun ls hl => ?_)
          refine lv_iload hx hb dX4_parse_70 (lv_at hl 7 rfl) ?_
          refine lv_iload hx hb dX4_parse_72 (lv_at hl 5 rfl) ?_
          refine lv_iconst (v := 1) hx hb dX4_parse_74 (by decide) ?_
          refine r_subN hx hb mw 1 rfl rfl (by omega) dX4_parse_75 ?_
          refine r_geN (tgt := 84) hx hb i (mw - 1) rfl rfl (by omega) (by omega) dX4_parse_76 (by decide) (fun c4 => ?_) (fun c4 => ?_)
          · skip
            refine lv_bipush (v := 59) hx hb dX4_parse_84 (by decide) ?_
            refine lv_istore (lv' := [(8, .int 59), (7, .int (nI (eo tx e9 a))), (0, .ref x0), (1, .ref t), (2, .int (nI e9)), (3, .int (nI q)), (4, .int (nI mw)), (5, .int (nI a)), (6, .int (nI i))]) hx hb dX4_parse_86 hl (by decide) rfl (fun ls hl => ?_)
            refine lv_aload_n hx hb dX4_parse_88 rfl (lv_at hl 2 rfl) ?_
            refine lv_iload hx hb dX4_parse_89 (lv_at hl 1 rfl) ?_
            refine lv_iload hx hb dX4_parse_91 (lv_at hl 7 rfl) ?_
            refine r_eqN (tgt := 111) hx hb (eo tx e9 a) a rfl rfl (by omega) (by omega) dX4_parse_93 (by decide) (fun c5 => ?_) (fun c5 => ?_)
            · skip
              refine lv_iconst (v := 1) hx hb dX4_parse_111 (by decide) ?_
              refine lv_goto (tgt := 116) hx hb dX4_parse_112 (by decide) ?_
              refine r_put X hw (ws' := ([orB D x0 x1 nu9 (tx q) 1 le, [(t, .inl (D.1 101, 60, .inl tx))]] : List va_W).flatten) fp_X4_21 rfl rfl (Nat.le_of_ble_eq_true rfl) (Foc.trans (Foc.at1 0 rfl rfl (ce rfl rfl)) (Foc.cell 0 rfl rfl (ce rfl rfl))) dX4_parse_116 (fun H locs hw => ?_)
              refine lv_aload_n hx hb dX4_parse_119 rfl (lv_at hl 2 rfl) ?_
              refine r_get X hw (v := .ref x1) fl_X4_9 (m_fl 0 rfl (m_at 0 rfl)) rfl dX4_parse_120 ?_
              refine lv_iload hx hb dX4_parse_123 (lv_at hl 8 rfl) ?_
              refine lv_aload_n hx hb dX4_parse_125 rfl (lv_at hl 3 rfl) ?_
              refine lv_iload hx hb dX4_parse_126 (lv_at hl 7 rfl) ?_
              refine lv_iload hx hb dX4_parse_128 (lv_at hl 1 rfl) ?_
              refine r_callS X hw (ws' := ([orB D x0 x1 nu9 (tx q) 1 le, [(t, .inl (D.1 101, 60, .inl tx))]] : List va_W).flatten) (As := [.ref t, .int (nI a), .int (nI (eo tx e9 a))]) (rest := [.int (nI i), .ref x1]) lk_X4_29 (c_X4_numberIn l D _ t tx a (eo tx e9 a) (by omega) (by omega)) (Foc.trans (Foc.at1 1 rfl rfl (ce rfl rfl)) (Foc.cell 0 rfl rfl rfl)) rfl hl.1 (Nat.le_of_ble_eq_true rfl) ⟨Nat.le_of_ble_eq_true rfl, Nat.le_of_ble_eq_true rfl⟩ rfl dX4_parse_130 ⟨Nat.le_refl _, Nat.le_refl _⟩ (fun H locs hw => ?_)
              refine r_iast X hw (ws' := ([orB D x0 x1 (upd nu9 i (nuF tx a ((eo tx e9 a) - a))) (tx q) 1 le, [(t, .inl (D.1 101, 60, .inl tx))]] : List va_W).flatten) i rfl (by omega) (by decide) (Foc.trans (Foc.at1 0 rfl rfl (ce rfl rfl)) (Foc.cell 1 rfl rfl (ce rfl rfl))) dX4_parse_133 (fun H locs hw => ?_)
              refine lv_aload_n hx hb dX4_parse_134 rfl (lv_at hl 2 rfl) ?_
              refine r_get X hw (v := .int 1) fl_X4_21 (m_fl 0 rfl (m_at 0 rfl)) rfl dX4_parse_135 ?_
              refine lv_if_eq (tgt := 146) hx hb dX4_parse_138 (by decide) (fun h => absurd h (by decide)) (fun _ => ?_)
              refine lv_iload hx hb dX4_parse_141 (lv_at hl 1 rfl) ?_
              refine lv_goto (tgt := 150) hx hb dX4_parse_143 (by decide) ?_
              refine lv_istore (lv' := [(5, .int (nI (eo tx e9 a))), (8, .int 59), (7, .int (nI (eo tx e9 a))), (0, .ref x0), (1, .ref t), (2, .int (nI e9)), (3, .int (nI q)), (4, .int (nI mw)), (6, .int (nI i))]) hx hb dX4_parse_150 hl (by decide) rfl (fun ls hl => ?_)
              refine r_iincN (lv' := [(6, .int (nI (i + 1))), (5, .int (nI (eo tx e9 a))), (8, .int 59), (7, .int (nI (eo tx e9 a))), (0, .ref x0), (1, .ref t), (2, .int (nI e9)), (3, .int (nI q)), (4, .int (nI mw))]) hx hb i 1 rfl dX4_parse_152 hl (k := 8) rfl rfl (by decide) rfl (fun ls hl => ?_)
              refine lv_goto (tgt := 47) hx hb dX4_parse_155 (by decide) ?_
              exact ih47 mw r (i + 1) (eo tx e9 a) (upd nu9 i (nuF tx a (eo tx e9 a - a))) 1 (by omega) (by omega) (by omega) (by omega) (psB_1.trans ((psB_s c2 (ps_1 c5)).symm.trans hR)) _ _ _ hw (lv_sub hl [4, 5, 6, 7, 8, 1, 0] rfl)
            · skip
              refine lv_iload hx hb dX4_parse_96 (lv_at hl 1 rfl) ?_
              refine lv_iload_n hx hb dX4_parse_98 rfl (lv_at hl 4 rfl) ?_
              refine r_geN (tgt := 111) hx hb (eo tx e9 a) e9 rfl rfl (by omega) (by omega) dX4_parse_99 (by decide) (fun c6 => ?_) (fun c6 => ?_)
              · skip
                refine lv_iconst (v := 1) hx hb dX4_parse_111 (by decide) ?_
                refine lv_goto (tgt := 116) hx hb dX4_parse_112 (by decide) ?_
                refine r_put X hw (ws' := ([orB D x0 x1 nu9 (tx q) 1 le, [(t, .inl (D.1 101, 60, .inl tx))]] : List va_W).flatten) fp_X4_21 rfl rfl (Nat.le_of_ble_eq_true rfl) (Foc.trans (Foc.at1 0 rfl rfl (ce rfl rfl)) (Foc.cell 0 rfl rfl (ce rfl rfl))) dX4_parse_116 (fun H locs hw => ?_)
                refine lv_aload_n hx hb dX4_parse_119 rfl (lv_at hl 2 rfl) ?_
                refine r_get X hw (v := .ref x1) fl_X4_9 (m_fl 0 rfl (m_at 0 rfl)) rfl dX4_parse_120 ?_
                refine lv_iload hx hb dX4_parse_123 (lv_at hl 8 rfl) ?_
                refine lv_aload_n hx hb dX4_parse_125 rfl (lv_at hl 3 rfl) ?_
                refine lv_iload hx hb dX4_parse_126 (lv_at hl 7 rfl) ?_
                refine lv_iload hx hb dX4_parse_128 (lv_at hl 1 rfl) ?_
                refine r_callS X hw (ws' := ([orB D x0 x1 nu9 (tx q) 1 le, [(t, .inl (D.1 101, 60, .inl tx))]] : List va_W).flatten) (As := [.ref t, .int (nI a), .int (nI (eo tx e9 a))]) (rest := [.int (nI i), .ref x1]) lk_X4_29 (c_X4_numberIn l D _ t tx a (eo tx e9 a) (by omega) (by omega)) (Foc.trans (Foc.at1 1 rfl rfl (ce rfl rfl)) (Foc.cell 0 rfl rfl rfl)) rfl hl.1 (Nat.le_of_ble_eq_true rfl) ⟨Nat.le_of_ble_eq_true rfl, Nat.le_of_ble_eq_true rfl⟩ rfl dX4_parse_130 ⟨Nat.le_refl _, Nat.le_refl _⟩ (fun H locs hw => ?_)
                refine r_iast X hw (ws' := ([orB D x0 x1 (upd nu9 i (nuF tx a ((eo tx e9 a) - a))) (tx q) 1 le, [(t, .inl (D.1 101, 60, .inl tx))]] : List va_W).flatten) i rfl (by omega) (by decide) (Foc.trans (Foc.at1 0 rfl rfl (ce rfl rfl)) (Foc.cell 1 rfl rfl (ce rfl rfl))) dX4_parse_133 (fun H locs hw => ?_)
                refine lv_aload_n hx hb dX4_parse_134 rfl (lv_at hl 2 rfl) ?_
                refine r_get X hw (v := .int 1) fl_X4_21 (m_fl 0 rfl (m_at 0 rfl)) rfl dX4_parse_135 ?_
                refine lv_if_eq (tgt := 146) hx hb dX4_parse_138 (by decide) (fun h => absurd h (by decide)) (fun _ => ?_)
                refine lv_iload hx hb dX4_parse_141 (lv_at hl 1 rfl) ?_
                refine lv_goto (tgt := 150) hx hb dX4_parse_143 (by decide) ?_
                refine lv_istore (lv' := [(5, .int (nI (eo tx e9 a))), (8, .int 59), (7, .int (nI (eo tx e9 a))), (0, .ref x0), (1, .ref t), (2, .int (nI e9)), (3, .int (nI q)), (4, .int (nI mw)), (6, .int (nI i))]) hx hb dX4_parse_150 hl (by decide) rfl (fun ls hl => ?_)
                refine r_iincN (lv' := [(6, .int (nI (i + 1))), (5, .int (nI (eo tx e9 a))), (8, .int 59), (7, .int (nI (eo tx e9 a))), (0, .ref x0), (1, .ref t), (2, .int (nI e9)), (3, .int (nI q)), (4, .int (nI mw))]) hx hb i 1 rfl dX4_parse_152 hl (k := 8) rfl rfl (by decide) rfl (fun ls hl => ?_)
                refine lv_goto (tgt := 47) hx hb dX4_parse_155 (by decide) ?_
                exact ih47 mw r (i + 1) (eo tx e9 a) (upd nu9 i (nuF tx a (eo tx e9 a - a))) 1 (by omega) (by omega) (by omega) (by omega) (psB_1.trans ((psB_s c2 (ps_2 c5 c6)).symm.trans hR)) _ _ _ hw (lv_sub hl [4, 5, 6, 7, 8, 1, 0] rfl)
              · skip
                refine lv_aload_n hx hb dX4_parse_102 rfl (lv_at hl 3 rfl) ?_
                refine lv_iload hx hb dX4_parse_103 (lv_at hl 1 rfl) ?_
                refine r_cald X hw (f := tx) (eo tx e9 a) (m_fl 1 rfl (m_at 0 rfl)) rfl (by omega) (by decide) dX4_parse_105 ?_
                refine lv_iload hx hb dX4_parse_106 (lv_at hl 0 rfl) ?_
                refine lv_icmp_eq (tgt := 115) hx hb dX4_parse_108 (by decide) (fun c7 => ?_) (fun c7 => ?_)
                · skip
                  refine lv_iconst (v := 0) hx hb dX4_parse_115 (by decide) ?_
                  refine r_put X hw (ws' := ([orB D x0 x1 nu9 (tx q) 0 le, [(t, .inl (D.1 101, 60, .inl tx))]] : List va_W).flatten) fp_X4_21 rfl rfl (Nat.le_of_ble_eq_true rfl) (Foc.trans (Foc.at1 0 rfl rfl (ce rfl rfl)) (Foc.cell 0 rfl rfl (ce rfl rfl))) dX4_parse_116 (fun H locs hw => ?_)
                  refine lv_aload_n hx hb dX4_parse_119 rfl (lv_at hl 2 rfl) ?_
                  refine r_get X hw (v := .ref x1) fl_X4_9 (m_fl 0 rfl (m_at 0 rfl)) rfl dX4_parse_120 ?_
                  refine lv_iload hx hb dX4_parse_123 (lv_at hl 8 rfl) ?_
                  refine lv_aload_n hx hb dX4_parse_125 rfl (lv_at hl 3 rfl) ?_
                  refine lv_iload hx hb dX4_parse_126 (lv_at hl 7 rfl) ?_
                  refine lv_iload hx hb dX4_parse_128 (lv_at hl 1 rfl) ?_
                  refine r_callS X hw (ws' := ([orB D x0 x1 nu9 (tx q) 0 le, [(t, .inl (D.1 101, 60, .inl tx))]] : List va_W).flatten) (As := [.ref t, .int (nI a), .int (nI (eo tx e9 a))]) (rest := [.int (nI i), .ref x1]) lk_X4_29 (c_X4_numberIn l D _ t tx a (eo tx e9 a) (by omega) (by omega)) (Foc.trans (Foc.at1 1 rfl rfl (ce rfl rfl)) (Foc.cell 0 rfl rfl rfl)) rfl hl.1 (Nat.le_of_ble_eq_true rfl) ⟨Nat.le_of_ble_eq_true rfl, Nat.le_of_ble_eq_true rfl⟩ rfl dX4_parse_130 ⟨Nat.le_refl _, Nat.le_refl _⟩ (fun H locs hw => ?_)
                  refine r_iast X hw (ws' := ([orB D x0 x1 (upd nu9 i (nuF tx a ((eo tx e9 a) - a))) (tx q) 0 le, [(t, .inl (D.1 101, 60, .inl tx))]] : List va_W).flatten) i rfl (by omega) (by decide) (Foc.trans (Foc.at1 0 rfl rfl (ce rfl rfl)) (Foc.cell 1 rfl rfl (ce rfl rfl))) dX4_parse_133 (fun H locs hw => ?_)
                  refine lv_aload_n hx hb dX4_parse_134 rfl (lv_at hl 2 rfl) ?_
                  refine r_get X hw (v := .int 0) fl_X4_21 (m_fl 0 rfl (m_at 0 rfl)) rfl dX4_parse_135 ?_
                  refine lv_if_eq (tgt := 146) hx hb dX4_parse_138 (by decide) (fun _ => ?_) (fun h => absurd (by decide) h)
                  refine lv_iload hx hb dX4_parse_146 (lv_at hl 1 rfl) ?_
                  refine lv_iconst (v := 1) hx hb dX4_parse_148 (by decide) ?_
                  refine r_addN hx hb (eo tx e9 a) 1 rfl rfl dX4_parse_149 ?_
                  refine lv_istore (lv' := [(5, .int (nI (eo tx e9 a + 1))), (8, .int 59), (7, .int (nI (eo tx e9 a))), (0, .ref x0), (1, .ref t), (2, .int (nI e9)), (3, .int (nI q)), (4, .int (nI mw)), (6, .int (nI i))]) hx hb dX4_parse_150 hl (by decide) rfl (fun ls hl => ?_)
                  refine r_iincN (lv' := [(6, .int (nI (i + 1))), (5, .int (nI (eo tx e9 a + 1))), (8, .int 59), (7, .int (nI (eo tx e9 a))), (0, .ref x0), (1, .ref t), (2, .int (nI e9)), (3, .int (nI q)), (4, .int (nI mw))]) hx hb i 1 rfl dX4_parse_152 hl (k := 8) rfl rfl (by decide) rfl (fun ls hl => ?_)
                  refine lv_goto (tgt := 47) hx hb dX4_parse_155 (by decide) ?_
                  exact ih47 mw r (i + 1) (eo tx e9 a + 1) (upd nu9 i (nuF tx a (eo tx e9 a - a))) 0 (by omega) (by omega) (by omega) (by omega) (psB_0.trans ((psB_s c2 (ps_s c5 (Nat.not_le.mpr c6) (by rw [show sep r = 59 from if_pos (by omega)]; exact c7))).symm.trans hR)) _ _ _ hw (lv_sub hl [4, 5, 6, 7, 8, 1, 0] rfl)
                · skip
                  refine lv_iconst (v := 1) hx hb dX4_parse_111 (by decide) ?_
                  refine lv_goto (tgt := 116) hx hb dX4_parse_112 (by decide) ?_
                  refine r_put X hw (ws' := ([orB D x0 x1 nu9 (tx q) 1 le, [(t, .inl (D.1 101, 60, .inl tx))]] : List va_W).flatten) fp_X4_21 rfl rfl (Nat.le_of_ble_eq_true rfl) (Foc.trans (Foc.at1 0 rfl rfl (ce rfl rfl)) (Foc.cell 0 rfl rfl (ce rfl rfl))) dX4_parse_116 (fun H locs hw => ?_)
                  refine lv_aload_n hx hb dX4_parse_119 rfl (lv_at hl 2 rfl) ?_
                  refine r_get X hw (v := .ref x1) fl_X4_9 (m_fl 0 rfl (m_at 0 rfl)) rfl dX4_parse_120 ?_
                  refine lv_iload hx hb dX4_parse_123 (lv_at hl 8 rfl) ?_
                  refine lv_aload_n hx hb dX4_parse_125 rfl (lv_at hl 3 rfl) ?_
                  refine lv_iload hx hb dX4_parse_126 (lv_at hl 7 rfl) ?_
                  refine lv_iload hx hb dX4_parse_128 (lv_at hl 1 rfl) ?_
                  refine r_callS X hw (ws' := ([orB D x0 x1 nu9 (tx q) 1 le, [(t, .inl (D.1 101, 60, .inl tx))]] : List va_W).flatten) (As := [.ref t, .int (nI a), .int (nI (eo tx e9 a))]) (rest := [.int (nI i), .ref x1]) lk_X4_29 (c_X4_numberIn l D _ t tx a (eo tx e9 a) (by omega) (by omega)) (Foc.trans (Foc.at1 1 rfl rfl (ce rfl rfl)) (Foc.cell 0 rfl rfl rfl)) rfl hl.1 (Nat.le_of_ble_eq_true rfl) ⟨Nat.le_of_ble_eq_true rfl, Nat.le_of_ble_eq_true rfl⟩ rfl dX4_parse_130 ⟨Nat.le_refl _, Nat.le_refl _⟩ (fun H locs hw => ?_)
                  refine r_iast X hw (ws' := ([orB D x0 x1 (upd nu9 i (nuF tx a ((eo tx e9 a) - a))) (tx q) 1 le, [(t, .inl (D.1 101, 60, .inl tx))]] : List va_W).flatten) i rfl (by omega) (by decide) (Foc.trans (Foc.at1 0 rfl rfl (ce rfl rfl)) (Foc.cell 1 rfl rfl (ce rfl rfl))) dX4_parse_133 (fun H locs hw => ?_)
                  refine lv_aload_n hx hb dX4_parse_134 rfl (lv_at hl 2 rfl) ?_
                  refine r_get X hw (v := .int 1) fl_X4_21 (m_fl 0 rfl (m_at 0 rfl)) rfl dX4_parse_135 ?_
                  refine lv_if_eq (tgt := 146) hx hb dX4_parse_138 (by decide) (fun h => absurd h (by decide)) (fun _ => ?_)
                  refine lv_iload hx hb dX4_parse_141 (lv_at hl 1 rfl) ?_
                  refine lv_goto (tgt := 150) hx hb dX4_parse_143 (by decide) ?_
                  refine lv_istore (lv' := [(5, .int (nI (eo tx e9 a))), (8, .int 59), (7, .int (nI (eo tx e9 a))), (0, .ref x0), (1, .ref t), (2, .int (nI e9)), (3, .int (nI q)), (4, .int (nI mw)), (6, .int (nI i))]) hx hb dX4_parse_150 hl (by decide) rfl (fun ls hl => ?_)
                  refine r_iincN (lv' := [(6, .int (nI (i + 1))), (5, .int (nI (eo tx e9 a))), (8, .int 59), (7, .int (nI (eo tx e9 a))), (0, .ref x0), (1, .ref t), (2, .int (nI e9)), (3, .int (nI q)), (4, .int (nI mw))]) hx hb i 1 rfl dX4_parse_152 hl (k := 8) rfl rfl (by decide) rfl (fun ls hl => ?_)
                  refine lv_goto (tgt := 47) hx hb dX4_parse_155 (by decide) ?_
                  exact ih47 mw r (i + 1) (eo tx e9 a) (upd nu9 i (nuF tx a (eo tx e9 a - a))) 1 (by omega) (by omega) (by omega) (by omega) (psB_1.trans ((psB_s c2 (ps_3 c5 (Nat.not_le.mpr c6) (by rw [show sep r = 59 from if_pos (by omega)]; exact c7))).symm.trans hR)) _ _ _ hw (lv_sub hl [4, 5, 6, 7, 8, 1, 0] rfl)
          · skip
            refine lv_bipush (v := 44) hx hb dX4_parse_79 (by decide) ?_
            refine lv_goto (tgt := 86) hx hb dX4_parse_81 (by decide) ?_
            refine lv_istore (lv' := [(8, .int 44), (7, .int (nI (eo tx e9 a))), (0, .ref x0), (1, .ref t), (2, .int (nI e9)), (3, .int (nI q)), (4, .int (nI mw)), (5, .int (nI a)), (6, .int (nI i))]) hx hb dX4_parse_86 hl (by decide) rfl (fun ls hl => ?_)
            refine lv_aload_n hx hb dX4_parse_88 rfl (lv_at hl 2 rfl) ?_
            refine lv_iload hx hb dX4_parse_89 (lv_at hl 1 rfl) ?_
            refine lv_iload hx hb dX4_parse_91 (lv_at hl 7 rfl) ?_
            refine r_eqN (tgt := 111) hx hb (eo tx e9 a) a rfl rfl (by omega) (by omega) dX4_parse_93 (by decide) (fun c8 => ?_) (fun c8 => ?_)
            · skip
              refine lv_iconst (v := 1) hx hb dX4_parse_111 (by decide) ?_
              refine lv_goto (tgt := 116) hx hb dX4_parse_112 (by decide) ?_
              refine r_put X hw (ws' := ([orB D x0 x1 nu9 (tx q) 1 le, [(t, .inl (D.1 101, 60, .inl tx))]] : List va_W).flatten) fp_X4_21 rfl rfl (Nat.le_of_ble_eq_true rfl) (Foc.trans (Foc.at1 0 rfl rfl (ce rfl rfl)) (Foc.cell 0 rfl rfl (ce rfl rfl))) dX4_parse_116 (fun H locs hw => ?_)
              refine lv_aload_n hx hb dX4_parse_119 rfl (lv_at hl 2 rfl) ?_
              refine r_get X hw (v := .ref x1) fl_X4_9 (m_fl 0 rfl (m_at 0 rfl)) rfl dX4_parse_120 ?_
              refine lv_iload hx hb dX4_parse_123 (lv_at hl 8 rfl) ?_
              refine lv_aload_n hx hb dX4_parse_125 rfl (lv_at hl 3 rfl) ?_
              refine lv_iload hx hb dX4_parse_126 (lv_at hl 7 rfl) ?_
              refine lv_iload hx hb dX4_parse_128 (lv_at hl 1 rfl) ?_
              refine r_callS X hw (ws' := ([orB D x0 x1 nu9 (tx q) 1 le, [(t, .inl (D.1 101, 60, .inl tx))]] : List va_W).flatten) (As := [.ref t, .int (nI a), .int (nI (eo tx e9 a))]) (rest := [.int (nI i), .ref x1]) lk_X4_29 (c_X4_numberIn l D _ t tx a (eo tx e9 a) (by omega) (by omega)) (Foc.trans (Foc.at1 1 rfl rfl (ce rfl rfl)) (Foc.cell 0 rfl rfl rfl)) rfl hl.1 (Nat.le_of_ble_eq_true rfl) ⟨Nat.le_of_ble_eq_true rfl, Nat.le_of_ble_eq_true rfl⟩ rfl dX4_parse_130 ⟨Nat.le_refl _, Nat.le_refl _⟩ (fun H locs hw => ?_)
              refine r_iast X hw (ws' := ([orB D x0 x1 (upd nu9 i (nuF tx a ((eo tx e9 a) - a))) (tx q) 1 le, [(t, .inl (D.1 101, 60, .inl tx))]] : List va_W).flatten) i rfl (by omega) (by decide) (Foc.trans (Foc.at1 0 rfl rfl (ce rfl rfl)) (Foc.cell 1 rfl rfl (ce rfl rfl))) dX4_parse_133 (fun H locs hw => ?_)
              refine lv_aload_n hx hb dX4_parse_134 rfl (lv_at hl 2 rfl) ?_
              refine r_get X hw (v := .int 1) fl_X4_21 (m_fl 0 rfl (m_at 0 rfl)) rfl dX4_parse_135 ?_
              refine lv_if_eq (tgt := 146) hx hb dX4_parse_138 (by decide) (fun h => absurd h (by decide)) (fun _ => ?_)
              refine lv_iload hx hb dX4_parse_141 (lv_at hl 1 rfl) ?_
              refine lv_goto (tgt := 150) hx hb dX4_parse_143 (by decide) ?_
              refine lv_istore (lv' := [(5, .int (nI (eo tx e9 a))), (8, .int 44), (7, .int (nI (eo tx e9 a))), (0, .ref x0), (1, .ref t), (2, .int (nI e9)), (3, .int (nI q)), (4, .int (nI mw)), (6, .int (nI i))]) hx hb dX4_parse_150 hl (by decide) rfl (fun ls hl => ?_)
              refine r_iincN (lv' := [(6, .int (nI (i + 1))), (5, .int (nI (eo tx e9 a))), (8, .int 44), (7, .int (nI (eo tx e9 a))), (0, .ref x0), (1, .ref t), (2, .int (nI e9)), (3, .int (nI q)), (4, .int (nI mw))]) hx hb i 1 rfl dX4_parse_152 hl (k := 8) rfl rfl (by decide) rfl (fun ls hl => ?_)
              refine lv_goto (tgt := 47) hx hb dX4_parse_155 (by decide) ?_
              exact ih47 mw r (i + 1) (eo tx e9 a) (upd nu9 i (nuF tx a (eo tx e9 a - a))) 1 (by omega) (by omega) (by omega) (by omega) (psB_1.trans ((psB_s c2 (ps_1 c8)).symm.trans hR)) _ _ _ hw (lv_sub hl [4, 5, 6, 7, 8, 1, 0] rfl)
            · skip
              refine lv_iload hx hb dX4_parse_96 (lv_at hl 1 rfl) ?_
              refine lv_iload_n hx hb dX4_parse_98 rfl (lv_at hl 4 rfl) ?_
              refine r_geN (tgt := 111) hx hb (eo tx e9 a) e9 rfl rfl (by omega) (by omega) dX4_parse_99 (by decide) (fun c9 => ?_) (fun c9 => ?_)
              · skip
                refine lv_iconst (v := 1) hx hb dX4_parse_111 (by decide) ?_
                refine lv_goto (tgt := 116) hx hb dX4_parse_112 (by decide) ?_
                refine r_put X hw (ws' := ([orB D x0 x1 nu9 (tx q) 1 le, [(t, .inl (D.1 101, 60, .inl tx))]] : List va_W).flatten) fp_X4_21 rfl rfl (Nat.le_of_ble_eq_true rfl) (Foc.trans (Foc.at1 0 rfl rfl (ce rfl rfl)) (Foc.cell 0 rfl rfl (ce rfl rfl))) dX4_parse_116 (fun H locs hw => ?_)
                refine lv_aload_n hx hb dX4_parse_119 rfl (lv_at hl 2 rfl) ?_
                refine r_get X hw (v := .ref x1) fl_X4_9 (m_fl 0 rfl (m_at 0 rfl)) rfl dX4_parse_120 ?_
                refine lv_iload hx hb dX4_parse_123 (lv_at hl 8 rfl) ?_
                refine lv_aload_n hx hb dX4_parse_125 rfl (lv_at hl 3 rfl) ?_
                refine lv_iload hx hb dX4_parse_126 (lv_at hl 7 rfl) ?_
                refine lv_iload hx hb dX4_parse_128 (lv_at hl 1 rfl) ?_
                refine r_callS X hw (ws' := ([orB D x0 x1 nu9 (tx q) 1 le, [(t, .inl (D.1 101, 60, .inl tx))]] : List va_W).flatten) (As := [.ref t, .int (nI a), .int (nI (eo tx e9 a))]) (rest := [.int (nI i), .ref x1]) lk_X4_29 (c_X4_numberIn l D _ t tx a (eo tx e9 a) (by omega) (by omega)) (Foc.trans (Foc.at1 1 rfl rfl (ce rfl rfl)) (Foc.cell 0 rfl rfl rfl)) rfl hl.1 (Nat.le_of_ble_eq_true rfl) ⟨Nat.le_of_ble_eq_true rfl, Nat.le_of_ble_eq_true rfl⟩ rfl dX4_parse_130 ⟨Nat.le_refl _, Nat.le_refl _⟩ (fun H locs hw => ?_)
                refine r_iast X hw (ws' := ([orB D x0 x1 (upd nu9 i (nuF tx a ((eo tx e9 a) - a))) (tx q) 1 le, [(t, .inl (D.1 101, 60, .inl tx))]] : List va_W).flatten) i rfl (by omega) (by decide) (Foc.trans (Foc.at1 0 rfl rfl (ce rfl rfl)) (Foc.cell 1 rfl rfl (ce rfl rfl))) dX4_parse_133 (fun H locs hw => ?_)
                refine lv_aload_n hx hb dX4_parse_134 rfl (lv_at hl 2 rfl) ?_
                refine r_get X hw (v := .int 1) fl_X4_21 (m_fl 0 rfl (m_at 0 rfl)) rfl dX4_parse_135 ?_
                refine lv_if_eq (tgt := 146) hx hb dX4_parse_138 (by decide) (fun h => absurd h (by decide)) (fun _ => ?_)
                refine lv_iload hx hb dX4_parse_141 (lv_at hl 1 rfl) ?_
                refine lv_goto (tgt := 150) hx hb dX4_parse_143 (by decide) ?_
                refine lv_istore (lv' := [(5, .int (nI (eo tx e9 a))), (8, .int 44), (7, .int (nI (eo tx e9 a))), (0, .ref x0), (1, .ref t), (2, .int (nI e9)), (3, .int (nI q)), (4, .int (nI mw)), (6, .int (nI i))]) hx hb dX4_parse_150 hl (by decide) rfl (fun ls hl => ?_)
                refine r_iincN (lv' := [(6, .int (nI (i + 1))), (5, .int (nI (eo tx e9 a))), (8, .int 44), (7, .int (nI (eo tx e9 a))), (0, .ref x0), (1, .ref t), (2, .int (nI e9)), (3, .int (nI q)), (4, .int (nI mw))]) hx hb i 1 rfl dX4_parse_152 hl (k := 8) rfl rfl (by decide) rfl (fun ls hl => ?_)
                refine lv_goto (tgt := 47) hx hb dX4_parse_155 (by decide) ?_
                exact ih47 mw r (i + 1) (eo tx e9 a) (upd nu9 i (nuF tx a (eo tx e9 a - a))) 1 (by omega) (by omega) (by omega) (by omega) (psB_1.trans ((psB_s c2 (ps_2 c8 c9)).symm.trans hR)) _ _ _ hw (lv_sub hl [4, 5, 6, 7, 8, 1, 0] rfl)
              · skip
                refine lv_aload_n hx hb dX4_parse_102 rfl (lv_at hl 3 rfl) ?_
                refine lv_iload hx hb dX4_parse_103 (lv_at hl 1 rfl) ?_
                refine r_cald X hw (f := tx) (eo tx e9 a) (m_fl 1 rfl (m_at 0 rfl)) rfl (by omega) (by decide) dX4_parse_105 ?_
                refine lv_iload hx hb dX4_parse_106 (lv_at hl 0 rfl) ?_
                refine lv_icmp_eq (tgt := 115) hx hb dX4_parse_108 (by decide) (fun c10 => ?_) (fun c10 => ?_)
                · skip
                  refine lv_iconst (v := 0) hx hb dX4_parse_115 (by decide) ?_
                  refine r_put X hw (ws' := ([orB D x0 x1 nu9 (tx q) 0 le, [(t, .inl (D.1 101, 60, .inl tx))]] : List va_W).flatten) fp_X4_21 rfl rfl (Nat.le_of_ble_eq_true rfl) (Foc.trans (Foc.at1 0 rfl rfl (ce rfl rfl)) (Foc.cell 0 rfl rfl (ce rfl rfl))) dX4_parse_116 (fun H locs hw => ?_)
                  refine lv_aload_n hx hb dX4_parse_119 rfl (lv_at hl 2 rfl) ?_
                  refine r_get X hw (v := .ref x1) fl_X4_9 (m_fl 0 rfl (m_at 0 rfl)) rfl dX4_parse_120 ?_
                  refine lv_iload hx hb dX4_parse_123 (lv_at hl 8 rfl) ?_
                  refine lv_aload_n hx hb dX4_parse_125 rfl (lv_at hl 3 rfl) ?_
                  refine lv_iload hx hb dX4_parse_126 (lv_at hl 7 rfl) ?_
                  refine lv_iload hx hb dX4_parse_128 (lv_at hl 1 rfl) ?_
                  refine r_callS X hw (ws' := ([orB D x0 x1 nu9 (tx q) 0 le, [(t, .inl (D.1 101, 60, .inl tx))]] : List va_W).flatten) (As := [.ref t, .int (nI a), .int (nI (eo tx e9 a))]) (rest := [.int (nI i), .ref x1]) lk_X4_29 (c_X4_numberIn l D _ t tx a (eo tx e9 a) (by omega) (by omega)) (Foc.trans (Foc.at1 1 rfl rfl (ce rfl rfl)) (Foc.cell 0 rfl rfl rfl)) rfl hl.1 (Nat.le_of_ble_eq_true rfl) ⟨Nat.le_of_ble_eq_true rfl, Nat.le_of_ble_eq_true rfl⟩ rfl dX4_parse_130 ⟨Nat.le_refl _, Nat.le_refl _⟩ (fun H locs hw => ?_)
                  refine r_iast X hw (ws' := ([orB D x0 x1 (upd nu9 i (nuF tx a ((eo tx e9 a) - a))) (tx q) 0 le, [(t, .inl (D.1 101, 60, .inl tx))]] : List va_W).flatten) i rfl (by omega) (by decide) (Foc.trans (Foc.at1 0 rfl rfl (ce rfl rfl)) (Foc.cell 1 rfl rfl (ce rfl rfl))) dX4_parse_133 (fun H locs hw => ?_)
                  refine lv_aload_n hx hb dX4_parse_134 rfl (lv_at hl 2 rfl) ?_
                  refine r_get X hw (v := .int 0) fl_X4_21 (m_fl 0 rfl (m_at 0 rfl)) rfl dX4_parse_135 ?_
                  refine lv_if_eq (tgt := 146) hx hb dX4_parse_138 (by decide) (fun _ => ?_) (fun h => absurd (by decide) h)
                  refine lv_iload hx hb dX4_parse_146 (lv_at hl 1 rfl) ?_
                  refine lv_iconst (v := 1) hx hb dX4_parse_148 (by decide) ?_
                  refine r_addN hx hb (eo tx e9 a) 1 rfl rfl dX4_parse_149 ?_
                  refine lv_istore (lv' := [(5, .int (nI (eo tx e9 a + 1))), (8, .int 44), (7, .int (nI (eo tx e9 a))), (0, .ref x0), (1, .ref t), (2, .int (nI e9)), (3, .int (nI q)), (4, .int (nI mw)), (6, .int (nI i))]) hx hb dX4_parse_150 hl (by decide) rfl (fun ls hl => ?_)
                  refine r_iincN (lv' := [(6, .int (nI (i + 1))), (5, .int (nI (eo tx e9 a + 1))), (8, .int 44), (7, .int (nI (eo tx e9 a))), (0, .ref x0), (1, .ref t), (2, .int (nI e9)), (3, .int (nI q)), (4, .int (nI mw))]) hx hb i 1 rfl dX4_parse_152 hl (k := 8) rfl rfl (by decide) rfl (fun ls hl => ?_)
                  refine lv_goto (tgt := 47) hx hb dX4_parse_155 (by decide) ?_
                  exact ih47 mw r (i + 1) (eo tx e9 a + 1) (upd nu9 i (nuF tx a (eo tx e9 a - a))) 0 (by omega) (by omega) (by omega) (by omega) (psB_0.trans ((psB_s c2 (ps_s c8 (Nat.not_le.mpr c9) (by rw [show sep r = 44 from if_neg (by omega)]; exact c10))).symm.trans hR)) _ _ _ hw (lv_sub hl [4, 5, 6, 7, 8, 1, 0] rfl)
                · skip
                  refine lv_iconst (v := 1) hx hb dX4_parse_111 (by decide) ?_
                  refine lv_goto (tgt := 116) hx hb dX4_parse_112 (by decide) ?_
                  refine r_put X hw (ws' := ([orB D x0 x1 nu9 (tx q) 1 le, [(t, .inl (D.1 101, 60, .inl tx))]] : List va_W).flatten) fp_X4_21 rfl rfl (Nat.le_of_ble_eq_true rfl) (Foc.trans (Foc.at1 0 rfl rfl (ce rfl rfl)) (Foc.cell 0 rfl rfl (ce rfl rfl))) dX4_parse_116 (fun H locs hw => ?_)
                  refine lv_aload_n hx hb dX4_parse_119 rfl (lv_at hl 2 rfl) ?_
                  refine r_get X hw (v := .ref x1) fl_X4_9 (m_fl 0 rfl (m_at 0 rfl)) rfl dX4_parse_120 ?_
                  refine lv_iload hx hb dX4_parse_123 (lv_at hl 8 rfl) ?_
                  refine lv_aload_n hx hb dX4_parse_125 rfl (lv_at hl 3 rfl) ?_
                  refine lv_iload hx hb dX4_parse_126 (lv_at hl 7 rfl) ?_
                  refine lv_iload hx hb dX4_parse_128 (lv_at hl 1 rfl) ?_
                  refine r_callS X hw (ws' := ([orB D x0 x1 nu9 (tx q) 1 le, [(t, .inl (D.1 101, 60, .inl tx))]] : List va_W).flatten) (As := [.ref t, .int (nI a), .int (nI (eo tx e9 a))]) (rest := [.int (nI i), .ref x1]) lk_X4_29 (c_X4_numberIn l D _ t tx a (eo tx e9 a) (by omega) (by omega)) (Foc.trans (Foc.at1 1 rfl rfl (ce rfl rfl)) (Foc.cell 0 rfl rfl rfl)) rfl hl.1 (Nat.le_of_ble_eq_true rfl) ⟨Nat.le_of_ble_eq_true rfl, Nat.le_of_ble_eq_true rfl⟩ rfl dX4_parse_130 ⟨Nat.le_refl _, Nat.le_refl _⟩ (fun H locs hw => ?_)
                  refine r_iast X hw (ws' := ([orB D x0 x1 (upd nu9 i (nuF tx a ((eo tx e9 a) - a))) (tx q) 1 le, [(t, .inl (D.1 101, 60, .inl tx))]] : List va_W).flatten) i rfl (by omega) (by decide) (Foc.trans (Foc.at1 0 rfl rfl (ce rfl rfl)) (Foc.cell 1 rfl rfl (ce rfl rfl))) dX4_parse_133 (fun H locs hw => ?_)
                  refine lv_aload_n hx hb dX4_parse_134 rfl (lv_at hl 2 rfl) ?_
                  refine r_get X hw (v := .int 1) fl_X4_21 (m_fl 0 rfl (m_at 0 rfl)) rfl dX4_parse_135 ?_
                  refine lv_if_eq (tgt := 146) hx hb dX4_parse_138 (by decide) (fun h => absurd h (by decide)) (fun _ => ?_)
                  refine lv_iload hx hb dX4_parse_141 (lv_at hl 1 rfl) ?_
                  refine lv_goto (tgt := 150) hx hb dX4_parse_143 (by decide) ?_
                  refine lv_istore (lv' := [(5, .int (nI (eo tx e9 a))), (8, .int 44), (7, .int (nI (eo tx e9 a))), (0, .ref x0), (1, .ref t), (2, .int (nI e9)), (3, .int (nI q)), (4, .int (nI mw)), (6, .int (nI i))]) hx hb dX4_parse_150 hl (by decide) rfl (fun ls hl => ?_)
                  refine r_iincN (lv' := [(6, .int (nI (i + 1))), (5, .int (nI (eo tx e9 a))), (8, .int 44), (7, .int (nI (eo tx e9 a))), (0, .ref x0), (1, .ref t), (2, .int (nI e9)), (3, .int (nI q)), (4, .int (nI mw))]) hx hb i 1 rfl dX4_parse_152 hl (k := 8) rfl rfl (by decide) rfl (fun ls hl => ?_)
                  refine lv_goto (tgt := 47) hx hb dX4_parse_155 (by decide) ?_
                  exact ih47 mw r (i + 1) (eo tx e9 a) (upd nu9 i (nuF tx a (eo tx e9 a - a))) 1 (by omega) (by omega) (by omega) (by omega) (psB_1.trans ((psB_s c2 (ps_3 c8 (Nat.not_le.mpr c9) (by rw [show sep r = 44 from if_neg (by omega)]; exact c10))).symm.trans hR)) _ _ _ hw (lv_sub hl [4, 5, 6, 7, 8, 1, 0] rfl)
  refine lv_aload_n hx hb dX4_parse_0 rfl (lv_at hl 0 rfl) ?_
  refine lv_aload_n hx hb dX4_parse_1 rfl (lv_at hl 1 rfl) ?_
  refine lv_iload_n hx hb dX4_parse_2 rfl (lv_at hl 3 rfl) ?_
  refine r_cald X hw (f := tx) q (m_fl 1 rfl (m_at 0 rfl)) rfl (by omega) (by decide) dX4_parse_3 ?_
  refine r_put X hw (ws' := ([orB D x0 x1 nu (tx q) br le, [(t, .inl (D.1 101, 60, .inl tx))]] : List va_W).flatten) fp_X4_13 (htx q).1 (htx q).2 (Nat.le_of_ble_eq_true rfl) (Foc.trans (Foc.at1 0 rfl rfl (ce rfl rfl)) (Foc.cell 0 rfl rfl (ce rfl rfl))) dX4_parse_4 (fun H locs hw => ?_)
  refine lv_aload_n hx hb dX4_parse_7 rfl (lv_at hl 0 rfl) ?_
  refine r_get X hw (v := .int (tx q)) fl_X4_13 (m_fl 0 rfl (m_at 0 rfl)) rfl dX4_parse_8 ?_
  refine r_callS X hw (ws' := ([orB D x0 x1 nu (tx q) br le, [(t, .inl (D.1 101, 60, .inl tx))]] : List va_W).flatten) (As := [.int (tx q)]) (rest := []) lk_X4_17 (c_X4_numbersBehind l D _ (tx q)) Foc.nil rfl hl.1 (Nat.le_of_ble_eq_true rfl) ⟨Nat.le_of_ble_eq_true rfl, Nat.le_of_ble_eq_true rfl⟩ rfl dX4_parse_11 ⟨Nat.le_refl _, Nat.le_refl _⟩ (fun H locs hw => ?_)
  refine lv_istore (lv' := [(4, .int (sp_X4_numbersBehind (tx q))), (0, .ref x0), (1, .ref t), (2, .int (nI e9)), (3, .int (nI q))]) hx hb dX4_parse_14 hl (by decide) rfl (fun ls hl => ?_)
  rcases nbb (tx q) with hm | hm | hm | hm
  · skip
    rw [hm] at hl
    have hm2 : nbC (tx q) = 0 := by unfold nbC; rw [hm]; decide
    refine lv_iload hx hb dX4_parse_16 (lv_at hl 0 rfl) ?_
    refine lv_if_le (tgt := 27) hx hb dX4_parse_18 (by decide) (fun _ => ?_) (fun h => absurd (by decide) h)
    refine lv_iload_n hx hb dX4_parse_27 rfl (lv_at hl 4 rfl) ?_
    refine lv_istore (lv' := [(5, .int (nI q)), (4, .int 0), (0, .ref x0), (1, .ref t), (2, .int (nI e9)), (3, .int (nI q))]) hx hb dX4_parse_28 hl (by decide) rfl (fun ls hl => ?_)
    refine lv_aload_n hx hb dX4_parse_30 rfl (lv_at hl 2 rfl) ?_
    refine lv_iload hx hb dX4_parse_31 (lv_at hl 1 rfl) ?_
    refine lv_if_ne (tgt := 40) hx hb dX4_parse_33 (by decide) (fun h => absurd (by decide) h) (fun _ => ?_)
    refine lv_iconst (v := 1) hx hb dX4_parse_36 (by decide) ?_
    refine lv_goto (tgt := 41) hx hb dX4_parse_37 (by decide) ?_
    refine r_put X hw (ws' := ([orB D x0 x1 nu (tx q) 1 le, [(t, .inl (D.1 101, 60, .inl tx))]] : List va_W).flatten) fp_X4_21 rfl rfl (Nat.le_of_ble_eq_true rfl) (Foc.trans (Foc.at1 0 rfl rfl (ce rfl rfl)) (Foc.cell 0 rfl rfl (ce rfl rfl))) dX4_parse_41 (fun H locs hw => ?_)
    refine lv_iconst (v := 0) hx hb dX4_parse_44 (by decide) ?_
    refine lv_istore (lv' := [(6, .int 0), (5, .int (nI q)), (4, .int 0), (0, .ref x0), (1, .ref t), (2, .int (nI e9)), (3, .int (nI q))]) hx hb dX4_parse_45 hl (by decide) rfl (fun ls hl => ?_)
    exact key47 5 0 0 0 q nu 1 (by omega) (by omega) (by omega) (by omega) (psB_1.trans (pso_0 hm2).symm) _ _ _ hw (lv_sub hl [3, 4, 5, 6, 2, 1, 0] rfl)
  · skip
    rw [hm] at hl
    have hm2 : nbC (tx q) = 1 := by unfold nbC; rw [hm]; decide
    refine lv_iload hx hb dX4_parse_16 (lv_at hl 0 rfl) ?_
    refine lv_if_le (tgt := 27) hx hb dX4_parse_18 (by decide) (fun h => absurd h (by decide)) (fun _ => ?_)
    refine lv_iload_n hx hb dX4_parse_21 rfl (lv_at hl 4 rfl) ?_
    refine lv_iconst (v := 1) hx hb dX4_parse_22 (by decide) ?_
    refine r_addN hx hb q 1 rfl rfl dX4_parse_23 ?_
    refine lv_goto (tgt := 28) hx hb dX4_parse_24 (by decide) ?_
    refine lv_istore (lv' := [(5, .int (nI (q + 1))), (4, .int 1), (0, .ref x0), (1, .ref t), (2, .int (nI e9)), (3, .int (nI q))]) hx hb dX4_parse_28 hl (by decide) rfl (fun ls hl => ?_)
    refine lv_aload_n hx hb dX4_parse_30 rfl (lv_at hl 2 rfl) ?_
    refine lv_iload hx hb dX4_parse_31 (lv_at hl 1 rfl) ?_
    refine lv_if_ne (tgt := 40) hx hb dX4_parse_33 (by decide) (fun _ => ?_) (fun h => absurd h (by decide))
    refine lv_iconst (v := 0) hx hb dX4_parse_40 (by decide) ?_
    refine r_put X hw (ws' := ([orB D x0 x1 nu (tx q) 0 le, [(t, .inl (D.1 101, 60, .inl tx))]] : List va_W).flatten) fp_X4_21 rfl rfl (Nat.le_of_ble_eq_true rfl) (Foc.trans (Foc.at1 0 rfl rfl (ce rfl rfl)) (Foc.cell 0 rfl rfl (ce rfl rfl))) dX4_parse_41 (fun H locs hw => ?_)
    refine lv_iconst (v := 0) hx hb dX4_parse_44 (by decide) ?_
    refine lv_istore (lv' := [(6, .int 0), (5, .int (nI (q + 1))), (4, .int 1), (0, .ref x0), (1, .ref t), (2, .int (nI e9)), (3, .int (nI q))]) hx hb dX4_parse_45 hl (by decide) rfl (fun ls hl => ?_)
    exact key47 5 1 1 0 (q + 1) nu 0 (by omega) (by omega) (by omega) (by omega) (psB_0.trans (pso_m hm2 rfl).symm) _ _ _ hw (lv_sub hl [3, 4, 5, 6, 2, 1, 0] rfl)
  · skip
    rw [hm] at hl
    have hm2 : nbC (tx q) = 2 := by unfold nbC; rw [hm]; decide
    refine lv_iload hx hb dX4_parse_16 (lv_at hl 0 rfl) ?_
    refine lv_if_le (tgt := 27) hx hb dX4_parse_18 (by decide) (fun h => absurd h (by decide)) (fun _ => ?_)
    refine lv_iload_n hx hb dX4_parse_21 rfl (lv_at hl 4 rfl) ?_
    refine lv_iconst (v := 1) hx hb dX4_parse_22 (by decide) ?_
    refine r_addN hx hb q 1 rfl rfl dX4_parse_23 ?_
    refine lv_goto (tgt := 28) hx hb dX4_parse_24 (by decide) ?_
    refine lv_istore (lv' := [(5, .int (nI (q + 1))), (4, .int 2), (0, .ref x0), (1, .ref t), (2, .int (nI e9)), (3, .int (nI q))]) hx hb dX4_parse_28 hl (by decide) rfl (fun ls hl => ?_)
    refine lv_aload_n hx hb dX4_parse_30 rfl (lv_at hl 2 rfl) ?_
    refine lv_iload hx hb dX4_parse_31 (lv_at hl 1 rfl) ?_
    refine lv_if_ne (tgt := 40) hx hb dX4_parse_33 (by decide) (fun _ => ?_) (fun h => absurd h (by decide))
    refine lv_iconst (v := 0) hx hb dX4_parse_40 (by decide) ?_
    refine r_put X hw (ws' := ([orB D x0 x1 nu (tx q) 0 le, [(t, .inl (D.1 101, 60, .inl tx))]] : List va_W).flatten) fp_X4_21 rfl rfl (Nat.le_of_ble_eq_true rfl) (Foc.trans (Foc.at1 0 rfl rfl (ce rfl rfl)) (Foc.cell 0 rfl rfl (ce rfl rfl))) dX4_parse_41 (fun H locs hw => ?_)
    refine lv_iconst (v := 0) hx hb dX4_parse_44 (by decide) ?_
    refine lv_istore (lv' := [(6, .int 0), (5, .int (nI (q + 1))), (4, .int 2), (0, .ref x0), (1, .ref t), (2, .int (nI e9)), (3, .int (nI q))]) hx hb dX4_parse_45 hl (by decide) rfl (fun ls hl => ?_)
    exact key47 5 2 2 0 (q + 1) nu 0 (by omega) (by omega) (by omega) (by omega) (psB_0.trans (pso_m hm2 rfl).symm) _ _ _ hw (lv_sub hl [3, 4, 5, 6, 2, 1, 0] rfl)
  · skip
    rw [hm] at hl
    have hm2 : nbC (tx q) = 3 := by unfold nbC; rw [hm]; decide
    refine lv_iload hx hb dX4_parse_16 (lv_at hl 0 rfl) ?_
    refine lv_if_le (tgt := 27) hx hb dX4_parse_18 (by decide) (fun h => absurd h (by decide)) (fun _ => ?_)
    refine lv_iload_n hx hb dX4_parse_21 rfl (lv_at hl 4 rfl) ?_
    refine lv_iconst (v := 1) hx hb dX4_parse_22 (by decide) ?_
    refine r_addN hx hb q 1 rfl rfl dX4_parse_23 ?_
    refine lv_goto (tgt := 28) hx hb dX4_parse_24 (by decide) ?_
    refine lv_istore (lv' := [(5, .int (nI (q + 1))), (4, .int 3), (0, .ref x0), (1, .ref t), (2, .int (nI e9)), (3, .int (nI q))]) hx hb dX4_parse_28 hl (by decide) rfl (fun ls hl => ?_)
    refine lv_aload_n hx hb dX4_parse_30 rfl (lv_at hl 2 rfl) ?_
    refine lv_iload hx hb dX4_parse_31 (lv_at hl 1 rfl) ?_
    refine lv_if_ne (tgt := 40) hx hb dX4_parse_33 (by decide) (fun _ => ?_) (fun h => absurd h (by decide))
    refine lv_iconst (v := 0) hx hb dX4_parse_40 (by decide) ?_
    refine r_put X hw (ws' := ([orB D x0 x1 nu (tx q) 0 le, [(t, .inl (D.1 101, 60, .inl tx))]] : List va_W).flatten) fp_X4_21 rfl rfl (Nat.le_of_ble_eq_true rfl) (Foc.trans (Foc.at1 0 rfl rfl (ce rfl rfl)) (Foc.cell 0 rfl rfl (ce rfl rfl))) dX4_parse_41 (fun H locs hw => ?_)
    refine lv_iconst (v := 0) hx hb dX4_parse_44 (by decide) ?_
    refine lv_istore (lv' := [(6, .int 0), (5, .int (nI (q + 1))), (4, .int 3), (0, .ref x0), (1, .ref t), (2, .int (nI e9)), (3, .int (nI q))]) hx hb dX4_parse_45 hl (by decide) rfl (fun ls hl => ?_)
    exact key47 5 3 3 0 (q + 1) nu 0 (by omega) (by omega) (by omega) (by omega) (psB_0.trans (pso_m hm2 rfl).symm) _ _ _ hw (lv_sub hl [3, 4, 5, 6, 2, 1, 0] rfl)
