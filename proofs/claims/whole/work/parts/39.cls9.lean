noncomputable def sp_X4_numbersBehind (a0 : Int32) : Int32 := (if a0 = 97 then 3 else (if a0 = 98 then 1 else (if a0 = 109 then 2 else (if a0 = 112 then 1 else (if a0 = 114 then 1 else (if a0 = 119 then 2 else 0))))))
set_option maxRecDepth 100000 in
set_option maxHeartbeats 4000000 in
theorem c_X4_numbersBehind (l : Launch) (D : va_G) (sz : Nat) (a0 : Int32) : MI l yX4_numbersBehind cX4_numbersBehind 1 (some .int) 0 0 D sz [.int a0] [] (sp_X4_numbersBehind a0) ([]) := by
  refine r_enterI (by decide) (Nat.le_of_ble_eq_true rfl) ?_
  intro p e st m args below meth c ls A X hret hk hw hl
  have X : CX D p m c cX4_numbersBehind 1 st args RX4 A := X
  have hx := X.1.1
  have hb := X.1.2.1
  have hown := X.1.2.2.2.1
  have hts := X.1.2.2.2.2
  have hl : lv_has ls 1 [(0, .int a0)] := hl
  refine lv_iload_n hx hb dX4_numbersBehind_0 rfl (lv_at hl 0 rfl) ?_
  by_cases w1 : a0 = 97
  · skip
    refine r_lookIn (tgt := 64) hx hb 97 w1 dX4_numbersBehind_1 (by decide) rfl (by decide) ?_
    refine lv_iconst (v := 3) hx hb dX4_numbersBehind_64 (by decide) ?_
    exact r_ret X hw hk hret rfl (by unfold sp_X4_numbersBehind; rw [if_pos w1]) rfl dX4_numbersBehind_65
  · skip
    by_cases w2 : a0 = 98
    · skip
      refine r_lookIn (tgt := 60) hx hb 98 w2 dX4_numbersBehind_1 (by decide) rfl (by decide) ?_
      refine lv_iconst (v := 1) hx hb dX4_numbersBehind_60 (by decide) ?_
      exact r_ret X hw hk hret rfl (by unfold sp_X4_numbersBehind; rw [if_neg w1]; rw [if_pos w2]) rfl dX4_numbersBehind_61
    · skip
      by_cases w3 : a0 = 109
      · skip
        refine r_lookIn (tgt := 62) hx hb 109 w3 dX4_numbersBehind_1 (by decide) rfl (by decide) ?_
        refine lv_iconst (v := 2) hx hb dX4_numbersBehind_62 (by decide) ?_
        exact r_ret X hw hk hret rfl (by unfold sp_X4_numbersBehind; rw [if_neg w1]; rw [if_neg w2]; rw [if_pos w3]) rfl dX4_numbersBehind_63
      · skip
        by_cases w4 : a0 = 112
        · skip
          refine r_lookIn (tgt := 60) hx hb 112 w4 dX4_numbersBehind_1 (by decide) rfl (by decide) ?_
          refine lv_iconst (v := 1) hx hb dX4_numbersBehind_60 (by decide) ?_
          exact r_ret X hw hk hret rfl (by unfold sp_X4_numbersBehind; rw [if_neg w1]; rw [if_neg w2]; rw [if_neg w3]; rw [if_pos w4]) rfl dX4_numbersBehind_61
        · skip
          by_cases w5 : a0 = 114
          · skip
            refine r_lookIn (tgt := 60) hx hb 114 w5 dX4_numbersBehind_1 (by decide) rfl (by decide) ?_
            refine lv_iconst (v := 1) hx hb dX4_numbersBehind_60 (by decide) ?_
            exact r_ret X hw hk hret rfl (by unfold sp_X4_numbersBehind; rw [if_neg w1]; rw [if_neg w2]; rw [if_neg w3]; rw [if_neg w4]; rw [if_pos w5]) rfl dX4_numbersBehind_61
          · skip
            by_cases w6 : a0 = 119
            · skip
              refine r_lookIn (tgt := 62) hx hb 119 w6 dX4_numbersBehind_1 (by decide) rfl (by decide) ?_
              refine lv_iconst (v := 2) hx hb dX4_numbersBehind_62 (by decide) ?_
              exact r_ret X hw hk hret rfl (by unfold sp_X4_numbersBehind; rw [if_neg w1]; rw [if_neg w2]; rw [if_neg w3]; rw [if_neg w4]; rw [if_neg w5]; rw [if_pos w6]) rfl dX4_numbersBehind_63
            · skip
              refine lv_lookup (tgt := 66) hx hb dX4_numbersBehind_1 (by decide) (off := 65) (by have g0 := i_ne w1; have g1 := i_ne w2; have g2 := i_ne w3; have g3 := i_ne w4; have g4 := i_ne w5; have g5 := i_ne w6; rw [show (97 : Int32).toInt = 97 from rfl] at g0; rw [show (98 : Int32).toInt = 98 from rfl] at g1; rw [show (109 : Int32).toInt = 109 from rfl] at g2; rw [show (112 : Int32).toInt = 112 from rfl] at g3; rw [show (114 : Int32).toInt = 114 from rfl] at g4; rw [show (119 : Int32).toInt = 119 from rfl] at g5; simp [Op.lookupswitch.offset, g0, g1, g2, g3, g4, g5, Ne.symm g0, Ne.symm g1, Ne.symm g2, Ne.symm g3, Ne.symm g4, Ne.symm g5]) (by decide) ?_
              refine lv_iconst (v := 0) hx hb dX4_numbersBehind_66 (by decide) ?_
              exact r_ret X hw hk hret rfl (by unfold sp_X4_numbersBehind; rw [if_neg w1]; rw [if_neg w2]; rw [if_neg w3]; rw [if_neg w4]; rw [if_neg w5]; rw [if_neg w6]) rfl dX4_numbersBehind_67

/-! an order of a text -/
noncomputable def eoF (tx : Row) (e9 q : Nat) : Nat → Nat → Nat
  | 0, a => a
  | f + 1, a => if e9 ≤ a then a else (if q + 3 ≤ a then a else (if tx a < 48 then a else (if 57 < tx a then a else eoF tx e9 q f (a + 1))))
noncomputable def eo (tx : Row) (e9 q : Nat) : Nat := eoF tx e9 q 4 q
theorem eoF_x {tx : Row} {e9 q f a : Nat} (h : e9 ≤ a ∨ q + 3 ≤ a ∨ tx a < 48 ∨ 57 < tx a) : eoF tx e9 q f a = a := by
  cases f with
  | zero => rfl
  | succ f =>
    show (if e9 ≤ a then a else (if q + 3 ≤ a then a else (if tx a < 48 then a else (if 57 < tx a then a else eoF tx e9 q f (a + 1))))) = a
    (repeat' split) <;> first | rfl | (rcases h with h | h | h | h <;> contradiction)
theorem eoF_s {tx : Row} {e9 q f a : Nat} (h1 : ¬ e9 ≤ a) (h2 : ¬ q + 3 ≤ a) (h3 : ¬ tx a < 48) (h4 : ¬ 57 < tx a) : eoF tx e9 q (f + 1) a = eoF tx e9 q f (a + 1) := by
  show (if e9 ≤ a then a else (if q + 3 ≤ a then a else (if tx a < 48 then a else (if 57 < tx a then a else eoF tx e9 q f (a + 1))))) = _
  rw [if_neg h1, if_neg h2, if_neg h3, if_neg h4]
theorem eoF_b (tx : Row) (e9 q : Nat) : ∀ (f a : Nat), a ≤ e9 → a ≤ eoF tx e9 q f a ∧ eoF tx e9 q f a ≤ e9
  | 0, a, h => ⟨Nat.le_refl _, h⟩
  | f + 1, a, h => by
    show a ≤ (if e9 ≤ a then a else (if q + 3 ≤ a then a else (if tx a < 48 then a else (if 57 < tx a then a else eoF tx e9 q f (a + 1))))) ∧ (if e9 ≤ a then a else (if q + 3 ≤ a then a else (if tx a < 48 then a else (if 57 < tx a then a else eoF tx e9 q f (a + 1))))) ≤ e9
    by_cases g : e9 ≤ a
    · rw [if_pos g]; exact ⟨Nat.le_refl _, h⟩
    · have b := eoF_b tx e9 q f (a + 1) (by omega)
      (repeat' split) <;> first | exact ⟨Nat.le_refl _, h⟩ | exact ⟨by omega, b.2⟩
theorem eo_b (tx : Row) {e9 q : Nat} (h : q ≤ e9) : q ≤ eo tx e9 q ∧ eo tx e9 q ≤ e9 := eoF_b tx e9 q 4 q h
noncomputable def nuF (tx : Row) (q : Nat) : Nat → Int32
  | 0 => 0
  | d + 1 => 10 * nuF tx q d + tx (q + d) - 48
theorem nuF_s {tx : Row} {q a : Nat} (h : q ≤ a) : 10 * nuF tx q (a - q) + tx a - 48 = nuF tx q (a + 1 - q) := by
  rw [show a + 1 - q = (a - q) + 1 from by omega]
  show _ = 10 * nuF tx q (a - q) + tx (q + (a - q)) - 48
  rw [show q + (a - q) = a from by omega]
/-- r numbers from a place on: whether broken, where it ends, the numbers -/
noncomputable def ps (tx : Row) (e9 : Nat) : Nat → Nat → Nat → Row → Int32 × Nat × Row
  | 0, _, q, nu => (0, q, nu)
  | r + 1, i, q, nu => if eo tx e9 q = q then (1, eo tx e9 q, upd nu i (nuF tx q (eo tx e9 q - q))) else (if e9 ≤ eo tx e9 q then (1, eo tx e9 q, upd nu i (nuF tx q (eo tx e9 q - q))) else (if tx (eo tx e9 q) = sep r then ps tx e9 r (i + 1) (eo tx e9 q + 1) (upd nu i (nuF tx q (eo tx e9 q - q))) else (1, eo tx e9 q, upd nu i (nuF tx q (eo tx e9 q - q)))))
theorem nbb (x : Int32) : sp_X4_numbersBehind x = 0 ∨ sp_X4_numbersBehind x = 1 ∨ sp_X4_numbersBehind x = 2 ∨ sp_X4_numbersBehind x = 3 := by
  unfold sp_X4_numbersBehind
  (repeat' split) <;> first | exact Or.inl rfl | exact Or.inr (Or.inl rfl) | exact Or.inr (Or.inr (Or.inl rfl)) | exact Or.inr (Or.inr (Or.inr rfl))
noncomputable def nbC (x : Int32) : Nat := if sp_X4_numbersBehind x = 3 then 3 else (if sp_X4_numbersBehind x = 2 then 2 else (if sp_X4_numbersBehind x = 1 then 1 else 0))
noncomputable def pso (tx : Row) (e9 q : Nat) (nu : Row) : Int32 × Nat × Row := if nbC (tx q) = 0 then (1, q, nu) else ps tx e9 (nbC (tx q)) 0 (q + 1) nu

set_option maxRecDepth 100000 in
set_option maxHeartbeats 4000000 in
theorem c_X4_endOfDigits (l : Launch) (D : va_G) (sz : Nat) (t : Nat) (tx : Row) (e9 q : Nat) (he9 : e9 ≤ 60) (hq9 : q ≤ 60) : MI l yX4_endOfDigits cX4_endOfDigits 4 (some .int) 0 0 D sz [.ref t, .int (nI e9), .int (nI q)] ([(t, .inl (D.1 101, 60, .inl tx))]) (nI (eo tx e9 q)) ([(t, .inl (D.1 101, 60, .inl tx))]) := by
  refine r_enterI (by decide) (Nat.le_of_ble_eq_true rfl) ?_
  intro p e st m args below meth c ls A X hret hk hw hl
  have X : CX D p m c cX4_endOfDigits 4 st args RX4 A := X
  have hx := X.1.1
  have hb := X.1.2.1
  have hown := X.1.2.2.2.1
  have hts := X.1.2.2.2.2
  have hl : lv_has ls 4 [(0, .ref t), (1, .int (nI e9)), (2, .int (nI q))] := hl
  refine lv_iload_n hx hb dX4_endOfDigits_0 rfl (lv_at hl 2 rfl) ?_
  refine lv_istore_n (lv' := [(3, .int (nI q)), (0, .ref t), (1, .int (nI e9)), (2, .int (nI q))]) hx hb dX4_endOfDigits_1 rfl hl (by decide) rfl (fun ls hl => ?_)
  have key2 : ∀ (n2 : Nat) (f a : Nat), (a + f = q + 4) → (q ≤ a ∧ a ≤ q + 3) → (f < n2) → (eoF tx e9 q f a = eo tx e9 q) → ∀ (H : Heap) (locs : List Loc) (ls : Array Slot), Wd D A st.heap H locs ([(t, .inl (D.1 101, 60, .inl tx))]) → lv_has ls 4 [(0, .ref t), (1, .int (nI e9)), (2, .int (nI q)), (3, .int (nI a))] → W p l e (rmOf 0 0 0 0) st m args below meth c H locs 0 0 (QI below args st D A (nI (eo tx e9 q)) ([(t, .inl (D.1 101, 60, .inl tx))])) (F0 m 2 ls []) := by
    intro n2
    induction n2 with
    | zero => intro f a hj ha hm hR; omega
    | succ n2 ih2 =>
      intro f a hj ha hm hR H locs ls hw hl
      refine lv_iload_n hx hb dX4_endOfDigits_2 rfl (lv_at hl 3 rfl) ?_
      refine lv_iload_n hx hb dX4_endOfDigits_3 rfl (lv_at hl 1 rfl) ?_
      refine r_geN (tgt := 36) hx hb a e9 rfl rfl (by omega) (by omega) dX4_endOfDigits_4 (by decide) (fun c1 => ?_) (fun c1 => ?_)
      · skip
        refine lv_iload_n hx hb dX4_endOfDigits_36 rfl (lv_at hl 3 rfl) ?_
        exact r_ret X hw hk hret rfl (by rw [← hR, eoF_x (Or.inl c1)]) rfl dX4_endOfDigits_37
      · skip
        refine lv_iload_n hx hb dX4_endOfDigits_7 rfl (lv_at hl 3 rfl) ?_
        refine lv_iload_n hx hb dX4_endOfDigits_8 rfl (lv_at hl 2 rfl) ?_
        refine lv_iconst (v := 3) hx hb dX4_endOfDigits_9 (by decide) ?_
        refine r_addN hx hb q 3 rfl rfl dX4_endOfDigits_10 ?_
        refine r_geN (tgt := 36) hx hb a (q + 3) rfl rfl (by omega) (by omega) dX4_endOfDigits_11 (by decide) (fun c2 => ?_) (fun c2 => ?_)
        · skip
          refine lv_iload_n hx hb dX4_endOfDigits_36 rfl (lv_at hl 3 rfl) ?_
          exact r_ret X hw hk hret rfl (by rw [← hR, eoF_x ((Or.inr ∘ Or.inl) c2)]) rfl dX4_endOfDigits_37
        · skip
          obtain ⟨f, rfl⟩ : ∃ f9, f = f9 + 1 := ⟨f - 1, by omega⟩
          refine lv_aload_n hx hb dX4_endOfDigits_14 rfl (lv_at hl 0 rfl) ?_
          refine lv_iload_n hx hb dX4_endOfDigits_15 rfl (lv_at hl 3 rfl) ?_
          refine r_cald X hw (f := tx) a (m_at 0 rfl) rfl (by omega) (by decide) dX4_endOfDigits_16 ?_
          refine lv_bipush (v := 48) hx hb dX4_endOfDigits_17 (by decide) ?_
          refine lv_icmp_lt (tgt := 36) hx hb dX4_endOfDigits_19 (by decide) (fun c3 => ?_) (fun c3 => ?_)
          · skip
            refine lv_iload_n hx hb dX4_endOfDigits_36 rfl (lv_at hl 3 rfl) ?_
            exact r_ret X hw hk hret rfl (by rw [← hR, eoF_x ((Or.inr ∘ Or.inr ∘ Or.inl) c3)]) rfl dX4_endOfDigits_37
          · skip
            refine lv_aload_n hx hb dX4_endOfDigits_22 rfl (lv_at hl 0 rfl) ?_
            refine lv_iload_n hx hb dX4_endOfDigits_23 rfl (lv_at hl 3 rfl) ?_
            refine r_cald X hw (f := tx) a (m_at 0 rfl) rfl (by omega) (by decide) dX4_endOfDigits_24 ?_
            refine lv_bipush (v := 57) hx hb dX4_endOfDigits_25 (by decide) ?_
            refine lv_icmp_gt (tgt := 36) hx hb dX4_endOfDigits_27 (by decide) (fun c4 => ?_) (fun c4 => ?_)
            · skip
              refine lv_iload_n hx hb dX4_endOfDigits_36 rfl (lv_at hl 3 rfl) ?_
              exact r_ret X hw hk hret rfl (by rw [← hR, eoF_x ((Or.inr ∘ Or.inr ∘ Or.inr) c4)]) rfl dX4_endOfDigits_37
            · skip
              refine r_iincN (lv' := [(3, .int (nI (a + 1))), (0, .ref t), (1, .int (nI e9)), (2, .int (nI q))]) hx hb a 1 rfl dX4_endOfDigits_30 hl (k := 3) rfl rfl (by decide) rfl (fun ls hl => ?_)
              refine lv_goto (tgt := 2) hx hb dX4_endOfDigits_33 (by decide) ?_
              exact ih2 f (a + 1) (by omega) (by omega) (by omega) ((eoF_s (Nat.not_le.mpr c1) (Nat.not_le.mpr c2) c3 c4).symm.trans hR) _ _ _ hw (lv_sub hl [1, 2, 3, 0] rfl)
  exact key2 5 4 q (by omega) (by omega) (by omega) rfl _ _ _ hw (lv_sub hl [1, 2, 3, 0] rfl)

set_option maxRecDepth 100000 in
set_option maxHeartbeats 4000000 in
theorem c_X4_numberIn (l : Launch) (D : va_G) (sz : Nat) (t : Nat) (tx : Row) (q z : Nat) (hz : z ≤ 60) (hqz : q ≤ z) : MI l yX4_numberIn cX4_numberIn 5 (some .int) 0 0 D sz [.ref t, .int (nI q), .int (nI z)] ([(t, .inl (D.1 101, 60, .inl tx))]) (nuF tx q (z - q)) ([(t, .inl (D.1 101, 60, .inl tx))]) := by
  refine r_enterI (by decide) (Nat.le_of_ble_eq_true rfl) ?_
  intro p e st m args below meth c ls A X hret hk hw hl
  have X : CX D p m c cX4_numberIn 5 st args RX4 A := X
  have hx := X.1.1
  have hb := X.1.2.1
  have hown := X.1.2.2.2.1
  have hts := X.1.2.2.2.2
  have hl : lv_has ls 5 [(0, .ref t), (1, .int (nI q)), (2, .int (nI z))] := hl
  refine lv_iconst (v := 0) hx hb dX4_numberIn_0 (by decide) ?_
  refine lv_istore_n (lv' := [(3, .int 0), (0, .ref t), (1, .int (nI q)), (2, .int (nI z))]) hx hb dX4_numberIn_1 rfl hl (by decide) rfl (fun ls hl => ?_)
  refine lv_iload_n hx hb dX4_numberIn_2 rfl (lv_at hl 2 rfl) ?_
  refine lv_istore (lv' := [(4, .int (nI q)), (3, .int 0), (0, .ref t), (1, .int (nI q)), (2, .int (nI z))]) hx hb dX4_numberIn_3 hl (by decide) rfl (fun ls hl => ?_)
  have key5 : ∀ (n5 : Nat) (a : Nat), (q ≤ a) → (a ≤ z) → (z - a < n5) → ∀ (H : Heap) (locs : List Loc) (ls : Array Slot), Wd D A st.heap H locs ([(t, .inl (D.1 101, 60, .inl tx))]) → lv_has ls 5 [(0, .ref t), (1, .int (nI q)), (2, .int (nI z)), (3, .int (nuF tx q (a - q))), (4, .int (nI a))] → W p l e (rmOf 0 0 0 0) st m args below meth c H locs 0 0 (QI below args st D A (nuF tx q (z - q)) ([(t, .inl (D.1 101, 60, .inl tx))])) (F0 m 5 ls []) := by
    intro n5
    induction n5 with
    | zero => intro a hqa haz hm; omega
    | succ n5 ih5 =>
      intro a hqa haz hm H locs ls hw hl
      refine lv_iload hx hb dX4_numberIn_5 (lv_at hl 4 rfl) ?_
      refine lv_iload_n hx hb dX4_numberIn_7 rfl (lv_at hl 2 rfl) ?_
      refine r_geN (tgt := 30) hx hb a z rfl rfl (by omega) (by omega) dX4_numberIn_8 (by decide) (fun c1 => ?_) (fun c1 => ?_)
      · skip
        refine lv_iload_n hx hb dX4_numberIn_30 rfl (lv_at hl 3 rfl) ?_
        exact r_ret X hw hk hret rfl (by rw [show a = z from by omega]) rfl dX4_numberIn_31
      · skip
        refine lv_bipush (v := 10) hx hb dX4_numberIn_11 (by decide) ?_
        refine lv_iload_n hx hb dX4_numberIn_13 rfl (lv_at hl 3 rfl) ?_
        refine lv_imul hx hb dX4_numberIn_14 ?_
        refine lv_aload_n hx hb dX4_numberIn_15 rfl (lv_at hl 0 rfl) ?_
        refine lv_iload hx hb dX4_numberIn_16 (lv_at hl 4 rfl) ?_
        refine r_cald X hw (f := tx) a (m_at 0 rfl) rfl (by omega) (by decide) dX4_numberIn_18 ?_
        refine lv_iadd hx hb dX4_numberIn_19 ?_
        refine lv_bipush (v := 48) hx hb dX4_numberIn_20 (by decide) ?_
        refine lv_isub hx hb dX4_numberIn_22 ?_
        refine lv_istore_n (lv' := [(3, .int (((10 * (nuF tx q (a - q))) + (tx a)) - 48)), (0, .ref t), (1, .int (nI q)), (2, .int (nI z)), (4, .int (nI a))]) hx hb dX4_numberIn_23 rfl hl (by decide) rfl (fun ls hl => ?_)
        rw [show ((10 * (nuF tx q (a - q))) + (tx a)) - 48 = nuF tx q (a + 1 - q) from nuF_s hqa] at hl
        refine r_iincN (lv' := [(4, .int (nI (a + 1))), (3, .int (nuF tx q (a + 1 - q))), (0, .ref t), (1, .int (nI q)), (2, .int (nI z))]) hx hb a 1 rfl dX4_numberIn_24 hl (k := 4) rfl rfl (by decide) rfl (fun ls hl => ?_)
        refine lv_goto (tgt := 5) hx hb dX4_numberIn_27 (by decide) ?_
        exact ih5 (a + 1) (by omega) (by omega) (by omega) _ _ _ hw (lv_sub hl [2, 3, 4, 1, 0] rfl)
  rw [show (0 : Int32) = nuF tx q (q - q) from (by rw [Nat.sub_self]; rfl)] at hl
  exact key5 (z - q + 1) q (by omega) (by omega) (by omega) _ _ _ hw (lv_sub hl [2, 3, 4, 1, 0] rfl)
