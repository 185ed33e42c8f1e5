/-! a cell that fails or is healed -/
theorem upd_sub0 (r : Row) (i : Nat) : upd r i (r i - 0) = r := by
  funext k
  by_cases ck : k = i
  · subst ck; rw [upd_eq]; exact Int32.sub_zero _
  · rw [upd_ne _ _ ck]

set_option maxRecDepth 100000 in
set_option maxHeartbeats 4000000 in
theorem c_L_isCell (l : Launch) (D : va_G) (sz : Nat) (o : Nat) (z : OX) (s : ChS) (kv kb kg kn kt ka kw kq : Nat) (xv xb xg xn xt xa xw xq : Row) (i k x fl : Nat) (hi7 : i < 7) (hk8 : k < 8) (hx2 : x < 2) (hf2 : fl < 2) (K : Nat) (hL : LR K xb xg s (xv, xn, xt, xa)) (hz : zOK z) : MIU (S := US) l yL_isCell cL_isCell 11 (some .boolean) 5 148 D sz [.ref o, .ref kv, .ref kb, .ref kg, .int (nI i), .int (nI k), .int (nI x), .int (nI fl)] (([OB D o z s, [(kv, .inl (D.1 100, 7, .inl xv)), (kb, .inl (D.1 100, 7, .inl xb)), (kg, .inl (D.1 100, 7, .inl xg)), (kn, .inl (D.1 100, 7, .inl xn)), (kt, .inl (D.1 100, 11, .inl xt)), (ka, .inl (D.1 100, 27, .inl xa)), (kw, .inl (D.1 100, 64, .inl xw)), (kq, .inl (D.1 100, 14, .inl xq))]] : List va_W).flatten) 1 (postL K) (fun (u : US) => ([OB D o u.1 u.2.1, [(kv, .inl (D.1 100, 7, .inl u.2.2.2.2.1.1)), (kb, .inl (D.1 100, 7, .inl u.2.2.1)), (kg, .inl (D.1 100, 7, .inl u.2.2.2.1)), (kn, .inl (D.1 100, 7, .inl u.2.2.2.2.1.2.1)), (kt, .inl (D.1 100, 11, .inl u.2.2.2.2.1.2.2.1)), (ka, .inl (D.1 100, 27, .inl u.2.2.2.2.1.2.2.2)), (kw, .inl (D.1 100, 64, .inl u.2.2.2.2.2.1)), (kq, .inl (D.1 100, 14, .inl u.2.2.2.2.2.2))]] : List va_W).flatten) := by
  refine r_enterIU (by decide) (Nat.le_of_ble_eq_true rfl) ?_
  intro p e st m args below meth c ls A X hret hk hw hl
  have X : CX D p m c cL_isCell 11 st args RL A := X
  have hx := X.1.1
  have hb := X.1.2.1
  have hown := X.1.2.2.2.1
  have hts := X.1.2.2.2.2
  have hl : lv_has ls 11 [(0, .ref o), (1, .ref kv), (2, .ref kb), (3, .ref kg), (4, .int (nI i)), (5, .int (nI k)), (6, .int (nI x)), (7, .int (nI fl))] := hl
  refine lv_aload_n hx hb dL_isCell_0 rfl (lv_at hl 2 rfl) ?_
  refine lv_iload hx hb dL_isCell_1 (lv_at hl 4 rfl) ?_
  refine r_iald X hw (f := xb) i (m_fl 1 rfl (m_at 1 rfl)) rfl (by omega) (by decide) dL_isCell_3 ?_
  refine lv_iload hx hb dL_isCell_4 (lv_at hl 5 rfl) ?_
  refine lv_ishr hx hb dL_isCell_6 ?_
  refine lv_iconst (v := 1) hx hb dL_isCell_7 (by decide) ?_
  refine lv_iand hx hb dL_isCell_8 ?_
  refine lv_iconst (v := 1) hx hb dL_isCell_9 (by decide) ?_
  refine lv_icmp_ne (tgt := 17) hx hb dL_isCell_10 (by decide) (fun c1 => ?_) (fun c1 => ?_)
  · skip
    refine lv_iconst (v := 0) hx hb dL_isCell_17 (by decide) ?_
    refine lv_istore (lv' := [(8, .int 0), (0, .ref o), (1, .ref kv), (2, .ref kb), (3, .ref kg), (4, .int (nI i)), (5, .int (nI k)), (6, .int (nI x)), (7, .int (nI fl))]) hx hb dL_isCell_18 hl (by decide) rfl (fun ls hl => ?_)
    refine lv_iload hx hb dL_isCell_20 (lv_at hl 8 rfl) ?_
    refine r_if0N (tgt := 110) hx hb fl rfl (by omega) dL_isCell_22 (by decide) (fun c2 => ?_) (fun c2 => ?_)
    · skip
      refine lv_aload_n hx hb dL_isCell_110 rfl (lv_at hl 3 rfl) ?_
      refine lv_iload hx hb dL_isCell_111 (lv_at hl 5 rfl) ?_
      refine lv_dup2_11 hx hb dL_isCell_113 rfl rfl ?_
      refine r_iald X hw (f := xb) i (m_fl 1 rfl (m_at 1 rfl)) rfl (by omega) (by decide) dL_isCell_114 ?_
      refine lv_iload hx hb dL_isCell_115 (lv_at hl 0 rfl) ?_
      refine lv_if_eq (tgt := 127) hx hb dL_isCell_117 (by decide) (fun _ => ?_) (fun h => absurd (by decide) h)
      refine lv_iconst (v := 0) hx hb dL_isCell_127 (by decide) ?_
      refine lv_isub hx hb dL_isCell_128 ?_
      refine r_iast X hw (ws' := ([OB D o z s, [(kv, .inl (D.1 100, 7, .inl xv)), (kb, .inl (D.1 100, 7, .inl (upd xb i ((xb i) - 0)))), (kg, .inl (D.1 100, 7, .inl xg)), (kn, .inl (D.1 100, 7, .inl xn)), (kt, .inl (D.1 100, 11, .inl xt)), (ka, .inl (D.1 100, 27, .inl xa)), (kw, .inl (D.1 100, 64, .inl xw)), (kq, .inl (D.1 100, 14, .inl xq))]] : List va_W).flatten) i rfl (by omega) (by decide) (Foc.trans (Foc.at1 1 rfl rfl (ce rfl rfl)) (Foc.cell 1 rfl rfl (ce rfl (ce rfl (ce rfl (ce rfl (ce rfl (ce rfl (ce rfl rfl))))))))) dL_isCell_129 (fun H locs hw => ?_)
      refine lv_iconst (v := 0) hx hb dL_isCell_130 (by decide) ?_
      refine lv_istore (lv' := [(9, .int 0), (8, .int 0), (0, .ref o), (1, .ref kv), (2, .ref kb), (3, .ref kg), (4, .int (nI i)), (5, .int (nI k)), (6, .int (nI x)), (7, .int (nI fl))]) hx hb dL_isCell_131 hl (by decide) rfl (fun ls hl => ?_)
      refine lv_iconst (v := 0) hx hb dL_isCell_133 (by decide) ?_
      refine lv_istore (lv' := [(10, .int 0), (9, .int 0), (8, .int 0), (0, .ref o), (1, .ref kv), (2, .ref kb), (3, .ref kg), (4, .int (nI i)), (5, .int (nI k)), (6, .int (nI x)), (7, .int (nI fl))]) hx hb dL_isCell_134 hl (by decide) rfl (fun ls hl => ?_)
      have key136 : ∀ (n136 : Nat) (j : Nat) (x9 : Int32), (j ≤ 7) → (7 - j < n136) → (x9 = bsN (upd xb i ((xb i) - 0)) j) → ∀ (H : Heap) (locs : List Loc) (ls : Array Slot), Wd D A st.heap H locs (([OB D o z s, [(kv, .inl (D.1 100, 7, .inl xv)), (kb, .inl (D.1 100, 7, .inl (upd xb i ((xb i) - 0)))), (kg, .inl (D.1 100, 7, .inl xg)), (kn, .inl (D.1 100, 7, .inl xn)), (kt, .inl (D.1 100, 11, .inl xt)), (ka, .inl (D.1 100, 27, .inl xa)), (kw, .inl (D.1 100, 64, .inl xw)), (kq, .inl (D.1 100, 14, .inl xq))]] : List va_W).flatten) → lv_has ls 11 [(0, .ref o), (1, .ref kv), (2, .ref kb), (3, .ref kg), (4, .int (nI i)), (5, .int (nI k)), (6, .int (nI x)), (8, .int 0), (9, .int x9), (10, .int (nI j))] → W p l e (rmOf 5 0 0 148) st m args below meth c H locs 0 0 (QIU below args st D A 1 (postL K) (fun (u : US) => ([OB D o u.1 u.2.1, [(kv, .inl (D.1 100, 7, .inl u.2.2.2.2.1.1)), (kb, .inl (D.1 100, 7, .inl u.2.2.1)), (kg, .inl (D.1 100, 7, .inl u.2.2.2.1)), (kn, .inl (D.1 100, 7, .inl u.2.2.2.2.1.2.1)), (kt, .inl (D.1 100, 11, .inl u.2.2.2.2.1.2.2.1)), (ka, .inl (D.1 100, 27, .inl u.2.2.2.2.1.2.2.2)), (kw, .inl (D.1 100, 64, .inl u.2.2.2.2.2.1)), (kq, .inl (D.1 100, 14, .inl u.2.2.2.2.2.2))]] : List va_W).flatten)) (F0 m 136 ls []) := by
        intro n136
        induction n136 with
        | zero => intro j x9 hj hm hx9; omega
        | succ n136 ih136 =>
          intro j x9 hj hm hx9 H locs ls hw hl
          refine lv_iload hx hb dL_isCell_136 (lv_at hl 9 rfl) ?_
          refine lv_bipush (v := 7) hx hb dL_isCell_138 (by decide) ?_
          refine r_geN (tgt := 161) hx hb j 7 rfl rfl (by omega) (by omega) dL_isCell_140 (by decide) (fun c3 => ?_) (fun c3 => ?_)
          · skip
            refine lv_aload_n hx hb dL_isCell_161 rfl (lv_at hl 0 rfl) ?_
            refine lv_iload hx hb dL_isCell_162 (lv_at hl 4 rfl) ?_
            refine lv_iload hx hb dL_isCell_164 (lv_at hl 5 rfl) ?_
            obtain ⟨z1, s1, hz1, hL1, hM⟩ := k_healNL o hL hz (i := i) (k := k) hi7 hk8 c1
            refine r_callV X hw (ws' := ([OB D o z1 s1, [(kv, .inl (D.1 100, 7, .inl xv)), (kb, .inl (D.1 100, 7, .inl (upd xb i ((xb i) - 0)))), (kg, .inl (D.1 100, 7, .inl xg)), (kn, .inl (D.1 100, 7, .inl xn)), (kt, .inl (D.1 100, 11, .inl xt)), (ka, .inl (D.1 100, 27, .inl xa)), (kw, .inl (D.1 100, 64, .inl xw)), (kq, .inl (D.1 100, 14, .inl xq))]] : List va_W).flatten) (As := [.int (nI i), .int (nI k)]) (rest := []) lk_L_113 (hM l D _) (Foc.at1 0 rfl rfl (ce rfl rfl)) (m_fl 0 rfl (OB_mem D o z s)) rfl hl.1 (Nat.le_of_ble_eq_true rfl) ⟨Nat.le_of_ble_eq_true rfl, Nat.le_of_ble_eq_true rfl⟩ rfl dL_isCell_166 ⟨Nat.le_refl _, Nat.le_refl _⟩ (fun H locs hw => ?_)
            refine lv_iload hx hb dL_isCell_169 (lv_at hl 7 rfl) ?_
            refine lv_if_eq (tgt := 179) hx hb dL_isCell_171 (by decide) (fun _ => ?_) (fun h => absurd (by decide) h)
            refine lv_ldc (v := (-1000002)) hx hb hown (hts _ kc_L_112) dL_isCell_179 ?_
            refine lv_icmp_ne (tgt := 188) hx hb dL_isCell_181 (by decide) (fun h => absurd (by decide) h) (fun _ => ?_)
            refine lv_iconst (v := 1) hx hb dL_isCell_184 (by decide) ?_
            refine lv_goto (tgt := 189) hx hb dL_isCell_185 (by decide) ?_
            exact r_retU X hw hk (z1, s1, upd xb i ((xb i) - 0), xg, (xv, xn, xt, xa), xw, xq) hret rfl rfl (by unfold postL; dsimp only; rw [upd_sub0]; exact ⟨hz1, hL1⟩) rfl dL_isCell_189
          · skip
            refine lv_iload hx hb dL_isCell_143 (lv_at hl 8 rfl) ?_
            refine lv_aload_n hx hb dL_isCell_145 rfl (lv_at hl 2 rfl) ?_
            refine lv_iload hx hb dL_isCell_146 (lv_at hl 9 rfl) ?_
            refine r_iald X hw (f := upd xb i ((xb i) - 0)) j (m_fl 1 rfl (m_at 1 rfl)) rfl (by omega) (by decide) dL_isCell_148 ?_
            refine r_callS X hw (ws' := ([OB D o z s, [(kv, .inl (D.1 100, 7, .inl xv)), (kb, .inl (D.1 100, 7, .inl (upd xb i ((xb i) - 0)))), (kg, .inl (D.1 100, 7, .inl xg)), (kn, .inl (D.1 100, 7, .inl xn)), (kt, .inl (D.1 100, 11, .inl xt)), (ka, .inl (D.1 100, 27, .inl xa)), (kw, .inl (D.1 100, 64, .inl xw)), (kq, .inl (D.1 100, 14, .inl xq))]] : List va_W).flatten) (As := [.int ((upd xb i ((xb i) - 0)) j)]) (rest := [.int x9]) lk_L_63 (c_L_bits l D _ ((upd xb i ((xb i) - 0)) j)) Foc.nil rfl hl.1 (Nat.le_of_ble_eq_true rfl) ⟨Nat.le_of_ble_eq_true rfl, Nat.le_of_ble_eq_true rfl⟩ rfl dL_isCell_149 ⟨Nat.le_refl _, Nat.le_refl _⟩ (fun H locs hw => ?_)
            refine lv_iadd hx hb dL_isCell_152 ?_
            refine lv_istore (lv' := [(9, .int (x9 + (btN ((upd xb i ((xb i) - 0)) j) 8))), (0, .ref o), (1, .ref kv), (2, .ref kb), (3, .ref kg), (4, .int (nI i)), (5, .int (nI k)), (6, .int (nI x)), (8, .int 0), (10, .int (nI j))]) hx hb dL_isCell_153 hl (by decide) rfl (fun ls hl => ?_)
            refine r_iincN (lv' := [(10, .int (nI (j + 1))), (9, .int (x9 + (btN ((upd xb i ((xb i) - 0)) j) 8))), (0, .ref o), (1, .ref kv), (2, .ref kb), (3, .ref kg), (4, .int (nI i)), (5, .int (nI k)), (6, .int (nI x)), (8, .int 0)]) hx hb j 1 rfl dL_isCell_155 hl (k := 9) rfl rfl (by decide) rfl (fun ls hl => ?_)
            refine lv_goto (tgt := 136) hx hb dL_isCell_158 (by decide) ?_
            exact ih136 (j + 1) (x9 + (btN ((upd xb i ((xb i) - 0)) j) 8)) (by omega) (by omega) (by show _ = bsN _ j + btN _ 8; rw [hx9]) _ _ _ hw (lv_sub hl [2, 3, 4, 5, 6, 7, 8, 9, 1, 0] rfl)
      exact key136 8 0 0 (by omega) (by omega) rfl _ _ _ hw (lv_sub hl [3, 4, 5, 6, 7, 8, 9, 2, 1, 0] rfl)
    · skip
      refine lv_iload hx hb dL_isCell_25 (lv_at hl 0 rfl) ?_
      refine lv_if_ne (tgt := 77) hx hb dL_isCell_27 (by decide) (fun h => absurd (by decide) h) (fun _ => ?_)
      refine lv_aload_n hx hb dL_isCell_30 rfl (lv_at hl 3 rfl) ?_
      refine lv_iload hx hb dL_isCell_31 (lv_at hl 5 rfl) ?_
      refine lv_dup2_11 hx hb dL_isCell_33 rfl rfl ?_
      refine r_iald X hw (f := xb) i (m_fl 1 rfl (m_at 1 rfl)) rfl (by omega) (by decide) dL_isCell_34 ?_
      refine lv_iconst (v := 1) hx hb dL_isCell_35 (by decide) ?_
      refine lv_iload hx hb dL_isCell_36 (lv_at hl 6 rfl) ?_
      refine lv_ishl hx hb dL_isCell_38 ?_
      refine lv_iadd hx hb dL_isCell_39 ?_
      refine r_iast X hw (ws' := ([OB D o z s, [(kv, .inl (D.1 100, 7, .inl xv)), (kb, .inl (D.1 100, 7, .inl (upd xb i ((xb i) + ((1 : Int32) <<< ((nI k) &&& 31)))))), (kg, .inl (D.1 100, 7, .inl xg)), (kn, .inl (D.1 100, 7, .inl xn)), (kt, .inl (D.1 100, 11, .inl xt)), (ka, .inl (D.1 100, 27, .inl xa)), (kw, .inl (D.1 100, 64, .inl xw)), (kq, .inl (D.1 100, 14, .inl xq))]] : List va_W).flatten) i rfl (by omega) (by decide) (Foc.trans (Foc.at1 1 rfl rfl (ce rfl rfl)) (Foc.cell 1 rfl rfl (ce rfl (ce rfl (ce rfl (ce rfl (ce rfl (ce rfl (ce rfl rfl))))))))) dL_isCell_40 (fun H locs hw => ?_)
      refine lv_aload_n hx hb dL_isCell_41 rfl (lv_at hl 4 rfl) ?_
      refine lv_iload hx hb dL_isCell_42 (lv_at hl 5 rfl) ?_
      refine lv_dup2_11 hx hb dL_isCell_44 rfl rfl ?_
      refine r_iald X hw (f := xg) i (m_fl 1 rfl (m_at 2 rfl)) rfl (by omega) (by decide) dL_isCell_45 ?_
      refine lv_iload hx hb dL_isCell_46 (lv_at hl 7 rfl) ?_
      refine lv_aload_n hx hb dL_isCell_48 rfl (lv_at hl 4 rfl) ?_
      refine lv_iload hx hb dL_isCell_49 (lv_at hl 5 rfl) ?_
      refine r_iald X hw (f := xg) i (m_fl 1 rfl (m_at 2 rfl)) rfl (by omega) (by decide) dL_isCell_51 ?_
      refine lv_iload hx hb dL_isCell_52 (lv_at hl 6 rfl) ?_
      refine lv_ishr hx hb dL_isCell_54 ?_
      refine lv_iconst (v := 1) hx hb dL_isCell_55 (by decide) ?_
      refine lv_iand hx hb dL_isCell_56 ?_
      refine lv_isub hx hb dL_isCell_57 ?_
      refine lv_iconst (v := 1) hx hb dL_isCell_58 (by decide) ?_
      refine lv_iload hx hb dL_isCell_59 (lv_at hl 6 rfl) ?_
      refine lv_ishl hx hb dL_isCell_61 ?_
      refine lv_imul hx hb dL_isCell_62 ?_
      refine lv_iadd hx hb dL_isCell_63 ?_
      refine r_iast X hw (ws' := ([OB D o z s, [(kv, .inl (D.1 100, 7, .inl xv)), (kb, .inl (D.1 100, 7, .inl (upd xb i ((xb i) + ((1 : Int32) <<< ((nI k) &&& 31)))))), (kg, .inl (D.1 100, 7, .inl (upd xg i ((xg i) + (((nI x) - (((xg i) >>> ((nI k) &&& 31)) &&& 1)) * ((1 : Int32) <<< ((nI k) &&& 31))))))), (kn, .inl (D.1 100, 7, .inl xn)), (kt, .inl (D.1 100, 11, .inl xt)), (ka, .inl (D.1 100, 27, .inl xa)), (kw, .inl (D.1 100, 64, .inl xw)), (kq, .inl (D.1 100, 14, .inl xq))]] : List va_W).flatten) i rfl (by omega) (by decide) (Foc.trans (Foc.at1 1 rfl rfl (ce rfl rfl)) (Foc.cell 2 rfl rfl (ce rfl (ce rfl (ce rfl (ce rfl (ce rfl (ce rfl (ce rfl rfl))))))))) dL_isCell_64 (fun H locs hw => ?_)
      refine lv_aload_n hx hb dL_isCell_65 rfl (lv_at hl 2 rfl) ?_
      refine lv_aload_n hx hb dL_isCell_66 rfl (lv_at hl 3 rfl) ?_
      refine lv_aload_n hx hb dL_isCell_67 rfl (lv_at hl 4 rfl) ?_
      refine lv_iload hx hb dL_isCell_68 (lv_at hl 5 rfl) ?_
      refine lv_aload_n hx hb dL_isCell_70 rfl (lv_at hl 2 rfl) ?_
      refine lv_iload hx hb dL_isCell_71 (lv_at hl 5 rfl) ?_
      refine r_iald X hw (f := xv) i (m_fl 1 rfl (m_at 0 rfl)) rfl (by omega) (by decide) dL_isCell_73 ?_
      refine r_callSv X hw (ws' := ([OB D o z s, [(kv, .inl (D.1 100, 7, .inl (upd xv i (puN ((upd xb i ((xb i) + ((1 : Int32) <<< ((nI k) &&& 31)))) i) ((upd xg i ((xg i) + (((nI x) - (((xg i) >>> ((nI k) &&& 31)) &&& 1)) * ((1 : Int32) <<< ((nI k) &&& 31))))) i) (xv i) 8)))), (kb, .inl (D.1 100, 7, .inl (upd xb i ((xb i) + ((1 : Int32) <<< ((nI k) &&& 31)))))), (kg, .inl (D.1 100, 7, .inl (upd xg i ((xg i) + (((nI x) - (((xg i) >>> ((nI k) &&& 31)) &&& 1)) * ((1 : Int32) <<< ((nI k) &&& 31))))))), (kn, .inl (D.1 100, 7, .inl xn)), (kt, .inl (D.1 100, 11, .inl xt)), (ka, .inl (D.1 100, 27, .inl xa)), (kw, .inl (D.1 100, 64, .inl xw)), (kq, .inl (D.1 100, 14, .inl xq))]] : List va_W).flatten) (As := [.ref kv, .ref kb, .ref kg, .int (nI i), .int (xv i)]) (rest := []) lk_L_33 (c_L_put l D _ kv kb kg xv (upd xb i ((xb i) + ((1 : Int32) <<< ((nI k) &&& 31)))) (upd xg i ((xg i) + (((nI x) - (((xg i) >>> ((nI k) &&& 31)) &&& 1)) * ((1 : Int32) <<< ((nI k) &&& 31))))) i (xv i) (by omega)) (Foc.trans (Foc.at1 1 rfl rfl (ce rfl rfl)) (Foc.pick [0, 0, 0] (r := [(kn, .inl (D.1 100, 7, .inl xn)), (kt, .inl (D.1 100, 11, .inl xt)), (ka, .inl (D.1 100, 27, .inl xa)), (kw, .inl (D.1 100, 64, .inl xw)), (kq, .inl (D.1 100, 14, .inl xq))]) rfl rfl)) rfl hl.1 (Nat.le_of_ble_eq_true rfl) ⟨Nat.le_of_ble_eq_true rfl, Nat.le_of_ble_eq_true rfl⟩ rfl dL_isCell_74 ⟨Nat.le_refl _, Nat.le_refl _⟩ (fun H locs hw => ?_)
      refine lv_aload_n hx hb dL_isCell_77 rfl (lv_at hl 1 rfl) ?_
      refine lv_iload hx hb dL_isCell_78 (lv_at hl 5 rfl) ?_
      refine lv_iload hx hb dL_isCell_80 (lv_at hl 6 rfl) ?_
      refine lv_iload hx hb dL_isCell_82 (lv_at hl 7 rfl) ?_
      obtain ⟨z1, s1, hz1, hL1, hM⟩ := k_failL o hL hz (i := i) (k := k) (x := x) hi7 hk8 hx2 c1
      refine r_callV X hw (ws' := ([OB D o z1 s1, [(kv, .inl (D.1 100, 7, .inl (upd xv i (puN ((upd xb i ((xb i) + ((1 : Int32) <<< ((nI k) &&& 31)))) i) ((upd xg i ((xg i) + (((nI x) - (((xg i) >>> ((nI k) &&& 31)) &&& 1)) * ((1 : Int32) <<< ((nI k) &&& 31))))) i) (xv i) 8)))), (kb, .inl (D.1 100, 7, .inl (upd xb i ((xb i) + ((1 : Int32) <<< ((nI k) &&& 31)))))), (kg, .inl (D.1 100, 7, .inl (upd xg i ((xg i) + (((nI x) - (((xg i) >>> ((nI k) &&& 31)) &&& 1)) * ((1 : Int32) <<< ((nI k) &&& 31))))))), (kn, .inl (D.1 100, 7, .inl xn)), (kt, .inl (D.1 100, 11, .inl xt)), (ka, .inl (D.1 100, 27, .inl xa)), (kw, .inl (D.1 100, 64, .inl xw)), (kq, .inl (D.1 100, 14, .inl xq))]] : List va_W).flatten) (As := [.int (nI i), .int (nI k), .int (nI x)]) (rest := []) lk_L_109 (hM l D _) (Foc.at1 0 rfl rfl (ce rfl rfl)) (m_fl 0 rfl (OB_mem D o z s)) rfl hl.1 (Nat.le_of_ble_eq_true rfl) ⟨Nat.le_of_ble_eq_true rfl, Nat.le_of_ble_eq_true rfl⟩ rfl dL_isCell_84 ⟨Nat.le_refl _, Nat.le_refl _⟩ (fun H locs hw => ?_)
      refine lv_iload hx hb dL_isCell_87 (lv_at hl 0 rfl) ?_
      refine lv_if_eq (tgt := 97) hx hb dL_isCell_89 (by decide) (fun _ => ?_) (fun h => absurd (by decide) h)
      refine lv_aload_n hx hb dL_isCell_97 rfl (lv_at hl 2 rfl) ?_
      refine lv_iload hx hb dL_isCell_98 (lv_at hl 5 rfl) ?_
      refine r_iald X hw (f := upd xv i (puN ((upd xb i ((xb i) + ((1 : Int32) <<< ((nI k) &&& 31)))) i) ((upd xg i ((xg i) + (((nI x) - (((xg i) >>> ((nI k) &&& 31)) &&& 1)) * ((1 : Int32) <<< ((nI k) &&& 31))))) i) (xv i) 8)) i (m_fl 1 rfl (m_at 0 rfl)) rfl (by omega) (by decide) dL_isCell_100 ?_
      refine lv_icmp_ne (tgt := 108) hx hb dL_isCell_101 (by decide) (fun h => absurd rfl h) (fun _ => ?_)
      refine lv_iconst (v := 1) hx hb dL_isCell_104 (by decide) ?_
      refine lv_goto (tgt := 109) hx hb dL_isCell_105 (by decide) ?_
      exact r_retU X hw hk (z1, s1, upd xb i ((xb i) + ((1 : Int32) <<< ((nI k) &&& 31))), upd xg i ((xg i) + (((nI x) - (((xg i) >>> ((nI k) &&& 31)) &&& 1)) * ((1 : Int32) <<< ((nI k) &&& 31)))), (upd xv i (puN ((upd xb i ((xb i) + ((1 : Int32) <<< ((nI k) &&& 31)))) i) ((upd xg i ((xg i) + (((nI x) - (((xg i) >>> ((nI k) &&& 31)) &&& 1)) * ((1 : Int32) <<< ((nI k) &&& 31))))) i) (xv i) 8), xn, xt, xa), xw, xq) hret rfl rfl ⟨hz1, hL1⟩ rfl dL_isCell_109
  · skip
    refine lv_iconst (v := 1) hx hb dL_isCell_13 (by decide) ?_
    refine lv_goto (tgt := 18) hx hb dL_isCell_14 (by decide) ?_
    refine lv_istore (lv' := [(8, .int 1), (0, .ref o), (1, .ref kv), (2, .ref kb), (3, .ref kg), (4, .int (nI i)), (5, .int (nI k)), (6, .int (nI x)), (7, .int (nI fl))]) hx hb dL_isCell_18 hl (by decide) rfl (fun ls hl => ?_)
    refine lv_iload hx hb dL_isCell_20 (lv_at hl 8 rfl) ?_
    refine r_if0N (tgt := 110) hx hb fl rfl (by omega) dL_isCell_22 (by decide) (fun c4 => ?_) (fun c4 => ?_)
    · skip
      refine lv_aload_n hx hb dL_isCell_110 rfl (lv_at hl 3 rfl) ?_
      refine lv_iload hx hb dL_isCell_111 (lv_at hl 5 rfl) ?_
      refine lv_dup2_11 hx hb dL_isCell_113 rfl rfl ?_
      refine r_iald X hw (f := xb) i (m_fl 1 rfl (m_at 1 rfl)) rfl (by omega) (by decide) dL_isCell_114 ?_
      refine lv_iload hx hb dL_isCell_115 (lv_at hl 0 rfl) ?_
      refine lv_if_eq (tgt := 127) hx hb dL_isCell_117 (by decide) (fun h => absurd h (by decide)) (fun _ => ?_)
      refine lv_iconst (v := 1) hx hb dL_isCell_120 (by decide) ?_
      refine lv_iload hx hb dL_isCell_121 (lv_at hl 6 rfl) ?_
      refine lv_ishl hx hb dL_isCell_123 ?_
      refine lv_goto (tgt := 128) hx hb dL_isCell_124 (by decide) ?_
      refine lv_isub hx hb dL_isCell_128 ?_
      refine r_iast X hw (ws' := ([OB D o z s, [(kv, .inl (D.1 100, 7, .inl xv)), (kb, .inl (D.1 100, 7, .inl (upd xb i ((xb i) - ((1 : Int32) <<< ((nI k) &&& 31)))))), (kg, .inl (D.1 100, 7, .inl xg)), (kn, .inl (D.1 100, 7, .inl xn)), (kt, .inl (D.1 100, 11, .inl xt)), (ka, .inl (D.1 100, 27, .inl xa)), (kw, .inl (D.1 100, 64, .inl xw)), (kq, .inl (D.1 100, 14, .inl xq))]] : List va_W).flatten) i rfl (by omega) (by decide) (Foc.trans (Foc.at1 1 rfl rfl (ce rfl rfl)) (Foc.cell 1 rfl rfl (ce rfl (ce rfl (ce rfl (ce rfl (ce rfl (ce rfl (ce rfl rfl))))))))) dL_isCell_129 (fun H locs hw => ?_)
      refine lv_iconst (v := 0) hx hb dL_isCell_130 (by decide) ?_
      refine lv_istore (lv' := [(9, .int 0), (8, .int 1), (0, .ref o), (1, .ref kv), (2, .ref kb), (3, .ref kg), (4, .int (nI i)), (5, .int (nI k)), (6, .int (nI x)), (7, .int (nI fl))]) hx hb dL_isCell_131 hl (by decide) rfl (fun ls hl => ?_)
      refine lv_iconst (v := 0) hx hb dL_isCell_133 (by decide) ?_
      refine lv_istore (lv' := [(10, .int 0), (9, .int 0), (8, .int 1), (0, .ref o), (1, .ref kv), (2, .ref kb), (3, .ref kg), (4, .int (nI i)), (5, .int (nI k)), (6, .int (nI x)), (7, .int (nI fl))]) hx hb dL_isCell_134 hl (by decide) rfl (fun ls hl => ?_)
      have key136 : ∀ (n136 : Nat) (j : Nat) (x9 : Int32), (j ≤ 7) → (7 - j < n136) → (x9 = bsN (upd xb i ((xb i) - ((1 : Int32) <<< ((nI k) &&& 31)))) j) → ∀ (H : Heap) (locs : List Loc) (ls : Array Slot), Wd D A st.heap H locs (([OB D o z s, [(kv, .inl (D.1 100, 7, .inl xv)), (kb, .inl (D.1 100, 7, .inl (upd xb i ((xb i) - ((1 : Int32) <<< ((nI k) &&& 31)))))), (kg, .inl (D.1 100, 7, .inl xg)), (kn, .inl (D.1 100, 7, .inl xn)), (kt, .inl (D.1 100, 11, .inl xt)), (ka, .inl (D.1 100, 27, .inl xa)), (kw, .inl (D.1 100, 64, .inl xw)), (kq, .inl (D.1 100, 14, .inl xq))]] : List va_W).flatten) → lv_has ls 11 [(0, .ref o), (1, .ref kv), (2, .ref kb), (3, .ref kg), (4, .int (nI i)), (5, .int (nI k)), (6, .int (nI x)), (8, .int 1), (9, .int x9), (10, .int (nI j))] → W p l e (rmOf 5 0 0 148) st m args below meth c H locs 0 0 (QIU below args st D A 1 (postL K) (fun (u : US) => ([OB D o u.1 u.2.1, [(kv, .inl (D.1 100, 7, .inl u.2.2.2.2.1.1)), (kb, .inl (D.1 100, 7, .inl u.2.2.1)), (kg, .inl (D.1 100, 7, .inl u.2.2.2.1)), (kn, .inl (D.1 100, 7, .inl u.2.2.2.2.1.2.1)), (kt, .inl (D.1 100, 11, .inl u.2.2.2.2.1.2.2.1)), (ka, .inl (D.1 100, 27, .inl u.2.2.2.2.1.2.2.2)), (kw, .inl (D.1 100, 64, .inl u.2.2.2.2.2.1)), (kq, .inl (D.1 100, 14, .inl u.2.2.2.2.2.2))]] : List va_W).flatten)) (F0 m 136 ls []) := by
        intro n136
        induction n136 with
        | zero => intro j x9 hj hm hx9; omega
        | succ n136 ih136 =>
          intro j x9 hj hm hx9 H locs ls hw hl
          refine lv_iload hx hb dL_isCell_136 (lv_at hl 9 rfl) ?_
          refine lv_bipush (v := 7) hx hb dL_isCell_138 (by decide) ?_
          refine r_geN (tgt := 161) hx hb j 7 rfl rfl (by omega) (by omega) dL_isCell_140 (by decide) (fun c5 => ?_) (fun c5 => ?_)
          · skip
            refine lv_aload_n hx hb dL_isCell_161 rfl (lv_at hl 0 rfl) ?_
            refine lv_iload hx hb dL_isCell_162 (lv_at hl 4 rfl) ?_
            refine lv_iload hx hb dL_isCell_164 (lv_at hl 5 rfl) ?_
            obtain ⟨z1, s1, hz1, hL1, hM⟩ := k_healL o hL hz (i := i) (k := k) hi7 hk8 c1
            refine r_callV X hw (ws' := ([OB D o z1 s1, [(kv, .inl (D.1 100, 7, .inl xv)), (kb, .inl (D.1 100, 7, .inl (upd xb i ((xb i) - ((1 : Int32) <<< ((nI k) &&& 31)))))), (kg, .inl (D.1 100, 7, .inl xg)), (kn, .inl (D.1 100, 7, .inl xn)), (kt, .inl (D.1 100, 11, .inl xt)), (ka, .inl (D.1 100, 27, .inl xa)), (kw, .inl (D.1 100, 64, .inl xw)), (kq, .inl (D.1 100, 14, .inl xq))]] : List va_W).flatten) (As := [.int (nI i), .int (nI k)]) (rest := []) lk_L_113 (hM l D _) (Foc.at1 0 rfl rfl (ce rfl rfl)) (m_fl 0 rfl (OB_mem D o z s)) rfl hl.1 (Nat.le_of_ble_eq_true rfl) ⟨Nat.le_of_ble_eq_true rfl, Nat.le_of_ble_eq_true rfl⟩ rfl dL_isCell_166 ⟨Nat.le_refl _, Nat.le_refl _⟩ (fun H locs hw => ?_)
            refine lv_iload hx hb dL_isCell_169 (lv_at hl 7 rfl) ?_
            refine lv_if_eq (tgt := 179) hx hb dL_isCell_171 (by decide) (fun h => absurd h (by decide)) (fun _ => ?_)
            refine lv_iload hx hb dL_isCell_174 (lv_at hl 8 rfl) ?_
            refine lv_goto (tgt := 181) hx hb dL_isCell_176 (by decide) ?_
            refine lv_icmp_ne (tgt := 188) hx hb dL_isCell_181 (by decide) (fun h => absurd (by rw [hx9, show j = 7 from by omega]) h) (fun _ => ?_)
            refine lv_iconst (v := 1) hx hb dL_isCell_184 (by decide) ?_
            refine lv_goto (tgt := 189) hx hb dL_isCell_185 (by decide) ?_
            exact r_retU X hw hk (z1, s1, upd xb i ((xb i) - ((1 : Int32) <<< ((nI k) &&& 31))), xg, (xv, xn, xt, xa), xw, xq) hret rfl rfl ⟨hz1, hL1⟩ rfl dL_isCell_189
          · skip
            refine lv_iload hx hb dL_isCell_143 (lv_at hl 8 rfl) ?_
            refine lv_aload_n hx hb dL_isCell_145 rfl (lv_at hl 2 rfl) ?_
            refine lv_iload hx hb dL_isCell_146 (lv_at hl 9 rfl) ?_
            refine r_iald X hw (f := upd xb i ((xb i) - ((1 : Int32) <<< ((nI k) &&& 31)))) j (m_fl 1 rfl (m_at 1 rfl)) rfl (by omega) (by decide) dL_isCell_148 ?_
            refine r_callS X hw (ws' := ([OB D o z s, [(kv, .inl (D.1 100, 7, .inl xv)), (kb, .inl (D.1 100, 7, .inl (upd xb i ((xb i) - ((1 : Int32) <<< ((nI k) &&& 31)))))), (kg, .inl (D.1 100, 7, .inl xg)), (kn, .inl (D.1 100, 7, .inl xn)), (kt, .inl (D.1 100, 11, .inl xt)), (ka, .inl (D.1 100, 27, .inl xa)), (kw, .inl (D.1 100, 64, .inl xw)), (kq, .inl (D.1 100, 14, .inl xq))]] : List va_W).flatten) (As := [.int ((upd xb i ((xb i) - ((1 : Int32) <<< ((nI k) &&& 31)))) j)]) (rest := [.int x9]) lk_L_63 (c_L_bits l D _ ((upd xb i ((xb i) - ((1 : Int32) <<< ((nI k) &&& 31)))) j)) Foc.nil rfl hl.1 (Nat.le_of_ble_eq_true rfl) ⟨Nat.le_of_ble_eq_true rfl, Nat.le_of_ble_eq_true rfl⟩ rfl dL_isCell_149 ⟨Nat.le_refl _, Nat.le_refl _⟩ (fun H locs hw => ?_)
            refine lv_iadd hx hb dL_isCell_152 ?_
            refine lv_istore (lv' := [(9, .int (x9 + (btN ((upd xb i ((xb i) - ((1 : Int32) <<< ((nI k) &&& 31)))) j) 8))), (0, .ref o), (1, .ref kv), (2, .ref kb), (3, .ref kg), (4, .int (nI i)), (5, .int (nI k)), (6, .int (nI x)), (8, .int 1), (10, .int (nI j))]) hx hb dL_isCell_153 hl (by decide) rfl (fun ls hl => ?_)
            refine r_iincN (lv' := [(10, .int (nI (j + 1))), (9, .int (x9 + (btN ((upd xb i ((xb i) - ((1 : Int32) <<< ((nI k) &&& 31)))) j) 8))), (0, .ref o), (1, .ref kv), (2, .ref kb), (3, .ref kg), (4, .int (nI i)), (5, .int (nI k)), (6, .int (nI x)), (8, .int 1)]) hx hb j 1 rfl dL_isCell_155 hl (k := 9) rfl rfl (by decide) rfl (fun ls hl => ?_)
            refine lv_goto (tgt := 136) hx hb dL_isCell_158 (by decide) ?_
            exact ih136 (j + 1) (x9 + (btN ((upd xb i ((xb i) - ((1 : Int32) <<< ((nI k) &&& 31)))) j) 8)) (by omega) (by omega) (by show _ = bsN _ j + btN _ 8; rw [hx9]) _ _ _ hw (lv_sub hl [2, 3, 4, 5, 6, 7, 8, 9, 1, 0] rfl)
      exact key136 8 0 0 (by omega) (by omega) rfl _ _ _ hw (lv_sub hl [3, 4, 5, 6, 7, 8, 9, 2, 1, 0] rfl)
    · skip
      refine lv_iload hx hb dL_isCell_25 (lv_at hl 0 rfl) ?_
      refine lv_if_ne (tgt := 77) hx hb dL_isCell_27 (by decide) (fun _ => ?_) (fun h => absurd h (by decide))
      refine lv_aload_n hx hb dL_isCell_77 rfl (lv_at hl 1 rfl) ?_
      refine lv_iload hx hb dL_isCell_78 (lv_at hl 5 rfl) ?_
      refine lv_iload hx hb dL_isCell_80 (lv_at hl 6 rfl) ?_
      refine lv_iload hx hb dL_isCell_82 (lv_at hl 7 rfl) ?_
      obtain ⟨z1, s1, hz1, hL1, hM⟩ := k_failNL o hL hz (i := i) (k := k) (x := x) hi7 hk8 hx2 c1
      refine r_callV X hw (ws' := ([OB D o z1 s1, [(kv, .inl (D.1 100, 7, .inl xv)), (kb, .inl (D.1 100, 7, .inl xb)), (kg, .inl (D.1 100, 7, .inl xg)), (kn, .inl (D.1 100, 7, .inl xn)), (kt, .inl (D.1 100, 11, .inl xt)), (ka, .inl (D.1 100, 27, .inl xa)), (kw, .inl (D.1 100, 64, .inl xw)), (kq, .inl (D.1 100, 14, .inl xq))]] : List va_W).flatten) (As := [.int (nI i), .int (nI k), .int (nI x)]) (rest := []) lk_L_109 (hM l D _) (Foc.at1 0 rfl rfl (ce rfl rfl)) (m_fl 0 rfl (OB_mem D o z s)) rfl hl.1 (Nat.le_of_ble_eq_true rfl) ⟨Nat.le_of_ble_eq_true rfl, Nat.le_of_ble_eq_true rfl⟩ rfl dL_isCell_84 ⟨Nat.le_refl _, Nat.le_refl _⟩ (fun H locs hw => ?_)
      refine lv_iload hx hb dL_isCell_87 (lv_at hl 0 rfl) ?_
      refine lv_if_eq (tgt := 97) hx hb dL_isCell_89 (by decide) (fun h => absurd h (by decide)) (fun _ => ?_)
      refine lv_ldc (v := (-1000002)) hx hb hown (hts _ kc_L_112) dL_isCell_92 ?_
      refine lv_goto (tgt := 101) hx hb dL_isCell_94 (by decide) ?_
      refine lv_icmp_ne (tgt := 108) hx hb dL_isCell_101 (by decide) (fun h => absurd (by decide) h) (fun _ => ?_)
      refine lv_iconst (v := 1) hx hb dL_isCell_104 (by decide) ?_
      refine lv_goto (tgt := 109) hx hb dL_isCell_105 (by decide) ?_
      exact r_retU X hw hk (z1, s1, xb, xg, (xv, xn, xt, xa), xw, xq) hret rfl rfl ⟨hz1, hL1⟩ rfl dL_isCell_109
