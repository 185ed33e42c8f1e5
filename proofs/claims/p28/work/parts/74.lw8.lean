/-! the law's own loop -/
theorem and_max (x : Int32) : ∃ v, v < 2147483648 ∧ x &&& 2147483647 = nI v := by
  refine ⟨(x.toBitVec &&& 2147483647#32).toNat, ?_, ?_⟩
  · rw [BitVec.toNat_and]
    exact Nat.lt_of_le_of_lt Nat.and_le_right (by decide)
  · apply Int32.toBitVec_inj.mp
    apply BitVec.eq_of_toNat_eq
    show (x.toBitVec &&& 2147483647#32).toNat = (BitVec.ofNat 32 (x.toBitVec &&& 2147483647#32).toNat).toNat
    rw [BitVec.toNat_ofNat, Nat.mod_eq_of_lt (BitVec.isLt _)]
section LOOP
variable {p : Program} {l : Launch} {e : Env} {s : State} {m : MethodId} {args : Array Value} {below : List Frame} {meth : Method} {c : Code} {Q : State → Prop} {D : va_G} {A : Nat → Prop}
variable (o kv kb kg kn kt ka kw kq : Nat)
set_option maxRecDepth 100000 in
set_option maxHeartbeats 40000000 in
theorem law_loop (X : CX D p m c cL_law 13 s args RL A) {sb N : Nat} {xs : Nat → Int32} (hT : SX sb N xs A s s.heap) (hN : N ≤ 260)
    (hend : ∀ (H : Heap) (locs : List Loc) (ls : Array Slot) (ws : va_W) (cl sl : Nat), cl ≤ 600000 → sl ≤ 7302250 → Wd D A s.heap H locs ws → W p l e room_1 s m args below meth c H locs cl sl Q (F0 m 208 ls [])) :
    ∀ (n j cl sl : Nat) (u : US) (H : Heap) (locs : List Loc) (ls : Array Slot), 57 - j < n → j ≤ 56 → cl + (56 - j) ≤ 600000 → sl + 7 * (56 - j) ≤ 7302250 → postL j u → Wd D A s.heap H locs ((fun (u : US) => ([OB D o u.1 u.2.1, [(kv, .inl (D.1 100, 7, .inl u.2.2.2.2.1.1)), (kb, .inl (D.1 100, 7, .inl u.2.2.1)), (kg, .inl (D.1 100, 7, .inl u.2.2.2.1)), (kn, .inl (D.1 100, 7, .inl u.2.2.2.2.1.2.1)), (kt, .inl (D.1 100, 11, .inl u.2.2.2.2.1.2.2.1)), (ka, .inl (D.1 100, 27, .inl u.2.2.2.2.1.2.2.2)), (kw, .inl (D.1 100, 64, .inl u.2.2.2.2.2.1)), (kq, .inl (D.1 100, 14, .inl u.2.2.2.2.2.2))]] : List va_W).flatten) u) → lv_has ls 13 [(10, .int (nI j)), (0, .ref sb), (1, .ref o), (2, .ref kv), (3, .ref kb), (4, .ref kg), (5, .ref kn), (6, .ref kt), (7, .ref ka), (8, .ref kw), (9, .ref kq)] → W p l e room_1 s m args below meth c H locs cl sl Q (F0 m 83 ls []) := by
  have hx := X.1.1
  have hb := X.1.2.1
  have hown := X.1.2.2.2.1
  have hts := X.1.2.2.2.2
  intro n
  induction n with
  | zero => intro j cl sl u H locs ls h; exact absurd h (Nat.not_lt_zero _)
  | succ n ih =>
    intro j cl sl u H locs ls h hj hcl hsl hP hw hl
    obtain ⟨z1, c1, xb, xg, ⟨xv, xn, xt, xa⟩, xw, xq⟩ := u
    replace hw : Wd D A s.heap H locs (([OB D o z1 c1, [(kv, .inl (D.1 100, 7, .inl xv)), (kb, .inl (D.1 100, 7, .inl xb)), (kg, .inl (D.1 100, 7, .inl xg)), (kn, .inl (D.1 100, 7, .inl xn)), (kt, .inl (D.1 100, 11, .inl xt)), (ka, .inl (D.1 100, 27, .inl xa)), (kw, .inl (D.1 100, 64, .inl xw)), (kq, .inl (D.1 100, 14, .inl xq))]] : List va_W).flatten) := hw
    obtain ⟨hz, hLR⟩ := hP
    replace hz : zOK z1 := hz
    replace hLR : LR j xb xg c1 (xv, xn, xt, xa) := hLR
    obtain ⟨-, -, -, -, -, -, -, -, -, -, -, -, -, p0, zz, q, hok⟩ := id hLR
    replace hok : lOK xt p0 zz q := hok
    refine lv_iload hx hb dL_law_83 (lv_at hl 0 rfl) ?_
    refine lv_bipush (v := 56) hx hb dL_law_85 (by decide) ?_
    refine r_geN (tgt := 208) hx hb j 56 rfl rfl (by omega) (by omega) dL_law_87 (by decide) (fun _ => hend _ _ _ _ _ _ (by omega) (by omega) hw) (fun hj56 => ?_)
    refine lv_aload_n hx hb dL_law_90 rfl (lv_at hl 1 rfl) ?_
    refine lv_iload hx hb dL_law_91 (lv_at hl 0 rfl) ?_
    refine r_callC X hw (rest := []) hT hN hj56 lk_L_117 hl.1 (Nat.le_of_ble_eq_true rfl) ⟨Nat.le_of_ble_eq_true rfl, Nat.le_of_ble_eq_true rfl⟩ dL_law_93 ⟨show cl ≤ 600000 from by omega, show sl ≤ 7302250 from by omega⟩ (fun H locs hw => ?_)
    refine lv_ldc (v := 2147483647) hx hb hown (hts _ kc_L_8) dL_law_96 ?_
    refine lv_iand hx hb dL_law_98 ?_
    obtain ⟨zv, hzv, ez⟩ := and_max (cellV N xs j)
    rw [ez]
    refine lv_istore (lv' := [(11, .int (nI zv)), (10, .int (nI j)), (0, .ref sb), (1, .ref o), (2, .ref kv), (3, .ref kb), (4, .ref kg), (5, .ref kn), (6, .ref kt), (7, .ref ka), (8, .ref kw), (9, .ref kq)]) hx hb dL_law_99 hl (by decide) rfl (fun ls hl => ?_)
    refine lv_iload hx hb dL_law_101 (lv_at hl 0 rfl) ?_
    refine lv_bipush (v := 20) hx hb dL_law_103 (by decide) ?_
    refine r_remN hx hb zv 20 rfl rfl (by omega) (by decide) (by decide) dL_law_105 ?_
    have act : ∀ (way : Nat), way < 20 → (7 ≤ way → way < 11 → 6 * q < 8 * zz) → ∀ (H : Heap) (locs : List Loc) (ls : Array Slot), Wd D A s.heap H locs (([OB D o z1 c1, [(kv, .inl (D.1 100, 7, .inl xv)), (kb, .inl (D.1 100, 7, .inl xb)), (kg, .inl (D.1 100, 7, .inl xg)), (kn, .inl (D.1 100, 7, .inl xn)), (kt, .inl (D.1 100, 11, .inl xt)), (ka, .inl (D.1 100, 27, .inl xa)), (kw, .inl (D.1 100, 64, .inl xw)), (kq, .inl (D.1 100, 14, .inl xq))]] : List va_W).flatten) → lv_has ls 13 [(12, .int (nI way)), (11, .int (nI zv)), (10, .int (nI j)), (0, .ref sb), (1, .ref o), (2, .ref kv), (3, .ref kb), (4, .ref kg), (5, .ref kn), (6, .ref kt), (7, .ref ka), (8, .ref kw), (9, .ref kq)] → W p l e room_1 s m args below meth c H locs cl sl Q (F0 m 145 ls []) := by
      intro way hway hqb H locs ls hw hl
      refine lv_aload_n hx hb dL_law_145 rfl (lv_at hl 4 rfl) ?_
      refine lv_aload_n hx hb dL_law_146 rfl (lv_at hl 5 rfl) ?_
      refine lv_aload_n hx hb dL_law_147 rfl (lv_at hl 6 rfl) ?_
      refine lv_aload hx hb dL_law_148 (lv_at hl 7 rfl) ?_
      refine lv_aload hx hb dL_law_150 (lv_at hl 8 rfl) ?_
      refine lv_aload hx hb dL_law_152 (lv_at hl 9 rfl) ?_
      refine lv_aload hx hb dL_law_154 (lv_at hl 10 rfl) ?_
      refine lv_aload hx hb dL_law_156 (lv_at hl 11 rfl) ?_
      refine lv_aload hx hb dL_law_158 (lv_at hl 12 rfl) ?_
      refine lv_iload hx hb dL_law_160 (lv_at hl 0 rfl) ?_
      refine lv_iload hx hb dL_law_162 (lv_at hl 1 rfl) ?_
      refine lv_bipush (v := 20) hx hb dL_law_164 (by decide) ?_
      refine r_divN hx hb zv 20 rfl rfl (by omega) (by decide) (by decide) dL_law_166 ?_
      refine r_callSU X hw (W1 := fun (u : US) => ([OB D o u.1 u.2.1, [(kv, .inl (D.1 100, 7, .inl u.2.2.2.2.1.1)), (kb, .inl (D.1 100, 7, .inl u.2.2.1)), (kg, .inl (D.1 100, 7, .inl u.2.2.2.1)), (kn, .inl (D.1 100, 7, .inl u.2.2.2.2.1.2.1)), (kt, .inl (D.1 100, 11, .inl u.2.2.2.2.1.2.2.1)), (ka, .inl (D.1 100, 27, .inl u.2.2.2.2.1.2.2.2)), (kw, .inl (D.1 100, 64, .inl u.2.2.2.2.2.1)), (kq, .inl (D.1 100, 14, .inl u.2.2.2.2.2.2))]] : List va_W).flatten) (As := [.ref o, .ref kv, .ref kb, .ref kg, .ref kn, .ref kt, .ref ka, .ref kw, .ref kq, .int (nI way), .int (nI (zv / 20))]) (rest := []) lk_L_120 (c_L_isActed l D _ o z1 c1 kv kb kg kn kt ka kw kq xv xb xg xn xt xa xw xq way (zv / 20) hway (by omega) p0 zz q hok hqb j (by omega) hLR hz) FocU.all rfl hl.1 (Nat.le_of_ble_eq_true rfl) ⟨Nat.le_of_ble_eq_true rfl, Nat.le_of_ble_eq_true rfl⟩ rfl dL_law_167 ⟨show cl ≤ 600000 from by omega, show sl ≤ 7302250 from by omega⟩ (fun u9 H locs hu9 hw => ?_)
      refine lv_if_eq (tgt := 200) hx hb dL_law_170 (by decide) (fun h => absurd h (by decide)) (fun _ => ?_)
      obtain ⟨z2, c2, yb, yg, ⟨yv, yn, yt, ya⟩, yw, yq⟩ := u9
      replace hw : Wd D A s.heap H locs (([OB D o z2 c2, [(kv, .inl (D.1 100, 7, .inl yv)), (kb, .inl (D.1 100, 7, .inl yb)), (kg, .inl (D.1 100, 7, .inl yg)), (kn, .inl (D.1 100, 7, .inl yn)), (kt, .inl (D.1 100, 11, .inl yt)), (ka, .inl (D.1 100, 27, .inl ya)), (kw, .inl (D.1 100, 64, .inl yw)), (kq, .inl (D.1 100, 14, .inl yq))]] : List va_W).flatten) := hw
      obtain ⟨hz2, hL2⟩ := id hu9
      replace hz2 : zOK z2 := hz2
      replace hL2 : LR (j + 1) yb yg c2 (yv, yn, yt, ya) := hL2
      refine lv_aload_n hx hb dL_law_173 rfl (lv_at hl 4 rfl) ?_
      refine lv_aload_n hx hb dL_law_174 rfl (lv_at hl 5 rfl) ?_
      refine lv_aload_n hx hb dL_law_175 rfl (lv_at hl 6 rfl) ?_
      refine lv_aload hx hb dL_law_176 (lv_at hl 7 rfl) ?_
      refine lv_aload hx hb dL_law_178 (lv_at hl 8 rfl) ?_
      refine lv_aload hx hb dL_law_180 (lv_at hl 9 rfl) ?_
      refine r_callSM X hw (ws' := ([OB D o z2 c2, [(kv, .inl (D.1 100, 7, .inl yv)), (kb, .inl (D.1 100, 7, .inl yb)), (kg, .inl (D.1 100, 7, .inl yg)), (kn, .inl (D.1 100, 7, .inl yn)), (kt, .inl (D.1 100, 11, .inl yt)), (ka, .inl (D.1 100, 27, .inl ya)), (kw, .inl (D.1 100, 64, .inl yw)), (kq, .inl (D.1 100, 14, .inl yq))]] : List va_W).flatten) (As := [.ref o, .ref kv, .ref kb, .ref kg, .ref kn, .ref kt]) (rest := []) lk_L_124 (c_L_areRegisters l D _ o z2 c2 kv kb kg kn kt yv yb yg yn yt ya (j + 1) hL2 (by omega) hz2) (Foc.pair Foc.all (Foc.pick [0, 0, 0, 0, 0] (r := [(ka, .inl (D.1 100, 27, .inl ya)), (kw, .inl (D.1 100, 64, .inl yw)), (kq, .inl (D.1 100, 14, .inl yq))]) rfl rfl)) rfl hl.1 (Nat.le_of_ble_eq_true rfl) ⟨Nat.le_of_ble_eq_true rfl, Nat.le_of_ble_eq_true rfl⟩ rfl dL_law_182 ⟨show cl + 1 ≤ 600000 from by omega, show sl + 7 ≤ 7302250 from by omega⟩ (fun H locs hw => ?_)
      refine lv_if_eq (tgt := 200) hx hb dL_law_185 (by decide) (fun h => absurd h (by decide)) (fun _ => ?_)
      refine lv_aload_n hx hb dL_law_188 rfl (lv_at hl 4 rfl) ?_
      refine lv_aload_n hx hb dL_law_189 rfl (lv_at hl 5 rfl) ?_
      refine lv_aload hx hb dL_law_190 (lv_at hl 9 rfl) ?_
      refine lv_aload hx hb dL_law_192 (lv_at hl 10 rfl) ?_
      refine r_callS X hw (ws' := ([OB D o z2 c2, [(kv, .inl (D.1 100, 7, .inl yv)), (kb, .inl (D.1 100, 7, .inl yb)), (kg, .inl (D.1 100, 7, .inl yg)), (kn, .inl (D.1 100, 7, .inl yn)), (kt, .inl (D.1 100, 11, .inl yt)), (ka, .inl (D.1 100, 27, .inl ya)), (kw, .inl (D.1 100, 64, .inl yw)), (kq, .inl (D.1 100, 14, .inl yq))]] : List va_W).flatten) (As := [.ref o, .ref kv, .ref kt, .ref ka]) (rest := []) lk_L_128 (c_L_areAlarms l D _ o z2 c2 kv kt ka yv yt ya yb yg yn (j + 1) hL2 hz2) (Foc.pair Foc.all (Foc.pick [0, 3, 3] (r := [(kb, .inl (D.1 100, 7, .inl yb)), (kg, .inl (D.1 100, 7, .inl yg)), (kn, .inl (D.1 100, 7, .inl yn)), (kw, .inl (D.1 100, 64, .inl yw)), (kq, .inl (D.1 100, 14, .inl yq))]) rfl rfl)) rfl hl.1 (Nat.le_of_ble_eq_true rfl) ⟨Nat.le_of_ble_eq_true rfl, Nat.le_of_ble_eq_true rfl⟩ rfl dL_law_194 ⟨show cl + 1 ≤ 600000 from by omega, show sl + 7 ≤ 7302250 from by omega⟩ (fun H locs hw => ?_)
      refine lv_if_ne (tgt := 202) hx hb dL_law_197 (by decide) (fun _ => ?_) (fun h => absurd h (by decide))
      refine r_iincN (lv' := [(10, .int (nI (j + 1))), (12, .int (nI way)), (11, .int (nI zv)), (0, .ref sb), (1, .ref o), (2, .ref kv), (3, .ref kb), (4, .ref kg), (5, .ref kn), (6, .ref kt), (7, .ref ka), (8, .ref kw), (9, .ref kq)]) hx hb j 1 rfl dL_law_202 hl (k := 2) rfl rfl (by decide) rfl (fun ls hl => ?_)
      refine lv_goto (tgt := 83) hx hb dL_law_205 (by decide) ?_
      exact ih (j + 1) (cl + 1) (sl + 7) (z2, c2, yb, yg, (yv, yn, yt, ya), yw, yq) H locs ls (by omega) (by omega) (by omega) (by omega) hu9 hw (lv_sub hl [0, 3, 4, 5, 6, 7, 8, 9, 10, 11, 12] rfl)
    refine lv_istore (lv' := [(12, .int (nI (zv % 20))), (11, .int (nI zv)), (10, .int (nI j)), (0, .ref sb), (1, .ref o), (2, .ref kv), (3, .ref kb), (4, .ref kg), (5, .ref kn), (6, .ref kt), (7, .ref ka), (8, .ref kw), (9, .ref kq)]) hx hb dL_law_106 hl (by decide) rfl (fun ls hl => ?_)
    refine lv_iload hx hb dL_law_108 (lv_at hl 0 rfl) ?_
    refine lv_bipush (v := 6) hx hb dL_law_110 (by decide) ?_
    refine r_leN (tgt := 145) hx hb (zv % 20) 6 rfl rfl (by omega) (by decide) dL_law_112 (by decide) (fun g1 => act (zv % 20) (by omega) (fun a1 a2 => absurd a1 (by omega)) _ _ _ hw hl) (fun g1 => ?_)
    refine lv_iload hx hb dL_law_115 (lv_at hl 0 rfl) ?_
    refine lv_bipush (v := 11) hx hb dL_law_117 (by decide) ?_
    refine r_geN (tgt := 145) hx hb (zv % 20) 11 rfl rfl (by omega) (by decide) dL_law_119 (by decide) (fun g2 => act (zv % 20) (by omega) (fun a1 a2 => absurd a2 (by omega)) _ _ _ hw hl) (fun g2 => ?_)
    refine lv_bipush (v := 6) hx hb dL_law_122 (by decide) ?_
    refine lv_aload hx hb dL_law_124 (lv_at hl 9 rfl) ?_
    refine lv_bipush (v := 8) hx hb dL_law_126 (by decide) ?_
    refine r_iald X hw (f := xt) 8 (m_fl 1 rfl (m_at 4 rfl)) rfl (by decide) (by decide) dL_law_128 ?_
    rw [hok.2.2.1]
    have hq8 := hok.2.2.2.2.2.2
    have hz4 := hok.2.2.2.2.1
    have hz60 := hok.2.2.2.2.2.1
    refine r_mulN hx hb 6 q rfl rfl dL_law_129 ?_
    refine lv_aload hx hb dL_law_130 (lv_at hl 9 rfl) ?_
    refine lv_bipush (v := 10) hx hb dL_law_132 (by decide) ?_
    refine r_iald X hw (f := xt) 10 (m_fl 1 rfl (m_at 4 rfl)) rfl (by decide) (by decide) dL_law_134 ?_
    rw [hok.2.1]
    refine r_divN hx hb (6 * q) zz rfl rfl (by omega) (by omega) (by omega) dL_law_135 ?_
    refine lv_bipush (v := 7) hx hb dL_law_136 (by decide) ?_
    have hdv : 6 * q / zz ≤ 6 * q := Nat.div_le_self _ _
    refine r_leN (tgt := 145) hx hb (6 * q / zz) 7 rfl rfl (by omega) (by decide) dL_law_138 (by decide) (fun g3 => act (zv % 20) (by omega) (fun _ _ => (Nat.div_lt_iff_lt_mul (by omega)).mp (Nat.lt_succ_of_le g3)) _ _ _ hw hl) (fun g3 => ?_)
    refine lv_bipush (v := 11) hx hb dL_law_141 (by decide) ?_
    refine lv_istore (lv' := [(12, .int (11)), (11, .int (nI zv)), (10, .int (nI j)), (0, .ref sb), (1, .ref o), (2, .ref kv), (3, .ref kb), (4, .ref kg), (5, .ref kn), (6, .ref kt), (7, .ref ka), (8, .ref kw), (9, .ref kq)]) hx hb dL_law_143 hl (by decide) rfl (fun ls hl => ?_)
    exact act 11 (by decide) (fun a1 a2 => absurd a2 (by decide)) _ _ _ hw hl
end LOOP
