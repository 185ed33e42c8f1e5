/-! the law's loop -/
theorem and31 (x : Int32) : ∃ v, v < 32 ∧ x &&& 31 = nI v := by
  refine ⟨(x.toBitVec &&& 31#32).toNat, ?_, ?_⟩
  · rw [BitVec.toNat_and]
    exact Nat.lt_of_le_of_lt Nat.and_le_right (by decide)
  · apply Int32.toBitVec_inj.mp
    apply BitVec.eq_of_toNat_eq
    show (x.toBitVec &&& 31#32).toNat = (BitVec.ofNat 32 (x.toBitVec &&& 31#32).toNat).toNat
    rw [BitVec.toNat_ofNat, Nat.mod_eq_of_lt (BitVec.isLt _)]
theorem in_xs {i N : Nat} (h : i < N) (hN : N ≤ 2048) : vp_in (nI i) N := fun q => by
  rcases q with q | q
  · exact nI_pos (by omega) q
  · rw [nI_clamp (by omega)] at q; omega
theorem sub4 {N i : Nat} (hN : N ≤ 2048) (hi : i ≤ 2048) : nI N - 4 < nI i ↔ N < i + 4 := by
  by_cases h : 4 ≤ N
  · have e : nI N - 4 = nI (N - 4) := by
      rw [show (4 : Int32) = nI 4 from rfl]
      have h2 : nI (N - 4) + nI 4 = nI N := by rw [n_addN]; congr 1; omega
      rw [← h2]
      exact Int32.add_sub_cancel _ _
    rw [e, Int32.lt_iff_toInt_lt, nI_int (by omega), nI_int (by omega)]; omega
  · have h4 : ∀ k : Fin 4, (nI k.1 - 4).toInt < 0 := by decide
    have := h4 ⟨N, by omega⟩
    rw [Int32.lt_iff_toInt_lt, nI_int (by omega)]
    exact ⟨fun _ => by omega, fun _ => by have h5 : (nI N - 4).toInt < 0 := this; omega⟩
section LAW
variable {p : Program} {l : Launch} {e : Env} {s : State} {m : MethodId} {args : Array Value} {below : List Frame} {meth : Method} {c : Code} {H : Heap} {locs : List Loc} {Q : State → Prop} {D : va_G} {A : Nat → Prop} {cells slots : Nat} {ws : va_W} {ls : Array Slot} {rest st0 : List Value} {pc : Nat}
variable (o ha ta : Nat) (L w1 w2 M y1 y2 : Nat → Nat) (b0 b1 b2 b3 : Nat) (bw : Nat → Nat) (u0 u1 : Nat) (Lm : Nat → Nat)
/-- a number of the script -/
theorem r_scr (X : CX D p m c cL_law 4 s args RL A) {sb N : Nat} {xs : Nat → Int32} (hX : va_X sb N xs s s.heap) (hbl : sb < s.heap.size) (hbA : ¬ A sb) (hN : N ≤ 2048) (w : Wd D A s.heap H locs ws) {i j : Nat} (hij : i + j < N) {o mm : Nat} (hl : lv_has ls 4 [(3, .int (nI i)), (0, .ref sb), (1, .ref o), (2, .ref mm)])
    (d0 : decode cL_law pc = .ok (.aload_n 0, 1)) (d1 : decode cL_law (pc + 1) = .ok (.iload_n 3, 1)) (d2 : decode cL_law (pc + 2) = .ok (.iconst (j : Int), 1)) (d3 : decode cL_law (pc + 3) = .ok (.iadd, 1)) (d4 : decode cL_law (pc + 4) = .ok (.iaload, 1)) (hj : Int32.ofInt (j : Int) = nI j)
    (k : W p l e room_1 s m args below meth c H locs cells slots Q (F0 m (pc + 5) ls (.int (xs (i + j)) :: rest))) : W p l e room_1 s m args below meth c H locs cells slots Q (F0 m pc ls rest) := by
  obtain ⟨⟨hx, hb, hml, hown, hts⟩, -, -, -⟩ := X
  refine lv_aload_n hx hb d0 rfl (lv_at hl 1 rfl) ?_
  refine lv_iload_n hx hb d1 rfl (lv_at hl 0 rfl) ?_
  refine lv_iconst (v := nI j) hx hb d2 hj ?_
  refine lv_iadd hx hb d3 ?_
  rw [n_addN]
  refine va_sld hx hb hX hbl hbA w.2.2 (in_xs hij hN) d4 ?_
  rw [nI_clamp (by omega)]
  exact k
theorem o_in (c : DS) : ∃ fs, (o, .inr (6, fs)) ∈ WCs o ha ta L w1 w2 M y1 y2 b0 b1 b2 b3 bw u0 u1 D c := ⟨_, m_fl 0 rfl (m_fl 0 rfl (m_at 0 rfl))⟩
theorem m_in (c : DS) (x : MS) : ∃ fs, (Lm 0, .inr (7, fs)) ∈ WRs Lm D c x := ⟨_, m_at 0 rfl⟩
theorem r_c1 (X : CX D p m c cL_law 4 s args RL A) {y6 : MethodName} {c6 : ByteArray} {n6 : Nat} {y7 : MethodName} {c7 : ByteArray} {n7 : Nat} {As : List Value} {d d' : DS} {x x' : MS} {r : Int32} {index n : Nat} (w : Wd D A s.heap H locs ([WCs o ha ta L w1 w2 M y1 y2 b0 b1 b2 b3 bw u0 u1 D d, WRs Lm D d x] : List va_W).flatten)
    (S : SIMx o ha ta L w1 w2 M y1 y2 b0 b1 b2 b3 bw u0 u1 Lm y6 c6 n6 y7 c7 n7 As d x r d' x') (hL : LV RL index y6 c6 n6 (some .int) n 6) (hn : As.length = n) (hn6 : n6 ≤ 5) (hsize : ls.size = 4) (hst : st0 = As.reverse ++ [.ref o]) (hdg : decode cL_law pc = .ok (.invokevirtual index, 3)) (hf : cells ≤ room_1.cells ∧ slots ≤ room_1.slots)
    (kk : ∀ (H1 : Heap) (locs1 : List Loc), Wd D A s.heap H1 locs1 ([WCs o ha ta L w1 w2 M y1 y2 b0 b1 b2 b3 bw u0 u1 D d', WRs Lm D d x] : List va_W).flatten → W p l e room_1 s m args below meth c H1 locs1 cells slots Q (F0 m (pc + 3) ls [.int r])) : W p l e room_1 s m args below meth c H locs cells slots Q (F0 m pc ls st0) := by
  obtain ⟨fr, lo, h1, h2, hM⟩ := S.1 l D H.size
  obtain ⟨fs, hfs⟩ := o_in (D := D) o ha ta L w1 w2 M y1 y2 b0 b1 b2 b3 bw u0 u1 d
  exact r_callV X w (ws' := ([WCs o ha ta L w1 w2 M y1 y2 b0 b1 b2 b3 bw u0 u1 D d', WRs Lm D d x] : List va_W).flatten) (rest := []) hL hM (Foc.at1 0 rfl rfl rfl) (m_fl 0 rfl hfs) hn hsize (by decide) ⟨show fr + 1 ≤ 20 by omega, show 8 + (n6 + 11) + lo ≤ 788 by omega⟩ hst hdg hf kk
theorem r_c2 (X : CX D p m c cL_law 4 s args RL A) {y6 : MethodName} {c6 : ByteArray} {n6 : Nat} {y7 : MethodName} {c7 : ByteArray} {n7 : Nat} {As : List Value} {d d' : DS} {x x' : MS} {r : Int32} {index n : Nat} (w : Wd D A s.heap H locs ([WCs o ha ta L w1 w2 M y1 y2 b0 b1 b2 b3 bw u0 u1 D d', WRs Lm D d x] : List va_W).flatten)
    (S : SIMx o ha ta L w1 w2 M y1 y2 b0 b1 b2 b3 bw u0 u1 Lm y6 c6 n6 y7 c7 n7 As d x r d' x') (hL : LV RL index y7 c7 n7 (some .int) n 7) (hn : As.length = n) (hn7 : n7 ≤ 5) (hsize : ls.size = 4) (hst : st0 = As.reverse ++ .ref (Lm 0) :: [.int r]) (hdg : decode cL_law pc = .ok (.invokevirtual index, 3)) (hf : cells ≤ room_1.cells ∧ slots ≤ room_1.slots)
    (kk : ∀ (H1 : Heap) (locs1 : List Loc), Wd D A s.heap H1 locs1 ([WCs o ha ta L w1 w2 M y1 y2 b0 b1 b2 b3 bw u0 u1 D d', WRs Lm D d' x'] : List va_W).flatten → W p l e room_1 s m args below meth c H1 locs1 cells slots Q (F0 m (pc + 3) ls [.int r, .int r])) : W p l e room_1 s m args below meth c H locs cells slots Q (F0 m pc ls st0) := by
  obtain ⟨fr, lo, h1, h2, hM⟩ := S.2 l D H.size
  obtain ⟨fs, hfs⟩ := m_in (D := D) Lm d x
  exact r_callV X w (ws' := ([WCs o ha ta L w1 w2 M y1 y2 b0 b1 b2 b3 bw u0 u1 D d', WRs Lm D d' x'] : List va_W).flatten) (rest := [.int r]) hL hM (Foc.at1 1 rfl rfl rfl) (m_fl 1 rfl hfs) hn hsize (Nat.le_of_ble_eq_true rfl) ⟨show fr + 1 ≤ 20 by omega, show 8 + (n7 + 11) + lo ≤ 788 by omega⟩ hst hdg hf kk
theorem case_0 (X : CX D p m c cL_law 4 s args RL A) {sb N : Nat} {xs : Nat → Int32} (hX : va_X sb N xs s s.heap) (hbl : sb < s.heap.size) (hbA : ¬ A sb) (hN : N ≤ 2048) (hf : cells ≤ room_1.cells ∧ slots ≤ room_1.slots) {i K : Nat} {d : DS} {x : MS} (hI : INV K d x) (hK : K ≤ 32768) (hi : i + 4 ≤ N) (hw : Wd D A s.heap H locs ([WCs o ha ta L w1 w2 M y1 y2 b0 b1 b2 b3 bw u0 u1 D d, WRs Lm D d x] : List va_W).flatten) (hl : lv_has ls 4 [(3, .int (nI i)), (0, .ref sb), (1, .ref o), (2, .ref (Lm 0))])
    (tail : ∀ (d1 : DS) (x1 : MS), INV (K + 61) d1 x1 → ∀ (H1 : Heap) (locs1 : List Loc), Wd D A s.heap H1 locs1 ([WCs o ha ta L w1 w2 M y1 y2 b0 b1 b2 b3 bw u0 u1 D d1, WRs Lm D d1 x1] : List va_W).flatten → W p l e room_1 s m args below meth c H1 locs1 cells slots Q (F0 m 773 ls [])) : W p l e room_1 s m args below meth c H locs cells slots Q (F0 m 148 ls []) := by
  have hx := X.1.1
  have hb := X.1.2.1
  obtain ⟨r, d1, x1, hI1, S⟩ := sim_write o ha ta L w1 w2 M y1 y2 b0 b1 b2 b3 bw u0 u1 Lm hI (xs (i + 1)) (xs (i + 2))
  refine lv_aload_n hx hb dL_law_148 rfl (lv_at hl 2 rfl) ?_
  refine r_scr X hX hbl hbA hN hw (j := 1) (by omega) hl dL_law_149 dL_law_150 dL_law_151 dL_law_152 dL_law_153 rfl ?_
  refine r_scr X hX hbl hbA hN hw (j := 2) (by omega) hl dL_law_154 dL_law_155 dL_law_156 dL_law_157 dL_law_158 rfl ?_
  refine r_c1 o ha ta L w1 w2 M y1 y2 b0 b1 b2 b3 bw u0 u1 Lm X hw S lk_L_13 rfl (by decide) hl.1 rfl dL_law_159 hf (fun H1 locs1 hw => ?_)
  refine lv_aload_n hx hb dL_law_162 rfl (lv_at hl 3 rfl) ?_
  refine r_scr X hX hbl hbA hN hw (j := 1) (by omega) hl dL_law_163 dL_law_164 dL_law_165 dL_law_166 dL_law_167 rfl ?_
  refine r_scr X hX hbl hbA hN hw (j := 2) (by omega) hl dL_law_168 dL_law_169 dL_law_170 dL_law_171 dL_law_172 rfl ?_
  refine r_c2 o ha ta L w1 w2 M y1 y2 b0 b1 b2 b3 bw u0 u1 Lm X hw S lk_L_17 rfl (by decide) hl.1 rfl dL_law_173 hf (fun H2 locs2 hw => ?_)
  exact lv_icmp_eq (tgt := 773) hx hb dL_law_176 (by decide) (fun _ => tail d1 x1 hI1 _ _ hw) (fun q => absurd rfl q)
theorem case_1 (X : CX D p m c cL_law 4 s args RL A) {sb N : Nat} {xs : Nat → Int32} (hX : va_X sb N xs s s.heap) (hbl : sb < s.heap.size) (hbA : ¬ A sb) (hN : N ≤ 2048) (hf : cells ≤ room_1.cells ∧ slots ≤ room_1.slots) {i K : Nat} {d : DS} {x : MS} (hI : INV K d x) (hK : K ≤ 32768) (hi : i + 4 ≤ N) (hw : Wd D A s.heap H locs ([WCs o ha ta L w1 w2 M y1 y2 b0 b1 b2 b3 bw u0 u1 D d, WRs Lm D d x] : List va_W).flatten) (hl : lv_has ls 4 [(3, .int (nI i)), (0, .ref sb), (1, .ref o), (2, .ref (Lm 0))])
    (tail : ∀ (d1 : DS) (x1 : MS), INV (K + 61) d1 x1 → ∀ (H1 : Heap) (locs1 : List Loc), Wd D A s.heap H1 locs1 ([WCs o ha ta L w1 w2 M y1 y2 b0 b1 b2 b3 bw u0 u1 D d1, WRs Lm D d1 x1] : List va_W).flatten → W p l e room_1 s m args below meth c H1 locs1 cells slots Q (F0 m 773 ls [])) : W p l e room_1 s m args below meth c H locs cells slots Q (F0 m 181 ls []) := by
  have hx := X.1.1
  have hb := X.1.2.1
  obtain ⟨r, d1, x1, hI1, S⟩ := sim_read o ha ta L w1 w2 M y1 y2 b0 b1 b2 b3 bw u0 u1 Lm hI (xs (i + 1))
  refine lv_aload_n hx hb dL_law_181 rfl (lv_at hl 2 rfl) ?_
  refine r_scr X hX hbl hbA hN hw (j := 1) (by omega) hl dL_law_182 dL_law_183 dL_law_184 dL_law_185 dL_law_186 rfl ?_
  refine r_c1 o ha ta L w1 w2 M y1 y2 b0 b1 b2 b3 bw u0 u1 Lm X hw S lk_L_18 rfl (by decide) hl.1 rfl dL_law_187 hf (fun H1 locs1 hw => ?_)
  refine lv_aload_n hx hb dL_law_190 rfl (lv_at hl 3 rfl) ?_
  refine r_scr X hX hbl hbA hN hw (j := 1) (by omega) hl dL_law_191 dL_law_192 dL_law_193 dL_law_194 dL_law_195 rfl ?_
  refine r_c2 o ha ta L w1 w2 M y1 y2 b0 b1 b2 b3 bw u0 u1 Lm X hw S lk_L_22 rfl (by decide) hl.1 rfl dL_law_196 hf (fun H2 locs2 hw => ?_)
  exact lv_icmp_eq (tgt := 773) hx hb dL_law_199 (by decide) (fun _ => tail d1 x1 hI1 _ _ hw) (fun q => absurd rfl q)
theorem case_2 (X : CX D p m c cL_law 4 s args RL A) {sb N : Nat} {xs : Nat → Int32} (hX : va_X sb N xs s s.heap) (hbl : sb < s.heap.size) (hbA : ¬ A sb) (hN : N ≤ 2048) (hf : cells ≤ room_1.cells ∧ slots ≤ room_1.slots) {i K : Nat} {d : DS} {x : MS} (hI : INV K d x) (hK : K ≤ 32768) (hi : i + 4 ≤ N) (hw : Wd D A s.heap H locs ([WCs o ha ta L w1 w2 M y1 y2 b0 b1 b2 b3 bw u0 u1 D d, WRs Lm D d x] : List va_W).flatten) (hl : lv_has ls 4 [(3, .int (nI i)), (0, .ref sb), (1, .ref o), (2, .ref (Lm 0))])
    (tail : ∀ (d1 : DS) (x1 : MS), INV (K + 61) d1 x1 → ∀ (H1 : Heap) (locs1 : List Loc), Wd D A s.heap H1 locs1 ([WCs o ha ta L w1 w2 M y1 y2 b0 b1 b2 b3 bw u0 u1 D d1, WRs Lm D d1 x1] : List va_W).flatten → W p l e room_1 s m args below meth c H1 locs1 cells slots Q (F0 m 773 ls [])) : W p l e room_1 s m args below meth c H locs cells slots Q (F0 m 204 ls []) := by
  have hx := X.1.1
  have hb := X.1.2.1
  obtain ⟨r, d1, x1, hI1, S⟩ := sim_burst o ha ta L w1 w2 M y1 y2 b0 b1 b2 b3 bw u0 u1 Lm hI (xs (i + 1))
  refine lv_aload_n hx hb dL_law_204 rfl (lv_at hl 2 rfl) ?_
  refine r_scr X hX hbl hbA hN hw (j := 1) (by omega) hl dL_law_205 dL_law_206 dL_law_207 dL_law_208 dL_law_209 rfl ?_
  refine r_c1 o ha ta L w1 w2 M y1 y2 b0 b1 b2 b3 bw u0 u1 Lm X hw S lk_L_23 rfl (by decide) hl.1 rfl dL_law_210 hf (fun H1 locs1 hw => ?_)
  refine lv_aload_n hx hb dL_law_213 rfl (lv_at hl 3 rfl) ?_
  refine r_scr X hX hbl hbA hN hw (j := 1) (by omega) hl dL_law_214 dL_law_215 dL_law_216 dL_law_217 dL_law_218 rfl ?_
  refine r_c2 o ha ta L w1 w2 M y1 y2 b0 b1 b2 b3 bw u0 u1 Lm X hw S lk_L_26 rfl (by decide) hl.1 rfl dL_law_219 hf (fun H2 locs2 hw => ?_)
  exact lv_icmp_eq (tgt := 773) hx hb dL_law_222 (by decide) (fun _ => tail d1 x1 hI1 _ _ hw) (fun q => absurd rfl q)
theorem case_3 (X : CX D p m c cL_law 4 s args RL A) {sb N : Nat} {xs : Nat → Int32} (hX : va_X sb N xs s s.heap) (hbl : sb < s.heap.size) (hbA : ¬ A sb) (hN : N ≤ 2048) (hf : cells ≤ room_1.cells ∧ slots ≤ room_1.slots) {i K : Nat} {d : DS} {x : MS} (hI : INV K d x) (hK : K ≤ 32768) (hi : i + 4 ≤ N) (hw : Wd D A s.heap H locs ([WCs o ha ta L w1 w2 M y1 y2 b0 b1 b2 b3 bw u0 u1 D d, WRs Lm D d x] : List va_W).flatten) (hl : lv_has ls 4 [(3, .int (nI i)), (0, .ref sb), (1, .ref o), (2, .ref (Lm 0))])
    (tail : ∀ (d1 : DS) (x1 : MS), INV (K + 61) d1 x1 → ∀ (H1 : Heap) (locs1 : List Loc), Wd D A s.heap H1 locs1 ([WCs o ha ta L w1 w2 M y1 y2 b0 b1 b2 b3 bw u0 u1 D d1, WRs Lm D d1 x1] : List va_W).flatten → W p l e room_1 s m args below meth c H1 locs1 cells slots Q (F0 m 773 ls [])) : W p l e room_1 s m args below meth c H locs cells slots Q (F0 m 227 ls []) := by
  have hx := X.1.1
  have hb := X.1.2.1
  obtain ⟨r, d1, x1, hI1, S⟩ := sim_pass o ha ta L w1 w2 M y1 y2 b0 b1 b2 b3 bw u0 u1 Lm hI (xs (i + 1))
  refine lv_aload_n hx hb dL_law_227 rfl (lv_at hl 2 rfl) ?_
  refine r_scr X hX hbl hbA hN hw (j := 1) (by omega) hl dL_law_228 dL_law_229 dL_law_230 dL_law_231 dL_law_232 rfl ?_
  refine r_c1 o ha ta L w1 w2 M y1 y2 b0 b1 b2 b3 bw u0 u1 Lm X hw S lk_L_27 rfl (by decide) hl.1 rfl dL_law_233 hf (fun H1 locs1 hw => ?_)
  refine lv_aload_n hx hb dL_law_236 rfl (lv_at hl 3 rfl) ?_
  refine r_scr X hX hbl hbA hN hw (j := 1) (by omega) hl dL_law_237 dL_law_238 dL_law_239 dL_law_240 dL_law_241 rfl ?_
  refine r_c2 o ha ta L w1 w2 M y1 y2 b0 b1 b2 b3 bw u0 u1 Lm X hw S lk_L_30 rfl (by decide) hl.1 rfl dL_law_242 hf (fun H2 locs2 hw => ?_)
  exact lv_icmp_eq (tgt := 773) hx hb dL_law_245 (by decide) (fun _ => tail d1 x1 hI1 _ _ hw) (fun q => absurd rfl q)
theorem case_4 (X : CX D p m c cL_law 4 s args RL A) {sb N : Nat} {xs : Nat → Int32} (hX : va_X sb N xs s s.heap) (hbl : sb < s.heap.size) (hbA : ¬ A sb) (hN : N ≤ 2048) (hf : cells ≤ room_1.cells ∧ slots ≤ room_1.slots) {i K : Nat} {d : DS} {x : MS} (hI : INV K d x) (hK : K ≤ 32768) (hi : i + 4 ≤ N) (hw : Wd D A s.heap H locs ([WCs o ha ta L w1 w2 M y1 y2 b0 b1 b2 b3 bw u0 u1 D d, WRs Lm D d x] : List va_W).flatten) (hl : lv_has ls 4 [(3, .int (nI i)), (0, .ref sb), (1, .ref o), (2, .ref (Lm 0))])
    (tail : ∀ (d1 : DS) (x1 : MS), INV (K + 61) d1 x1 → ∀ (H1 : Heap) (locs1 : List Loc), Wd D A s.heap H1 locs1 ([WCs o ha ta L w1 w2 M y1 y2 b0 b1 b2 b3 bw u0 u1 D d1, WRs Lm D d1 x1] : List va_W).flatten → W p l e room_1 s m args below meth c H1 locs1 cells slots Q (F0 m 773 ls [])) : W p l e room_1 s m args below meth c H locs cells slots Q (F0 m 250 ls []) := by
  have hx := X.1.1
  have hb := X.1.2.1
  obtain ⟨r, d1, x1, hI1, S⟩ := sim_alarm o ha ta L w1 w2 M y1 y2 b0 b1 b2 b3 bw u0 u1 Lm hI (xs (i + 1)) (xs (i + 2)) (xs (i + 3))
  refine lv_aload_n hx hb dL_law_250 rfl (lv_at hl 2 rfl) ?_
  refine r_scr X hX hbl hbA hN hw (j := 1) (by omega) hl dL_law_251 dL_law_252 dL_law_253 dL_law_254 dL_law_255 rfl ?_
  refine r_scr X hX hbl hbA hN hw (j := 2) (by omega) hl dL_law_256 dL_law_257 dL_law_258 dL_law_259 dL_law_260 rfl ?_
  refine r_scr X hX hbl hbA hN hw (j := 3) (by omega) hl dL_law_261 dL_law_262 dL_law_263 dL_law_264 dL_law_265 rfl ?_
  refine r_c1 o ha ta L w1 w2 M y1 y2 b0 b1 b2 b3 bw u0 u1 Lm X hw S lk_L_31 rfl (by decide) hl.1 rfl dL_law_266 hf (fun H1 locs1 hw => ?_)
  refine lv_aload_n hx hb dL_law_269 rfl (lv_at hl 3 rfl) ?_
  refine r_scr X hX hbl hbA hN hw (j := 1) (by omega) hl dL_law_270 dL_law_271 dL_law_272 dL_law_273 dL_law_274 rfl ?_
  refine r_scr X hX hbl hbA hN hw (j := 2) (by omega) hl dL_law_275 dL_law_276 dL_law_277 dL_law_278 dL_law_279 rfl ?_
  refine r_scr X hX hbl hbA hN hw (j := 3) (by omega) hl dL_law_280 dL_law_281 dL_law_282 dL_law_283 dL_law_284 rfl ?_
  refine r_c2 o ha ta L w1 w2 M y1 y2 b0 b1 b2 b3 bw u0 u1 Lm X hw S lk_L_35 rfl (by decide) hl.1 rfl dL_law_285 hf (fun H2 locs2 hw => ?_)
  exact lv_icmp_eq (tgt := 773) hx hb dL_law_288 (by decide) (fun _ => tail d1 x1 hI1 _ _ hw) (fun q => absurd rfl q)
theorem case_5 (X : CX D p m c cL_law 4 s args RL A) {sb N : Nat} {xs : Nat → Int32} (hX : va_X sb N xs s s.heap) (hbl : sb < s.heap.size) (hbA : ¬ A sb) (hN : N ≤ 2048) (hf : cells ≤ room_1.cells ∧ slots ≤ room_1.slots) {i K : Nat} {d : DS} {x : MS} (hI : INV K d x) (hK : K ≤ 32768) (hi : i + 4 ≤ N) (hw : Wd D A s.heap H locs ([WCs o ha ta L w1 w2 M y1 y2 b0 b1 b2 b3 bw u0 u1 D d, WRs Lm D d x] : List va_W).flatten) (hl : lv_has ls 4 [(3, .int (nI i)), (0, .ref sb), (1, .ref o), (2, .ref (Lm 0))])
    (tail : ∀ (d1 : DS) (x1 : MS), INV (K + 61) d1 x1 → ∀ (H1 : Heap) (locs1 : List Loc), Wd D A s.heap H1 locs1 ([WCs o ha ta L w1 w2 M y1 y2 b0 b1 b2 b3 bw u0 u1 D d1, WRs Lm D d1 x1] : List va_W).flatten → W p l e room_1 s m args below meth c H1 locs1 cells slots Q (F0 m 773 ls [])) : W p l e room_1 s m args below meth c H locs cells slots Q (F0 m 293 ls []) := by
  have hx := X.1.1
  have hb := X.1.2.1
  obtain ⟨r, d1, x1, hI1, S⟩ := sim_arm o ha ta L w1 w2 M y1 y2 b0 b1 b2 b3 bw u0 u1 Lm hI (xs (i + 1)) (xs (i + 2))
  refine lv_aload_n hx hb dL_law_293 rfl (lv_at hl 2 rfl) ?_
  refine r_scr X hX hbl hbA hN hw (j := 1) (by omega) hl dL_law_294 dL_law_295 dL_law_296 dL_law_297 dL_law_298 rfl ?_
  refine r_scr X hX hbl hbA hN hw (j := 2) (by omega) hl dL_law_299 dL_law_300 dL_law_301 dL_law_302 dL_law_303 rfl ?_
  refine r_c1 o ha ta L w1 w2 M y1 y2 b0 b1 b2 b3 bw u0 u1 Lm X hw S lk_L_36 rfl (by decide) hl.1 rfl dL_law_304 hf (fun H1 locs1 hw => ?_)
  refine lv_aload_n hx hb dL_law_307 rfl (lv_at hl 3 rfl) ?_
  refine r_scr X hX hbl hbA hN hw (j := 1) (by omega) hl dL_law_308 dL_law_309 dL_law_310 dL_law_311 dL_law_312 rfl ?_
  refine r_scr X hX hbl hbA hN hw (j := 2) (by omega) hl dL_law_313 dL_law_314 dL_law_315 dL_law_316 dL_law_317 rfl ?_
  refine r_c2 o ha ta L w1 w2 M y1 y2 b0 b1 b2 b3 bw u0 u1 Lm X hw S lk_L_39 rfl (by decide) hl.1 rfl dL_law_318 hf (fun H2 locs2 hw => ?_)
  exact lv_icmp_eq (tgt := 773) hx hb dL_law_321 (by decide) (fun _ => tail d1 x1 hI1 _ _ hw) (fun q => absurd rfl q)
theorem case_6 (X : CX D p m c cL_law 4 s args RL A) {sb N : Nat} {xs : Nat → Int32} (hX : va_X sb N xs s s.heap) (hbl : sb < s.heap.size) (hbA : ¬ A sb) (hN : N ≤ 2048) (hf : cells ≤ room_1.cells ∧ slots ≤ room_1.slots) {i K : Nat} {d : DS} {x : MS} (hI : INV K d x) (hK : K ≤ 32768) (hi : i + 4 ≤ N) (hw : Wd D A s.heap H locs ([WCs o ha ta L w1 w2 M y1 y2 b0 b1 b2 b3 bw u0 u1 D d, WRs Lm D d x] : List va_W).flatten) (hl : lv_has ls 4 [(3, .int (nI i)), (0, .ref sb), (1, .ref o), (2, .ref (Lm 0))])
    (tail : ∀ (d1 : DS) (x1 : MS), INV (K + 61) d1 x1 → ∀ (H1 : Heap) (locs1 : List Loc), Wd D A s.heap H1 locs1 ([WCs o ha ta L w1 w2 M y1 y2 b0 b1 b2 b3 bw u0 u1 D d1, WRs Lm D d1 x1] : List va_W).flatten → W p l e room_1 s m args below meth c H1 locs1 cells slots Q (F0 m 773 ls [])) : W p l e room_1 s m args below meth c H locs cells slots Q (F0 m 326 ls []) := by
  have hx := X.1.1
  have hb := X.1.2.1
  obtain ⟨r, d1, x1, hI1, S⟩ := sim_clear o ha ta L w1 w2 M y1 y2 b0 b1 b2 b3 bw u0 u1 Lm hI 
  refine lv_aload_n hx hb dL_law_326 rfl (lv_at hl 2 rfl) ?_
  refine r_c1 o ha ta L w1 w2 M y1 y2 b0 b1 b2 b3 bw u0 u1 Lm X hw S lk_L_40 rfl (by decide) hl.1 rfl dL_law_327 hf (fun H1 locs1 hw => ?_)
  refine lv_aload_n hx hb dL_law_330 rfl (lv_at hl 3 rfl) ?_
  refine r_c2 o ha ta L w1 w2 M y1 y2 b0 b1 b2 b3 bw u0 u1 Lm X hw S lk_L_44 rfl (by decide) hl.1 rfl dL_law_331 hf (fun H2 locs2 hw => ?_)
  exact lv_icmp_eq (tgt := 773) hx hb dL_law_334 (by decide) (fun _ => tail d1 x1 hI1 _ _ hw) (fun q => absurd rfl q)
theorem case_7 (X : CX D p m c cL_law 4 s args RL A) {sb N : Nat} {xs : Nat → Int32} (hX : va_X sb N xs s s.heap) (hbl : sb < s.heap.size) (hbA : ¬ A sb) (hN : N ≤ 2048) (hf : cells ≤ room_1.cells ∧ slots ≤ room_1.slots) {i K : Nat} {d : DS} {x : MS} (hI : INV K d x) (hK : K ≤ 32768) (hi : i + 4 ≤ N) (hw : Wd D A s.heap H locs ([WCs o ha ta L w1 w2 M y1 y2 b0 b1 b2 b3 bw u0 u1 D d, WRs Lm D d x] : List va_W).flatten) (hl : lv_has ls 4 [(3, .int (nI i)), (0, .ref sb), (1, .ref o), (2, .ref (Lm 0))])
    (tail : ∀ (d1 : DS) (x1 : MS), INV (K + 61) d1 x1 → ∀ (H1 : Heap) (locs1 : List Loc), Wd D A s.heap H1 locs1 ([WCs o ha ta L w1 w2 M y1 y2 b0 b1 b2 b3 bw u0 u1 D d1, WRs Lm D d1 x1] : List va_W).flatten → W p l e room_1 s m args below meth c H1 locs1 cells slots Q (F0 m 773 ls [])) : W p l e room_1 s m args below meth c H locs cells slots Q (F0 m 339 ls []) := by
  have hx := X.1.1
  have hb := X.1.2.1
  obtain ⟨r, d1, x1, hI1, S⟩ := sim_fail o ha ta L w1 w2 M y1 y2 b0 b1 b2 b3 bw u0 u1 Lm hI (xs (i + 1)) (xs (i + 2)) (xs (i + 3))
  refine lv_aload_n hx hb dL_law_339 rfl (lv_at hl 2 rfl) ?_
  refine r_scr X hX hbl hbA hN hw (j := 1) (by omega) hl dL_law_340 dL_law_341 dL_law_342 dL_law_343 dL_law_344 rfl ?_
  refine r_scr X hX hbl hbA hN hw (j := 2) (by omega) hl dL_law_345 dL_law_346 dL_law_347 dL_law_348 dL_law_349 rfl ?_
  refine r_scr X hX hbl hbA hN hw (j := 3) (by omega) hl dL_law_350 dL_law_351 dL_law_352 dL_law_353 dL_law_354 rfl ?_
  refine r_c1 o ha ta L w1 w2 M y1 y2 b0 b1 b2 b3 bw u0 u1 Lm X hw S lk_L_45 rfl (by decide) hl.1 rfl dL_law_355 hf (fun H1 locs1 hw => ?_)
  refine lv_aload_n hx hb dL_law_358 rfl (lv_at hl 3 rfl) ?_
  refine r_scr X hX hbl hbA hN hw (j := 1) (by omega) hl dL_law_359 dL_law_360 dL_law_361 dL_law_362 dL_law_363 rfl ?_
  refine r_scr X hX hbl hbA hN hw (j := 2) (by omega) hl dL_law_364 dL_law_365 dL_law_366 dL_law_367 dL_law_368 rfl ?_
  refine r_scr X hX hbl hbA hN hw (j := 3) (by omega) hl dL_law_369 dL_law_370 dL_law_371 dL_law_372 dL_law_373 rfl ?_
  refine r_c2 o ha ta L w1 w2 M y1 y2 b0 b1 b2 b3 bw u0 u1 Lm X hw S lk_L_48 rfl (by decide) hl.1 rfl dL_law_374 hf (fun H2 locs2 hw => ?_)
  exact lv_icmp_eq (tgt := 773) hx hb dL_law_377 (by decide) (fun _ => tail d1 x1 hI1 _ _ hw) (fun q => absurd rfl q)
theorem case_8 (X : CX D p m c cL_law 4 s args RL A) {sb N : Nat} {xs : Nat → Int32} (hX : va_X sb N xs s s.heap) (hbl : sb < s.heap.size) (hbA : ¬ A sb) (hN : N ≤ 2048) (hf : cells ≤ room_1.cells ∧ slots ≤ room_1.slots) {i K : Nat} {d : DS} {x : MS} (hI : INV K d x) (hK : K ≤ 32768) (hi : i + 4 ≤ N) (hw : Wd D A s.heap H locs ([WCs o ha ta L w1 w2 M y1 y2 b0 b1 b2 b3 bw u0 u1 D d, WRs Lm D d x] : List va_W).flatten) (hl : lv_has ls 4 [(3, .int (nI i)), (0, .ref sb), (1, .ref o), (2, .ref (Lm 0))])
    (tail : ∀ (d1 : DS) (x1 : MS), INV (K + 61) d1 x1 → ∀ (H1 : Heap) (locs1 : List Loc), Wd D A s.heap H1 locs1 ([WCs o ha ta L w1 w2 M y1 y2 b0 b1 b2 b3 bw u0 u1 D d1, WRs Lm D d1 x1] : List va_W).flatten → W p l e room_1 s m args below meth c H1 locs1 cells slots Q (F0 m 773 ls [])) : W p l e room_1 s m args below meth c H locs cells slots Q (F0 m 382 ls []) := by
  have hx := X.1.1
  have hb := X.1.2.1
  obtain ⟨r, d1, x1, hI1, S⟩ := sim_heal o ha ta L w1 w2 M y1 y2 b0 b1 b2 b3 bw u0 u1 Lm hI (xs (i + 1)) (xs (i + 2))
  refine lv_aload_n hx hb dL_law_382 rfl (lv_at hl 2 rfl) ?_
  refine r_scr X hX hbl hbA hN hw (j := 1) (by omega) hl dL_law_383 dL_law_384 dL_law_385 dL_law_386 dL_law_387 rfl ?_
  refine r_scr X hX hbl hbA hN hw (j := 2) (by omega) hl dL_law_388 dL_law_389 dL_law_390 dL_law_391 dL_law_392 rfl ?_
  refine r_c1 o ha ta L w1 w2 M y1 y2 b0 b1 b2 b3 bw u0 u1 Lm X hw S lk_L_49 rfl (by decide) hl.1 rfl dL_law_393 hf (fun H1 locs1 hw => ?_)
  refine lv_aload_n hx hb dL_law_396 rfl (lv_at hl 3 rfl) ?_
  refine r_scr X hX hbl hbA hN hw (j := 1) (by omega) hl dL_law_397 dL_law_398 dL_law_399 dL_law_400 dL_law_401 rfl ?_
  refine r_scr X hX hbl hbA hN hw (j := 2) (by omega) hl dL_law_402 dL_law_403 dL_law_404 dL_law_405 dL_law_406 rfl ?_
  refine r_c2 o ha ta L w1 w2 M y1 y2 b0 b1 b2 b3 bw u0 u1 Lm X hw S lk_L_52 rfl (by decide) hl.1 rfl dL_law_407 hf (fun H2 locs2 hw => ?_)
  exact lv_icmp_eq (tgt := 773) hx hb dL_law_410 (by decide) (fun _ => tail d1 x1 hI1 _ _ hw) (fun q => absurd rfl q)
theorem case_9 (X : CX D p m c cL_law 4 s args RL A) {sb N : Nat} {xs : Nat → Int32} (hX : va_X sb N xs s s.heap) (hbl : sb < s.heap.size) (hbA : ¬ A sb) (hN : N ≤ 2048) (hf : cells ≤ room_1.cells ∧ slots ≤ room_1.slots) {i K : Nat} {d : DS} {x : MS} (hI : INV K d x) (hK : K ≤ 32768) (hi : i + 4 ≤ N) (hw : Wd D A s.heap H locs ([WCs o ha ta L w1 w2 M y1 y2 b0 b1 b2 b3 bw u0 u1 D d, WRs Lm D d x] : List va_W).flatten) (hl : lv_has ls 4 [(3, .int (nI i)), (0, .ref sb), (1, .ref o), (2, .ref (Lm 0))])
    (tail : ∀ (d1 : DS) (x1 : MS), INV (K + 61) d1 x1 → ∀ (H1 : Heap) (locs1 : List Loc), Wd D A s.heap H1 locs1 ([WCs o ha ta L w1 w2 M y1 y2 b0 b1 b2 b3 bw u0 u1 D d1, WRs Lm D d1 x1] : List va_W).flatten → W p l e room_1 s m args below meth c H1 locs1 cells slots Q (F0 m 773 ls [])) : W p l e room_1 s m args below meth c H locs cells slots Q (F0 m 415 ls []) := by
  have hx := X.1.1
  have hb := X.1.2.1
  obtain ⟨r, d1, x1, hI1, S⟩ := sim_set o ha ta L w1 w2 M y1 y2 b0 b1 b2 b3 bw u0 u1 Lm hI (xs (i + 1)) (xs (i + 2))
  refine lv_aload_n hx hb dL_law_415 rfl (lv_at hl 2 rfl) ?_
  refine r_scr X hX hbl hbA hN hw (j := 1) (by omega) hl dL_law_416 dL_law_417 dL_law_418 dL_law_419 dL_law_420 rfl ?_
  refine r_scr X hX hbl hbA hN hw (j := 2) (by omega) hl dL_law_421 dL_law_422 dL_law_423 dL_law_424 dL_law_425 rfl ?_
  refine r_c1 o ha ta L w1 w2 M y1 y2 b0 b1 b2 b3 bw u0 u1 Lm X hw S lk_L_53 rfl (by decide) hl.1 rfl dL_law_426 hf (fun H1 locs1 hw => ?_)
  refine lv_aload_n hx hb dL_law_429 rfl (lv_at hl 3 rfl) ?_
  refine r_scr X hX hbl hbA hN hw (j := 1) (by omega) hl dL_law_430 dL_law_431 dL_law_432 dL_law_433 dL_law_434 rfl ?_
  refine r_scr X hX hbl hbA hN hw (j := 2) (by omega) hl dL_law_435 dL_law_436 dL_law_437 dL_law_438 dL_law_439 rfl ?_
  refine r_c2 o ha ta L w1 w2 M y1 y2 b0 b1 b2 b3 bw u0 u1 Lm X hw S lk_L_56 rfl (by decide) hl.1 rfl dL_law_440 hf (fun H2 locs2 hw => ?_)
  exact lv_icmp_eq (tgt := 773) hx hb dL_law_443 (by decide) (fun _ => tail d1 x1 hI1 _ _ hw) (fun q => absurd rfl q)
theorem case_10 (X : CX D p m c cL_law 4 s args RL A) {sb N : Nat} {xs : Nat → Int32} (hX : va_X sb N xs s s.heap) (hbl : sb < s.heap.size) (hbA : ¬ A sb) (hN : N ≤ 2048) (hf : cells ≤ room_1.cells ∧ slots ≤ room_1.slots) {i K : Nat} {d : DS} {x : MS} (hI : INV K d x) (hK : K ≤ 32768) (hi : i + 4 ≤ N) (hw : Wd D A s.heap H locs ([WCs o ha ta L w1 w2 M y1 y2 b0 b1 b2 b3 bw u0 u1 D d, WRs Lm D d x] : List va_W).flatten) (hl : lv_has ls 4 [(3, .int (nI i)), (0, .ref sb), (1, .ref o), (2, .ref (Lm 0))])
    (tail : ∀ (d1 : DS) (x1 : MS), INV (K + 61) d1 x1 → ∀ (H1 : Heap) (locs1 : List Loc), Wd D A s.heap H1 locs1 ([WCs o ha ta L w1 w2 M y1 y2 b0 b1 b2 b3 bw u0 u1 D d1, WRs Lm D d1 x1] : List va_W).flatten → W p l e room_1 s m args below meth c H1 locs1 cells slots Q (F0 m 773 ls [])) : W p l e room_1 s m args below meth c H locs cells slots Q (F0 m 448 ls []) := by
  have hx := X.1.1
  have hb := X.1.2.1
  obtain ⟨r, d1, x1, hI1, S⟩ := sim_registerOf o ha ta L w1 w2 M y1 y2 b0 b1 b2 b3 bw u0 u1 Lm hI (xs (i + 1)) (xs (i + 2))
  refine lv_aload_n hx hb dL_law_448 rfl (lv_at hl 2 rfl) ?_
  refine r_scr X hX hbl hbA hN hw (j := 1) (by omega) hl dL_law_449 dL_law_450 dL_law_451 dL_law_452 dL_law_453 rfl ?_
  refine r_scr X hX hbl hbA hN hw (j := 2) (by omega) hl dL_law_454 dL_law_455 dL_law_456 dL_law_457 dL_law_458 rfl ?_
  refine r_c1 o ha ta L w1 w2 M y1 y2 b0 b1 b2 b3 bw u0 u1 Lm X hw S lk_L_57 rfl (by decide) hl.1 rfl dL_law_459 hf (fun H1 locs1 hw => ?_)
  refine lv_aload_n hx hb dL_law_462 rfl (lv_at hl 3 rfl) ?_
  refine r_scr X hX hbl hbA hN hw (j := 1) (by omega) hl dL_law_463 dL_law_464 dL_law_465 dL_law_466 dL_law_467 rfl ?_
  refine r_scr X hX hbl hbA hN hw (j := 2) (by omega) hl dL_law_468 dL_law_469 dL_law_470 dL_law_471 dL_law_472 rfl ?_
  refine r_c2 o ha ta L w1 w2 M y1 y2 b0 b1 b2 b3 bw u0 u1 Lm X hw S lk_L_60 rfl (by decide) hl.1 rfl dL_law_473 hf (fun H2 locs2 hw => ?_)
  exact lv_icmp_eq (tgt := 773) hx hb dL_law_476 (by decide) (fun _ => tail d1 x1 hI1 _ _ hw) (fun q => absurd rfl q)
theorem case_11 (X : CX D p m c cL_law 4 s args RL A) {sb N : Nat} {xs : Nat → Int32} (hX : va_X sb N xs s s.heap) (hbl : sb < s.heap.size) (hbA : ¬ A sb) (hN : N ≤ 2048) (hf : cells ≤ room_1.cells ∧ slots ≤ room_1.slots) {i K : Nat} {d : DS} {x : MS} (hI : INV K d x) (hK : K ≤ 32768) (hi : i + 4 ≤ N) (hw : Wd D A s.heap H locs ([WCs o ha ta L w1 w2 M y1 y2 b0 b1 b2 b3 bw u0 u1 D d, WRs Lm D d x] : List va_W).flatten) (hl : lv_has ls 4 [(3, .int (nI i)), (0, .ref sb), (1, .ref o), (2, .ref (Lm 0))])
    (tail : ∀ (d1 : DS) (x1 : MS), INV (K + 61) d1 x1 → ∀ (H1 : Heap) (locs1 : List Loc), Wd D A s.heap H1 locs1 ([WCs o ha ta L w1 w2 M y1 y2 b0 b1 b2 b3 bw u0 u1 D d1, WRs Lm D d1 x1] : List va_W).flatten → W p l e room_1 s m args below meth c H1 locs1 cells slots Q (F0 m 773 ls [])) : W p l e room_1 s m args below meth c H locs cells slots Q (F0 m 481 ls []) := by
  have hx := X.1.1
  have hb := X.1.2.1
  obtain ⟨r, d1, x1, hI1, S⟩ := sim_alarmOf o ha ta L w1 w2 M y1 y2 b0 b1 b2 b3 bw u0 u1 Lm hI (xs (i + 1)) (xs (i + 2))
  refine lv_aload_n hx hb dL_law_481 rfl (lv_at hl 2 rfl) ?_
  refine r_scr X hX hbl hbA hN hw (j := 1) (by omega) hl dL_law_482 dL_law_483 dL_law_484 dL_law_485 dL_law_486 rfl ?_
  refine r_scr X hX hbl hbA hN hw (j := 2) (by omega) hl dL_law_487 dL_law_488 dL_law_489 dL_law_490 dL_law_491 rfl ?_
  refine r_c1 o ha ta L w1 w2 M y1 y2 b0 b1 b2 b3 bw u0 u1 Lm X hw S lk_L_61 rfl (by decide) hl.1 rfl dL_law_492 hf (fun H1 locs1 hw => ?_)
  refine lv_aload_n hx hb dL_law_495 rfl (lv_at hl 3 rfl) ?_
  refine r_scr X hX hbl hbA hN hw (j := 1) (by omega) hl dL_law_496 dL_law_497 dL_law_498 dL_law_499 dL_law_500 rfl ?_
  refine r_scr X hX hbl hbA hN hw (j := 2) (by omega) hl dL_law_501 dL_law_502 dL_law_503 dL_law_504 dL_law_505 rfl ?_
  refine r_c2 o ha ta L w1 w2 M y1 y2 b0 b1 b2 b3 bw u0 u1 Lm X hw S lk_L_64 rfl (by decide) hl.1 rfl dL_law_506 hf (fun H2 locs2 hw => ?_)
  exact lv_icmp_eq (tgt := 773) hx hb dL_law_509 (by decide) (fun _ => tail d1 x1 hI1 _ _ hw) (fun q => absurd rfl q)
theorem case_12 (X : CX D p m c cL_law 4 s args RL A) {sb N : Nat} {xs : Nat → Int32} (hX : va_X sb N xs s s.heap) (hbl : sb < s.heap.size) (hbA : ¬ A sb) (hN : N ≤ 2048) (hf : cells ≤ room_1.cells ∧ slots ≤ room_1.slots) {i K : Nat} {d : DS} {x : MS} (hI : INV K d x) (hK : K ≤ 32768) (hi : i + 4 ≤ N) (hw : Wd D A s.heap H locs ([WCs o ha ta L w1 w2 M y1 y2 b0 b1 b2 b3 bw u0 u1 D d, WRs Lm D d x] : List va_W).flatten) (hl : lv_has ls 4 [(3, .int (nI i)), (0, .ref sb), (1, .ref o), (2, .ref (Lm 0))])
    (tail : ∀ (d1 : DS) (x1 : MS), INV (K + 61) d1 x1 → ∀ (H1 : Heap) (locs1 : List Loc), Wd D A s.heap H1 locs1 ([WCs o ha ta L w1 w2 M y1 y2 b0 b1 b2 b3 bw u0 u1 D d1, WRs Lm D d1 x1] : List va_W).flatten → W p l e room_1 s m args below meth c H1 locs1 cells slots Q (F0 m 773 ls [])) : W p l e room_1 s m args below meth c H locs cells slots Q (F0 m 514 ls []) := by
  have hx := X.1.1
  have hb := X.1.2.1
  obtain ⟨r, d1, x1, hI1, S⟩ := sim_date o ha ta L w1 w2 M y1 y2 b0 b1 b2 b3 bw u0 u1 Lm hI (xs (i + 1))
  refine lv_aload_n hx hb dL_law_514 rfl (lv_at hl 2 rfl) ?_
  refine r_scr X hX hbl hbA hN hw (j := 1) (by omega) hl dL_law_515 dL_law_516 dL_law_517 dL_law_518 dL_law_519 rfl ?_
  refine r_c1 o ha ta L w1 w2 M y1 y2 b0 b1 b2 b3 bw u0 u1 Lm X hw S lk_L_65 rfl (by decide) hl.1 rfl dL_law_520 hf (fun H1 locs1 hw => ?_)
  refine lv_aload_n hx hb dL_law_523 rfl (lv_at hl 3 rfl) ?_
  refine r_scr X hX hbl hbA hN hw (j := 1) (by omega) hl dL_law_524 dL_law_525 dL_law_526 dL_law_527 dL_law_528 rfl ?_
  refine r_c2 o ha ta L w1 w2 M y1 y2 b0 b1 b2 b3 bw u0 u1 Lm X hw S lk_L_68 rfl (by decide) hl.1 rfl dL_law_529 hf (fun H2 locs2 hw => ?_)
  exact lv_icmp_eq (tgt := 773) hx hb dL_law_532 (by decide) (fun _ => tail d1 x1 hI1 _ _ hw) (fun q => absurd rfl q)
theorem case_13 (X : CX D p m c cL_law 4 s args RL A) {sb N : Nat} {xs : Nat → Int32} (hX : va_X sb N xs s s.heap) (hbl : sb < s.heap.size) (hbA : ¬ A sb) (hN : N ≤ 2048) (hf : cells ≤ room_1.cells ∧ slots ≤ room_1.slots) {i K : Nat} {d : DS} {x : MS} (hI : INV K d x) (hK : K ≤ 32768) (hi : i + 4 ≤ N) (hw : Wd D A s.heap H locs ([WCs o ha ta L w1 w2 M y1 y2 b0 b1 b2 b3 bw u0 u1 D d, WRs Lm D d x] : List va_W).flatten) (hl : lv_has ls 4 [(3, .int (nI i)), (0, .ref sb), (1, .ref o), (2, .ref (Lm 0))])
    (tail : ∀ (d1 : DS) (x1 : MS), INV (K + 61) d1 x1 → ∀ (H1 : Heap) (locs1 : List Loc), Wd D A s.heap H1 locs1 ([WCs o ha ta L w1 w2 M y1 y2 b0 b1 b2 b3 bw u0 u1 D d1, WRs Lm D d1 x1] : List va_W).flatten → W p l e room_1 s m args below meth c H1 locs1 cells slots Q (F0 m 773 ls [])) : W p l e room_1 s m args below meth c H locs cells slots Q (F0 m 537 ls []) := by
  have hx := X.1.1
  have hb := X.1.2.1
  obtain ⟨r, d1, x1, hI1, S⟩ := sim_log o ha ta L w1 w2 M y1 y2 b0 b1 b2 b3 bw u0 u1 Lm hI (xs (i + 1)) (xs (i + 2))
  refine lv_aload_n hx hb dL_law_537 rfl (lv_at hl 2 rfl) ?_
  refine r_scr X hX hbl hbA hN hw (j := 1) (by omega) hl dL_law_538 dL_law_539 dL_law_540 dL_law_541 dL_law_542 rfl ?_
  refine r_scr X hX hbl hbA hN hw (j := 2) (by omega) hl dL_law_543 dL_law_544 dL_law_545 dL_law_546 dL_law_547 rfl ?_
  refine r_c1 o ha ta L w1 w2 M y1 y2 b0 b1 b2 b3 bw u0 u1 Lm X hw S lk_L_69 rfl (by decide) hl.1 rfl dL_law_548 hf (fun H1 locs1 hw => ?_)
  refine lv_aload_n hx hb dL_law_551 rfl (lv_at hl 3 rfl) ?_
  refine r_scr X hX hbl hbA hN hw (j := 1) (by omega) hl dL_law_552 dL_law_553 dL_law_554 dL_law_555 dL_law_556 rfl ?_
  refine r_scr X hX hbl hbA hN hw (j := 2) (by omega) hl dL_law_557 dL_law_558 dL_law_559 dL_law_560 dL_law_561 rfl ?_
  refine r_c2 o ha ta L w1 w2 M y1 y2 b0 b1 b2 b3 bw u0 u1 Lm X hw S lk_L_72 rfl (by decide) hl.1 rfl dL_law_562 hf (fun H2 locs2 hw => ?_)
  exact lv_icmp_eq (tgt := 773) hx hb dL_law_565 (by decide) (fun _ => tail d1 x1 hI1 _ _ hw) (fun q => absurd rfl q)
theorem case_14 (X : CX D p m c cL_law 4 s args RL A) {sb N : Nat} {xs : Nat → Int32} (hX : va_X sb N xs s s.heap) (hbl : sb < s.heap.size) (hbA : ¬ A sb) (hN : N ≤ 2048) (hf : cells ≤ room_1.cells ∧ slots ≤ room_1.slots) {i K : Nat} {d : DS} {x : MS} (hI : INV K d x) (hK : K ≤ 32768) (hi : i + 4 ≤ N) (hw : Wd D A s.heap H locs ([WCs o ha ta L w1 w2 M y1 y2 b0 b1 b2 b3 bw u0 u1 D d, WRs Lm D d x] : List va_W).flatten) (hl : lv_has ls 4 [(3, .int (nI i)), (0, .ref sb), (1, .ref o), (2, .ref (Lm 0))])
    (tail : ∀ (d1 : DS) (x1 : MS), INV (K + 61) d1 x1 → ∀ (H1 : Heap) (locs1 : List Loc), Wd D A s.heap H1 locs1 ([WCs o ha ta L w1 w2 M y1 y2 b0 b1 b2 b3 bw u0 u1 D d1, WRs Lm D d1 x1] : List va_W).flatten → W p l e room_1 s m args below meth c H1 locs1 cells slots Q (F0 m 773 ls [])) : W p l e room_1 s m args below meth c H locs cells slots Q (F0 m 570 ls []) := by
  have hx := X.1.1
  have hb := X.1.2.1
  obtain ⟨r, d1, x1, hI1, S⟩ := sim_readable o ha ta L w1 w2 M y1 y2 b0 b1 b2 b3 bw u0 u1 Lm hI 
  refine lv_aload_n hx hb dL_law_570 rfl (lv_at hl 2 rfl) ?_
  refine r_c1 o ha ta L w1 w2 M y1 y2 b0 b1 b2 b3 bw u0 u1 Lm X hw S lk_L_73 rfl (by decide) hl.1 rfl dL_law_571 hf (fun H1 locs1 hw => ?_)
  refine lv_aload_n hx hb dL_law_574 rfl (lv_at hl 3 rfl) ?_
  refine r_c2 o ha ta L w1 w2 M y1 y2 b0 b1 b2 b3 bw u0 u1 Lm X hw S lk_L_76 rfl (by decide) hl.1 rfl dL_law_575 hf (fun H2 locs2 hw => ?_)
  exact lv_icmp_eq (tgt := 773) hx hb dL_law_578 (by decide) (fun _ => tail d1 x1 hI1 _ _ hw) (fun q => absurd rfl q)
theorem case_15 (X : CX D p m c cL_law 4 s args RL A) {sb N : Nat} {xs : Nat → Int32} (hX : va_X sb N xs s s.heap) (hbl : sb < s.heap.size) (hbA : ¬ A sb) (hN : N ≤ 2048) (hf : cells ≤ room_1.cells ∧ slots ≤ room_1.slots) {i K : Nat} {d : DS} {x : MS} (hI : INV K d x) (hK : K ≤ 32768) (hi : i + 4 ≤ N) (hw : Wd D A s.heap H locs ([WCs o ha ta L w1 w2 M y1 y2 b0 b1 b2 b3 bw u0 u1 D d, WRs Lm D d x] : List va_W).flatten) (hl : lv_has ls 4 [(3, .int (nI i)), (0, .ref sb), (1, .ref o), (2, .ref (Lm 0))])
    (tail : ∀ (d1 : DS) (x1 : MS), INV (K + 61) d1 x1 → ∀ (H1 : Heap) (locs1 : List Loc), Wd D A s.heap H1 locs1 ([WCs o ha ta L w1 w2 M y1 y2 b0 b1 b2 b3 bw u0 u1 D d1, WRs Lm D d1 x1] : List va_W).flatten → W p l e room_1 s m args below meth c H1 locs1 cells slots Q (F0 m 773 ls [])) : W p l e room_1 s m args below meth c H locs cells slots Q (F0 m 583 ls []) := by
  have hx := X.1.1
  have hb := X.1.2.1
  obtain ⟨r, d1, x1, hI1, S⟩ := sim_safeIn o ha ta L w1 w2 M y1 y2 b0 b1 b2 b3 bw u0 u1 Lm hI 
  refine lv_aload_n hx hb dL_law_583 rfl (lv_at hl 2 rfl) ?_
  refine r_c1 o ha ta L w1 w2 M y1 y2 b0 b1 b2 b3 bw u0 u1 Lm X hw S lk_L_77 rfl (by decide) hl.1 rfl dL_law_584 hf (fun H1 locs1 hw => ?_)
  refine lv_aload_n hx hb dL_law_587 rfl (lv_at hl 3 rfl) ?_
  refine r_c2 o ha ta L w1 w2 M y1 y2 b0 b1 b2 b3 bw u0 u1 Lm X hw S lk_L_80 rfl (by decide) hl.1 rfl dL_law_588 hf (fun H2 locs2 hw => ?_)
  exact lv_icmp_eq (tgt := 773) hx hb dL_law_591 (by decide) (fun _ => tail d1 x1 hI1 _ _ hw) (fun q => absurd rfl q)
theorem case_16 (X : CX D p m c cL_law 4 s args RL A) {sb N : Nat} {xs : Nat → Int32} (hX : va_X sb N xs s s.heap) (hbl : sb < s.heap.size) (hbA : ¬ A sb) (hN : N ≤ 2048) (hf : cells ≤ room_1.cells ∧ slots ≤ room_1.slots) {i K : Nat} {d : DS} {x : MS} (hI : INV K d x) (hK : K ≤ 32768) (hi : i + 4 ≤ N) (hw : Wd D A s.heap H locs ([WCs o ha ta L w1 w2 M y1 y2 b0 b1 b2 b3 bw u0 u1 D d, WRs Lm D d x] : List va_W).flatten) (hl : lv_has ls 4 [(3, .int (nI i)), (0, .ref sb), (1, .ref o), (2, .ref (Lm 0))])
    (tail : ∀ (d1 : DS) (x1 : MS), INV (K + 61) d1 x1 → ∀ (H1 : Heap) (locs1 : List Loc), Wd D A s.heap H1 locs1 ([WCs o ha ta L w1 w2 M y1 y2 b0 b1 b2 b3 bw u0 u1 D d1, WRs Lm D d1 x1] : List va_W).flatten → W p l e room_1 s m args below meth c H1 locs1 cells slots Q (F0 m 773 ls [])) : W p l e room_1 s m args below meth c H locs cells slots Q (F0 m 596 ls []) := by
  have hx := X.1.1
  have hb := X.1.2.1
  obtain ⟨r, d1, x1, hI1, S⟩ := sim_ifBurst o ha ta L w1 w2 M y1 y2 b0 b1 b2 b3 bw u0 u1 Lm hI (xs (i + 1)) (xs (i + 2))
  refine lv_aload_n hx hb dL_law_596 rfl (lv_at hl 2 rfl) ?_
  refine r_scr X hX hbl hbA hN hw (j := 1) (by omega) hl dL_law_597 dL_law_598 dL_law_599 dL_law_600 dL_law_601 rfl ?_
  refine r_scr X hX hbl hbA hN hw (j := 2) (by omega) hl dL_law_602 dL_law_603 dL_law_604 dL_law_605 dL_law_606 rfl ?_
  refine r_c1 o ha ta L w1 w2 M y1 y2 b0 b1 b2 b3 bw u0 u1 Lm X hw S lk_L_81 rfl (by decide) hl.1 rfl dL_law_607 hf (fun H1 locs1 hw => ?_)
  refine lv_aload_n hx hb dL_law_610 rfl (lv_at hl 3 rfl) ?_
  refine r_scr X hX hbl hbA hN hw (j := 1) (by omega) hl dL_law_611 dL_law_612 dL_law_613 dL_law_614 dL_law_615 rfl ?_
  refine r_scr X hX hbl hbA hN hw (j := 2) (by omega) hl dL_law_616 dL_law_617 dL_law_618 dL_law_619 dL_law_620 rfl ?_
  refine r_c2 o ha ta L w1 w2 M y1 y2 b0 b1 b2 b3 bw u0 u1 Lm X hw S lk_L_84 rfl (by decide) hl.1 rfl dL_law_621 hf (fun H2 locs2 hw => ?_)
  exact lv_icmp_eq (tgt := 773) hx hb dL_law_624 (by decide) (fun _ => tail d1 x1 hI1 _ _ hw) (fun q => absurd rfl q)
theorem case_17 (X : CX D p m c cL_law 4 s args RL A) {sb N : Nat} {xs : Nat → Int32} (hX : va_X sb N xs s s.heap) (hbl : sb < s.heap.size) (hbA : ¬ A sb) (hN : N ≤ 2048) (hf : cells ≤ room_1.cells ∧ slots ≤ room_1.slots) {i K : Nat} {d : DS} {x : MS} (hI : INV K d x) (hK : K ≤ 32768) (hi : i + 4 ≤ N) (hw : Wd D A s.heap H locs ([WCs o ha ta L w1 w2 M y1 y2 b0 b1 b2 b3 bw u0 u1 D d, WRs Lm D d x] : List va_W).flatten) (hl : lv_has ls 4 [(3, .int (nI i)), (0, .ref sb), (1, .ref o), (2, .ref (Lm 0))])
    (tail : ∀ (d1 : DS) (x1 : MS), INV (K + 61) d1 x1 → ∀ (H1 : Heap) (locs1 : List Loc), Wd D A s.heap H1 locs1 ([WCs o ha ta L w1 w2 M y1 y2 b0 b1 b2 b3 bw u0 u1 D d1, WRs Lm D d1 x1] : List va_W).flatten → W p l e room_1 s m args below meth c H1 locs1 cells slots Q (F0 m 773 ls [])) : W p l e room_1 s m args below meth c H locs cells slots Q (F0 m 629 ls []) := by
  have hx := X.1.1
  have hb := X.1.2.1
  obtain ⟨r, d1, x1, hI1, S⟩ := sim_comesIn o ha ta L w1 w2 M y1 y2 b0 b1 b2 b3 bw u0 u1 Lm hI (xs (i + 1))
  refine lv_aload_n hx hb dL_law_629 rfl (lv_at hl 2 rfl) ?_
  refine r_scr X hX hbl hbA hN hw (j := 1) (by omega) hl dL_law_630 dL_law_631 dL_law_632 dL_law_633 dL_law_634 rfl ?_
  refine r_c1 o ha ta L w1 w2 M y1 y2 b0 b1 b2 b3 bw u0 u1 Lm X hw S lk_L_85 rfl (by decide) hl.1 rfl dL_law_635 hf (fun H1 locs1 hw => ?_)
  refine lv_aload_n hx hb dL_law_638 rfl (lv_at hl 3 rfl) ?_
  refine r_scr X hX hbl hbA hN hw (j := 1) (by omega) hl dL_law_639 dL_law_640 dL_law_641 dL_law_642 dL_law_643 rfl ?_
  refine r_c2 o ha ta L w1 w2 M y1 y2 b0 b1 b2 b3 bw u0 u1 Lm X hw S lk_L_88 rfl (by decide) hl.1 rfl dL_law_644 hf (fun H2 locs2 hw => ?_)
  exact lv_icmp_eq (tgt := 773) hx hb dL_law_647 (by decide) (fun _ => tail d1 x1 hI1 _ _ hw) (fun q => absurd rfl q)
theorem case_18 (X : CX D p m c cL_law 4 s args RL A) {sb N : Nat} {xs : Nat → Int32} (hX : va_X sb N xs s s.heap) (hbl : sb < s.heap.size) (hbA : ¬ A sb) (hN : N ≤ 2048) (hf : cells ≤ room_1.cells ∧ slots ≤ room_1.slots) {i K : Nat} {d : DS} {x : MS} (hI : INV K d x) (hK : K ≤ 32768) (hi : i + 4 ≤ N) (hw : Wd D A s.heap H locs ([WCs o ha ta L w1 w2 M y1 y2 b0 b1 b2 b3 bw u0 u1 D d, WRs Lm D d x] : List va_W).flatten) (hl : lv_has ls 4 [(3, .int (nI i)), (0, .ref sb), (1, .ref o), (2, .ref (Lm 0))])
    (tail : ∀ (d1 : DS) (x1 : MS), INV (K + 61) d1 x1 → ∀ (H1 : Heap) (locs1 : List Loc), Wd D A s.heap H1 locs1 ([WCs o ha ta L w1 w2 M y1 y2 b0 b1 b2 b3 bw u0 u1 D d1, WRs Lm D d1 x1] : List va_W).flatten → W p l e room_1 s m args below meth c H1 locs1 cells slots Q (F0 m 773 ls [])) : W p l e room_1 s m args below meth c H locs cells slots Q (F0 m 652 ls []) := by
  have hx := X.1.1
  have hb := X.1.2.1
  obtain ⟨r, d1, x1, hI1, S⟩ := sim_share o ha ta L w1 w2 M y1 y2 b0 b1 b2 b3 bw u0 u1 Lm hI (by omega) 
  refine lv_aload_n hx hb dL_law_652 rfl (lv_at hl 2 rfl) ?_
  refine r_c1 o ha ta L w1 w2 M y1 y2 b0 b1 b2 b3 bw u0 u1 Lm X hw S lk_L_89 rfl (by decide) hl.1 rfl dL_law_653 hf (fun H1 locs1 hw => ?_)
  refine lv_aload_n hx hb dL_law_656 rfl (lv_at hl 3 rfl) ?_
  refine r_c2 o ha ta L w1 w2 M y1 y2 b0 b1 b2 b3 bw u0 u1 Lm X hw S lk_L_92 rfl (by decide) hl.1 rfl dL_law_657 hf (fun H2 locs2 hw => ?_)
  exact lv_icmp_eq (tgt := 773) hx hb dL_law_660 (by decide) (fun _ => tail d1 x1 hI1 _ _ hw) (fun q => absurd rfl q)
theorem case_19 (X : CX D p m c cL_law 4 s args RL A) {sb N : Nat} {xs : Nat → Int32} (hX : va_X sb N xs s s.heap) (hbl : sb < s.heap.size) (hbA : ¬ A sb) (hN : N ≤ 2048) (hf : cells ≤ room_1.cells ∧ slots ≤ room_1.slots) {i K : Nat} {d : DS} {x : MS} (hI : INV K d x) (hK : K ≤ 32768) (hi : i + 4 ≤ N) (hw : Wd D A s.heap H locs ([WCs o ha ta L w1 w2 M y1 y2 b0 b1 b2 b3 bw u0 u1 D d, WRs Lm D d x] : List va_W).flatten) (hl : lv_has ls 4 [(3, .int (nI i)), (0, .ref sb), (1, .ref o), (2, .ref (Lm 0))])
    (tail : ∀ (d1 : DS) (x1 : MS), INV (K + 61) d1 x1 → ∀ (H1 : Heap) (locs1 : List Loc), Wd D A s.heap H1 locs1 ([WCs o ha ta L w1 w2 M y1 y2 b0 b1 b2 b3 bw u0 u1 D d1, WRs Lm D d1 x1] : List va_W).flatten → W p l e room_1 s m args below meth c H1 locs1 cells slots Q (F0 m 773 ls [])) : W p l e room_1 s m args below meth c H locs cells slots Q (F0 m 665 ls []) := by
  have hx := X.1.1
  have hb := X.1.2.1
  obtain ⟨r, d1, x1, hI1, S⟩ := sim_count o ha ta L w1 w2 M y1 y2 b0 b1 b2 b3 bw u0 u1 Lm hI (xs (i + 1))
  refine lv_aload_n hx hb dL_law_665 rfl (lv_at hl 2 rfl) ?_
  refine r_scr X hX hbl hbA hN hw (j := 1) (by omega) hl dL_law_666 dL_law_667 dL_law_668 dL_law_669 dL_law_670 rfl ?_
  refine r_c1 o ha ta L w1 w2 M y1 y2 b0 b1 b2 b3 bw u0 u1 Lm X hw S lk_L_93 rfl (by decide) hl.1 rfl dL_law_671 hf (fun H1 locs1 hw => ?_)
  refine lv_aload_n hx hb dL_law_674 rfl (lv_at hl 3 rfl) ?_
  refine r_scr X hX hbl hbA hN hw (j := 1) (by omega) hl dL_law_675 dL_law_676 dL_law_677 dL_law_678 dL_law_679 rfl ?_
  refine r_c2 o ha ta L w1 w2 M y1 y2 b0 b1 b2 b3 bw u0 u1 Lm X hw S lk_L_96 rfl (by decide) hl.1 rfl dL_law_680 hf (fun H2 locs2 hw => ?_)
  exact lv_icmp_eq (tgt := 773) hx hb dL_law_683 (by decide) (fun _ => tail d1 x1 hI1 _ _ hw) (fun q => absurd rfl q)
theorem case_20 (X : CX D p m c cL_law 4 s args RL A) {sb N : Nat} {xs : Nat → Int32} (hX : va_X sb N xs s s.heap) (hbl : sb < s.heap.size) (hbA : ¬ A sb) (hN : N ≤ 2048) (hf : cells ≤ room_1.cells ∧ slots ≤ room_1.slots) {i K : Nat} {d : DS} {x : MS} (hI : INV K d x) (hK : K ≤ 32768) (hi : i + 4 ≤ N) (hw : Wd D A s.heap H locs ([WCs o ha ta L w1 w2 M y1 y2 b0 b1 b2 b3 bw u0 u1 D d, WRs Lm D d x] : List va_W).flatten) (hl : lv_has ls 4 [(3, .int (nI i)), (0, .ref sb), (1, .ref o), (2, .ref (Lm 0))])
    (tail : ∀ (d1 : DS) (x1 : MS), INV (K + 61) d1 x1 → ∀ (H1 : Heap) (locs1 : List Loc), Wd D A s.heap H1 locs1 ([WCs o ha ta L w1 w2 M y1 y2 b0 b1 b2 b3 bw u0 u1 D d1, WRs Lm D d1 x1] : List va_W).flatten → W p l e room_1 s m args below meth c H1 locs1 cells slots Q (F0 m 773 ls [])) : W p l e room_1 s m args below meth c H locs cells slots Q (F0 m 688 ls []) := by
  have hx := X.1.1
  have hb := X.1.2.1
  obtain ⟨r, d1, x1, hI1, S⟩ := sim_undo o ha ta L w1 w2 M y1 y2 b0 b1 b2 b3 bw u0 u1 Lm hI 
  refine lv_aload_n hx hb dL_law_688 rfl (lv_at hl 2 rfl) ?_
  refine r_c1 o ha ta L w1 w2 M y1 y2 b0 b1 b2 b3 bw u0 u1 Lm X hw S lk_L_97 rfl (by decide) hl.1 rfl dL_law_689 hf (fun H1 locs1 hw => ?_)
  refine lv_aload_n hx hb dL_law_692 rfl (lv_at hl 3 rfl) ?_
  refine r_c2 o ha ta L w1 w2 M y1 y2 b0 b1 b2 b3 bw u0 u1 Lm X hw S lk_L_100 rfl (by decide) hl.1 rfl dL_law_693 hf (fun H2 locs2 hw => ?_)
  exact lv_icmp_eq (tgt := 773) hx hb dL_law_696 (by decide) (fun _ => tail d1 x1 hI1 _ _ hw) (fun q => absurd rfl q)
theorem case_21 (X : CX D p m c cL_law 4 s args RL A) {sb N : Nat} {xs : Nat → Int32} (hX : va_X sb N xs s s.heap) (hbl : sb < s.heap.size) (hbA : ¬ A sb) (hN : N ≤ 2048) (hf : cells ≤ room_1.cells ∧ slots ≤ room_1.slots) {i K : Nat} {d : DS} {x : MS} (hI : INV K d x) (hK : K ≤ 32768) (hi : i + 4 ≤ N) (hw : Wd D A s.heap H locs ([WCs o ha ta L w1 w2 M y1 y2 b0 b1 b2 b3 bw u0 u1 D d, WRs Lm D d x] : List va_W).flatten) (hl : lv_has ls 4 [(3, .int (nI i)), (0, .ref sb), (1, .ref o), (2, .ref (Lm 0))])
    (tail : ∀ (d1 : DS) (x1 : MS), INV (K + 61) d1 x1 → ∀ (H1 : Heap) (locs1 : List Loc), Wd D A s.heap H1 locs1 ([WCs o ha ta L w1 w2 M y1 y2 b0 b1 b2 b3 bw u0 u1 D d1, WRs Lm D d1 x1] : List va_W).flatten → W p l e room_1 s m args below meth c H1 locs1 cells slots Q (F0 m 773 ls [])) : W p l e room_1 s m args below meth c H locs cells slots Q (F0 m 701 ls []) := by
  have hx := X.1.1
  have hb := X.1.2.1
  obtain ⟨r, d1, x1, hI1, S⟩ := sim_type o ha ta L w1 w2 M y1 y2 b0 b1 b2 b3 bw u0 u1 Lm hI (xs (i + 1))
  refine lv_aload_n hx hb dL_law_701 rfl (lv_at hl 2 rfl) ?_
  refine r_scr X hX hbl hbA hN hw (j := 1) (by omega) hl dL_law_702 dL_law_703 dL_law_704 dL_law_705 dL_law_706 rfl ?_
  refine r_c1 o ha ta L w1 w2 M y1 y2 b0 b1 b2 b3 bw u0 u1 Lm X hw S lk_L_101 rfl (by decide) hl.1 rfl dL_law_707 hf (fun H1 locs1 hw => ?_)
  refine lv_aload_n hx hb dL_law_710 rfl (lv_at hl 3 rfl) ?_
  refine r_scr X hX hbl hbA hN hw (j := 1) (by omega) hl dL_law_711 dL_law_712 dL_law_713 dL_law_714 dL_law_715 rfl ?_
  refine r_c2 o ha ta L w1 w2 M y1 y2 b0 b1 b2 b3 bw u0 u1 Lm X hw S lk_L_104 rfl (by decide) hl.1 rfl dL_law_716 hf (fun H2 locs2 hw => ?_)
  exact lv_icmp_eq (tgt := 773) hx hb dL_law_719 (by decide) (fun _ => tail d1 x1 hI1 _ _ hw) (fun q => absurd rfl q)
theorem case_22 (X : CX D p m c cL_law 4 s args RL A) {sb N : Nat} {xs : Nat → Int32} (hX : va_X sb N xs s s.heap) (hbl : sb < s.heap.size) (hbA : ¬ A sb) (hN : N ≤ 2048) (hf : cells ≤ room_1.cells ∧ slots ≤ room_1.slots) {i K : Nat} {d : DS} {x : MS} (hI : INV K d x) (hK : K ≤ 32768) (hi : i + 4 ≤ N) (hw : Wd D A s.heap H locs ([WCs o ha ta L w1 w2 M y1 y2 b0 b1 b2 b3 bw u0 u1 D d, WRs Lm D d x] : List va_W).flatten) (hl : lv_has ls 4 [(3, .int (nI i)), (0, .ref sb), (1, .ref o), (2, .ref (Lm 0))])
    (tail : ∀ (d1 : DS) (x1 : MS), INV (K + 61) d1 x1 → ∀ (H1 : Heap) (locs1 : List Loc), Wd D A s.heap H1 locs1 ([WCs o ha ta L w1 w2 M y1 y2 b0 b1 b2 b3 bw u0 u1 D d1, WRs Lm D d1 x1] : List va_W).flatten → W p l e room_1 s m args below meth c H1 locs1 cells slots Q (F0 m 773 ls [])) : W p l e room_1 s m args below meth c H locs cells slots Q (F0 m 724 ls []) := by
  have hx := X.1.1
  have hb := X.1.2.1
  obtain ⟨r, d1, x1, hI1, S⟩ := sim_clearText o ha ta L w1 w2 M y1 y2 b0 b1 b2 b3 bw u0 u1 Lm hI 
  refine lv_aload_n hx hb dL_law_724 rfl (lv_at hl 2 rfl) ?_
  refine r_c1 o ha ta L w1 w2 M y1 y2 b0 b1 b2 b3 bw u0 u1 Lm X hw S lk_L_105 rfl (by decide) hl.1 rfl dL_law_725 hf (fun H1 locs1 hw => ?_)
  refine lv_aload_n hx hb dL_law_728 rfl (lv_at hl 3 rfl) ?_
  refine r_c2 o ha ta L w1 w2 M y1 y2 b0 b1 b2 b3 bw u0 u1 Lm X hw S lk_L_108 rfl (by decide) hl.1 rfl dL_law_729 hf (fun H2 locs2 hw => ?_)
  exact lv_icmp_eq (tgt := 773) hx hb dL_law_732 (by decide) (fun _ => tail d1 x1 hI1 _ _ hw) (fun q => absurd rfl q)
theorem case_23 (X : CX D p m c cL_law 4 s args RL A) {sb N : Nat} {xs : Nat → Int32} (hX : va_X sb N xs s s.heap) (hbl : sb < s.heap.size) (hbA : ¬ A sb) (hN : N ≤ 2048) (hf : cells ≤ room_1.cells ∧ slots ≤ room_1.slots) {i K : Nat} {d : DS} {x : MS} (hI : INV K d x) (hK : K ≤ 32768) (hi : i + 4 ≤ N) (hw : Wd D A s.heap H locs ([WCs o ha ta L w1 w2 M y1 y2 b0 b1 b2 b3 bw u0 u1 D d, WRs Lm D d x] : List va_W).flatten) (hl : lv_has ls 4 [(3, .int (nI i)), (0, .ref sb), (1, .ref o), (2, .ref (Lm 0))])
    (tail : ∀ (d1 : DS) (x1 : MS), INV (K + 61) d1 x1 → ∀ (H1 : Heap) (locs1 : List Loc), Wd D A s.heap H1 locs1 ([WCs o ha ta L w1 w2 M y1 y2 b0 b1 b2 b3 bw u0 u1 D d1, WRs Lm D d1 x1] : List va_W).flatten → W p l e room_1 s m args below meth c H1 locs1 cells slots Q (F0 m 773 ls [])) : W p l e room_1 s m args below meth c H locs cells slots Q (F0 m 737 ls []) := by
  have hx := X.1.1
  have hb := X.1.2.1
  obtain ⟨r, d1, x1, hI1, S⟩ := sim_fault o ha ta L w1 w2 M y1 y2 b0 b1 b2 b3 bw u0 u1 Lm hI (xs (i + 1))
  refine lv_aload_n hx hb dL_law_737 rfl (lv_at hl 2 rfl) ?_
  refine r_scr X hX hbl hbA hN hw (j := 1) (by omega) hl dL_law_738 dL_law_739 dL_law_740 dL_law_741 dL_law_742 rfl ?_
  refine r_c1 o ha ta L w1 w2 M y1 y2 b0 b1 b2 b3 bw u0 u1 Lm X hw S lk_L_109 rfl (by decide) hl.1 rfl dL_law_743 hf (fun H1 locs1 hw => ?_)
  refine lv_aload_n hx hb dL_law_746 rfl (lv_at hl 3 rfl) ?_
  refine r_scr X hX hbl hbA hN hw (j := 1) (by omega) hl dL_law_747 dL_law_748 dL_law_749 dL_law_750 dL_law_751 rfl ?_
  refine r_c2 o ha ta L w1 w2 M y1 y2 b0 b1 b2 b3 bw u0 u1 Lm X hw S lk_L_112 rfl (by decide) hl.1 rfl dL_law_752 hf (fun H2 locs2 hw => ?_)
  exact lv_icmp_eq (tgt := 773) hx hb dL_law_755 (by decide) (fun _ => tail d1 x1 hI1 _ _ hw) (fun q => absurd rfl q)
theorem case_24 (X : CX D p m c cL_law 4 s args RL A) {sb N : Nat} {xs : Nat → Int32} (hX : va_X sb N xs s s.heap) (hbl : sb < s.heap.size) (hbA : ¬ A sb) (hN : N ≤ 2048) (hf : cells ≤ room_1.cells ∧ slots ≤ room_1.slots) {i K : Nat} {d : DS} {x : MS} (hI : INV K d x) (hK : K ≤ 32768) (hi : i + 4 ≤ N) (hw : Wd D A s.heap H locs ([WCs o ha ta L w1 w2 M y1 y2 b0 b1 b2 b3 bw u0 u1 D d, WRs Lm D d x] : List va_W).flatten) (hl : lv_has ls 4 [(3, .int (nI i)), (0, .ref sb), (1, .ref o), (2, .ref (Lm 0))])
    (tail : ∀ (d1 : DS) (x1 : MS), INV (K + 61) d1 x1 → ∀ (H1 : Heap) (locs1 : List Loc), Wd D A s.heap H1 locs1 ([WCs o ha ta L w1 w2 M y1 y2 b0 b1 b2 b3 bw u0 u1 D d1, WRs Lm D d1 x1] : List va_W).flatten → W p l e room_1 s m args below meth c H1 locs1 cells slots Q (F0 m 773 ls [])) : W p l e room_1 s m args below meth c H locs cells slots Q (F0 m 760 ls []) := by
  have hx := X.1.1
  have hb := X.1.2.1
  obtain ⟨r, d1, x1, hI1, S⟩ := sim_play o ha ta L w1 w2 M y1 y2 b0 b1 b2 b3 bw u0 u1 Lm hI 
  refine lv_aload_n hx hb dL_law_760 rfl (lv_at hl 2 rfl) ?_
  refine r_c1 o ha ta L w1 w2 M y1 y2 b0 b1 b2 b3 bw u0 u1 Lm X hw S lk_L_113 rfl (by decide) hl.1 rfl dL_law_761 hf (fun H1 locs1 hw => ?_)
  refine lv_aload_n hx hb dL_law_764 rfl (lv_at hl 3 rfl) ?_
  refine r_c2 o ha ta L w1 w2 M y1 y2 b0 b1 b2 b3 bw u0 u1 Lm X hw S lk_L_116 rfl (by decide) hl.1 rfl dL_law_765 hf (fun H2 locs2 hw => ?_)
  exact lv_icmp_eq (tgt := 773) hx hb dL_law_768 (by decide) (fun _ => tail d1 x1 hI1 _ _ hw) (fun q => absurd rfl q)
theorem law_loop (X : CX D p m c cL_law 4 s args RL A) {sb N : Nat} {xs : Nat → Int32} (hX : va_X sb N xs s s.heap) (hbl : sb < s.heap.size) (hbA : ¬ A sb) (hN : N ≤ 2048) (hf : cells ≤ room_1.cells ∧ slots ≤ room_1.slots)
    (hend : ∀ (H : Heap) (locs : List Loc) (ls : Array Slot) (ws : va_W), Wd D A s.heap H locs ws → W p l e room_1 s m args below meth c H locs cells slots Q (F0 m 779 ls [])) :
    ∀ (n i K : Nat) (d : DS) (x : MS) (H : Heap) (locs : List Loc) (ls : Array Slot), 2053 - i < n → i ≤ 2048 → K ≤ 16 * i → INV K d x → Wd D A s.heap H locs ([WCs o ha ta L w1 w2 M y1 y2 b0 b1 b2 b3 bw u0 u1 D d, WRs Lm D d x] : List va_W).flatten → lv_has ls 4 [(3, .int (nI i)), (0, .ref sb), (1, .ref o), (2, .ref (Lm 0))] → W p l e room_1 s m args below meth c H locs cells slots Q (F0 m 18 ls []) := by
  have hx := X.1.1
  have hb := X.1.2.1
  intro n
  induction n with
  | zero => intro i K d x H locs ls h; exact absurd h (Nat.not_lt_zero _)
  | succ n ih =>
    intro i K d x H locs ls h hi hK hI hw hl
    refine lv_iload_n hx hb dL_law_18 rfl (lv_at hl 0 rfl) ?_
    refine lv_aload_n hx hb dL_law_19 rfl (lv_at hl 1 rfl) ?_
    refine va_slen hx hb hX hbl hbA hw.2.2 dL_law_20 ?_
    refine lv_iconst (v := 4) hx hb dL_law_21 (by decide) ?_
    refine lv_isub hx hb dL_law_22 ?_
    refine lv_icmp_gt (tgt := 779) hx hb dL_law_23 (by decide) (fun _ => hend _ _ _ _ hw) (fun hc => ?_)
    have hi4 : i + 4 ≤ N := Nat.le_of_not_lt fun q => hc ((sub4 hN hi).mpr q)
    refine lv_aload_n hx hb dL_law_26 rfl (lv_at hl 1 rfl) ?_
    refine lv_iload_n hx hb dL_law_27 rfl (lv_at hl 0 rfl) ?_
    refine va_sld hx hb hX hbl hbA hw.2.2 (in_xs (by omega) hN) dL_law_28 ?_
    refine lv_bipush (v := 31) hx hb dL_law_29 (by decide) ?_
    refine lv_iand hx hb dL_law_31 ?_
    obtain ⟨v, hv, ev⟩ := and31 (xs (nI i).toNatClampNeg)
    rw [ev]
    have hK2 : K ≤ 32768 := by omega
    have tail : ∀ (K' : Nat) (d1 : DS) (x1 : MS), K' ≤ K + 61 → INV K' d1 x1 → ∀ (H1 : Heap) (locs1 : List Loc), Wd D A s.heap H1 locs1 ([WCs o ha ta L w1 w2 M y1 y2 b0 b1 b2 b3 bw u0 u1 D d1, WRs Lm D d1 x1] : List va_W).flatten → W p l e room_1 s m args below meth c H1 locs1 cells slots Q (F0 m 773 ls []) := fun K' d1 x1 hK' hI1 H1 locs1 hw1 => by
      refine r_iincN (lv' := [(3, .int (nI (i + 4))), (0, .ref sb), (1, .ref o), (2, .ref (Lm 0))]) hx hb i 4 rfl dL_law_773 hl (k := 0) rfl rfl (by decide) rfl (fun ls1 hl1 => ?_)
      refine lv_goto (tgt := 18) hx hb dL_law_776 (by decide) ?_
      exact ih (i + 4) K' d1 x1 H1 locs1 ls1 (by omega) (by omega) (by omega) hI1 hw1 hl1
    by_cases hv25 : v < 25
    · have tail := fun (d1 : DS) (x1 : MS) (h1 : INV (K + 61) d1 x1) => tail (K + 61) d1 x1 (Nat.le_refl _) h1
      rcases (show v = 0 ∨ v = 1 ∨ v = 2 ∨ v = 3 ∨ v = 4 ∨ v = 5 ∨ v = 6 ∨ v = 7 ∨ v = 8 ∨ v = 9 ∨ v = 10 ∨ v = 11 ∨ v = 12 ∨ v = 13 ∨ v = 14 ∨ v = 15 ∨ v = 16 ∨ v = 17 ∨ v = 18 ∨ v = 19 ∨ v = 20 ∨ v = 21 ∨ v = 22 ∨ v = 23 ∨ v = 24 by omega) with h9 | h9 | h9 | h9 | h9 | h9 | h9 | h9 | h9 | h9 | h9 | h9 | h9 | h9 | h9 | h9 | h9 | h9 | h9 | h9 | h9 | h9 | h9 | h9 | h9
      · subst h9; exact r_tabIn hx hb (nI 0) rfl dL_law_32 (by decide) (by decide) rfl (by decide) (case_0 o ha ta L w1 w2 M y1 y2 b0 b1 b2 b3 bw u0 u1 Lm X hX hbl hbA hN hf hI hK2 hi4 hw hl tail)
      · subst h9; exact r_tabIn hx hb (nI 1) rfl dL_law_32 (by decide) (by decide) rfl (by decide) (case_1 o ha ta L w1 w2 M y1 y2 b0 b1 b2 b3 bw u0 u1 Lm X hX hbl hbA hN hf hI hK2 hi4 hw hl tail)
      · subst h9; exact r_tabIn hx hb (nI 2) rfl dL_law_32 (by decide) (by decide) rfl (by decide) (case_2 o ha ta L w1 w2 M y1 y2 b0 b1 b2 b3 bw u0 u1 Lm X hX hbl hbA hN hf hI hK2 hi4 hw hl tail)
      · subst h9; exact r_tabIn hx hb (nI 3) rfl dL_law_32 (by decide) (by decide) rfl (by decide) (case_3 o ha ta L w1 w2 M y1 y2 b0 b1 b2 b3 bw u0 u1 Lm X hX hbl hbA hN hf hI hK2 hi4 hw hl tail)
      · subst h9; exact r_tabIn hx hb (nI 4) rfl dL_law_32 (by decide) (by decide) rfl (by decide) (case_4 o ha ta L w1 w2 M y1 y2 b0 b1 b2 b3 bw u0 u1 Lm X hX hbl hbA hN hf hI hK2 hi4 hw hl tail)
      · subst h9; exact r_tabIn hx hb (nI 5) rfl dL_law_32 (by decide) (by decide) rfl (by decide) (case_5 o ha ta L w1 w2 M y1 y2 b0 b1 b2 b3 bw u0 u1 Lm X hX hbl hbA hN hf hI hK2 hi4 hw hl tail)
      · subst h9; exact r_tabIn hx hb (nI 6) rfl dL_law_32 (by decide) (by decide) rfl (by decide) (case_6 o ha ta L w1 w2 M y1 y2 b0 b1 b2 b3 bw u0 u1 Lm X hX hbl hbA hN hf hI hK2 hi4 hw hl tail)
      · subst h9; exact r_tabIn hx hb (nI 7) rfl dL_law_32 (by decide) (by decide) rfl (by decide) (case_7 o ha ta L w1 w2 M y1 y2 b0 b1 b2 b3 bw u0 u1 Lm X hX hbl hbA hN hf hI hK2 hi4 hw hl tail)
      · subst h9; exact r_tabIn hx hb (nI 8) rfl dL_law_32 (by decide) (by decide) rfl (by decide) (case_8 o ha ta L w1 w2 M y1 y2 b0 b1 b2 b3 bw u0 u1 Lm X hX hbl hbA hN hf hI hK2 hi4 hw hl tail)
      · subst h9; exact r_tabIn hx hb (nI 9) rfl dL_law_32 (by decide) (by decide) rfl (by decide) (case_9 o ha ta L w1 w2 M y1 y2 b0 b1 b2 b3 bw u0 u1 Lm X hX hbl hbA hN hf hI hK2 hi4 hw hl tail)
      · subst h9; exact r_tabIn hx hb (nI 10) rfl dL_law_32 (by decide) (by decide) rfl (by decide) (case_10 o ha ta L w1 w2 M y1 y2 b0 b1 b2 b3 bw u0 u1 Lm X hX hbl hbA hN hf hI hK2 hi4 hw hl tail)
      · subst h9; exact r_tabIn hx hb (nI 11) rfl dL_law_32 (by decide) (by decide) rfl (by decide) (case_11 o ha ta L w1 w2 M y1 y2 b0 b1 b2 b3 bw u0 u1 Lm X hX hbl hbA hN hf hI hK2 hi4 hw hl tail)
      · subst h9; exact r_tabIn hx hb (nI 12) rfl dL_law_32 (by decide) (by decide) rfl (by decide) (case_12 o ha ta L w1 w2 M y1 y2 b0 b1 b2 b3 bw u0 u1 Lm X hX hbl hbA hN hf hI hK2 hi4 hw hl tail)
      · subst h9; exact r_tabIn hx hb (nI 13) rfl dL_law_32 (by decide) (by decide) rfl (by decide) (case_13 o ha ta L w1 w2 M y1 y2 b0 b1 b2 b3 bw u0 u1 Lm X hX hbl hbA hN hf hI hK2 hi4 hw hl tail)
      · subst h9; exact r_tabIn hx hb (nI 14) rfl dL_law_32 (by decide) (by decide) rfl (by decide) (case_14 o ha ta L w1 w2 M y1 y2 b0 b1 b2 b3 bw u0 u1 Lm X hX hbl hbA hN hf hI hK2 hi4 hw hl tail)
      · subst h9; exact r_tabIn hx hb (nI 15) rfl dL_law_32 (by decide) (by decide) rfl (by decide) (case_15 o ha ta L w1 w2 M y1 y2 b0 b1 b2 b3 bw u0 u1 Lm X hX hbl hbA hN hf hI hK2 hi4 hw hl tail)
      · subst h9; exact r_tabIn hx hb (nI 16) rfl dL_law_32 (by decide) (by decide) rfl (by decide) (case_16 o ha ta L w1 w2 M y1 y2 b0 b1 b2 b3 bw u0 u1 Lm X hX hbl hbA hN hf hI hK2 hi4 hw hl tail)
      · subst h9; exact r_tabIn hx hb (nI 17) rfl dL_law_32 (by decide) (by decide) rfl (by decide) (case_17 o ha ta L w1 w2 M y1 y2 b0 b1 b2 b3 bw u0 u1 Lm X hX hbl hbA hN hf hI hK2 hi4 hw hl tail)
      · subst h9; exact r_tabIn hx hb (nI 18) rfl dL_law_32 (by decide) (by decide) rfl (by decide) (case_18 o ha ta L w1 w2 M y1 y2 b0 b1 b2 b3 bw u0 u1 Lm X hX hbl hbA hN hf hI hK2 hi4 hw hl tail)
      · subst h9; exact r_tabIn hx hb (nI 19) rfl dL_law_32 (by decide) (by decide) rfl (by decide) (case_19 o ha ta L w1 w2 M y1 y2 b0 b1 b2 b3 bw u0 u1 Lm X hX hbl hbA hN hf hI hK2 hi4 hw hl tail)
      · subst h9; exact r_tabIn hx hb (nI 20) rfl dL_law_32 (by decide) (by decide) rfl (by decide) (case_20 o ha ta L w1 w2 M y1 y2 b0 b1 b2 b3 bw u0 u1 Lm X hX hbl hbA hN hf hI hK2 hi4 hw hl tail)
      · subst h9; exact r_tabIn hx hb (nI 21) rfl dL_law_32 (by decide) (by decide) rfl (by decide) (case_21 o ha ta L w1 w2 M y1 y2 b0 b1 b2 b3 bw u0 u1 Lm X hX hbl hbA hN hf hI hK2 hi4 hw hl tail)
      · subst h9; exact r_tabIn hx hb (nI 22) rfl dL_law_32 (by decide) (by decide) rfl (by decide) (case_22 o ha ta L w1 w2 M y1 y2 b0 b1 b2 b3 bw u0 u1 Lm X hX hbl hbA hN hf hI hK2 hi4 hw hl tail)
      · subst h9; exact r_tabIn hx hb (nI 23) rfl dL_law_32 (by decide) (by decide) rfl (by decide) (case_23 o ha ta L w1 w2 M y1 y2 b0 b1 b2 b3 bw u0 u1 Lm X hX hbl hbA hN hf hI hK2 hi4 hw hl tail)
      · subst h9; exact r_tabIn hx hb (nI 24) rfl dL_law_32 (by decide) (by decide) rfl (by decide) (case_24 o ha ta L w1 w2 M y1 y2 b0 b1 b2 b3 bw u0 u1 Lm X hX hbl hbA hN hf hI hK2 hi4 hw hl tail)
    · refine lv_tableOut (tgt := 773) hx hb dL_law_32 (Or.inr ?_) (by decide) (tail K d x (by omega) hI _ _ hw)
      rw [nI_int (by omega)]; omega
end LAW
