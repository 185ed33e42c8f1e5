/-! what a call leaves; a burst -/
abbrev US : Type := OX × ChS × Row × Row × LRs × Row × Row
def postL (K : Nat) (u : US) : Prop := zOK u.1 ∧ LR K u.2.2.1 u.2.2.2.1 u.2.1 u.2.2.2.2.1
theorem agL_ne {xb xg : Row} {q : Nat} : ∀ (f j : Nat) (b : Int32) (Y : LX), ¬ b = 0 → agL xb xg q f j b Y = (Y, j)
  | 0, _, _, _, _ => rfl
  | f + 1, j, b, Y, h => if_neg h
theorem agL_s {xb xg : Row} {q f j : Nat} {b : Int32} {Y : LX} (h : b = 0) : agL xb xg q (f + 1) j b Y = agL xb xg q f (j + 1) (alkL (agS xb xg q Y).2.1) (agS xb xg q Y) := if_pos h
theorem tn01 (md : Nat) (Y : LX) : toL md Y = 0 ∨ toL md Y = 1 := by
  unfold toL
  split
  · exact Or.inl rfl
  · exact bI_b _

theorem c_L_readsA (l : Launch) (D : va_G) (sz : Nat) (kv kb kg kn kt ka kw kq : Nat) (x9 : LX) (xb xg : Row) (p z q : Nat) (hok : lOK x9.1.2.2.1 p z q) (hq : 6 * q < 8 * z) : MI l yL_reads cL_reads 14 (some .boolean) 7 159 D sz [.ref kv, .ref kb, .ref kg, .ref kn, .ref kt, .ref ka, .ref kw, .ref kq] [(kv, .inl (D.1 100, 7, .inl x9.1.1)), (kb, .inl (D.1 100, 7, .inl xb)), (kg, .inl (D.1 100, 7, .inl xg)), (kn, .inl (D.1 100, 7, .inl x9.1.2.1)), (kt, .inl (D.1 100, 11, .inl x9.1.2.2.1)), (ka, .inl (D.1 100, 27, .inl x9.1.2.2.2)), (kw, .inl (D.1 100, 64, .inl x9.2.2.1)), (kq, .inl (D.1 100, 14, .inl (va_cpy x9.2.1 x9.2.1 0 7 7)))] (tnL (agS xb xg q x9).2.1 (agS xb xg q x9).2.2.1 (agS xb xg q x9).2.2.2) [(kv, .inl (D.1 100, 7, .inl ((agS xb xg q x9).1.1))), (kb, .inl (D.1 100, 7, .inl xb)), (kg, .inl (D.1 100, 7, .inl xg)), (kn, .inl (D.1 100, 7, .inl ((agS xb xg q x9).1.2.1))), (kt, .inl (D.1 100, 11, .inl ((agS xb xg q x9).1.2.2.1))), (ka, .inl (D.1 100, 27, .inl ((agS xb xg q x9).1.2.2.2))), (kw, .inl (D.1 100, 64, .inl ((agS xb xg q x9).2.2.1))), (kq, .inl (D.1 100, 14, .inl ((agS xb xg q x9).2.1)))] := c_L_readsY l D sz kv kb kg kn kt ka kw kq x9.1 xb xg x9.2.2.1 (va_cpy x9.2.1 x9.2.1 0 7 7) p z q hok hq

set_option maxRecDepth 100000 in
set_option maxHeartbeats 4000000 in
theorem c_L_isBurst (l : Launch) (D : va_G) (sz : Nat) (o : Nat) (z : OX) (s : ChS) (kv kb kg kn kt ka kw kq : Nat) (xv xb xg xn xt xa xw xq : Row) (md : Nat) (hmd : md < 3) (p0 zz q : Nat) (hok : lOK xt p0 zz q) (hq : 6 * q < 8 * zz) (K : Nat) (hK : K < 1000) (hL : LR K xb xg s (xv, xn, xt, xa)) (hz : zOK z) : MIU (S := US) l yL_isBurst cL_isBurst 14 (some .boolean) 8 192 D sz [.ref o, .ref kv, .ref kb, .ref kg, .ref kn, .ref kt, .ref ka, .ref kw, .ref kq, .int (nI md)] (([OB D o z s, [(kv, .inl (D.1 100, 7, .inl xv)), (kb, .inl (D.1 100, 7, .inl xb)), (kg, .inl (D.1 100, 7, .inl xg)), (kn, .inl (D.1 100, 7, .inl xn)), (kt, .inl (D.1 100, 11, .inl xt)), (ka, .inl (D.1 100, 27, .inl xa)), (kw, .inl (D.1 100, 64, .inl xw)), (kq, .inl (D.1 100, 14, .inl xq))]] : List va_W).flatten) 1 (postL (K + 1)) (fun (u : US) => ([OB D o u.1 u.2.1, [(kv, .inl (D.1 100, 7, .inl u.2.2.2.2.1.1)), (kb, .inl (D.1 100, 7, .inl u.2.2.1)), (kg, .inl (D.1 100, 7, .inl u.2.2.2.1)), (kn, .inl (D.1 100, 7, .inl u.2.2.2.2.1.2.1)), (kt, .inl (D.1 100, 11, .inl u.2.2.2.2.1.2.2.1)), (ka, .inl (D.1 100, 27, .inl u.2.2.2.2.1.2.2.2)), (kw, .inl (D.1 100, 64, .inl u.2.2.2.2.2.1)), (kq, .inl (D.1 100, 14, .inl u.2.2.2.2.2.2))]] : List va_W).flatten) := by
  refine r_enterIU (by decide) (Nat.le_of_ble_eq_true rfl) ?_
  intro p e st m args below meth c ls A X hret hk hw hl
  have X : CX D p m c cL_isBurst 14 st args RL A := X
  have hx := X.1.1
  have hb := X.1.2.1
  have hown := X.1.2.2.2.1
  have hts := X.1.2.2.2.2
  have hl : lv_has ls 14 [(0, .ref o), (1, .ref kv), (2, .ref kb), (3, .ref kg), (4, .ref kn), (5, .ref kt), (6, .ref ka), (7, .ref kw), (8, .ref kq), (9, .int (nI md))] := hl
  obtain ⟨p1, hok1, -⟩ := rdO_ok (xb := xb) (xg := xg) (x := (xv, xn, xt, xa)) (xw := xw) (xq := xq) hok hq 7 (Nat.le_refl 7)
  have cut230 : ∀ (x9 : LX) (M : Nat) (T : Int32), (buL xb xg (xv, xn, xt, xa) xw xq q md = (x9, M)) → (T = toL md x9) → ∀ (H : Heap) (locs : List Loc) (ls : Array Slot), Wd D A st.heap H locs (([OB D o z s, [(kv, .inl (D.1 100, 7, .inl x9.1.1)), (kb, .inl (D.1 100, 7, .inl xb)), (kg, .inl (D.1 100, 7, .inl xg)), (kn, .inl (D.1 100, 7, .inl x9.1.2.1)), (kt, .inl (D.1 100, 11, .inl x9.1.2.2.1)), (ka, .inl (D.1 100, 27, .inl x9.1.2.2.2)), (kw, .inl (D.1 100, 64, .inl x9.2.2.1)), (kq, .inl (D.1 100, 14, .inl x9.2.1))]] : List va_W).flatten) → lv_has ls 14 [(0, .ref o), (1, .ref kv), (2, .ref kb), (3, .ref kg), (4, .ref kn), (5, .ref kt), (6, .ref ka), (7, .ref kw), (8, .ref kq), (9, .int (nI md)), (10, .int T), (11, .int (nI M))] → W p l e (rmOf 8 0 0 192) st m args below meth c H locs 0 0 (QIU below args st D A 1 (postL (K + 1)) (fun (u : US) => ([OB D o u.1 u.2.1, [(kv, .inl (D.1 100, 7, .inl u.2.2.2.2.1.1)), (kb, .inl (D.1 100, 7, .inl u.2.2.1)), (kg, .inl (D.1 100, 7, .inl u.2.2.2.1)), (kn, .inl (D.1 100, 7, .inl u.2.2.2.2.1.2.1)), (kt, .inl (D.1 100, 11, .inl u.2.2.2.2.1.2.2.1)), (ka, .inl (D.1 100, 27, .inl u.2.2.2.2.1.2.2.2)), (kw, .inl (D.1 100, 64, .inl u.2.2.2.2.2.1)), (kq, .inl (D.1 100, 14, .inl u.2.2.2.2.2.2))]] : List va_W).flatten)) (F0 m 230 ls []) := by
    intro x9 M T hX hT H locs ls hw hl
    have T01 : T = 0 ∨ T = 1 := by rw [hT]; exact tn01 md x9
    refine lv_aload hx hb dL_isBurst_230 (lv_at hl 5 rfl) ?_
    refine lv_iconst (v := 5) hx hb dL_isBurst_232 (by decide) ?_
    refine lv_dup2_11 hx hb dL_isBurst_233 rfl rfl ?_
    refine r_iald X hw (f := x9.1.2.2.1) 5 (m_fl 1 rfl (m_at 4 rfl)) rfl (by decide) (by decide) dL_isBurst_234 ?_
    refine lv_iconst (v := 1) hx hb dL_isBurst_235 (by decide) ?_
    refine lv_iadd hx hb dL_isBurst_236 ?_
    refine r_iast X hw (ws' := ([OB D o z s, [(kv, .inl (D.1 100, 7, .inl x9.1.1)), (kb, .inl (D.1 100, 7, .inl xb)), (kg, .inl (D.1 100, 7, .inl xg)), (kn, .inl (D.1 100, 7, .inl x9.1.2.1)), (kt, .inl (D.1 100, 11, .inl (upd x9.1.2.2.1 5 ((x9.1.2.2.1 5) + 1)))), (ka, .inl (D.1 100, 27, .inl x9.1.2.2.2)), (kw, .inl (D.1 100, 64, .inl x9.2.2.1)), (kq, .inl (D.1 100, 14, .inl x9.2.1))]] : List va_W).flatten) 5 rfl (by decide) (by decide) (Foc.trans (Foc.at1 1 rfl rfl (ce rfl rfl)) (Foc.cell 4 rfl rfl (ce rfl (ce rfl (ce rfl (ce rfl (ce rfl (ce rfl (ce rfl rfl))))))))) dL_isBurst_237 (fun H locs hw => ?_)
    refine lv_aload hx hb dL_isBurst_238 (lv_at hl 5 rfl) ?_
    refine lv_bipush (v := 6) hx hb dL_isBurst_240 (by decide) ?_
    refine lv_dup2_11 hx hb dL_isBurst_242 rfl rfl ?_
    refine r_iald X hw (f := upd x9.1.2.2.1 5 ((x9.1.2.2.1 5) + 1)) 6 (m_fl 1 rfl (m_at 4 rfl)) rfl (by decide) (by decide) dL_isBurst_243 ?_
    refine lv_iload hx hb dL_isBurst_244 (lv_at hl 10 rfl) ?_
    refine lv_if_eq (tgt := 253) hx hb dL_isBurst_246 (by decide) (fun c1 => ?_) (fun c1 => ?_)
    · skip
      refine lv_iconst (v := 0) hx hb dL_isBurst_253 (by decide) ?_
      refine lv_iadd hx hb dL_isBurst_254 ?_
      refine r_iast X hw (ws' := ([OB D o z s, [(kv, .inl (D.1 100, 7, .inl x9.1.1)), (kb, .inl (D.1 100, 7, .inl xb)), (kg, .inl (D.1 100, 7, .inl xg)), (kn, .inl (D.1 100, 7, .inl x9.1.2.1)), (kt, .inl (D.1 100, 11, .inl (upd (upd x9.1.2.2.1 5 ((x9.1.2.2.1 5) + 1)) 6 (((upd x9.1.2.2.1 5 ((x9.1.2.2.1 5) + 1)) 6) + 0)))), (ka, .inl (D.1 100, 27, .inl x9.1.2.2.2)), (kw, .inl (D.1 100, 64, .inl x9.2.2.1)), (kq, .inl (D.1 100, 14, .inl x9.2.1))]] : List va_W).flatten) 6 rfl (by decide) (by decide) (Foc.trans (Foc.at1 1 rfl rfl (ce rfl rfl)) (Foc.cell 4 rfl rfl (ce rfl (ce rfl (ce rfl (ce rfl (ce rfl (ce rfl (ce rfl rfl))))))))) dL_isBurst_255 (fun H locs hw => ?_)
      refine lv_aload_n hx hb dL_isBurst_256 rfl (lv_at hl 0 rfl) ?_
      refine lv_iload hx hb dL_isBurst_257 (lv_at hl 9 rfl) ?_
      obtain ⟨z1, s1, hz1, hL1, ⟨a1, ha1, ha6, hzs1, hen, he7, he8, he9⟩, hM⟩ := k_burstL o hL hz hok hq hmd hK hX
      refine r_callV X hw (ws' := ([OB D o z1 s1, [(kv, .inl (D.1 100, 7, .inl x9.1.1)), (kb, .inl (D.1 100, 7, .inl xb)), (kg, .inl (D.1 100, 7, .inl xg)), (kn, .inl (D.1 100, 7, .inl x9.1.2.1)), (kt, .inl (D.1 100, 11, .inl (upd (upd x9.1.2.2.1 5 ((x9.1.2.2.1 5) + 1)) 6 (((upd x9.1.2.2.1 5 ((x9.1.2.2.1 5) + 1)) 6) + 0)))), (ka, .inl (D.1 100, 27, .inl x9.1.2.2.2)), (kw, .inl (D.1 100, 64, .inl x9.2.2.1)), (kq, .inl (D.1 100, 14, .inl x9.2.1))]] : List va_W).flatten) (As := [.int (nI md)]) (rest := []) lk_L_53 (hM l D _) (Foc.at1 0 rfl rfl (ce rfl rfl)) (m_fl 0 rfl (OB_mem D o z s)) rfl hl.1 (Nat.le_of_ble_eq_true rfl) ⟨Nat.le_of_ble_eq_true rfl, Nat.le_of_ble_eq_true rfl⟩ rfl dL_isBurst_259 ⟨Nat.le_refl _, Nat.le_refl _⟩ (fun H locs hw => ?_)
      refine lv_iload hx hb dL_isBurst_262 (lv_at hl 10 rfl) ?_
      refine lv_if_eq (tgt := 271) hx hb dL_isBurst_264 (by decide) (fun _ => ?_) (fun h => absurd c1 h)
      refine lv_iconst (v := 0) hx hb dL_isBurst_271 (by decide) ?_
      refine lv_icmp_ne (tgt := 335) hx hb dL_isBurst_272 (by decide) (fun h => absurd (by rw [← hT]; exact c1) h) (fun _ => ?_)
      refine lv_aload_n hx hb dL_isBurst_275 rfl (lv_at hl 0 rfl) ?_
      refine lv_iconst (v := 0) hx hb dL_isBurst_276 (by decide) ?_
      refine lv_bipush (v := 7) hx hb dL_isBurst_277 (by decide) ?_
      refine r_callV X hw (ws' := ([OB D o z1 s1, [(kv, .inl (D.1 100, 7, .inl x9.1.1)), (kb, .inl (D.1 100, 7, .inl xb)), (kg, .inl (D.1 100, 7, .inl xg)), (kn, .inl (D.1 100, 7, .inl x9.1.2.1)), (kt, .inl (D.1 100, 11, .inl (upd (upd x9.1.2.2.1 5 ((x9.1.2.2.1 5) + 1)) 6 (((upd x9.1.2.2.1 5 ((x9.1.2.2.1 5) + 1)) 6) + 0)))), (ka, .inl (D.1 100, 27, .inl x9.1.2.2.2)), (kw, .inl (D.1 100, 64, .inl x9.2.2.1)), (kq, .inl (D.1 100, 14, .inl x9.2.1))]] : List va_W).flatten) (As := [.int 0, .int 7]) (rest := []) lk_L_58 (k_log l D _ o z1 s1 hz1 a1 ha1 ha6 0 7 (by decide) (by decide) (isW9 (by decide)) hzs1) (Foc.at1 0 rfl rfl (ce rfl rfl)) (m_fl 0 rfl (OB_mem D o z1 s1)) rfl hl.1 (Nat.le_of_ble_eq_true rfl) ⟨Nat.le_of_ble_eq_true rfl, Nat.le_of_ble_eq_true rfl⟩ rfl dL_isBurst_279 ⟨Nat.le_refl _, Nat.le_refl _⟩ (fun H locs hw => ?_)
      refine lv_iload hx hb dL_isBurst_282 (lv_at hl 9 rfl) ?_
      refine lv_icmp_ne (tgt := 335) hx hb dL_isBurst_284 (by decide) (fun h => absurd he7 h) (fun _ => ?_)
      refine lv_aload_n hx hb dL_isBurst_287 rfl (lv_at hl 0 rfl) ?_
      refine lv_iconst (v := 0) hx hb dL_isBurst_288 (by decide) ?_
      refine lv_bipush (v := 8) hx hb dL_isBurst_289 (by decide) ?_
      refine r_callV X hw (ws' := ([OB D o z1 s1, [(kv, .inl (D.1 100, 7, .inl x9.1.1)), (kb, .inl (D.1 100, 7, .inl xb)), (kg, .inl (D.1 100, 7, .inl xg)), (kn, .inl (D.1 100, 7, .inl x9.1.2.1)), (kt, .inl (D.1 100, 11, .inl (upd (upd x9.1.2.2.1 5 ((x9.1.2.2.1 5) + 1)) 6 (((upd x9.1.2.2.1 5 ((x9.1.2.2.1 5) + 1)) 6) + 0)))), (ka, .inl (D.1 100, 27, .inl x9.1.2.2.2)), (kw, .inl (D.1 100, 64, .inl x9.2.2.1)), (kq, .inl (D.1 100, 14, .inl x9.2.1))]] : List va_W).flatten) (As := [.int 0, .int 8]) (rest := []) lk_L_58 (k_log l D _ o z1 s1 hz1 a1 ha1 ha6 0 8 (by decide) (by decide) (isW9 (by decide)) hzs1) (Foc.at1 0 rfl rfl (ce rfl rfl)) (m_fl 0 rfl (OB_mem D o z1 s1)) rfl hl.1 (Nat.le_of_ble_eq_true rfl) ⟨Nat.le_of_ble_eq_true rfl, Nat.le_of_ble_eq_true rfl⟩ rfl dL_isBurst_291 ⟨Nat.le_refl _, Nat.le_refl _⟩ (fun H locs hw => ?_)
      refine lv_iload hx hb dL_isBurst_294 (lv_at hl 10 rfl) ?_
      refine lv_if_eq (tgt := 303) hx hb dL_isBurst_296 (by decide) (fun _ => ?_) (fun h => absurd c1 h)
      refine lv_iconst (v := 0) hx hb dL_isBurst_303 (by decide) ?_
      refine lv_icmp_ne (tgt := 335) hx hb dL_isBurst_304 (by decide) (fun h => absurd (he8.trans (by rw [← hT]; exact c1)) h) (fun _ => ?_)
      refine lv_aload_n hx hb dL_isBurst_307 rfl (lv_at hl 0 rfl) ?_
      refine lv_iconst (v := 0) hx hb dL_isBurst_308 (by decide) ?_
      refine lv_bipush (v := 9) hx hb dL_isBurst_309 (by decide) ?_
      refine r_callV X hw (ws' := ([OB D o z1 s1, [(kv, .inl (D.1 100, 7, .inl x9.1.1)), (kb, .inl (D.1 100, 7, .inl xb)), (kg, .inl (D.1 100, 7, .inl xg)), (kn, .inl (D.1 100, 7, .inl x9.1.2.1)), (kt, .inl (D.1 100, 11, .inl (upd (upd x9.1.2.2.1 5 ((x9.1.2.2.1 5) + 1)) 6 (((upd x9.1.2.2.1 5 ((x9.1.2.2.1 5) + 1)) 6) + 0)))), (ka, .inl (D.1 100, 27, .inl x9.1.2.2.2)), (kw, .inl (D.1 100, 64, .inl x9.2.2.1)), (kq, .inl (D.1 100, 14, .inl x9.2.1))]] : List va_W).flatten) (As := [.int 0, .int 9]) (rest := []) lk_L_58 (k_log l D _ o z1 s1 hz1 a1 ha1 ha6 0 9 (by decide) (by decide) (isW9 (by decide)) hzs1) (Foc.at1 0 rfl rfl (ce rfl rfl)) (m_fl 0 rfl (OB_mem D o z1 s1)) rfl hl.1 (Nat.le_of_ble_eq_true rfl) ⟨Nat.le_of_ble_eq_true rfl, Nat.le_of_ble_eq_true rfl⟩ rfl dL_isBurst_311 ⟨Nat.le_refl _, Nat.le_refl _⟩ (fun H locs hw => ?_)
      refine lv_iload hx hb dL_isBurst_314 (lv_at hl 11 rfl) ?_
      refine lv_icmp_ne (tgt := 335) hx hb dL_isBurst_316 (by decide) (fun h => absurd he9 h) (fun _ => ?_)
      refine lv_aload_n hx hb dL_isBurst_319 rfl (lv_at hl 0 rfl) ?_
      refine lv_iconst (v := 0) hx hb dL_isBurst_320 (by decide) ?_
      refine lv_bipush (v := 10) hx hb dL_isBurst_321 (by decide) ?_
      refine r_callV X hw (ws' := ([OB D o z1 s1, [(kv, .inl (D.1 100, 7, .inl x9.1.1)), (kb, .inl (D.1 100, 7, .inl xb)), (kg, .inl (D.1 100, 7, .inl xg)), (kn, .inl (D.1 100, 7, .inl x9.1.2.1)), (kt, .inl (D.1 100, 11, .inl (upd (upd x9.1.2.2.1 5 ((x9.1.2.2.1 5) + 1)) 6 (((upd x9.1.2.2.1 5 ((x9.1.2.2.1 5) + 1)) 6) + 0)))), (ka, .inl (D.1 100, 27, .inl x9.1.2.2.2)), (kw, .inl (D.1 100, 64, .inl x9.2.2.1)), (kq, .inl (D.1 100, 14, .inl x9.2.1))]] : List va_W).flatten) (As := [.int 0, .int 10]) (rest := []) lk_L_58 (k_logC l D _ o z1 s1 hz1 0 10 (by decide) (by decide +kernel)) (Foc.at1 0 rfl rfl (ce rfl rfl)) (m_fl 0 rfl (OB_mem D o z1 s1)) rfl hl.1 (Nat.le_of_ble_eq_true rfl) ⟨Nat.le_of_ble_eq_true rfl, Nat.le_of_ble_eq_true rfl⟩ rfl dL_isBurst_323 ⟨Nat.le_refl _, Nat.le_refl _⟩ (fun H locs hw => ?_)
      refine lv_ldc (v := (-1000001)) hx hb hown (hts _ kc_L_62) dL_isBurst_326 ?_
      refine lv_icmp_ne (tgt := 335) hx hb dL_isBurst_328 (by decide) (fun h => absurd (by decide) h) (fun _ => ?_)
      refine lv_iconst (v := 1) hx hb dL_isBurst_331 (by decide) ?_
      refine lv_goto (tgt := 336) hx hb dL_isBurst_332 (by decide) ?_
      refine lv_istore (lv' := [(12, .int 1), (0, .ref o), (1, .ref kv), (2, .ref kb), (3, .ref kg), (4, .ref kn), (5, .ref kt), (6, .ref ka), (7, .ref kw), (8, .ref kq), (9, .int (nI md)), (10, .int T), (11, .int (nI M))]) hx hb dL_isBurst_336 hl (by decide) rfl (fun ls hl => ?_)
      refine lv_iconst (v := 0) hx hb dL_isBurst_338 (by decide) ?_
      refine lv_istore (lv' := [(13, .int 0), (12, .int 1), (0, .ref o), (1, .ref kv), (2, .ref kb), (3, .ref kg), (4, .ref kn), (5, .ref kt), (6, .ref ka), (7, .ref kw), (8, .ref kq), (9, .int (nI md)), (10, .int T), (11, .int (nI M))]) hx hb dL_isBurst_339 hl (by decide) rfl (fun ls hl => ?_)
      have key341 : ∀ (n341 : Nat) (r : Nat), (r ≤ 7) → (7 - r < n341) → ∀ (H : Heap) (locs : List Loc) (ls : Array Slot), Wd D A st.heap H locs (([OB D o z1 s1, [(kv, .inl (D.1 100, 7, .inl x9.1.1)), (kb, .inl (D.1 100, 7, .inl xb)), (kg, .inl (D.1 100, 7, .inl xg)), (kn, .inl (D.1 100, 7, .inl x9.1.2.1)), (kt, .inl (D.1 100, 11, .inl (upd (upd x9.1.2.2.1 5 ((x9.1.2.2.1 5) + 1)) 6 (((upd x9.1.2.2.1 5 ((x9.1.2.2.1 5) + 1)) 6) + 0)))), (ka, .inl (D.1 100, 27, .inl x9.1.2.2.2)), (kw, .inl (D.1 100, 64, .inl x9.2.2.1)), (kq, .inl (D.1 100, 14, .inl x9.2.1))]] : List va_W).flatten) → lv_has ls 14 [(0, .ref o), (1, .ref kv), (2, .ref kb), (3, .ref kg), (4, .ref kn), (5, .ref kt), (6, .ref ka), (7, .ref kw), (8, .ref kq), (9, .int (nI md)), (10, .int T), (11, .int (nI M)), (12, .int 1), (13, .int (nI r))] → W p l e (rmOf 8 0 0 192) st m args below meth c H locs 0 0 (QIU below args st D A 1 (postL (K + 1)) (fun (u : US) => ([OB D o u.1 u.2.1, [(kv, .inl (D.1 100, 7, .inl u.2.2.2.2.1.1)), (kb, .inl (D.1 100, 7, .inl u.2.2.1)), (kg, .inl (D.1 100, 7, .inl u.2.2.2.1)), (kn, .inl (D.1 100, 7, .inl u.2.2.2.2.1.2.1)), (kt, .inl (D.1 100, 11, .inl u.2.2.2.2.1.2.2.1)), (ka, .inl (D.1 100, 27, .inl u.2.2.2.2.1.2.2.2)), (kw, .inl (D.1 100, 64, .inl u.2.2.2.2.2.1)), (kq, .inl (D.1 100, 14, .inl u.2.2.2.2.2.2))]] : List va_W).flatten)) (F0 m 341 ls []) := by
        intro n341
        induction n341 with
        | zero => intro r hr hm2; omega
        | succ n341 ih341 =>
          intro r hr hm2 H locs ls hw hl
          refine lv_iload hx hb dL_isBurst_341 (lv_at hl 13 rfl) ?_
          refine lv_bipush (v := 7) hx hb dL_isBurst_343 (by decide) ?_
          refine r_geN (tgt := 381) hx hb r 7 rfl rfl (by omega) (by omega) dL_isBurst_345 (by decide) (fun c2 => ?_) (fun c2 => ?_)
          · skip
            refine lv_iload hx hb dL_isBurst_381 (lv_at hl 12 rfl) ?_
            exact r_retU X hw hk (z1, s1, xb, xg, (x9.1.1, x9.1.2.1, upd (upd x9.1.2.2.1 5 ((x9.1.2.2.1 5) + 1)) 6 (((upd x9.1.2.2.1 5 ((x9.1.2.2.1 5) + 1)) 6) + 0), x9.1.2.2.2), x9.2.2.1, x9.2.1) hret rfl rfl (by rw [← hT, c1] at hL1; exact ⟨hz1, hL1⟩) rfl dL_isBurst_383
          · skip
            refine lv_iload hx hb dL_isBurst_348 (lv_at hl 12 rfl) ?_
            refine lv_if_eq (tgt := 372) hx hb dL_isBurst_350 (by decide) (fun h => absurd h (by decide)) (fun _ => ?_)
            refine lv_aload_n hx hb dL_isBurst_353 rfl (lv_at hl 0 rfl) ?_
            refine lv_iconst (v := 0) hx hb dL_isBurst_354 (by decide) ?_
            refine lv_iload hx hb dL_isBurst_355 (lv_at hl 13 rfl) ?_
            refine r_callV X hw (ws' := ([OB D o z1 s1, [(kv, .inl (D.1 100, 7, .inl x9.1.1)), (kb, .inl (D.1 100, 7, .inl xb)), (kg, .inl (D.1 100, 7, .inl xg)), (kn, .inl (D.1 100, 7, .inl x9.1.2.1)), (kt, .inl (D.1 100, 11, .inl (upd (upd x9.1.2.2.1 5 ((x9.1.2.2.1 5) + 1)) 6 (((upd x9.1.2.2.1 5 ((x9.1.2.2.1 5) + 1)) 6) + 0)))), (ka, .inl (D.1 100, 27, .inl x9.1.2.2.2)), (kw, .inl (D.1 100, 64, .inl x9.2.2.1)), (kq, .inl (D.1 100, 14, .inl x9.2.1))]] : List va_W).flatten) (As := [.int 0, .int (nI r)]) (rest := []) lk_L_58 (k_log l D _ o z1 s1 hz1 a1 ha1 ha6 0 r (by decide) (by omega) (isW9 (by omega)) hzs1) (Foc.at1 0 rfl rfl (ce rfl rfl)) (m_fl 0 rfl (OB_mem D o z1 s1)) rfl hl.1 (Nat.le_of_ble_eq_true rfl) ⟨Nat.le_of_ble_eq_true rfl, Nat.le_of_ble_eq_true rfl⟩ rfl dL_isBurst_357 ⟨Nat.le_refl _, Nat.le_refl _⟩ (fun H locs hw => ?_)
            refine lv_aload hx hb dL_isBurst_360 (lv_at hl 8 rfl) ?_
            refine lv_iload hx hb dL_isBurst_362 (lv_at hl 13 rfl) ?_
            refine r_iald X hw (f := x9.2.1) r (m_fl 1 rfl (m_at 7 rfl)) rfl (by omega) (by decide) dL_isBurst_364 ?_
            refine lv_icmp_ne (tgt := 372) hx hb dL_isBurst_365 (by decide) (fun h => absurd (hen r (by omega)) h) (fun _ => ?_)
            refine lv_iconst (v := 1) hx hb dL_isBurst_368 (by decide) ?_
            refine lv_goto (tgt := 373) hx hb dL_isBurst_369 (by decide) ?_
            refine lv_istore (lv' := [(12, .int 1), (0, .ref o), (1, .ref kv), (2, .ref kb), (3, .ref kg), (4, .ref kn), (5, .ref kt), (6, .ref ka), (7, .ref kw), (8, .ref kq), (9, .int (nI md)), (10, .int T), (11, .int (nI M)), (13, .int (nI r))]) hx hb dL_isBurst_373 hl (by decide) rfl (fun ls hl => ?_)
            refine r_iincN (lv' := [(13, .int (nI (r + 1))), (12, .int 1), (0, .ref o), (1, .ref kv), (2, .ref kb), (3, .ref kg), (4, .ref kn), (5, .ref kt), (6, .ref ka), (7, .ref kw), (8, .ref kq), (9, .int (nI md)), (10, .int T), (11, .int (nI M))]) hx hb r 1 rfl dL_isBurst_375 hl (k := 13) rfl rfl (by decide) rfl (fun ls hl => ?_)
            refine lv_goto (tgt := 341) hx hb dL_isBurst_378 (by decide) ?_
            exact ih341 (r + 1) (by omega) (by omega) _ _ _ hw (lv_sub hl [2, 3, 4, 5, 6, 7, 8, 9, 10, 11, 12, 13, 1, 0] rfl)
      exact key341 8 0 (by omega) (by omega) _ _ _ hw (lv_sub hl [2, 3, 4, 5, 6, 7, 8, 9, 10, 11, 12, 13, 1, 0] rfl)
    · skip
      refine lv_iconst (v := 1) hx hb dL_isBurst_249 (by decide) ?_
      refine lv_goto (tgt := 254) hx hb dL_isBurst_250 (by decide) ?_
      refine lv_iadd hx hb dL_isBurst_254 ?_
      refine r_iast X hw (ws' := ([OB D o z s, [(kv, .inl (D.1 100, 7, .inl x9.1.1)), (kb, .inl (D.1 100, 7, .inl xb)), (kg, .inl (D.1 100, 7, .inl xg)), (kn, .inl (D.1 100, 7, .inl x9.1.2.1)), (kt, .inl (D.1 100, 11, .inl (upd (upd x9.1.2.2.1 5 ((x9.1.2.2.1 5) + 1)) 6 (((upd x9.1.2.2.1 5 ((x9.1.2.2.1 5) + 1)) 6) + 1)))), (ka, .inl (D.1 100, 27, .inl x9.1.2.2.2)), (kw, .inl (D.1 100, 64, .inl x9.2.2.1)), (kq, .inl (D.1 100, 14, .inl x9.2.1))]] : List va_W).flatten) 6 rfl (by decide) (by decide) (Foc.trans (Foc.at1 1 rfl rfl (ce rfl rfl)) (Foc.cell 4 rfl rfl (ce rfl (ce rfl (ce rfl (ce rfl (ce rfl (ce rfl (ce rfl rfl))))))))) dL_isBurst_255 (fun H locs hw => ?_)
      refine lv_aload_n hx hb dL_isBurst_256 rfl (lv_at hl 0 rfl) ?_
      refine lv_iload hx hb dL_isBurst_257 (lv_at hl 9 rfl) ?_
      obtain ⟨z1, s1, hz1, hL1, ⟨a1, ha1, ha6, hzs1, hen, he7, he8, he9⟩, hM⟩ := k_burstL o hL hz hok hq hmd hK hX
      refine r_callV X hw (ws' := ([OB D o z1 s1, [(kv, .inl (D.1 100, 7, .inl x9.1.1)), (kb, .inl (D.1 100, 7, .inl xb)), (kg, .inl (D.1 100, 7, .inl xg)), (kn, .inl (D.1 100, 7, .inl x9.1.2.1)), (kt, .inl (D.1 100, 11, .inl (upd (upd x9.1.2.2.1 5 ((x9.1.2.2.1 5) + 1)) 6 (((upd x9.1.2.2.1 5 ((x9.1.2.2.1 5) + 1)) 6) + 1)))), (ka, .inl (D.1 100, 27, .inl x9.1.2.2.2)), (kw, .inl (D.1 100, 64, .inl x9.2.2.1)), (kq, .inl (D.1 100, 14, .inl x9.2.1))]] : List va_W).flatten) (As := [.int (nI md)]) (rest := []) lk_L_53 (hM l D _) (Foc.at1 0 rfl rfl (ce rfl rfl)) (m_fl 0 rfl (OB_mem D o z s)) rfl hl.1 (Nat.le_of_ble_eq_true rfl) ⟨Nat.le_of_ble_eq_true rfl, Nat.le_of_ble_eq_true rfl⟩ rfl dL_isBurst_259 ⟨Nat.le_refl _, Nat.le_refl _⟩ (fun H locs hw => ?_)
      refine lv_iload hx hb dL_isBurst_262 (lv_at hl 10 rfl) ?_
      refine lv_if_eq (tgt := 271) hx hb dL_isBurst_264 (by decide) (fun h => absurd h c1) (fun _ => ?_)
      refine lv_iconst (v := 1) hx hb dL_isBurst_267 (by decide) ?_
      refine lv_goto (tgt := 272) hx hb dL_isBurst_268 (by decide) ?_
      refine lv_icmp_ne (tgt := 335) hx hb dL_isBurst_272 (by decide) (fun h => absurd (by rw [← hT]; exact T01.resolve_left c1) h) (fun _ => ?_)
      refine lv_aload_n hx hb dL_isBurst_275 rfl (lv_at hl 0 rfl) ?_
      refine lv_iconst (v := 0) hx hb dL_isBurst_276 (by decide) ?_
      refine lv_bipush (v := 7) hx hb dL_isBurst_277 (by decide) ?_
      refine r_callV X hw (ws' := ([OB D o z1 s1, [(kv, .inl (D.1 100, 7, .inl x9.1.1)), (kb, .inl (D.1 100, 7, .inl xb)), (kg, .inl (D.1 100, 7, .inl xg)), (kn, .inl (D.1 100, 7, .inl x9.1.2.1)), (kt, .inl (D.1 100, 11, .inl (upd (upd x9.1.2.2.1 5 ((x9.1.2.2.1 5) + 1)) 6 (((upd x9.1.2.2.1 5 ((x9.1.2.2.1 5) + 1)) 6) + 1)))), (ka, .inl (D.1 100, 27, .inl x9.1.2.2.2)), (kw, .inl (D.1 100, 64, .inl x9.2.2.1)), (kq, .inl (D.1 100, 14, .inl x9.2.1))]] : List va_W).flatten) (As := [.int 0, .int 7]) (rest := []) lk_L_58 (k_log l D _ o z1 s1 hz1 a1 ha1 ha6 0 7 (by decide) (by decide) (isW9 (by decide)) hzs1) (Foc.at1 0 rfl rfl (ce rfl rfl)) (m_fl 0 rfl (OB_mem D o z1 s1)) rfl hl.1 (Nat.le_of_ble_eq_true rfl) ⟨Nat.le_of_ble_eq_true rfl, Nat.le_of_ble_eq_true rfl⟩ rfl dL_isBurst_279 ⟨Nat.le_refl _, Nat.le_refl _⟩ (fun H locs hw => ?_)
      refine lv_iload hx hb dL_isBurst_282 (lv_at hl 9 rfl) ?_
      refine lv_icmp_ne (tgt := 335) hx hb dL_isBurst_284 (by decide) (fun h => absurd he7 h) (fun _ => ?_)
      refine lv_aload_n hx hb dL_isBurst_287 rfl (lv_at hl 0 rfl) ?_
      refine lv_iconst (v := 0) hx hb dL_isBurst_288 (by decide) ?_
      refine lv_bipush (v := 8) hx hb dL_isBurst_289 (by decide) ?_
      refine r_callV X hw (ws' := ([OB D o z1 s1, [(kv, .inl (D.1 100, 7, .inl x9.1.1)), (kb, .inl (D.1 100, 7, .inl xb)), (kg, .inl (D.1 100, 7, .inl xg)), (kn, .inl (D.1 100, 7, .inl x9.1.2.1)), (kt, .inl (D.1 100, 11, .inl (upd (upd x9.1.2.2.1 5 ((x9.1.2.2.1 5) + 1)) 6 (((upd x9.1.2.2.1 5 ((x9.1.2.2.1 5) + 1)) 6) + 1)))), (ka, .inl (D.1 100, 27, .inl x9.1.2.2.2)), (kw, .inl (D.1 100, 64, .inl x9.2.2.1)), (kq, .inl (D.1 100, 14, .inl x9.2.1))]] : List va_W).flatten) (As := [.int 0, .int 8]) (rest := []) lk_L_58 (k_log l D _ o z1 s1 hz1 a1 ha1 ha6 0 8 (by decide) (by decide) (isW9 (by decide)) hzs1) (Foc.at1 0 rfl rfl (ce rfl rfl)) (m_fl 0 rfl (OB_mem D o z1 s1)) rfl hl.1 (Nat.le_of_ble_eq_true rfl) ⟨Nat.le_of_ble_eq_true rfl, Nat.le_of_ble_eq_true rfl⟩ rfl dL_isBurst_291 ⟨Nat.le_refl _, Nat.le_refl _⟩ (fun H locs hw => ?_)
      refine lv_iload hx hb dL_isBurst_294 (lv_at hl 10 rfl) ?_
      refine lv_if_eq (tgt := 303) hx hb dL_isBurst_296 (by decide) (fun h => absurd h c1) (fun _ => ?_)
      refine lv_iconst (v := 1) hx hb dL_isBurst_299 (by decide) ?_
      refine lv_goto (tgt := 304) hx hb dL_isBurst_300 (by decide) ?_
      refine lv_icmp_ne (tgt := 335) hx hb dL_isBurst_304 (by decide) (fun h => absurd (he8.trans (by rw [← hT]; exact T01.resolve_left c1)) h) (fun _ => ?_)
      refine lv_aload_n hx hb dL_isBurst_307 rfl (lv_at hl 0 rfl) ?_
      refine lv_iconst (v := 0) hx hb dL_isBurst_308 (by decide) ?_
      refine lv_bipush (v := 9) hx hb dL_isBurst_309 (by decide) ?_
      refine r_callV X hw (ws' := ([OB D o z1 s1, [(kv, .inl (D.1 100, 7, .inl x9.1.1)), (kb, .inl (D.1 100, 7, .inl xb)), (kg, .inl (D.1 100, 7, .inl xg)), (kn, .inl (D.1 100, 7, .inl x9.1.2.1)), (kt, .inl (D.1 100, 11, .inl (upd (upd x9.1.2.2.1 5 ((x9.1.2.2.1 5) + 1)) 6 (((upd x9.1.2.2.1 5 ((x9.1.2.2.1 5) + 1)) 6) + 1)))), (ka, .inl (D.1 100, 27, .inl x9.1.2.2.2)), (kw, .inl (D.1 100, 64, .inl x9.2.2.1)), (kq, .inl (D.1 100, 14, .inl x9.2.1))]] : List va_W).flatten) (As := [.int 0, .int 9]) (rest := []) lk_L_58 (k_log l D _ o z1 s1 hz1 a1 ha1 ha6 0 9 (by decide) (by decide) (isW9 (by decide)) hzs1) (Foc.at1 0 rfl rfl (ce rfl rfl)) (m_fl 0 rfl (OB_mem D o z1 s1)) rfl hl.1 (Nat.le_of_ble_eq_true rfl) ⟨Nat.le_of_ble_eq_true rfl, Nat.le_of_ble_eq_true rfl⟩ rfl dL_isBurst_311 ⟨Nat.le_refl _, Nat.le_refl _⟩ (fun H locs hw => ?_)
      refine lv_iload hx hb dL_isBurst_314 (lv_at hl 11 rfl) ?_
      refine lv_icmp_ne (tgt := 335) hx hb dL_isBurst_316 (by decide) (fun h => absurd he9 h) (fun _ => ?_)
      refine lv_aload_n hx hb dL_isBurst_319 rfl (lv_at hl 0 rfl) ?_
      refine lv_iconst (v := 0) hx hb dL_isBurst_320 (by decide) ?_
      refine lv_bipush (v := 10) hx hb dL_isBurst_321 (by decide) ?_
      refine r_callV X hw (ws' := ([OB D o z1 s1, [(kv, .inl (D.1 100, 7, .inl x9.1.1)), (kb, .inl (D.1 100, 7, .inl xb)), (kg, .inl (D.1 100, 7, .inl xg)), (kn, .inl (D.1 100, 7, .inl x9.1.2.1)), (kt, .inl (D.1 100, 11, .inl (upd (upd x9.1.2.2.1 5 ((x9.1.2.2.1 5) + 1)) 6 (((upd x9.1.2.2.1 5 ((x9.1.2.2.1 5) + 1)) 6) + 1)))), (ka, .inl (D.1 100, 27, .inl x9.1.2.2.2)), (kw, .inl (D.1 100, 64, .inl x9.2.2.1)), (kq, .inl (D.1 100, 14, .inl x9.2.1))]] : List va_W).flatten) (As := [.int 0, .int 10]) (rest := []) lk_L_58 (k_logC l D _ o z1 s1 hz1 0 10 (by decide) (by decide +kernel)) (Foc.at1 0 rfl rfl (ce rfl rfl)) (m_fl 0 rfl (OB_mem D o z1 s1)) rfl hl.1 (Nat.le_of_ble_eq_true rfl) ⟨Nat.le_of_ble_eq_true rfl, Nat.le_of_ble_eq_true rfl⟩ rfl dL_isBurst_323 ⟨Nat.le_refl _, Nat.le_refl _⟩ (fun H locs hw => ?_)
      refine lv_ldc (v := (-1000001)) hx hb hown (hts _ kc_L_62) dL_isBurst_326 ?_
      refine lv_icmp_ne (tgt := 335) hx hb dL_isBurst_328 (by decide) (fun h => absurd (by decide) h) (fun _ => ?_)
      refine lv_iconst (v := 1) hx hb dL_isBurst_331 (by decide) ?_
      refine lv_goto (tgt := 336) hx hb dL_isBurst_332 (by decide) ?_
      refine lv_istore (lv' := [(12, .int 1), (0, .ref o), (1, .ref kv), (2, .ref kb), (3, .ref kg), (4, .ref kn), (5, .ref kt), (6, .ref ka), (7, .ref kw), (8, .ref kq), (9, .int (nI md)), (10, .int T), (11, .int (nI M))]) hx hb dL_isBurst_336 hl (by decide) rfl (fun ls hl => ?_)
      refine lv_iconst (v := 0) hx hb dL_isBurst_338 (by decide) ?_
      refine lv_istore (lv' := [(13, .int 0), (12, .int 1), (0, .ref o), (1, .ref kv), (2, .ref kb), (3, .ref kg), (4, .ref kn), (5, .ref kt), (6, .ref ka), (7, .ref kw), (8, .ref kq), (9, .int (nI md)), (10, .int T), (11, .int (nI M))]) hx hb dL_isBurst_339 hl (by decide) rfl (fun ls hl => ?_)
      have key341 : ∀ (n341 : Nat) (r : Nat), (r ≤ 7) → (7 - r < n341) → ∀ (H : Heap) (locs : List Loc) (ls : Array Slot), Wd D A st.heap H locs (([OB D o z1 s1, [(kv, .inl (D.1 100, 7, .inl x9.1.1)), (kb, .inl (D.1 100, 7, .inl xb)), (kg, .inl (D.1 100, 7, .inl xg)), (kn, .inl (D.1 100, 7, .inl x9.1.2.1)), (kt, .inl (D.1 100, 11, .inl (upd (upd x9.1.2.2.1 5 ((x9.1.2.2.1 5) + 1)) 6 (((upd x9.1.2.2.1 5 ((x9.1.2.2.1 5) + 1)) 6) + 1)))), (ka, .inl (D.1 100, 27, .inl x9.1.2.2.2)), (kw, .inl (D.1 100, 64, .inl x9.2.2.1)), (kq, .inl (D.1 100, 14, .inl x9.2.1))]] : List va_W).flatten) → lv_has ls 14 [(0, .ref o), (1, .ref kv), (2, .ref kb), (3, .ref kg), (4, .ref kn), (5, .ref kt), (6, .ref ka), (7, .ref kw), (8, .ref kq), (9, .int (nI md)), (10, .int T), (11, .int (nI M)), (12, .int 1), (13, .int (nI r))] → W p l e (rmOf 8 0 0 192) st m args below meth c H locs 0 0 (QIU below args st D A 1 (postL (K + 1)) (fun (u : US) => ([OB D o u.1 u.2.1, [(kv, .inl (D.1 100, 7, .inl u.2.2.2.2.1.1)), (kb, .inl (D.1 100, 7, .inl u.2.2.1)), (kg, .inl (D.1 100, 7, .inl u.2.2.2.1)), (kn, .inl (D.1 100, 7, .inl u.2.2.2.2.1.2.1)), (kt, .inl (D.1 100, 11, .inl u.2.2.2.2.1.2.2.1)), (ka, .inl (D.1 100, 27, .inl u.2.2.2.2.1.2.2.2)), (kw, .inl (D.1 100, 64, .inl u.2.2.2.2.2.1)), (kq, .inl (D.1 100, 14, .inl u.2.2.2.2.2.2))]] : List va_W).flatten)) (F0 m 341 ls []) := by
        intro n341
        induction n341 with
        | zero => intro r hr hm2; omega
        | succ n341 ih341 =>
          intro r hr hm2 H locs ls hw hl
          refine lv_iload hx hb dL_isBurst_341 (lv_at hl 13 rfl) ?_
          refine lv_bipush (v := 7) hx hb dL_isBurst_343 (by decide) ?_
          refine r_geN (tgt := 381) hx hb r 7 rfl rfl (by omega) (by omega) dL_isBurst_345 (by decide) (fun c3 => ?_) (fun c3 => ?_)
          · skip
            refine lv_iload hx hb dL_isBurst_381 (lv_at hl 12 rfl) ?_
            exact r_retU X hw hk (z1, s1, xb, xg, (x9.1.1, x9.1.2.1, upd (upd x9.1.2.2.1 5 ((x9.1.2.2.1 5) + 1)) 6 (((upd x9.1.2.2.1 5 ((x9.1.2.2.1 5) + 1)) 6) + 1), x9.1.2.2.2), x9.2.2.1, x9.2.1) hret rfl rfl (by rw [← hT, (T01.resolve_left c1)] at hL1; exact ⟨hz1, hL1⟩) rfl dL_isBurst_383
          · skip
            refine lv_iload hx hb dL_isBurst_348 (lv_at hl 12 rfl) ?_
            refine lv_if_eq (tgt := 372) hx hb dL_isBurst_350 (by decide) (fun h => absurd h (by decide)) (fun _ => ?_)
            refine lv_aload_n hx hb dL_isBurst_353 rfl (lv_at hl 0 rfl) ?_
            refine lv_iconst (v := 0) hx hb dL_isBurst_354 (by decide) ?_
            refine lv_iload hx hb dL_isBurst_355 (lv_at hl 13 rfl) ?_
            refine r_callV X hw (ws' := ([OB D o z1 s1, [(kv, .inl (D.1 100, 7, .inl x9.1.1)), (kb, .inl (D.1 100, 7, .inl xb)), (kg, .inl (D.1 100, 7, .inl xg)), (kn, .inl (D.1 100, 7, .inl x9.1.2.1)), (kt, .inl (D.1 100, 11, .inl (upd (upd x9.1.2.2.1 5 ((x9.1.2.2.1 5) + 1)) 6 (((upd x9.1.2.2.1 5 ((x9.1.2.2.1 5) + 1)) 6) + 1)))), (ka, .inl (D.1 100, 27, .inl x9.1.2.2.2)), (kw, .inl (D.1 100, 64, .inl x9.2.2.1)), (kq, .inl (D.1 100, 14, .inl x9.2.1))]] : List va_W).flatten) (As := [.int 0, .int (nI r)]) (rest := []) lk_L_58 (k_log l D _ o z1 s1 hz1 a1 ha1 ha6 0 r (by decide) (by omega) (isW9 (by omega)) hzs1) (Foc.at1 0 rfl rfl (ce rfl rfl)) (m_fl 0 rfl (OB_mem D o z1 s1)) rfl hl.1 (Nat.le_of_ble_eq_true rfl) ⟨Nat.le_of_ble_eq_true rfl, Nat.le_of_ble_eq_true rfl⟩ rfl dL_isBurst_357 ⟨Nat.le_refl _, Nat.le_refl _⟩ (fun H locs hw => ?_)
            refine lv_aload hx hb dL_isBurst_360 (lv_at hl 8 rfl) ?_
            refine lv_iload hx hb dL_isBurst_362 (lv_at hl 13 rfl) ?_
            refine r_iald X hw (f := x9.2.1) r (m_fl 1 rfl (m_at 7 rfl)) rfl (by omega) (by decide) dL_isBurst_364 ?_
            refine lv_icmp_ne (tgt := 372) hx hb dL_isBurst_365 (by decide) (fun h => absurd (hen r (by omega)) h) (fun _ => ?_)
            refine lv_iconst (v := 1) hx hb dL_isBurst_368 (by decide) ?_
            refine lv_goto (tgt := 373) hx hb dL_isBurst_369 (by decide) ?_
            refine lv_istore (lv' := [(12, .int 1), (0, .ref o), (1, .ref kv), (2, .ref kb), (3, .ref kg), (4, .ref kn), (5, .ref kt), (6, .ref ka), (7, .ref kw), (8, .ref kq), (9, .int (nI md)), (10, .int T), (11, .int (nI M)), (13, .int (nI r))]) hx hb dL_isBurst_373 hl (by decide) rfl (fun ls hl => ?_)
            refine r_iincN (lv' := [(13, .int (nI (r + 1))), (12, .int 1), (0, .ref o), (1, .ref kv), (2, .ref kb), (3, .ref kg), (4, .ref kn), (5, .ref kt), (6, .ref ka), (7, .ref kw), (8, .ref kq), (9, .int (nI md)), (10, .int T), (11, .int (nI M))]) hx hb r 1 rfl dL_isBurst_375 hl (k := 13) rfl rfl (by decide) rfl (fun ls hl => ?_)
            refine lv_goto (tgt := 341) hx hb dL_isBurst_378 (by decide) ?_
            exact ih341 (r + 1) (by omega) (by omega) _ _ _ hw (lv_sub hl [2, 3, 4, 5, 6, 7, 8, 9, 10, 11, 12, 13, 1, 0] rfl)
      exact key341 8 0 (by omega) (by omega) _ _ _ hw (lv_sub hl [2, 3, 4, 5, 6, 7, 8, 9, 10, 11, 12, 13, 1, 0] rfl)
  have key119 : ∀ (n119 : Nat) (f j : Nat) (b : Int32) (x9 : LX) (p9 : Nat), (j + f = 5) → (f < n119) → (¬ md = 1) → (agL xb xg q f j b x9 = buL xb xg (xv, xn, xt, xa) xw xq q md) → (lOK x9.1.2.2.1 p9 zz q) → ∀ (H : Heap) (locs : List Loc) (ls : Array Slot), Wd D A st.heap H locs (([OB D o z s, [(kv, .inl (D.1 100, 7, .inl x9.1.1)), (kb, .inl (D.1 100, 7, .inl xb)), (kg, .inl (D.1 100, 7, .inl xg)), (kn, .inl (D.1 100, 7, .inl x9.1.2.1)), (kt, .inl (D.1 100, 11, .inl x9.1.2.2.1)), (ka, .inl (D.1 100, 27, .inl x9.1.2.2.2)), (kw, .inl (D.1 100, 64, .inl x9.2.2.1)), (kq, .inl (D.1 100, 14, .inl x9.2.1))]] : List va_W).flatten) → lv_has ls 14 [(0, .ref o), (1, .ref kv), (2, .ref kb), (3, .ref kg), (4, .ref kn), (5, .ref kt), (6, .ref ka), (7, .ref kw), (8, .ref kq), (9, .int (nI md)), (10, .int (tnL x9.2.1 x9.2.2.1 x9.2.2.2)), (11, .int (nI j)), (12, .int b)] → W p l e (rmOf 8 0 0 192) st m args below meth c H locs 0 0 (QIU below args st D A 1 (postL (K + 1)) (fun (u : US) => ([OB D o u.1 u.2.1, [(kv, .inl (D.1 100, 7, .inl u.2.2.2.2.1.1)), (kb, .inl (D.1 100, 7, .inl u.2.2.1)), (kg, .inl (D.1 100, 7, .inl u.2.2.2.1)), (kn, .inl (D.1 100, 7, .inl u.2.2.2.2.1.2.1)), (kt, .inl (D.1 100, 11, .inl u.2.2.2.2.1.2.2.1)), (ka, .inl (D.1 100, 27, .inl u.2.2.2.2.1.2.2.2)), (kw, .inl (D.1 100, 64, .inl u.2.2.2.2.2.1)), (kq, .inl (D.1 100, 14, .inl u.2.2.2.2.2.2))]] : List va_W).flatten)) (F0 m 119 ls []) := by
    intro n119
    induction n119 with
    | zero => intro f j b x9 p9 hjf hm hm1 hag hok9; omega
    | succ n119 ih119 =>
      intro f j b x9 p9 hjf hm hm1 hag hok9 H locs ls hw hl
      refine lv_iload hx hb dL_isBurst_119 (lv_at hl 12 rfl) ?_
      refine lv_if_ne (tgt := 230) hx hb dL_isBurst_121 (by decide) (fun c4 => ?_) (fun c4 => ?_)
      · skip
        exact cut230 x9 j (tnL x9.2.1 x9.2.2.1 x9.2.2.2) (by rw [← hag, agL_ne f j b x9 c4]) (by unfold toL; rw [if_neg hm1]) _ _ _ hw (lv_sub hl [0, 1, 2, 3, 4, 5, 6, 7, 8, 9, 10, 11] rfl)
      · skip
        refine lv_iload hx hb dL_isBurst_124 (lv_at hl 11 rfl) ?_
        refine lv_iconst (v := 5) hx hb dL_isBurst_126 (by decide) ?_
        refine r_geN (tgt := 230) hx hb j 5 rfl rfl (by omega) (by omega) dL_isBurst_127 (by decide) (fun c5 => ?_) (fun c5 => ?_)
        · skip
          exact cut230 x9 j (tnL x9.2.1 x9.2.2.1 x9.2.2.2) (by rw [← hag, show f = 0 from by omega]; rfl) (by unfold toL; rw [if_neg hm1]) _ _ _ hw (lv_sub hl [0, 1, 2, 3, 4, 5, 6, 7, 8, 9, 10, 11] rfl)
        · skip
          obtain ⟨f1, rfl⟩ : ∃ f1, f = f1 + 1 := ⟨f - 1, by omega⟩
          rw [agL_s c4] at hag
          obtain ⟨p5, hok5, -⟩ := rdO_ok (xb := xb) (xg := xg) (x := x9.1) (xw := x9.2.2.1) (xq := va_cpy x9.2.1 x9.2.1 0 7 7) hok9 hq 7 (Nat.le_refl 7)
          refine lv_iconst (v := 0) hx hb dL_isBurst_130 (by decide) ?_
          refine lv_istore (lv' := [(13, .int 0), (0, .ref o), (1, .ref kv), (2, .ref kb), (3, .ref kg), (4, .ref kn), (5, .ref kt), (6, .ref ka), (7, .ref kw), (8, .ref kq), (9, .int (nI md)), (10, .int (tnL x9.2.1 x9.2.2.1 x9.2.2.2)), (11, .int (nI j)), (12, .int b)]) hx hb dL_isBurst_131 hl (by decide) rfl (fun ls hl => ?_)
          have key133 : ∀ (n133 : Nat) (i : Nat), (i ≤ 7) → (7 - i < n133) → ∀ (H : Heap) (locs : List Loc) (ls : Array Slot), Wd D A st.heap H locs (([OB D o z s, [(kv, .inl (D.1 100, 7, .inl x9.1.1)), (kb, .inl (D.1 100, 7, .inl xb)), (kg, .inl (D.1 100, 7, .inl xg)), (kn, .inl (D.1 100, 7, .inl x9.1.2.1)), (kt, .inl (D.1 100, 11, .inl x9.1.2.2.1)), (ka, .inl (D.1 100, 27, .inl x9.1.2.2.2)), (kw, .inl (D.1 100, 64, .inl x9.2.2.1)), (kq, .inl (D.1 100, 14, .inl (va_cpy x9.2.1 x9.2.1 0 7 i)))]] : List va_W).flatten) → lv_has ls 14 [(0, .ref o), (1, .ref kv), (2, .ref kb), (3, .ref kg), (4, .ref kn), (5, .ref kt), (6, .ref ka), (7, .ref kw), (8, .ref kq), (9, .int (nI md)), (10, .int (tnL x9.2.1 x9.2.2.1 x9.2.2.2)), (11, .int (nI j)), (12, .int b), (13, .int (nI i))] → W p l e (rmOf 8 0 0 192) st m args below meth c H locs 0 0 (QIU below args st D A 1 (postL (K + 1)) (fun (u : US) => ([OB D o u.1 u.2.1, [(kv, .inl (D.1 100, 7, .inl u.2.2.2.2.1.1)), (kb, .inl (D.1 100, 7, .inl u.2.2.1)), (kg, .inl (D.1 100, 7, .inl u.2.2.2.1)), (kn, .inl (D.1 100, 7, .inl u.2.2.2.2.1.2.1)), (kt, .inl (D.1 100, 11, .inl u.2.2.2.2.1.2.2.1)), (ka, .inl (D.1 100, 27, .inl u.2.2.2.2.1.2.2.2)), (kw, .inl (D.1 100, 64, .inl u.2.2.2.2.2.1)), (kq, .inl (D.1 100, 14, .inl u.2.2.2.2.2.2))]] : List va_W).flatten)) (F0 m 133 ls []) := by
            intro n133
            induction n133 with
            | zero => intro i hi hm2; omega
            | succ n133 ih133 =>
              intro i hi hm2 H locs ls hw hl
              refine lv_iload hx hb dL_isBurst_133 (lv_at hl 13 rfl) ?_
              refine lv_bipush (v := 7) hx hb dL_isBurst_135 (by decide) ?_
              refine r_geN (tgt := 159) hx hb i 7 rfl rfl (by omega) (by omega) dL_isBurst_137 (by decide) (fun c6 => ?_) (fun c6 => ?_)
              · skip
                obtain rfl : i = 7 := by omega
                refine lv_aload_n hx hb dL_isBurst_159 rfl (lv_at hl 1 rfl) ?_
                refine lv_aload_n hx hb dL_isBurst_160 rfl (lv_at hl 2 rfl) ?_
                refine lv_aload_n hx hb dL_isBurst_161 rfl (lv_at hl 3 rfl) ?_
                refine lv_aload hx hb dL_isBurst_162 (lv_at hl 4 rfl) ?_
                refine lv_aload hx hb dL_isBurst_164 (lv_at hl 5 rfl) ?_
                refine lv_aload hx hb dL_isBurst_166 (lv_at hl 6 rfl) ?_
                refine lv_aload hx hb dL_isBurst_168 (lv_at hl 7 rfl) ?_
                refine lv_aload hx hb dL_isBurst_170 (lv_at hl 8 rfl) ?_
                refine r_callS X hw (ws' := ([OB D o z s, [(kv, .inl (D.1 100, 7, .inl ((agS xb xg q x9).1.1))), (kb, .inl (D.1 100, 7, .inl xb)), (kg, .inl (D.1 100, 7, .inl xg)), (kn, .inl (D.1 100, 7, .inl ((agS xb xg q x9).1.2.1))), (kt, .inl (D.1 100, 11, .inl ((agS xb xg q x9).1.2.2.1))), (ka, .inl (D.1 100, 27, .inl ((agS xb xg q x9).1.2.2.2))), (kw, .inl (D.1 100, 64, .inl ((agS xb xg q x9).2.2.1))), (kq, .inl (D.1 100, 14, .inl ((agS xb xg q x9).2.1)))]] : List va_W).flatten) (As := [.ref kv, .ref kb, .ref kg, .ref kn, .ref kt, .ref ka, .ref kw, .ref kq]) (rest := []) lk_L_49 (c_L_readsA l D _ kv kb kg kn kt ka kw kq x9 xb xg p9 zz q hok9 hq) (Foc.trans (Foc.at1 1 rfl rfl (ce rfl rfl)) (Foc.pick [0, 0, 0, 0, 0, 0, 0, 0] (r := []) rfl rfl)) rfl hl.1 (Nat.le_of_ble_eq_true rfl) ⟨Nat.le_of_ble_eq_true rfl, Nat.le_of_ble_eq_true rfl⟩ rfl dL_isBurst_172 ⟨Nat.le_refl _, Nat.le_refl _⟩ (fun H locs hw => ?_)
                refine lv_istore (lv' := [(10, .int (tnL (agS xb xg q x9).2.1 (agS xb xg q x9).2.2.1 (agS xb xg q x9).2.2.2)), (0, .ref o), (1, .ref kv), (2, .ref kb), (3, .ref kg), (4, .ref kn), (5, .ref kt), (6, .ref ka), (7, .ref kw), (8, .ref kq), (9, .int (nI md)), (11, .int (nI j)), (12, .int b), (13, .int 7)]) hx hb dL_isBurst_175 hl (by decide) rfl (fun ls hl => ?_)
                refine r_iincN (lv' := [(11, .int (nI (j + 1))), (10, .int (tnL (agS xb xg q x9).2.1 (agS xb xg q x9).2.2.1 (agS xb xg q x9).2.2.2)), (0, .ref o), (1, .ref kv), (2, .ref kb), (3, .ref kg), (4, .ref kn), (5, .ref kt), (6, .ref ka), (7, .ref kw), (8, .ref kq), (9, .int (nI md)), (12, .int b), (13, .int 7)]) hx hb j 1 rfl dL_isBurst_177 hl (k := 11) rfl rfl (by decide) rfl (fun ls hl => ?_)
                refine lv_iconst (v := 1) hx hb dL_isBurst_180 (by decide) ?_
                refine lv_istore (lv' := [(12, .int 1), (11, .int (nI (j + 1))), (10, .int (tnL (agS xb xg q x9).2.1 (agS xb xg q x9).2.2.1 (agS xb xg q x9).2.2.2)), (0, .ref o), (1, .ref kv), (2, .ref kb), (3, .ref kg), (4, .ref kn), (5, .ref kt), (6, .ref ka), (7, .ref kw), (8, .ref kq), (9, .int (nI md)), (13, .int 7)]) hx hb dL_isBurst_181 hl (by decide) rfl (fun ls hl => ?_)
                refine lv_iconst (v := 0) hx hb dL_isBurst_183 (by decide) ?_
                refine lv_istore (lv' := [(13, .int 0), (12, .int 1), (11, .int (nI (j + 1))), (10, .int (tnL (agS xb xg q x9).2.1 (agS xb xg q x9).2.2.1 (agS xb xg q x9).2.2.2)), (0, .ref o), (1, .ref kv), (2, .ref kb), (3, .ref kg), (4, .ref kn), (5, .ref kt), (6, .ref ka), (7, .ref kw), (8, .ref kq), (9, .int (nI md))]) hx hb dL_isBurst_184 hl (by decide) rfl (fun ls hl => ?_)
                have key186 : ∀ (n186 : Nat) (r : Nat) (b9 : Int32), (r ≤ 7) → (7 - r < n186) → (BI b9 (∀ k, k < r → (agS xb xg q x9).2.1 k = (agS xb xg q x9).2.1 (7 + k))) → ∀ (H : Heap) (locs : List Loc) (ls : Array Slot), Wd D A st.heap H locs (([OB D o z s, [(kv, .inl (D.1 100, 7, .inl ((agS xb xg q x9).1.1))), (kb, .inl (D.1 100, 7, .inl xb)), (kg, .inl (D.1 100, 7, .inl xg)), (kn, .inl (D.1 100, 7, .inl ((agS xb xg q x9).1.2.1))), (kt, .inl (D.1 100, 11, .inl ((agS xb xg q x9).1.2.2.1))), (ka, .inl (D.1 100, 27, .inl ((agS xb xg q x9).1.2.2.2))), (kw, .inl (D.1 100, 64, .inl ((agS xb xg q x9).2.2.1))), (kq, .inl (D.1 100, 14, .inl ((agS xb xg q x9).2.1)))]] : List va_W).flatten) → lv_has ls 14 [(0, .ref o), (1, .ref kv), (2, .ref kb), (3, .ref kg), (4, .ref kn), (5, .ref kt), (6, .ref ka), (7, .ref kw), (8, .ref kq), (9, .int (nI md)), (10, .int (tnL (agS xb xg q x9).2.1 (agS xb xg q x9).2.2.1 (agS xb xg q x9).2.2.2)), (11, .int (nI (j + 1))), (12, .int b9), (13, .int (nI r))] → W p l e (rmOf 8 0 0 192) st m args below meth c H locs 0 0 (QIU below args st D A 1 (postL (K + 1)) (fun (u : US) => ([OB D o u.1 u.2.1, [(kv, .inl (D.1 100, 7, .inl u.2.2.2.2.1.1)), (kb, .inl (D.1 100, 7, .inl u.2.2.1)), (kg, .inl (D.1 100, 7, .inl u.2.2.2.1)), (kn, .inl (D.1 100, 7, .inl u.2.2.2.2.1.2.1)), (kt, .inl (D.1 100, 11, .inl u.2.2.2.2.1.2.2.1)), (ka, .inl (D.1 100, 27, .inl u.2.2.2.2.1.2.2.2)), (kw, .inl (D.1 100, 64, .inl u.2.2.2.2.2.1)), (kq, .inl (D.1 100, 14, .inl u.2.2.2.2.2.2))]] : List va_W).flatten)) (F0 m 186 ls []) := by
                  intro n186
                  induction n186 with
                  | zero => intro r b9 hr hm2 hB; omega
                  | succ n186 ih186 =>
                    intro r b9 hr hm2 hB H locs ls hw hl
                    refine lv_iload hx hb dL_isBurst_186 (lv_at hl 13 rfl) ?_
                    refine lv_bipush (v := 7) hx hb dL_isBurst_188 (by decide) ?_
                    refine r_geN (tgt := 227) hx hb r 7 rfl rfl (by omega) (by omega) dL_isBurst_190 (by decide) (fun c7 => ?_) (fun c7 => ?_)
                    · skip
                      refine lv_goto (tgt := 119) hx hb dL_isBurst_227 (by decide) ?_
                      exact ih119 f1 (j + 1) b9 (agS xb xg q x9) p5 (by omega) (by omega) hm1 (by rw [show b9 = alkL (agS xb xg q x9).2.1 from bi_end (by rw [show r = 7 from by omega] at hB; exact hB)]; exact hag) hok5 _ _ _ hw (lv_sub hl [0, 1, 2, 3, 4, 5, 6, 7, 8, 9, 10, 11, 12] rfl)
                    · skip
                      refine lv_iload hx hb dL_isBurst_193 (lv_at hl 12 rfl) ?_
                      refine lv_if_eq (tgt := 218) hx hb dL_isBurst_195 (by decide) (fun c8 => ?_) (fun c8 => ?_)
                      · skip
                        refine lv_iconst (v := 0) hx hb dL_isBurst_218 (by decide) ?_
                        refine lv_istore (lv' := [(12, .int 0), (0, .ref o), (1, .ref kv), (2, .ref kb), (3, .ref kg), (4, .ref kn), (5, .ref kt), (6, .ref ka), (7, .ref kw), (8, .ref kq), (9, .int (nI md)), (10, .int (tnL (agS xb xg q x9).2.1 (agS xb xg q x9).2.2.1 (agS xb xg q x9).2.2.2)), (11, .int (nI (j + 1))), (13, .int (nI r))]) hx hb dL_isBurst_219 hl (by decide) rfl (fun ls hl => ?_)
                        refine r_iincN (lv' := [(13, .int (nI (r + 1))), (12, .int 0), (0, .ref o), (1, .ref kv), (2, .ref kb), (3, .ref kg), (4, .ref kn), (5, .ref kt), (6, .ref ka), (7, .ref kw), (8, .ref kq), (9, .int (nI md)), (10, .int (tnL (agS xb xg q x9).2.1 (agS xb xg q x9).2.2.1 (agS xb xg q x9).2.2.2)), (11, .int (nI (j + 1)))]) hx hb r 1 rfl dL_isBurst_221 hl (k := 13) rfl rfl (by decide) rfl (fun ls hl => ?_)
                        refine lv_goto (tgt := 186) hx hb dL_isBurst_224 (by decide) ?_
                        exact ih186 (r + 1) 0 (by omega) (by omega) (bi_f0 hB c8) _ _ _ hw (lv_sub hl [2, 3, 4, 5, 6, 7, 8, 9, 10, 11, 12, 13, 1, 0] rfl)
                      · skip
                        refine lv_aload hx hb dL_isBurst_198 (lv_at hl 8 rfl) ?_
                        refine lv_iload hx hb dL_isBurst_200 (lv_at hl 13 rfl) ?_
                        refine r_iald X hw (f := (agS xb xg q x9).2.1) r (m_fl 1 rfl (m_at 7 rfl)) rfl (by omega) (by decide) dL_isBurst_202 ?_
                        refine lv_aload hx hb dL_isBurst_203 (lv_at hl 8 rfl) ?_
                        refine lv_bipush (v := 7) hx hb dL_isBurst_205 (by decide) ?_
                        refine lv_iload hx hb dL_isBurst_207 (lv_at hl 13 rfl) ?_
                        refine r_addN hx hb 7 r rfl rfl dL_isBurst_209 ?_
                        refine r_iald X hw (f := (agS xb xg q x9).2.1) (7 + r) (m_fl 1 rfl (m_at 7 rfl)) rfl (by omega) (by decide) dL_isBurst_210 ?_
                        refine lv_icmp_ne (tgt := 218) hx hb dL_isBurst_211 (by decide) (fun c9 => ?_) (fun c9 => ?_)
                        · skip
                          refine lv_iconst (v := 0) hx hb dL_isBurst_218 (by decide) ?_
                          refine lv_istore (lv' := [(12, .int 0), (0, .ref o), (1, .ref kv), (2, .ref kb), (3, .ref kg), (4, .ref kn), (5, .ref kt), (6, .ref ka), (7, .ref kw), (8, .ref kq), (9, .int (nI md)), (10, .int (tnL (agS xb xg q x9).2.1 (agS xb xg q x9).2.2.1 (agS xb xg q x9).2.2.2)), (11, .int (nI (j + 1))), (13, .int (nI r))]) hx hb dL_isBurst_219 hl (by decide) rfl (fun ls hl => ?_)
                          refine r_iincN (lv' := [(13, .int (nI (r + 1))), (12, .int 0), (0, .ref o), (1, .ref kv), (2, .ref kb), (3, .ref kg), (4, .ref kn), (5, .ref kt), (6, .ref ka), (7, .ref kw), (8, .ref kq), (9, .int (nI md)), (10, .int (tnL (agS xb xg q x9).2.1 (agS xb xg q x9).2.2.1 (agS xb xg q x9).2.2.2)), (11, .int (nI (j + 1)))]) hx hb r 1 rfl dL_isBurst_221 hl (k := 13) rfl rfl (by decide) rfl (fun ls hl => ?_)
                          refine lv_goto (tgt := 186) hx hb dL_isBurst_224 (by decide) ?_
                          exact ih186 (r + 1) 0 (by omega) (by omega) (bi_f (x := 0) c9) _ _ _ hw (lv_sub hl [2, 3, 4, 5, 6, 7, 8, 9, 10, 11, 12, 13, 1, 0] rfl)
                        · skip
                          refine lv_iconst (v := 1) hx hb dL_isBurst_214 (by decide) ?_
                          refine lv_goto (tgt := 219) hx hb dL_isBurst_215 (by decide) ?_
                          refine lv_istore (lv' := [(12, .int 1), (0, .ref o), (1, .ref kv), (2, .ref kb), (3, .ref kg), (4, .ref kn), (5, .ref kt), (6, .ref ka), (7, .ref kw), (8, .ref kq), (9, .int (nI md)), (10, .int (tnL (agS xb xg q x9).2.1 (agS xb xg q x9).2.2.1 (agS xb xg q x9).2.2.2)), (11, .int (nI (j + 1))), (13, .int (nI r))]) hx hb dL_isBurst_219 hl (by decide) rfl (fun ls hl => ?_)
                          refine r_iincN (lv' := [(13, .int (nI (r + 1))), (12, .int 1), (0, .ref o), (1, .ref kv), (2, .ref kb), (3, .ref kg), (4, .ref kn), (5, .ref kt), (6, .ref ka), (7, .ref kw), (8, .ref kq), (9, .int (nI md)), (10, .int (tnL (agS xb xg q x9).2.1 (agS xb xg q x9).2.2.1 (agS xb xg q x9).2.2.2)), (11, .int (nI (j + 1)))]) hx hb r 1 rfl dL_isBurst_221 hl (k := 13) rfl rfl (by decide) rfl (fun ls hl => ?_)
                          refine lv_goto (tgt := 186) hx hb dL_isBurst_224 (by decide) ?_
                          exact ih186 (r + 1) 1 (by omega) (by omega) (bi_t hB c8 c9) _ _ _ hw (lv_sub hl [2, 3, 4, 5, 6, 7, 8, 9, 10, 11, 12, 13, 1, 0] rfl)
                exact key186 8 0 1 (by omega) (by omega) bi_0 _ _ _ hw (lv_sub hl [4, 5, 6, 7, 8, 9, 10, 11, 12, 13, 3, 2, 1, 0] rfl)
              · skip
                refine lv_aload hx hb dL_isBurst_140 (lv_at hl 8 rfl) ?_
                refine lv_bipush (v := 7) hx hb dL_isBurst_142 (by decide) ?_
                refine lv_iload hx hb dL_isBurst_144 (lv_at hl 13 rfl) ?_
                refine r_addN hx hb 7 i rfl rfl dL_isBurst_146 ?_
                refine lv_aload hx hb dL_isBurst_147 (lv_at hl 8 rfl) ?_
                refine lv_iload hx hb dL_isBurst_149 (lv_at hl 13 rfl) ?_
                refine r_iald X hw (f := va_cpy x9.2.1 x9.2.1 0 7 i) i (m_fl 1 rfl (m_at 7 rfl)) rfl (by omega) (by decide) dL_isBurst_151 ?_
                refine r_iast X hw (ws' := ([OB D o z s, [(kv, .inl (D.1 100, 7, .inl x9.1.1)), (kb, .inl (D.1 100, 7, .inl xb)), (kg, .inl (D.1 100, 7, .inl xg)), (kn, .inl (D.1 100, 7, .inl x9.1.2.1)), (kt, .inl (D.1 100, 11, .inl x9.1.2.2.1)), (ka, .inl (D.1 100, 27, .inl x9.1.2.2.2)), (kw, .inl (D.1 100, 64, .inl x9.2.2.1)), (kq, .inl (D.1 100, 14, .inl (upd (va_cpy x9.2.1 x9.2.1 0 7 i) (7 + i) ((va_cpy x9.2.1 x9.2.1 0 7 i) i))))]] : List va_W).flatten) (7 + i) rfl (by omega) (by decide) (Foc.trans (Foc.at1 1 rfl rfl (ce rfl rfl)) (Foc.cell 7 rfl rfl (ce rfl (ce rfl (ce rfl (ce rfl (ce rfl (ce rfl (ce rfl rfl))))))))) dL_isBurst_152 (fun H locs hw => ?_)
                refine r_iincN (lv' := [(13, .int (nI (i + 1))), (0, .ref o), (1, .ref kv), (2, .ref kb), (3, .ref kg), (4, .ref kn), (5, .ref kt), (6, .ref ka), (7, .ref kw), (8, .ref kq), (9, .int (nI md)), (10, .int (tnL x9.2.1 x9.2.2.1 x9.2.2.2)), (11, .int (nI j)), (12, .int b)]) hx hb i 1 rfl dL_isBurst_153 hl (k := 13) rfl rfl (by decide) rfl (fun ls hl => ?_)
                refine lv_goto (tgt := 133) hx hb dL_isBurst_156 (by decide) ?_
                exact ih133 (i + 1) (by omega) (by omega) _ _ _ (by rw [show va_cpy x9.2.1 x9.2.1 0 7 i i = x9.2.1 i from (by rw [cpy_at, if_neg (by omega)]), cpy_step0] at hw; exact hw) (lv_sub hl [1, 2, 3, 4, 5, 6, 7, 8, 9, 10, 11, 12, 13, 0] rfl)
          exact key133 8 0 (by omega) (by omega) _ _ _ (by rw [cpy_0]; exact hw) (lv_sub hl [1, 2, 3, 4, 5, 6, 7, 8, 9, 10, 11, 12, 13, 0] rfl)
  refine lv_iconst (v := 0) hx hb dL_isBurst_0 (by decide) ?_
  refine lv_istore (lv' := [(10, .int 0), (0, .ref o), (1, .ref kv), (2, .ref kb), (3, .ref kg), (4, .ref kn), (5, .ref kt), (6, .ref ka), (7, .ref kw), (8, .ref kq), (9, .int (nI md))]) hx hb dL_isBurst_1 hl (by decide) rfl (fun ls hl => ?_)
  refine lv_iconst (v := 1) hx hb dL_isBurst_3 (by decide) ?_
  refine lv_istore (lv' := [(11, .int 1), (10, .int 0), (0, .ref o), (1, .ref kv), (2, .ref kb), (3, .ref kg), (4, .ref kn), (5, .ref kt), (6, .ref ka), (7, .ref kw), (8, .ref kq), (9, .int (nI md))]) hx hb dL_isBurst_4 hl (by decide) rfl (fun ls hl => ?_)
  refine lv_iload hx hb dL_isBurst_6 (lv_at hl 11 rfl) ?_
  refine lv_iconst (v := 1) hx hb dL_isBurst_8 (by decide) ?_
  refine r_neN (tgt := 89) hx hb md 1 rfl rfl (by omega) (by omega) dL_isBurst_9 (by decide) (fun c10 => ?_) (fun c10 => ?_)
  · skip
    refine lv_aload_n hx hb dL_isBurst_89 rfl (lv_at hl 3 rfl) ?_
    refine lv_aload_n hx hb dL_isBurst_90 rfl (lv_at hl 4 rfl) ?_
    refine lv_aload_n hx hb dL_isBurst_91 rfl (lv_at hl 5 rfl) ?_
    refine lv_aload hx hb dL_isBurst_92 (lv_at hl 6 rfl) ?_
    refine lv_aload hx hb dL_isBurst_94 (lv_at hl 7 rfl) ?_
    refine lv_aload hx hb dL_isBurst_96 (lv_at hl 8 rfl) ?_
    refine lv_aload hx hb dL_isBurst_98 (lv_at hl 9 rfl) ?_
    refine lv_aload hx hb dL_isBurst_100 (lv_at hl 10 rfl) ?_
    refine r_callS X hw (ws' := ([OB D o z s, [(kv, .inl (D.1 100, 7, .inl ((rdO xb xg (xv, xn, xt, xa) xw xq q 7).1.1))), (kb, .inl (D.1 100, 7, .inl xb)), (kg, .inl (D.1 100, 7, .inl xg)), (kn, .inl (D.1 100, 7, .inl ((rdO xb xg (xv, xn, xt, xa) xw xq q 7).1.2.1))), (kt, .inl (D.1 100, 11, .inl ((rdO xb xg (xv, xn, xt, xa) xw xq q 7).1.2.2.1))), (ka, .inl (D.1 100, 27, .inl ((rdO xb xg (xv, xn, xt, xa) xw xq q 7).1.2.2.2))), (kw, .inl (D.1 100, 64, .inl ((rdO xb xg (xv, xn, xt, xa) xw xq q 7).2.2.1))), (kq, .inl (D.1 100, 14, .inl ((rdO xb xg (xv, xn, xt, xa) xw xq q 7).2.1)))]] : List va_W).flatten) (As := [.ref kv, .ref kb, .ref kg, .ref kn, .ref kt, .ref ka, .ref kw, .ref kq]) (rest := []) lk_L_49 (c_L_readsY l D _ kv kb kg kn kt ka kw kq (xv, xn, xt, xa) xb xg xw xq p0 zz q hok hq) (Foc.trans (Foc.at1 1 rfl rfl (ce rfl rfl)) (Foc.pick [0, 0, 0, 0, 0, 0, 0, 0] (r := []) rfl rfl)) rfl hl.1 (Nat.le_of_ble_eq_true rfl) ⟨Nat.le_of_ble_eq_true rfl, Nat.le_of_ble_eq_true rfl⟩ rfl dL_isBurst_102 ⟨Nat.le_refl _, Nat.le_refl _⟩ (fun H locs hw => ?_)
    refine lv_istore (lv' := [(10, .int (tnL (rdO xb xg (xv, xn, xt, xa) xw xq q 7).2.1 (rdO xb xg (xv, xn, xt, xa) xw xq q 7).2.2.1 (rdO xb xg (xv, xn, xt, xa) xw xq q 7).2.2.2)), (11, .int 1), (0, .ref o), (1, .ref kv), (2, .ref kb), (3, .ref kg), (4, .ref kn), (5, .ref kt), (6, .ref ka), (7, .ref kw), (8, .ref kq), (9, .int (nI md))]) hx hb dL_isBurst_105 hl (by decide) rfl (fun ls hl => ?_)
    refine lv_iload hx hb dL_isBurst_107 (lv_at hl 11 rfl) ?_
    refine r_ifn0N (tgt := 116) hx hb md rfl (by omega) dL_isBurst_109 (by decide) (fun c11 => ?_) (fun c11 => ?_)
    · skip
      refine lv_iconst (v := 0) hx hb dL_isBurst_116 (by decide) ?_
      refine lv_istore (lv' := [(12, .int 0), (10, .int (tnL (rdO xb xg (xv, xn, xt, xa) xw xq q 7).2.1 (rdO xb xg (xv, xn, xt, xa) xw xq q 7).2.2.1 (rdO xb xg (xv, xn, xt, xa) xw xq q 7).2.2.2)), (11, .int 1), (0, .ref o), (1, .ref kv), (2, .ref kb), (3, .ref kg), (4, .ref kn), (5, .ref kt), (6, .ref ka), (7, .ref kw), (8, .ref kq), (9, .int (nI md))]) hx hb dL_isBurst_117 hl (by decide) rfl (fun ls hl => ?_)
      exact key119 5 4 1 0 (rdO xb xg (xv, xn, xt, xa) xw xq q 7) p1 (by decide) (by decide) c10 (by unfold buL; rw [if_neg c10, if_neg c11]) hok1 _ _ _ hw (lv_sub hl [3, 4, 5, 6, 7, 8, 9, 10, 11, 12, 1, 2, 0] rfl)
    · skip
      refine lv_iconst (v := 1) hx hb dL_isBurst_112 (by decide) ?_
      refine lv_goto (tgt := 117) hx hb dL_isBurst_113 (by decide) ?_
      refine lv_istore (lv' := [(12, .int 1), (10, .int (tnL (rdO xb xg (xv, xn, xt, xa) xw xq q 7).2.1 (rdO xb xg (xv, xn, xt, xa) xw xq q 7).2.2.1 (rdO xb xg (xv, xn, xt, xa) xw xq q 7).2.2.2)), (11, .int 1), (0, .ref o), (1, .ref kv), (2, .ref kb), (3, .ref kg), (4, .ref kn), (5, .ref kt), (6, .ref ka), (7, .ref kw), (8, .ref kq), (9, .int (nI md))]) hx hb dL_isBurst_117 hl (by decide) rfl (fun ls hl => ?_)
      exact key119 5 4 1 1 (rdO xb xg (xv, xn, xt, xa) xw xq q 7) p1 (by decide) (by decide) c10 (by unfold buL; rw [if_neg c10, if_pos c11]) hok1 _ _ _ hw (lv_sub hl [3, 4, 5, 6, 7, 8, 9, 10, 11, 12, 1, 2, 0] rfl)
  · skip
    refine lv_iconst (v := 0) hx hb dL_isBurst_12 (by decide) ?_
    refine lv_istore (lv' := [(12, .int 0), (11, .int 1), (10, .int 0), (0, .ref o), (1, .ref kv), (2, .ref kb), (3, .ref kg), (4, .ref kn), (5, .ref kt), (6, .ref ka), (7, .ref kw), (8, .ref kq), (9, .int (nI md))]) hx hb dL_isBurst_13 hl (by decide) rfl (fun ls hl => ?_)
    have key15 : ∀ (n15 : Nat) (i : Nat), (i ≤ 7) → (7 - i < n15) → ∀ (H : Heap) (locs : List Loc) (ls : Array Slot), Wd D A st.heap H locs (([OB D o z s, [(kv, .inl (D.1 100, 7, .inl xv)), (kb, .inl (D.1 100, 7, .inl xb)), (kg, .inl (D.1 100, 7, .inl xg)), (kn, .inl (D.1 100, 7, .inl xn)), (kt, .inl (D.1 100, 11, .inl xt)), (ka, .inl (D.1 100, 27, .inl xa)), (kw, .inl (D.1 100, 64, .inl xw)), (kq, .inl (D.1 100, 14, .inl (va_cpy xv xq 0 0 i)))]] : List va_W).flatten) → lv_has ls 14 [(0, .ref o), (1, .ref kv), (2, .ref kb), (3, .ref kg), (4, .ref kn), (5, .ref kt), (6, .ref ka), (7, .ref kw), (8, .ref kq), (9, .int (nI md)), (10, .int 0), (11, .int 1), (12, .int (nI i))] → W p l e (rmOf 8 0 0 192) st m args below meth c H locs 0 0 (QIU below args st D A 1 (postL (K + 1)) (fun (u : US) => ([OB D o u.1 u.2.1, [(kv, .inl (D.1 100, 7, .inl u.2.2.2.2.1.1)), (kb, .inl (D.1 100, 7, .inl u.2.2.1)), (kg, .inl (D.1 100, 7, .inl u.2.2.2.1)), (kn, .inl (D.1 100, 7, .inl u.2.2.2.2.1.2.1)), (kt, .inl (D.1 100, 11, .inl u.2.2.2.2.1.2.2.1)), (ka, .inl (D.1 100, 27, .inl u.2.2.2.2.1.2.2.2)), (kw, .inl (D.1 100, 64, .inl u.2.2.2.2.2.1)), (kq, .inl (D.1 100, 14, .inl u.2.2.2.2.2.2))]] : List va_W).flatten)) (F0 m 15 ls []) := by
      intro n15
      induction n15 with
      | zero => intro i hi hm; omega
      | succ n15 ih15 =>
        intro i hi hm H locs ls hw hl
        refine lv_iload hx hb dL_isBurst_15 (lv_at hl 12 rfl) ?_
        refine lv_bipush (v := 7) hx hb dL_isBurst_17 (by decide) ?_
        refine r_geN (tgt := 37) hx hb i 7 rfl rfl (by omega) (by omega) dL_isBurst_19 (by decide) (fun c12 => ?_) (fun c12 => ?_)
        · skip
          refine lv_iconst (v := 0) hx hb dL_isBurst_37 (by decide) ?_
          refine lv_istore (lv' := [(12, .int 0), (0, .ref o), (1, .ref kv), (2, .ref kb), (3, .ref kg), (4, .ref kn), (5, .ref kt), (6, .ref ka), (7, .ref kw), (8, .ref kq), (9, .int (nI md)), (10, .int 0), (11, .int 1)]) hx hb dL_isBurst_38 hl (by decide) rfl (fun ls hl => ?_)
          have key40 : ∀ (n40 : Nat) (f : Nat), (f ≤ 7 * q) → (7 * q - f < n40) → ∀ (H : Heap) (locs : List Loc) (ls : Array Slot), Wd D A st.heap H locs (([OB D o z s, [(kv, .inl (D.1 100, 7, .inl ((phF xb xg (xv, xn, xt, xa) f).1))), (kb, .inl (D.1 100, 7, .inl xb)), (kg, .inl (D.1 100, 7, .inl xg)), (kn, .inl (D.1 100, 7, .inl ((phF xb xg (xv, xn, xt, xa) f).2.1))), (kt, .inl (D.1 100, 11, .inl ((phF xb xg (xv, xn, xt, xa) f).2.2.1))), (ka, .inl (D.1 100, 27, .inl ((phF xb xg (xv, xn, xt, xa) f).2.2.2))), (kw, .inl (D.1 100, 64, .inl xw)), (kq, .inl (D.1 100, 14, .inl (va_cpy xv xq 0 0 7)))]] : List va_W).flatten) → lv_has ls 14 [(0, .ref o), (1, .ref kv), (2, .ref kb), (3, .ref kg), (4, .ref kn), (5, .ref kt), (6, .ref ka), (7, .ref kw), (8, .ref kq), (9, .int (nI md)), (10, .int 0), (11, .int 1), (12, .int (nI f))] → W p l e (rmOf 8 0 0 192) st m args below meth c H locs 0 0 (QIU below args st D A 1 (postL (K + 1)) (fun (u : US) => ([OB D o u.1 u.2.1, [(kv, .inl (D.1 100, 7, .inl u.2.2.2.2.1.1)), (kb, .inl (D.1 100, 7, .inl u.2.2.1)), (kg, .inl (D.1 100, 7, .inl u.2.2.2.1)), (kn, .inl (D.1 100, 7, .inl u.2.2.2.2.1.2.1)), (kt, .inl (D.1 100, 11, .inl u.2.2.2.2.1.2.2.1)), (ka, .inl (D.1 100, 27, .inl u.2.2.2.2.1.2.2.2)), (kw, .inl (D.1 100, 64, .inl u.2.2.2.2.2.1)), (kq, .inl (D.1 100, 14, .inl u.2.2.2.2.2.2))]] : List va_W).flatten)) (F0 m 40 ls []) := by
            intro n40
            induction n40 with
            | zero => intro f hf hm2; omega
            | succ n40 ih40 =>
              intro f hf hm2 H locs ls hw hl
              obtain ⟨p2, hok2⟩ := phF_ok (xb := xb) (xg := xg) (y := (xv, xn, xt, xa)) hok f
              have hx8 : (phF xb xg (xv, xn, xt, xa) f).2.2.1 8 = nI q := hok2.2.2.1
              have hq8 := hok.2.2.2.2.2.2
              refine lv_iload hx hb dL_isBurst_40 (lv_at hl 12 rfl) ?_
              refine lv_bipush (v := 7) hx hb dL_isBurst_42 (by decide) ?_
              refine lv_aload hx hb dL_isBurst_44 (lv_at hl 5 rfl) ?_
              refine lv_bipush (v := 8) hx hb dL_isBurst_46 (by decide) ?_
              refine r_iald X hw (f := (phF xb xg (xv, xn, xt, xa) f).2.2.1) 8 (m_fl 1 rfl (m_at 4 rfl)) rfl (by decide) (by decide) dL_isBurst_48 ?_
              rw [hx8]
              refine r_mulN hx hb 7 q rfl rfl dL_isBurst_49 ?_
              refine r_geN (tgt := 86) hx hb f (7 * q) rfl rfl (by omega) (by omega) dL_isBurst_50 (by decide) (fun c13 => ?_) (fun c13 => ?_)
              · skip
                obtain rfl : f = 7 * q := by omega
                refine lv_goto (tgt := 230) hx hb dL_isBurst_86 (by decide) ?_
                exact cut230 (phF xb xg (xv, xn, xt, xa) (7 * q), va_cpy xv xq 0 0 7, xw, 0) 1 0 (by unfold buL; rw [if_pos c10]) (by unfold toL; rw [if_pos c10]) _ _ _ hw (lv_sub hl [0, 1, 2, 3, 4, 5, 6, 7, 8, 9, 10, 11] rfl)
              · skip
                refine lv_aload_n hx hb dL_isBurst_53 rfl (lv_at hl 1 rfl) ?_
                refine lv_aload_n hx hb dL_isBurst_54 rfl (lv_at hl 2 rfl) ?_
                refine lv_aload_n hx hb dL_isBurst_55 rfl (lv_at hl 3 rfl) ?_
                refine lv_aload hx hb dL_isBurst_56 (lv_at hl 4 rfl) ?_
                refine lv_aload hx hb dL_isBurst_58 (lv_at hl 5 rfl) ?_
                refine lv_aload hx hb dL_isBurst_60 (lv_at hl 6 rfl) ?_
                refine r_callS X hw (ws' := ([OB D o z s, [(kv, .inl (D.1 100, 7, .inl ((phL xb xg (phF xb xg (xv, xn, xt, xa) f)).2.1))), (kb, .inl (D.1 100, 7, .inl xb)), (kg, .inl (D.1 100, 7, .inl xg)), (kn, .inl (D.1 100, 7, .inl ((phL xb xg (phF xb xg (xv, xn, xt, xa) f)).2.2.1))), (kt, .inl (D.1 100, 11, .inl ((phL xb xg (phF xb xg (xv, xn, xt, xa) f)).2.2.2.1))), (ka, .inl (D.1 100, 27, .inl ((phL xb xg (phF xb xg (xv, xn, xt, xa) f)).2.2.2.2))), (kw, .inl (D.1 100, 64, .inl xw)), (kq, .inl (D.1 100, 14, .inl (va_cpy xv xq 0 0 7)))]] : List va_W).flatten) (As := [.ref kv, .ref kb, .ref kg, .ref kn, .ref kt, .ref ka]) (rest := []) lk_L_45 (c_L_phaseY l D _ kv kb kg kn kt ka (phF xb xg (xv, xn, xt, xa) f) xb xg) (Foc.trans (Foc.at1 1 rfl rfl (ce rfl rfl)) (Foc.pick [0, 0, 0, 0, 0, 0] (r := [(kw, .inl (D.1 100, 64, .inl xw)), (kq, .inl (D.1 100, 14, .inl (va_cpy xv xq 0 0 7)))]) rfl rfl)) rfl hl.1 (Nat.le_of_ble_eq_true rfl) ⟨Nat.le_of_ble_eq_true rfl, Nat.le_of_ble_eq_true rfl⟩ rfl dL_isBurst_62 ⟨Nat.le_refl _, Nat.le_refl _⟩ (fun H locs hw => ?_)
                refine lv_if_eq (tgt := 77) hx hb dL_isBurst_65 (by decide) (fun c14 => ?_) (fun c14 => ?_)
                · skip
                  refine lv_iconst (v := 0) hx hb dL_isBurst_77 (by decide) ?_
                  refine lv_istore (lv' := [(10, .int 0), (0, .ref o), (1, .ref kv), (2, .ref kb), (3, .ref kg), (4, .ref kn), (5, .ref kt), (6, .ref ka), (7, .ref kw), (8, .ref kq), (9, .int (nI md)), (11, .int 1), (12, .int (nI f))]) hx hb dL_isBurst_78 hl (by decide) rfl (fun ls hl => ?_)
                  refine r_iincN (lv' := [(12, .int (nI (f + 1))), (10, .int 0), (0, .ref o), (1, .ref kv), (2, .ref kb), (3, .ref kg), (4, .ref kn), (5, .ref kt), (6, .ref ka), (7, .ref kw), (8, .ref kq), (9, .int (nI md)), (11, .int 1)]) hx hb f 1 rfl dL_isBurst_80 hl (k := 12) rfl rfl (by decide) rfl (fun ls hl => ?_)
                  refine lv_goto (tgt := 40) hx hb dL_isBurst_83 (by decide) ?_
                  exact ih40 (f + 1) (by omega) (by omega) _ _ _ (by rw [show phF xb xg (xv, xn, xt, xa) (f + 1) = (phL xb xg (phF xb xg (xv, xn, xt, xa) f)).2 from rfl]; exact hw) (lv_sub hl [2, 3, 4, 5, 6, 7, 8, 9, 10, 11, 1, 12, 0] rfl)
                · skip
                  refine lv_iload hx hb dL_isBurst_68 (lv_at hl 10 rfl) ?_
                  refine lv_if_eq (tgt := 77) hx hb dL_isBurst_70 (by decide) (fun _ => ?_) (fun h => absurd (by decide) h)
                  refine lv_iconst (v := 0) hx hb dL_isBurst_77 (by decide) ?_
                  refine lv_istore (lv' := [(10, .int 0), (0, .ref o), (1, .ref kv), (2, .ref kb), (3, .ref kg), (4, .ref kn), (5, .ref kt), (6, .ref ka), (7, .ref kw), (8, .ref kq), (9, .int (nI md)), (11, .int 1), (12, .int (nI f))]) hx hb dL_isBurst_78 hl (by decide) rfl (fun ls hl => ?_)
                  refine r_iincN (lv' := [(12, .int (nI (f + 1))), (10, .int 0), (0, .ref o), (1, .ref kv), (2, .ref kb), (3, .ref kg), (4, .ref kn), (5, .ref kt), (6, .ref ka), (7, .ref kw), (8, .ref kq), (9, .int (nI md)), (11, .int 1)]) hx hb f 1 rfl dL_isBurst_80 hl (k := 12) rfl rfl (by decide) rfl (fun ls hl => ?_)
                  refine lv_goto (tgt := 40) hx hb dL_isBurst_83 (by decide) ?_
                  exact ih40 (f + 1) (by omega) (by omega) _ _ _ (by rw [show phF xb xg (xv, xn, xt, xa) (f + 1) = (phL xb xg (phF xb xg (xv, xn, xt, xa) f)).2 from rfl]; exact hw) (lv_sub hl [2, 3, 4, 5, 6, 7, 8, 9, 10, 11, 1, 12, 0] rfl)
          exact key40 (7 * q + 1) 0 (by omega) (by omega) _ _ _ (by rw [show i = 7 from by omega] at hw; exact hw) (lv_sub hl [1, 2, 3, 4, 5, 6, 7, 8, 9, 10, 11, 12, 0] rfl)
        · skip
          refine lv_aload hx hb dL_isBurst_22 (lv_at hl 8 rfl) ?_
          refine lv_iload hx hb dL_isBurst_24 (lv_at hl 12 rfl) ?_
          refine lv_aload_n hx hb dL_isBurst_26 rfl (lv_at hl 1 rfl) ?_
          refine lv_iload hx hb dL_isBurst_27 (lv_at hl 12 rfl) ?_
          refine r_iald X hw (f := xv) i (m_fl 1 rfl (m_at 0 rfl)) rfl (by omega) (by decide) dL_isBurst_29 ?_
          refine r_iast X hw (ws' := ([OB D o z s, [(kv, .inl (D.1 100, 7, .inl xv)), (kb, .inl (D.1 100, 7, .inl xb)), (kg, .inl (D.1 100, 7, .inl xg)), (kn, .inl (D.1 100, 7, .inl xn)), (kt, .inl (D.1 100, 11, .inl xt)), (ka, .inl (D.1 100, 27, .inl xa)), (kw, .inl (D.1 100, 64, .inl xw)), (kq, .inl (D.1 100, 14, .inl (upd (va_cpy xv xq 0 0 i) i (xv i))))]] : List va_W).flatten) i rfl (by omega) (by decide) (Foc.trans (Foc.at1 1 rfl rfl (ce rfl rfl)) (Foc.cell 7 rfl rfl (ce rfl (ce rfl (ce rfl (ce rfl (ce rfl (ce rfl (ce rfl rfl))))))))) dL_isBurst_30 (fun H locs hw => ?_)
          refine r_iincN (lv' := [(12, .int (nI (i + 1))), (0, .ref o), (1, .ref kv), (2, .ref kb), (3, .ref kg), (4, .ref kn), (5, .ref kt), (6, .ref ka), (7, .ref kw), (8, .ref kq), (9, .int (nI md)), (10, .int 0), (11, .int 1)]) hx hb i 1 rfl dL_isBurst_31 hl (k := 12) rfl rfl (by decide) rfl (fun ls hl => ?_)
          refine lv_goto (tgt := 15) hx hb dL_isBurst_34 (by decide) ?_
          exact ih15 (i + 1) (by omega) (by omega) _ _ _ (by rw [← cpy_step00]; exact hw) (lv_sub hl [1, 2, 3, 4, 5, 6, 7, 8, 9, 10, 11, 12, 0] rfl)
    exact key15 8 0 (by omega) (by omega) _ _ _ (by rw [cpy_0]; exact hw) (lv_sub hl [3, 4, 5, 6, 7, 8, 9, 10, 11, 12, 2, 1, 0] rfl)
