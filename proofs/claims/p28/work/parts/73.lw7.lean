/-! one call of the law -/
theorem t3_al (v : Row) (y : Row × Row) : ∀ k, (alL v y k).1 3 = y.1 3 := fun k => alL_ne v y (by decide) k
theorem ph_t3 (xb xg : Row) (y : LRs) : (phL xb xg y).2.2.2.1 3 = y.2.2.1 3 := by
  obtain ⟨xv, xn, xt, xa⟩ := y
  show (sp_L_phase xv xb xg xn xt xa).2.2.2.1 3 = xt 3
  by_cases c : xt 10 ≤ xt 0 + 1
  · rw [ph_tick c]
    show (alL _ (t4 xt, xa) 3).1 3 = _
    rw [t3_al]
    show t4 xt 3 = _
    rw [t4_at]
    rfl
  · rw [ph_f c]
    show t2 xt 3 = _
    rw [t2_at]
    rfl
theorem upd_t3 (xb xg : Row) (y : LRs) : upd (phL xb xg y).2.2.2.1 3 (y.2.2.1 3 + 0) = (phL xb xg y).2.2.2.1 := by
  rw [← ph_t3 xb xg y]
  exact upd_add0 _ _
theorem mo_all : ∀ t ∈ lasts, ∃ v : Fin 256, t.2.2 / 10 * 16 + (t.2.2 - t.2.2 / 10 * 10) = nI v.1 := by decide +kernel
theorem mo_byte {v f g r xv xb xg xn : Row} (h : RV v f g r xv xb xg xn) {i : Nat} (hi : i < 7) : ∃ u, u < 256 ∧ sp_L_most xv i / 10 * 16 + (sp_L_most xv i - sp_L_most xv i / 10 * 10) = nI u := by
  obtain ⟨u, hu⟩ := mo_all _ (last_in h hi).1
  exact ⟨u.1, u.2, hu⟩

set_option maxRecDepth 100000 in
set_option maxHeartbeats 40000000 in
theorem c_L_isActed (l : Launch) (D : va_G) (sz : Nat) (o : Nat) (z : OX) (s : ChS) (kv kb kg kn kt ka kw kq : Nat) (xv xb xg xn xt xa xw xq : Row) (way y : Nat) (hway : way < 20) (hy9 : y < 107374183) (p0 zz q : Nat) (hok : lOK xt p0 zz q) (hqb : 7 ≤ way → way < 11 → 6 * q < 8 * zz) (K : Nat) (hK : K < 1000) (hL : LR K xb xg s (xv, xn, xt, xa)) (hz : zOK z) : MIU (S := US) l yL_isActed cL_isActed 16 (some .boolean) 9 225 D sz [.ref o, .ref kv, .ref kb, .ref kg, .ref kn, .ref kt, .ref ka, .ref kw, .ref kq, .int (nI way), .int (nI y)] (([OB D o z s, [(kv, .inl (D.1 100, 7, .inl xv)), (kb, .inl (D.1 100, 7, .inl xb)), (kg, .inl (D.1 100, 7, .inl xg)), (kn, .inl (D.1 100, 7, .inl xn)), (kt, .inl (D.1 100, 11, .inl xt)), (ka, .inl (D.1 100, 27, .inl xa)), (kw, .inl (D.1 100, 64, .inl xw)), (kq, .inl (D.1 100, 14, .inl xq))]] : List va_W).flatten) 1 (postL (K + 1)) (fun (u : US) => ([OB D o u.1 u.2.1, [(kv, .inl (D.1 100, 7, .inl u.2.2.2.2.1.1)), (kb, .inl (D.1 100, 7, .inl u.2.2.1)), (kg, .inl (D.1 100, 7, .inl u.2.2.2.1)), (kn, .inl (D.1 100, 7, .inl u.2.2.2.2.1.2.1)), (kt, .inl (D.1 100, 11, .inl u.2.2.2.2.1.2.2.1)), (ka, .inl (D.1 100, 27, .inl u.2.2.2.2.1.2.2.2)), (kw, .inl (D.1 100, 64, .inl u.2.2.2.2.2.1)), (kq, .inl (D.1 100, 14, .inl u.2.2.2.2.2.2))]] : List va_W).flatten) := by
  refine r_enterIU (by decide) (Nat.le_of_ble_eq_true rfl) ?_
  intro p e st m args below meth c ls A X hret hk hw hl
  have X : CX D p m c cL_isActed 16 st args RL A := X
  have hx := X.1.1
  have hb := X.1.2.1
  have hown := X.1.2.2.2.1
  have hts := X.1.2.2.2.2
  have hl : lv_has ls 16 [(0, .ref o), (1, .ref kv), (2, .ref kb), (3, .ref kg), (4, .ref kn), (5, .ref kt), (6, .ref ka), (7, .ref kw), (8, .ref kq), (9, .int (nI way)), (10, .int (nI y))] := hl
  have hq8 := hok.2.2.2.2.2.2
  refine lv_iload hx hb dL_isActed_0 (lv_at hl 10 rfl) ?_
  refine lv_bipush (v := 7) hx hb dL_isActed_2 (by decide) ?_
  refine r_remN hx hb y 7 rfl rfl (by omega) (by decide) (by decide) dL_isActed_4 ?_
  refine lv_istore (lv' := [(11, .int (nI (y % 7))), (0, .ref o), (1, .ref kv), (2, .ref kb), (3, .ref kg), (4, .ref kn), (5, .ref kt), (6, .ref ka), (7, .ref kw), (8, .ref kq), (9, .int (nI way)), (10, .int (nI y))]) hx hb dL_isActed_5 hl (by decide) rfl (fun ls hl => ?_)
  refine lv_iload hx hb dL_isActed_7 (lv_at hl 11 rfl) ?_
  refine lv_bipush (v := 7) hx hb dL_isActed_9 (by decide) ?_
  refine r_divN hx hb y 7 rfl rfl (by omega) (by decide) (by decide) dL_isActed_11 ?_
  refine lv_istore (lv' := [(12, .int (nI (y / 7))), (11, .int (nI (y % 7))), (0, .ref o), (1, .ref kv), (2, .ref kb), (3, .ref kg), (4, .ref kn), (5, .ref kt), (6, .ref ka), (7, .ref kw), (8, .ref kq), (9, .int (nI way)), (10, .int (nI y))]) hx hb dL_isActed_12 hl (by decide) rfl (fun ls hl => ?_)
  refine lv_iload hx hb dL_isActed_14 (lv_at hl 11 rfl) ?_
  refine lv_bipush (v := 6) hx hb dL_isActed_16 (by decide) ?_
  refine r_geN (tgt := 132) hx hb way 6 rfl rfl (by omega) (by omega) dL_isActed_18 (by decide) (fun c1 => ?_) (fun c1 => ?_)
  · skip
    refine lv_iload hx hb dL_isActed_132 (lv_at hl 11 rfl) ?_
    refine lv_bipush (v := 6) hx hb dL_isActed_134 (by decide) ?_
    refine r_neN (tgt := 216) hx hb way 6 rfl rfl (by omega) (by omega) dL_isActed_136 (by decide) (fun c2 => ?_) (fun c2 => ?_)
    · skip
      refine lv_iload hx hb dL_isActed_216 (lv_at hl 11 rfl) ?_
      refine lv_bipush (v := 11) hx hb dL_isActed_218 (by decide) ?_
      refine r_geN (tgt := 245) hx hb way 11 rfl rfl (by omega) (by omega) dL_isActed_220 (by decide) (fun c3 => ?_) (fun c3 => ?_)
      · skip
        refine lv_iload hx hb dL_isActed_245 (lv_at hl 11 rfl) ?_
        refine lv_bipush (v := 15) hx hb dL_isActed_247 (by decide) ?_
        refine r_geN (tgt := 335) hx hb way 15 rfl rfl (by omega) (by omega) dL_isActed_249 (by decide) (fun c4 => ?_) (fun c4 => ?_)
        · skip
          refine lv_iload hx hb dL_isActed_335 (lv_at hl 11 rfl) ?_
          refine lv_bipush (v := 15) hx hb dL_isActed_337 (by decide) ?_
          refine r_neN (tgt := 430) hx hb way 15 rfl rfl (by omega) (by omega) dL_isActed_339 (by decide) (fun c5 => ?_) (fun c5 => ?_)
          · skip
            refine lv_iload hx hb dL_isActed_430 (lv_at hl 11 rfl) ?_
            refine lv_bipush (v := 16) hx hb dL_isActed_432 (by decide) ?_
            refine r_neN (tgt := 535) hx hb way 16 rfl rfl (by omega) (by omega) dL_isActed_434 (by decide) (fun c6 => ?_) (fun c6 => ?_)
            · skip
              refine lv_iload hx hb dL_isActed_535 (lv_at hl 11 rfl) ?_
              refine lv_bipush (v := 17) hx hb dL_isActed_537 (by decide) ?_
              refine r_neN (tgt := 598) hx hb way 17 rfl rfl (by omega) (by omega) dL_isActed_539 (by decide) (fun c7 => ?_) (fun c7 => ?_)
              · skip
                refine lv_iload hx hb dL_isActed_598 (lv_at hl 11 rfl) ?_
                refine lv_bipush (v := 18) hx hb dL_isActed_600 (by decide) ?_
                refine r_neN (tgt := 642) hx hb way 18 rfl rfl (by omega) (by omega) dL_isActed_602 (by decide) (fun c8 => ?_) (fun c8 => ?_)
                · skip
                  refine lv_iload hx hb dL_isActed_642 (lv_at hl 12 rfl) ?_
                  refine lv_iconst (v := 3) hx hb dL_isActed_644 (by decide) ?_
                  refine r_remN hx hb y 3 rfl rfl (by omega) (by decide) (by decide) dL_isActed_645 ?_
                  refine lv_istore (lv' := [(13, .int (nI (y % 3))), (12, .int (nI (y / 7))), (11, .int (nI (y % 7))), (0, .ref o), (1, .ref kv), (2, .ref kb), (3, .ref kg), (4, .ref kn), (5, .ref kt), (6, .ref ka), (7, .ref kw), (8, .ref kq), (9, .int (nI way)), (10, .int (nI y))]) hx hb dL_isActed_646 hl (by decide) rfl (fun ls hl => ?_)
                  refine lv_iload hx hb dL_isActed_648 (lv_at hl 0 rfl) ?_
                  refine r_ifn0N (tgt := 661) hx hb (y % 3) rfl (by omega) dL_isActed_650 (by decide) (fun c9 => ?_) (fun c9 => ?_)
                  · skip
                    refine lv_iload hx hb dL_isActed_661 (lv_at hl 0 rfl) ?_
                    refine lv_iconst (v := 1) hx hb dL_isActed_663 (by decide) ?_
                    refine r_neN (tgt := 674) hx hb (y % 3) 1 rfl rfl (by omega) (by omega) dL_isActed_664 (by decide) (fun c10 => ?_) (fun c10 => ?_)
                    · skip
                      refine lv_iconst (v := 4) hx hb dL_isActed_674 (by decide) ?_
                      refine lv_iload hx hb dL_isActed_675 (lv_at hl 1 rfl) ?_
                      refine lv_bipush (v := 57) hx hb dL_isActed_677 (by decide) ?_
                      refine r_remN hx hb (y / 7) 57 rfl rfl (by omega) (by decide) (by decide) dL_isActed_679 ?_
                      refine r_addN hx hb 4 ((y / 7) % 57) rfl rfl dL_isActed_680 ?_
                      refine lv_istore (lv' := [(14, .int (nI (4 + (y / 7) % 57))), (13, .int (nI (y % 3))), (12, .int (nI (y / 7))), (11, .int (nI (y % 7))), (0, .ref o), (1, .ref kv), (2, .ref kb), (3, .ref kg), (4, .ref kn), (5, .ref kt), (6, .ref ka), (7, .ref kw), (8, .ref kq), (9, .int (nI way)), (10, .int (nI y))]) hx hb dL_isActed_681 hl (by decide) rfl (fun ls hl => ?_)
                      refine lv_aload hx hb dL_isActed_683 (lv_at hl 9 rfl) ?_
                      refine lv_bipush (v := 8) hx hb dL_isActed_685 (by decide) ?_
                      refine lv_iload hx hb dL_isActed_687 (lv_at hl 1 rfl) ?_
                      refine r_addN hx hb 8 (y % 3) rfl rfl dL_isActed_689 ?_
                      refine r_iald X hw (f := xt) (8 + y % 3) (m_fl 1 rfl (m_at 4 rfl)) rfl (by omega) (by decide) dL_isActed_690 ?_
                      refine lv_istore (lv' := [(15, .int (xt (8 + y % 3))), (14, .int (nI (4 + (y / 7) % 57))), (13, .int (nI (y % 3))), (12, .int (nI (y / 7))), (11, .int (nI (y % 7))), (0, .ref o), (1, .ref kv), (2, .ref kb), (3, .ref kg), (4, .ref kn), (5, .ref kt), (6, .ref ka), (7, .ref kw), (8, .ref kq), (9, .int (nI way)), (10, .int (nI y))]) hx hb dL_isActed_691 hl (by decide) rfl (fun ls hl => ?_)
                      refine lv_aload hx hb dL_isActed_693 (lv_at hl 10 rfl) ?_
                      refine lv_bipush (v := 8) hx hb dL_isActed_695 (by decide) ?_
                      refine lv_iload hx hb dL_isActed_697 (lv_at hl 2 rfl) ?_
                      refine r_addN hx hb 8 (y % 3) rfl rfl dL_isActed_699 ?_
                      refine lv_iload hx hb dL_isActed_700 (lv_at hl 1 rfl) ?_
                      refine r_iast X hw (ws' := ([OB D o z s, [(kv, .inl (D.1 100, 7, .inl xv)), (kb, .inl (D.1 100, 7, .inl xb)), (kg, .inl (D.1 100, 7, .inl xg)), (kn, .inl (D.1 100, 7, .inl xn)), (kt, .inl (D.1 100, 11, .inl (upd xt (8 + y % 3) (nI (4 + (y / 7) % 57))))), (ka, .inl (D.1 100, 27, .inl xa)), (kw, .inl (D.1 100, 64, .inl xw)), (kq, .inl (D.1 100, 14, .inl xq))]] : List va_W).flatten) (8 + y % 3) rfl (by omega) (by decide) (Foc.trans (Foc.at1 1 rfl rfl (ce rfl rfl)) (Foc.cell 4 rfl rfl (ce rfl (ce rfl (ce rfl (ce rfl (ce rfl (ce rfl (ce rfl rfl))))))))) dL_isActed_702 (fun H locs hw => ?_)
                      refine lv_aload hx hb dL_isActed_703 (lv_at hl 10 rfl) ?_
                      refine lv_iconst (v := 0) hx hb dL_isActed_705 (by decide) ?_
                      refine lv_aload hx hb dL_isActed_706 (lv_at hl 10 rfl) ?_
                      refine lv_iconst (v := 0) hx hb dL_isActed_708 (by decide) ?_
                      refine r_iald X hw (f := upd xt (8 + y % 3) (nI (4 + (y / 7) % 57))) 0 (m_fl 1 rfl (m_at 4 rfl)) rfl (by decide) (by decide) dL_isActed_709 ?_
                      refine lv_aload hx hb dL_isActed_710 (lv_at hl 10 rfl) ?_
                      refine lv_bipush (v := 10) hx hb dL_isActed_712 (by decide) ?_
                      refine r_iald X hw (f := upd xt (8 + y % 3) (nI (4 + (y / 7) % 57))) 10 (m_fl 1 rfl (m_at 4 rfl)) rfl (by decide) (by decide) dL_isActed_714 ?_
                      refine lv_icmp_ge (tgt := 725) hx hb dL_isActed_715 (by decide) (fun c11 => ?_) (fun c11 => ?_)
                      · skip
                        refine lv_aload hx hb dL_isActed_725 (lv_at hl 10 rfl) ?_
                        refine lv_bipush (v := 10) hx hb dL_isActed_727 (by decide) ?_
                        refine r_iald X hw (f := upd xt (8 + y % 3) (nI (4 + (y / 7) % 57))) 10 (m_fl 1 rfl (m_at 4 rfl)) rfl (by decide) (by decide) dL_isActed_729 ?_
                        refine lv_iconst (v := 1) hx hb dL_isActed_730 (by decide) ?_
                        refine lv_isub hx hb dL_isActed_731 ?_
                        refine r_iast X hw (ws' := ([OB D o z s, [(kv, .inl (D.1 100, 7, .inl xv)), (kb, .inl (D.1 100, 7, .inl xb)), (kg, .inl (D.1 100, 7, .inl xg)), (kn, .inl (D.1 100, 7, .inl xn)), (kt, .inl (D.1 100, 11, .inl (upd (upd xt (8 + y % 3) (nI (4 + (y / 7) % 57))) 0 (((upd xt (8 + y % 3) (nI (4 + (y / 7) % 57))) 10) - 1)))), (ka, .inl (D.1 100, 27, .inl xa)), (kw, .inl (D.1 100, 64, .inl xw)), (kq, .inl (D.1 100, 14, .inl xq))]] : List va_W).flatten) 0 rfl (by decide) (by decide) (Foc.trans (Foc.at1 1 rfl rfl (ce rfl rfl)) (Foc.cell 4 rfl rfl (ce rfl (ce rfl (ce rfl (ce rfl (ce rfl (ce rfl (ce rfl rfl))))))))) dL_isActed_732 (fun H locs hw => ?_)
                        refine lv_aload_n hx hb dL_isActed_733 rfl (lv_at hl 5 rfl) ?_
                        refine lv_iload hx hb dL_isActed_734 (lv_at hl 2 rfl) ?_
                        refine lv_iload hx hb dL_isActed_736 (lv_at hl 1 rfl) ?_
                        obtain ⟨z1, s1, hz1, hL1, hM⟩ := k_setL o hL hz (i := y % 3) (v := 4 + (y / 7) % 57) (by omega) (fun _ => by omega) (fun _ => by omega) (fun _ => by omega)
                        refine r_callV X hw (ws' := ([OB D o z1 s1, [(kv, .inl (D.1 100, 7, .inl xv)), (kb, .inl (D.1 100, 7, .inl xb)), (kg, .inl (D.1 100, 7, .inl xg)), (kn, .inl (D.1 100, 7, .inl xn)), (kt, .inl (D.1 100, 11, .inl (upd (upd xt (8 + y % 3) (nI (4 + (y / 7) % 57))) 0 (((upd xt (8 + y % 3) (nI (4 + (y / 7) % 57))) 10) - 1)))), (ka, .inl (D.1 100, 27, .inl xa)), (kw, .inl (D.1 100, 64, .inl xw)), (kq, .inl (D.1 100, 14, .inl xq))]] : List va_W).flatten) (As := [.int (nI (y % 3)), .int (nI (4 + (y / 7) % 57))]) (rest := []) lk_L_106 (hM l D _) (Foc.at1 0 rfl rfl (ce rfl rfl)) (m_fl 0 rfl (OB_mem D o z s)) rfl hl.1 (Nat.le_of_ble_eq_true rfl) ⟨Nat.le_of_ble_eq_true rfl, Nat.le_of_ble_eq_true rfl⟩ rfl dL_isActed_738 ⟨Nat.le_refl _, Nat.le_refl _⟩ (fun H locs hw => ?_)
                        refine lv_iload hx hb dL_isActed_741 (lv_at hl 0 rfl) ?_
                        refine lv_icmp_ne (tgt := 750) hx hb dL_isActed_743 (by decide) (fun h => absurd rfl h) (fun _ => ?_)
                        refine lv_iconst (v := 1) hx hb dL_isActed_746 (by decide) ?_
                        refine lv_goto (tgt := 751) hx hb dL_isActed_747 (by decide) ?_
                        exact r_retU X hw hk (z1, s1, xb, xg, (xv, xn, upd (upd xt (8 + y % 3) (nI (4 + (y / 7) % 57))) 0 (((upd xt (8 + y % 3) (nI (4 + (y / 7) % 57))) 10) - 1), xa), xw, xq) hret rfl rfl (by rw [if_pos c11] at hL1; exact ⟨hz1, hL1.mono (Nat.le_succ K)⟩) rfl dL_isActed_751
                      · skip
                        refine lv_aload hx hb dL_isActed_718 (lv_at hl 10 rfl) ?_
                        refine lv_iconst (v := 0) hx hb dL_isActed_720 (by decide) ?_
                        refine r_iald X hw (f := upd xt (8 + y % 3) (nI (4 + (y / 7) % 57))) 0 (m_fl 1 rfl (m_at 4 rfl)) rfl (by decide) (by decide) dL_isActed_721 ?_
                        refine lv_goto (tgt := 732) hx hb dL_isActed_722 (by decide) ?_
                        refine r_iast X hw (ws' := ([OB D o z s, [(kv, .inl (D.1 100, 7, .inl xv)), (kb, .inl (D.1 100, 7, .inl xb)), (kg, .inl (D.1 100, 7, .inl xg)), (kn, .inl (D.1 100, 7, .inl xn)), (kt, .inl (D.1 100, 11, .inl (upd (upd xt (8 + y % 3) (nI (4 + (y / 7) % 57))) 0 ((upd xt (8 + y % 3) (nI (4 + (y / 7) % 57))) 0)))), (ka, .inl (D.1 100, 27, .inl xa)), (kw, .inl (D.1 100, 64, .inl xw)), (kq, .inl (D.1 100, 14, .inl xq))]] : List va_W).flatten) 0 rfl (by decide) (by decide) (Foc.trans (Foc.at1 1 rfl rfl (ce rfl rfl)) (Foc.cell 4 rfl rfl (ce rfl (ce rfl (ce rfl (ce rfl (ce rfl (ce rfl (ce rfl rfl))))))))) dL_isActed_732 (fun H locs hw => ?_)
                        refine lv_aload_n hx hb dL_isActed_733 rfl (lv_at hl 5 rfl) ?_
                        refine lv_iload hx hb dL_isActed_734 (lv_at hl 2 rfl) ?_
                        refine lv_iload hx hb dL_isActed_736 (lv_at hl 1 rfl) ?_
                        obtain ⟨z1, s1, hz1, hL1, hM⟩ := k_setL o hL hz (i := y % 3) (v := 4 + (y / 7) % 57) (by omega) (fun _ => by omega) (fun _ => by omega) (fun _ => by omega)
                        refine r_callV X hw (ws' := ([OB D o z1 s1, [(kv, .inl (D.1 100, 7, .inl xv)), (kb, .inl (D.1 100, 7, .inl xb)), (kg, .inl (D.1 100, 7, .inl xg)), (kn, .inl (D.1 100, 7, .inl xn)), (kt, .inl (D.1 100, 11, .inl (upd (upd xt (8 + y % 3) (nI (4 + (y / 7) % 57))) 0 ((upd xt (8 + y % 3) (nI (4 + (y / 7) % 57))) 0)))), (ka, .inl (D.1 100, 27, .inl xa)), (kw, .inl (D.1 100, 64, .inl xw)), (kq, .inl (D.1 100, 14, .inl xq))]] : List va_W).flatten) (As := [.int (nI (y % 3)), .int (nI (4 + (y / 7) % 57))]) (rest := []) lk_L_106 (hM l D _) (Foc.at1 0 rfl rfl (ce rfl rfl)) (m_fl 0 rfl (OB_mem D o z s)) rfl hl.1 (Nat.le_of_ble_eq_true rfl) ⟨Nat.le_of_ble_eq_true rfl, Nat.le_of_ble_eq_true rfl⟩ rfl dL_isActed_738 ⟨Nat.le_refl _, Nat.le_refl _⟩ (fun H locs hw => ?_)
                        refine lv_iload hx hb dL_isActed_741 (lv_at hl 0 rfl) ?_
                        refine lv_icmp_ne (tgt := 750) hx hb dL_isActed_743 (by decide) (fun h => absurd rfl h) (fun _ => ?_)
                        refine lv_iconst (v := 1) hx hb dL_isActed_746 (by decide) ?_
                        refine lv_goto (tgt := 751) hx hb dL_isActed_747 (by decide) ?_
                        exact r_retU X hw hk (z1, s1, xb, xg, (xv, xn, upd (upd xt (8 + y % 3) (nI (4 + (y / 7) % 57))) 0 ((upd xt (8 + y % 3) (nI (4 + (y / 7) % 57))) 0), xa), xw, xq) hret rfl rfl (by rw [if_neg c11] at hL1; exact ⟨hz1, hL1.mono (Nat.le_succ K)⟩) rfl dL_isActed_751
                    · skip
                      refine lv_iload hx hb dL_isActed_667 (lv_at hl 1 rfl) ?_
                      refine lv_iconst (v := 2) hx hb dL_isActed_669 (by decide) ?_
                      refine r_remN hx hb (y / 7) 2 rfl rfl (by omega) (by decide) (by decide) dL_isActed_670 ?_
                      refine lv_goto (tgt := 681) hx hb dL_isActed_671 (by decide) ?_
                      refine lv_istore (lv' := [(14, .int (nI ((y / 7) % 2))), (13, .int (nI (y % 3))), (12, .int (nI (y / 7))), (11, .int (nI (y % 7))), (0, .ref o), (1, .ref kv), (2, .ref kb), (3, .ref kg), (4, .ref kn), (5, .ref kt), (6, .ref ka), (7, .ref kw), (8, .ref kq), (9, .int (nI way)), (10, .int (nI y))]) hx hb dL_isActed_681 hl (by decide) rfl (fun ls hl => ?_)
                      refine lv_aload hx hb dL_isActed_683 (lv_at hl 9 rfl) ?_
                      refine lv_bipush (v := 8) hx hb dL_isActed_685 (by decide) ?_
                      refine lv_iload hx hb dL_isActed_687 (lv_at hl 1 rfl) ?_
                      refine r_addN hx hb 8 (y % 3) rfl rfl dL_isActed_689 ?_
                      refine r_iald X hw (f := xt) (8 + y % 3) (m_fl 1 rfl (m_at 4 rfl)) rfl (by omega) (by decide) dL_isActed_690 ?_
                      refine lv_istore (lv' := [(15, .int (xt (8 + y % 3))), (14, .int (nI ((y / 7) % 2))), (13, .int (nI (y % 3))), (12, .int (nI (y / 7))), (11, .int (nI (y % 7))), (0, .ref o), (1, .ref kv), (2, .ref kb), (3, .ref kg), (4, .ref kn), (5, .ref kt), (6, .ref ka), (7, .ref kw), (8, .ref kq), (9, .int (nI way)), (10, .int (nI y))]) hx hb dL_isActed_691 hl (by decide) rfl (fun ls hl => ?_)
                      refine lv_aload hx hb dL_isActed_693 (lv_at hl 10 rfl) ?_
                      refine lv_bipush (v := 8) hx hb dL_isActed_695 (by decide) ?_
                      refine lv_iload hx hb dL_isActed_697 (lv_at hl 2 rfl) ?_
                      refine r_addN hx hb 8 (y % 3) rfl rfl dL_isActed_699 ?_
                      refine lv_iload hx hb dL_isActed_700 (lv_at hl 1 rfl) ?_
                      refine r_iast X hw (ws' := ([OB D o z s, [(kv, .inl (D.1 100, 7, .inl xv)), (kb, .inl (D.1 100, 7, .inl xb)), (kg, .inl (D.1 100, 7, .inl xg)), (kn, .inl (D.1 100, 7, .inl xn)), (kt, .inl (D.1 100, 11, .inl (upd xt (8 + y % 3) (nI ((y / 7) % 2))))), (ka, .inl (D.1 100, 27, .inl xa)), (kw, .inl (D.1 100, 64, .inl xw)), (kq, .inl (D.1 100, 14, .inl xq))]] : List va_W).flatten) (8 + y % 3) rfl (by omega) (by decide) (Foc.trans (Foc.at1 1 rfl rfl (ce rfl rfl)) (Foc.cell 4 rfl rfl (ce rfl (ce rfl (ce rfl (ce rfl (ce rfl (ce rfl (ce rfl rfl))))))))) dL_isActed_702 (fun H locs hw => ?_)
                      refine lv_aload hx hb dL_isActed_703 (lv_at hl 10 rfl) ?_
                      refine lv_iconst (v := 0) hx hb dL_isActed_705 (by decide) ?_
                      refine lv_aload hx hb dL_isActed_706 (lv_at hl 10 rfl) ?_
                      refine lv_iconst (v := 0) hx hb dL_isActed_708 (by decide) ?_
                      refine r_iald X hw (f := upd xt (8 + y % 3) (nI ((y / 7) % 2))) 0 (m_fl 1 rfl (m_at 4 rfl)) rfl (by decide) (by decide) dL_isActed_709 ?_
                      refine lv_aload hx hb dL_isActed_710 (lv_at hl 10 rfl) ?_
                      refine lv_bipush (v := 10) hx hb dL_isActed_712 (by decide) ?_
                      refine r_iald X hw (f := upd xt (8 + y % 3) (nI ((y / 7) % 2))) 10 (m_fl 1 rfl (m_at 4 rfl)) rfl (by decide) (by decide) dL_isActed_714 ?_
                      refine lv_icmp_ge (tgt := 725) hx hb dL_isActed_715 (by decide) (fun c12 => ?_) (fun c12 => ?_)
                      · skip
                        refine lv_aload hx hb dL_isActed_725 (lv_at hl 10 rfl) ?_
                        refine lv_bipush (v := 10) hx hb dL_isActed_727 (by decide) ?_
                        refine r_iald X hw (f := upd xt (8 + y % 3) (nI ((y / 7) % 2))) 10 (m_fl 1 rfl (m_at 4 rfl)) rfl (by decide) (by decide) dL_isActed_729 ?_
                        refine lv_iconst (v := 1) hx hb dL_isActed_730 (by decide) ?_
                        refine lv_isub hx hb dL_isActed_731 ?_
                        refine r_iast X hw (ws' := ([OB D o z s, [(kv, .inl (D.1 100, 7, .inl xv)), (kb, .inl (D.1 100, 7, .inl xb)), (kg, .inl (D.1 100, 7, .inl xg)), (kn, .inl (D.1 100, 7, .inl xn)), (kt, .inl (D.1 100, 11, .inl (upd (upd xt (8 + y % 3) (nI ((y / 7) % 2))) 0 (((upd xt (8 + y % 3) (nI ((y / 7) % 2))) 10) - 1)))), (ka, .inl (D.1 100, 27, .inl xa)), (kw, .inl (D.1 100, 64, .inl xw)), (kq, .inl (D.1 100, 14, .inl xq))]] : List va_W).flatten) 0 rfl (by decide) (by decide) (Foc.trans (Foc.at1 1 rfl rfl (ce rfl rfl)) (Foc.cell 4 rfl rfl (ce rfl (ce rfl (ce rfl (ce rfl (ce rfl (ce rfl (ce rfl rfl))))))))) dL_isActed_732 (fun H locs hw => ?_)
                        refine lv_aload_n hx hb dL_isActed_733 rfl (lv_at hl 5 rfl) ?_
                        refine lv_iload hx hb dL_isActed_734 (lv_at hl 2 rfl) ?_
                        refine lv_iload hx hb dL_isActed_736 (lv_at hl 1 rfl) ?_
                        obtain ⟨z1, s1, hz1, hL1, hM⟩ := k_setL o hL hz (i := y % 3) (v := (y / 7) % 2) (by omega) (fun _ => by omega) (fun _ => by omega) (fun _ => by omega)
                        refine r_callV X hw (ws' := ([OB D o z1 s1, [(kv, .inl (D.1 100, 7, .inl xv)), (kb, .inl (D.1 100, 7, .inl xb)), (kg, .inl (D.1 100, 7, .inl xg)), (kn, .inl (D.1 100, 7, .inl xn)), (kt, .inl (D.1 100, 11, .inl (upd (upd xt (8 + y % 3) (nI ((y / 7) % 2))) 0 (((upd xt (8 + y % 3) (nI ((y / 7) % 2))) 10) - 1)))), (ka, .inl (D.1 100, 27, .inl xa)), (kw, .inl (D.1 100, 64, .inl xw)), (kq, .inl (D.1 100, 14, .inl xq))]] : List va_W).flatten) (As := [.int (nI (y % 3)), .int (nI ((y / 7) % 2))]) (rest := []) lk_L_106 (hM l D _) (Foc.at1 0 rfl rfl (ce rfl rfl)) (m_fl 0 rfl (OB_mem D o z s)) rfl hl.1 (Nat.le_of_ble_eq_true rfl) ⟨Nat.le_of_ble_eq_true rfl, Nat.le_of_ble_eq_true rfl⟩ rfl dL_isActed_738 ⟨Nat.le_refl _, Nat.le_refl _⟩ (fun H locs hw => ?_)
                        refine lv_iload hx hb dL_isActed_741 (lv_at hl 0 rfl) ?_
                        refine lv_icmp_ne (tgt := 750) hx hb dL_isActed_743 (by decide) (fun h => absurd rfl h) (fun _ => ?_)
                        refine lv_iconst (v := 1) hx hb dL_isActed_746 (by decide) ?_
                        refine lv_goto (tgt := 751) hx hb dL_isActed_747 (by decide) ?_
                        exact r_retU X hw hk (z1, s1, xb, xg, (xv, xn, upd (upd xt (8 + y % 3) (nI ((y / 7) % 2))) 0 (((upd xt (8 + y % 3) (nI ((y / 7) % 2))) 10) - 1), xa), xw, xq) hret rfl rfl (by rw [if_pos c12] at hL1; exact ⟨hz1, hL1.mono (Nat.le_succ K)⟩) rfl dL_isActed_751
                      · skip
                        refine lv_aload hx hb dL_isActed_718 (lv_at hl 10 rfl) ?_
                        refine lv_iconst (v := 0) hx hb dL_isActed_720 (by decide) ?_
                        refine r_iald X hw (f := upd xt (8 + y % 3) (nI ((y / 7) % 2))) 0 (m_fl 1 rfl (m_at 4 rfl)) rfl (by decide) (by decide) dL_isActed_721 ?_
                        refine lv_goto (tgt := 732) hx hb dL_isActed_722 (by decide) ?_
                        refine r_iast X hw (ws' := ([OB D o z s, [(kv, .inl (D.1 100, 7, .inl xv)), (kb, .inl (D.1 100, 7, .inl xb)), (kg, .inl (D.1 100, 7, .inl xg)), (kn, .inl (D.1 100, 7, .inl xn)), (kt, .inl (D.1 100, 11, .inl (upd (upd xt (8 + y % 3) (nI ((y / 7) % 2))) 0 ((upd xt (8 + y % 3) (nI ((y / 7) % 2))) 0)))), (ka, .inl (D.1 100, 27, .inl xa)), (kw, .inl (D.1 100, 64, .inl xw)), (kq, .inl (D.1 100, 14, .inl xq))]] : List va_W).flatten) 0 rfl (by decide) (by decide) (Foc.trans (Foc.at1 1 rfl rfl (ce rfl rfl)) (Foc.cell 4 rfl rfl (ce rfl (ce rfl (ce rfl (ce rfl (ce rfl (ce rfl (ce rfl rfl))))))))) dL_isActed_732 (fun H locs hw => ?_)
                        refine lv_aload_n hx hb dL_isActed_733 rfl (lv_at hl 5 rfl) ?_
                        refine lv_iload hx hb dL_isActed_734 (lv_at hl 2 rfl) ?_
                        refine lv_iload hx hb dL_isActed_736 (lv_at hl 1 rfl) ?_
                        obtain ⟨z1, s1, hz1, hL1, hM⟩ := k_setL o hL hz (i := y % 3) (v := (y / 7) % 2) (by omega) (fun _ => by omega) (fun _ => by omega) (fun _ => by omega)
                        refine r_callV X hw (ws' := ([OB D o z1 s1, [(kv, .inl (D.1 100, 7, .inl xv)), (kb, .inl (D.1 100, 7, .inl xb)), (kg, .inl (D.1 100, 7, .inl xg)), (kn, .inl (D.1 100, 7, .inl xn)), (kt, .inl (D.1 100, 11, .inl (upd (upd xt (8 + y % 3) (nI ((y / 7) % 2))) 0 ((upd xt (8 + y % 3) (nI ((y / 7) % 2))) 0)))), (ka, .inl (D.1 100, 27, .inl xa)), (kw, .inl (D.1 100, 64, .inl xw)), (kq, .inl (D.1 100, 14, .inl xq))]] : List va_W).flatten) (As := [.int (nI (y % 3)), .int (nI ((y / 7) % 2))]) (rest := []) lk_L_106 (hM l D _) (Foc.at1 0 rfl rfl (ce rfl rfl)) (m_fl 0 rfl (OB_mem D o z s)) rfl hl.1 (Nat.le_of_ble_eq_true rfl) ⟨Nat.le_of_ble_eq_true rfl, Nat.le_of_ble_eq_true rfl⟩ rfl dL_isActed_738 ⟨Nat.le_refl _, Nat.le_refl _⟩ (fun H locs hw => ?_)
                        refine lv_iload hx hb dL_isActed_741 (lv_at hl 0 rfl) ?_
                        refine lv_icmp_ne (tgt := 750) hx hb dL_isActed_743 (by decide) (fun h => absurd rfl h) (fun _ => ?_)
                        refine lv_iconst (v := 1) hx hb dL_isActed_746 (by decide) ?_
                        refine lv_goto (tgt := 751) hx hb dL_isActed_747 (by decide) ?_
                        exact r_retU X hw hk (z1, s1, xb, xg, (xv, xn, upd (upd xt (8 + y % 3) (nI ((y / 7) % 2))) 0 ((upd xt (8 + y % 3) (nI ((y / 7) % 2))) 0), xa), xw, xq) hret rfl rfl (by rw [if_neg c12] at hL1; exact ⟨hz1, hL1.mono (Nat.le_succ K)⟩) rfl dL_isActed_751
                  · skip
                    refine lv_iload hx hb dL_isActed_653 (lv_at hl 1 rfl) ?_
                    refine lv_bipush (v := 9) hx hb dL_isActed_655 (by decide) ?_
                    refine r_remN hx hb (y / 7) 9 rfl rfl (by omega) (by decide) (by decide) dL_isActed_657 ?_
                    refine lv_goto (tgt := 681) hx hb dL_isActed_658 (by decide) ?_
                    refine lv_istore (lv' := [(14, .int (nI ((y / 7) % 9))), (13, .int (nI (y % 3))), (12, .int (nI (y / 7))), (11, .int (nI (y % 7))), (0, .ref o), (1, .ref kv), (2, .ref kb), (3, .ref kg), (4, .ref kn), (5, .ref kt), (6, .ref ka), (7, .ref kw), (8, .ref kq), (9, .int (nI way)), (10, .int (nI y))]) hx hb dL_isActed_681 hl (by decide) rfl (fun ls hl => ?_)
                    refine lv_aload hx hb dL_isActed_683 (lv_at hl 9 rfl) ?_
                    refine lv_bipush (v := 8) hx hb dL_isActed_685 (by decide) ?_
                    refine lv_iload hx hb dL_isActed_687 (lv_at hl 1 rfl) ?_
                    refine r_addN hx hb 8 (y % 3) rfl rfl dL_isActed_689 ?_
                    refine r_iald X hw (f := xt) (8 + y % 3) (m_fl 1 rfl (m_at 4 rfl)) rfl (by omega) (by decide) dL_isActed_690 ?_
                    refine lv_istore (lv' := [(15, .int (xt (8 + y % 3))), (14, .int (nI ((y / 7) % 9))), (13, .int (nI (y % 3))), (12, .int (nI (y / 7))), (11, .int (nI (y % 7))), (0, .ref o), (1, .ref kv), (2, .ref kb), (3, .ref kg), (4, .ref kn), (5, .ref kt), (6, .ref ka), (7, .ref kw), (8, .ref kq), (9, .int (nI way)), (10, .int (nI y))]) hx hb dL_isActed_691 hl (by decide) rfl (fun ls hl => ?_)
                    refine lv_aload hx hb dL_isActed_693 (lv_at hl 10 rfl) ?_
                    refine lv_bipush (v := 8) hx hb dL_isActed_695 (by decide) ?_
                    refine lv_iload hx hb dL_isActed_697 (lv_at hl 2 rfl) ?_
                    refine r_addN hx hb 8 (y % 3) rfl rfl dL_isActed_699 ?_
                    refine lv_iload hx hb dL_isActed_700 (lv_at hl 1 rfl) ?_
                    refine r_iast X hw (ws' := ([OB D o z s, [(kv, .inl (D.1 100, 7, .inl xv)), (kb, .inl (D.1 100, 7, .inl xb)), (kg, .inl (D.1 100, 7, .inl xg)), (kn, .inl (D.1 100, 7, .inl xn)), (kt, .inl (D.1 100, 11, .inl (upd xt (8 + y % 3) (nI ((y / 7) % 9))))), (ka, .inl (D.1 100, 27, .inl xa)), (kw, .inl (D.1 100, 64, .inl xw)), (kq, .inl (D.1 100, 14, .inl xq))]] : List va_W).flatten) (8 + y % 3) rfl (by omega) (by decide) (Foc.trans (Foc.at1 1 rfl rfl (ce rfl rfl)) (Foc.cell 4 rfl rfl (ce rfl (ce rfl (ce rfl (ce rfl (ce rfl (ce rfl (ce rfl rfl))))))))) dL_isActed_702 (fun H locs hw => ?_)
                    refine lv_aload hx hb dL_isActed_703 (lv_at hl 10 rfl) ?_
                    refine lv_iconst (v := 0) hx hb dL_isActed_705 (by decide) ?_
                    refine lv_aload hx hb dL_isActed_706 (lv_at hl 10 rfl) ?_
                    refine lv_iconst (v := 0) hx hb dL_isActed_708 (by decide) ?_
                    refine r_iald X hw (f := upd xt (8 + y % 3) (nI ((y / 7) % 9))) 0 (m_fl 1 rfl (m_at 4 rfl)) rfl (by decide) (by decide) dL_isActed_709 ?_
                    refine lv_aload hx hb dL_isActed_710 (lv_at hl 10 rfl) ?_
                    refine lv_bipush (v := 10) hx hb dL_isActed_712 (by decide) ?_
                    refine r_iald X hw (f := upd xt (8 + y % 3) (nI ((y / 7) % 9))) 10 (m_fl 1 rfl (m_at 4 rfl)) rfl (by decide) (by decide) dL_isActed_714 ?_
                    refine lv_icmp_ge (tgt := 725) hx hb dL_isActed_715 (by decide) (fun c13 => ?_) (fun c13 => ?_)
                    · skip
                      refine lv_aload hx hb dL_isActed_725 (lv_at hl 10 rfl) ?_
                      refine lv_bipush (v := 10) hx hb dL_isActed_727 (by decide) ?_
                      refine r_iald X hw (f := upd xt (8 + y % 3) (nI ((y / 7) % 9))) 10 (m_fl 1 rfl (m_at 4 rfl)) rfl (by decide) (by decide) dL_isActed_729 ?_
                      refine lv_iconst (v := 1) hx hb dL_isActed_730 (by decide) ?_
                      refine lv_isub hx hb dL_isActed_731 ?_
                      refine r_iast X hw (ws' := ([OB D o z s, [(kv, .inl (D.1 100, 7, .inl xv)), (kb, .inl (D.1 100, 7, .inl xb)), (kg, .inl (D.1 100, 7, .inl xg)), (kn, .inl (D.1 100, 7, .inl xn)), (kt, .inl (D.1 100, 11, .inl (upd (upd xt (8 + y % 3) (nI ((y / 7) % 9))) 0 (((upd xt (8 + y % 3) (nI ((y / 7) % 9))) 10) - 1)))), (ka, .inl (D.1 100, 27, .inl xa)), (kw, .inl (D.1 100, 64, .inl xw)), (kq, .inl (D.1 100, 14, .inl xq))]] : List va_W).flatten) 0 rfl (by decide) (by decide) (Foc.trans (Foc.at1 1 rfl rfl (ce rfl rfl)) (Foc.cell 4 rfl rfl (ce rfl (ce rfl (ce rfl (ce rfl (ce rfl (ce rfl (ce rfl rfl))))))))) dL_isActed_732 (fun H locs hw => ?_)
                      refine lv_aload_n hx hb dL_isActed_733 rfl (lv_at hl 5 rfl) ?_
                      refine lv_iload hx hb dL_isActed_734 (lv_at hl 2 rfl) ?_
                      refine lv_iload hx hb dL_isActed_736 (lv_at hl 1 rfl) ?_
                      obtain ⟨z1, s1, hz1, hL1, hM⟩ := k_setL o hL hz (i := y % 3) (v := (y / 7) % 9) (by omega) (fun _ => by omega) (fun _ => by omega) (fun _ => by omega)
                      refine r_callV X hw (ws' := ([OB D o z1 s1, [(kv, .inl (D.1 100, 7, .inl xv)), (kb, .inl (D.1 100, 7, .inl xb)), (kg, .inl (D.1 100, 7, .inl xg)), (kn, .inl (D.1 100, 7, .inl xn)), (kt, .inl (D.1 100, 11, .inl (upd (upd xt (8 + y % 3) (nI ((y / 7) % 9))) 0 (((upd xt (8 + y % 3) (nI ((y / 7) % 9))) 10) - 1)))), (ka, .inl (D.1 100, 27, .inl xa)), (kw, .inl (D.1 100, 64, .inl xw)), (kq, .inl (D.1 100, 14, .inl xq))]] : List va_W).flatten) (As := [.int (nI (y % 3)), .int (nI ((y / 7) % 9))]) (rest := []) lk_L_106 (hM l D _) (Foc.at1 0 rfl rfl (ce rfl rfl)) (m_fl 0 rfl (OB_mem D o z s)) rfl hl.1 (Nat.le_of_ble_eq_true rfl) ⟨Nat.le_of_ble_eq_true rfl, Nat.le_of_ble_eq_true rfl⟩ rfl dL_isActed_738 ⟨Nat.le_refl _, Nat.le_refl _⟩ (fun H locs hw => ?_)
                      refine lv_iload hx hb dL_isActed_741 (lv_at hl 0 rfl) ?_
                      refine lv_icmp_ne (tgt := 750) hx hb dL_isActed_743 (by decide) (fun h => absurd rfl h) (fun _ => ?_)
                      refine lv_iconst (v := 1) hx hb dL_isActed_746 (by decide) ?_
                      refine lv_goto (tgt := 751) hx hb dL_isActed_747 (by decide) ?_
                      exact r_retU X hw hk (z1, s1, xb, xg, (xv, xn, upd (upd xt (8 + y % 3) (nI ((y / 7) % 9))) 0 (((upd xt (8 + y % 3) (nI ((y / 7) % 9))) 10) - 1), xa), xw, xq) hret rfl rfl (by rw [if_pos c13] at hL1; exact ⟨hz1, hL1.mono (Nat.le_succ K)⟩) rfl dL_isActed_751
                    · skip
                      refine lv_aload hx hb dL_isActed_718 (lv_at hl 10 rfl) ?_
                      refine lv_iconst (v := 0) hx hb dL_isActed_720 (by decide) ?_
                      refine r_iald X hw (f := upd xt (8 + y % 3) (nI ((y / 7) % 9))) 0 (m_fl 1 rfl (m_at 4 rfl)) rfl (by decide) (by decide) dL_isActed_721 ?_
                      refine lv_goto (tgt := 732) hx hb dL_isActed_722 (by decide) ?_
                      refine r_iast X hw (ws' := ([OB D o z s, [(kv, .inl (D.1 100, 7, .inl xv)), (kb, .inl (D.1 100, 7, .inl xb)), (kg, .inl (D.1 100, 7, .inl xg)), (kn, .inl (D.1 100, 7, .inl xn)), (kt, .inl (D.1 100, 11, .inl (upd (upd xt (8 + y % 3) (nI ((y / 7) % 9))) 0 ((upd xt (8 + y % 3) (nI ((y / 7) % 9))) 0)))), (ka, .inl (D.1 100, 27, .inl xa)), (kw, .inl (D.1 100, 64, .inl xw)), (kq, .inl (D.1 100, 14, .inl xq))]] : List va_W).flatten) 0 rfl (by decide) (by decide) (Foc.trans (Foc.at1 1 rfl rfl (ce rfl rfl)) (Foc.cell 4 rfl rfl (ce rfl (ce rfl (ce rfl (ce rfl (ce rfl (ce rfl (ce rfl rfl))))))))) dL_isActed_732 (fun H locs hw => ?_)
                      refine lv_aload_n hx hb dL_isActed_733 rfl (lv_at hl 5 rfl) ?_
                      refine lv_iload hx hb dL_isActed_734 (lv_at hl 2 rfl) ?_
                      refine lv_iload hx hb dL_isActed_736 (lv_at hl 1 rfl) ?_
                      obtain ⟨z1, s1, hz1, hL1, hM⟩ := k_setL o hL hz (i := y % 3) (v := (y / 7) % 9) (by omega) (fun _ => by omega) (fun _ => by omega) (fun _ => by omega)
                      refine r_callV X hw (ws' := ([OB D o z1 s1, [(kv, .inl (D.1 100, 7, .inl xv)), (kb, .inl (D.1 100, 7, .inl xb)), (kg, .inl (D.1 100, 7, .inl xg)), (kn, .inl (D.1 100, 7, .inl xn)), (kt, .inl (D.1 100, 11, .inl (upd (upd xt (8 + y % 3) (nI ((y / 7) % 9))) 0 ((upd xt (8 + y % 3) (nI ((y / 7) % 9))) 0)))), (ka, .inl (D.1 100, 27, .inl xa)), (kw, .inl (D.1 100, 64, .inl xw)), (kq, .inl (D.1 100, 14, .inl xq))]] : List va_W).flatten) (As := [.int (nI (y % 3)), .int (nI ((y / 7) % 9))]) (rest := []) lk_L_106 (hM l D _) (Foc.at1 0 rfl rfl (ce rfl rfl)) (m_fl 0 rfl (OB_mem D o z s)) rfl hl.1 (Nat.le_of_ble_eq_true rfl) ⟨Nat.le_of_ble_eq_true rfl, Nat.le_of_ble_eq_true rfl⟩ rfl dL_isActed_738 ⟨Nat.le_refl _, Nat.le_refl _⟩ (fun H locs hw => ?_)
                      refine lv_iload hx hb dL_isActed_741 (lv_at hl 0 rfl) ?_
                      refine lv_icmp_ne (tgt := 750) hx hb dL_isActed_743 (by decide) (fun h => absurd rfl h) (fun _ => ?_)
                      refine lv_iconst (v := 1) hx hb dL_isActed_746 (by decide) ?_
                      refine lv_goto (tgt := 751) hx hb dL_isActed_747 (by decide) ?_
                      exact r_retU X hw hk (z1, s1, xb, xg, (xv, xn, upd (upd xt (8 + y % 3) (nI ((y / 7) % 9))) 0 ((upd xt (8 + y % 3) (nI ((y / 7) % 9))) 0), xa), xw, xq) hret rfl rfl (by rw [if_neg c13] at hL1; exact ⟨hz1, hL1.mono (Nat.le_succ K)⟩) rfl dL_isActed_751
                · skip
                  refine lv_aload_n hx hb dL_isActed_605 rfl (lv_at hl 2 rfl) ?_
                  refine lv_aload_n hx hb dL_isActed_606 rfl (lv_at hl 3 rfl) ?_
                  refine lv_aload_n hx hb dL_isActed_607 rfl (lv_at hl 4 rfl) ?_
                  refine lv_aload_n hx hb dL_isActed_608 rfl (lv_at hl 5 rfl) ?_
                  refine lv_iload hx hb dL_isActed_609 (lv_at hl 1 rfl) ?_
                  refine lv_iload hx hb dL_isActed_611 (lv_at hl 0 rfl) ?_
                  refine lv_bipush (v := 8) hx hb dL_isActed_613 (by decide) ?_
                  refine r_remN hx hb (y / 7) 8 rfl rfl (by omega) (by decide) (by decide) dL_isActed_615 ?_
                  refine lv_iload hx hb dL_isActed_616 (lv_at hl 0 rfl) ?_
                  refine lv_bipush (v := 8) hx hb dL_isActed_618 (by decide) ?_
                  refine r_divN hx hb (y / 7) 8 rfl rfl (by omega) (by decide) (by decide) dL_isActed_620 ?_
                  refine lv_iconst (v := 2) hx hb dL_isActed_621 (by decide) ?_
                  refine r_remN hx hb ((y / 7) / 8) 2 rfl rfl (by omega) (by decide) (by decide) dL_isActed_622 ?_
                  refine lv_iload hx hb dL_isActed_623 (lv_at hl 0 rfl) ?_
                  refine lv_bipush (v := 16) hx hb dL_isActed_625 (by decide) ?_
                  refine r_divN hx hb (y / 7) 16 rfl rfl (by omega) (by decide) (by decide) dL_isActed_627 ?_
                  refine lv_iconst (v := 2) hx hb dL_isActed_628 (by decide) ?_
                  refine r_remN hx hb ((y / 7) / 16) 2 rfl rfl (by omega) (by decide) (by decide) dL_isActed_629 ?_
                  refine r_ifn0N (tgt := 637) hx hb (((y / 7) / 16) % 2) rfl (by omega) dL_isActed_630 (by decide) (fun c14 => ?_) (fun c14 => ?_)
                  · skip
                    refine lv_iconst (v := 0) hx hb dL_isActed_637 (by decide) ?_
                    refine r_callSU X hw (W1 := fun (u : US) => ([OB D o u.1 u.2.1, [(kv, .inl (D.1 100, 7, .inl u.2.2.2.2.1.1)), (kb, .inl (D.1 100, 7, .inl u.2.2.1)), (kg, .inl (D.1 100, 7, .inl u.2.2.2.1)), (kn, .inl (D.1 100, 7, .inl u.2.2.2.2.1.2.1)), (kt, .inl (D.1 100, 11, .inl u.2.2.2.2.1.2.2.1)), (ka, .inl (D.1 100, 27, .inl u.2.2.2.2.1.2.2.2)), (kw, .inl (D.1 100, 64, .inl u.2.2.2.2.2.1)), (kq, .inl (D.1 100, 14, .inl u.2.2.2.2.2.2))]] : List va_W).flatten) (As := [.ref o, .ref kv, .ref kb, .ref kg, .int (nI (y % 7)), .int (nI ((y / 7) % 8)), .int (nI (((y / 7) / 8) % 2)), .int 0]) (rest := []) lk_L_102 (c_L_isCell l D _ o z s kv kb kg kn kt ka kw kq xv xb xg xn xt xa xw xq (y % 7) ((y / 7) % 8) (((y / 7) / 8) % 2) 0 (by omega) (by omega) (by omega) (by omega) K hL hz) FocU.all rfl hl.1 (Nat.le_of_ble_eq_true rfl) ⟨Nat.le_of_ble_eq_true rfl, Nat.le_of_ble_eq_true rfl⟩ rfl dL_isActed_638 ⟨Nat.le_refl _, Nat.le_refl _⟩ (fun u9 H locs hu9 hw => ?_)
                    exact r_retU X hw hk u9 hret rfl rfl ⟨hu9.1, hu9.2.mono (Nat.le_succ K)⟩ rfl dL_isActed_641
                  · skip
                    refine lv_iconst (v := 1) hx hb dL_isActed_633 (by decide) ?_
                    refine lv_goto (tgt := 638) hx hb dL_isActed_634 (by decide) ?_
                    refine r_callSU X hw (W1 := fun (u : US) => ([OB D o u.1 u.2.1, [(kv, .inl (D.1 100, 7, .inl u.2.2.2.2.1.1)), (kb, .inl (D.1 100, 7, .inl u.2.2.1)), (kg, .inl (D.1 100, 7, .inl u.2.2.2.1)), (kn, .inl (D.1 100, 7, .inl u.2.2.2.2.1.2.1)), (kt, .inl (D.1 100, 11, .inl u.2.2.2.2.1.2.2.1)), (ka, .inl (D.1 100, 27, .inl u.2.2.2.2.1.2.2.2)), (kw, .inl (D.1 100, 64, .inl u.2.2.2.2.2.1)), (kq, .inl (D.1 100, 14, .inl u.2.2.2.2.2.2))]] : List va_W).flatten) (As := [.ref o, .ref kv, .ref kb, .ref kg, .int (nI (y % 7)), .int (nI ((y / 7) % 8)), .int (nI (((y / 7) / 8) % 2)), .int 1]) (rest := []) lk_L_102 (c_L_isCell l D _ o z s kv kb kg kn kt ka kw kq xv xb xg xn xt xa xw xq (y % 7) ((y / 7) % 8) (((y / 7) / 8) % 2) 1 (by omega) (by omega) (by omega) (by omega) K hL hz) FocU.all rfl hl.1 (Nat.le_of_ble_eq_true rfl) ⟨Nat.le_of_ble_eq_true rfl, Nat.le_of_ble_eq_true rfl⟩ rfl dL_isActed_638 ⟨Nat.le_refl _, Nat.le_refl _⟩ (fun u9 H locs hu9 hw => ?_)
                    exact r_retU X hw hk u9 hret rfl rfl ⟨hu9.1, hu9.2.mono (Nat.le_succ K)⟩ rfl dL_isActed_641
              · skip
                refine lv_aload hx hb dL_isActed_542 (lv_at hl 8 rfl) ?_
                refine lv_bipush (v := 7) hx hb dL_isActed_544 (by decide) ?_
                refine r_iald X hw (f := xa) 7 (m_fl 1 rfl (m_at 5 rfl)) rfl (by decide) (by decide) dL_isActed_546 ?_
                refine lv_iconst (v := 2) hx hb dL_isActed_547 (by decide) ?_
                refine lv_aload hx hb dL_isActed_548 (lv_at hl 8 rfl) ?_
                refine lv_bipush (v := 16) hx hb dL_isActed_550 (by decide) ?_
                refine r_iald X hw (f := xa) 16 (m_fl 1 rfl (m_at 5 rfl)) rfl (by decide) (by decide) dL_isActed_552 ?_
                refine lv_imul hx hb dL_isActed_553 ?_
                refine lv_iadd hx hb dL_isActed_554 ?_
                refine lv_iconst (v := 4) hx hb dL_isActed_555 (by decide) ?_
                refine lv_aload hx hb dL_isActed_556 (lv_at hl 8 rfl) ?_
                refine lv_bipush (v := 25) hx hb dL_isActed_558 (by decide) ?_
                refine r_iald X hw (f := xa) 25 (m_fl 1 rfl (m_at 5 rfl)) rfl (by decide) (by decide) dL_isActed_560 ?_
                refine lv_imul hx hb dL_isActed_561 ?_
                refine lv_iadd hx hb dL_isActed_562 ?_
                refine lv_istore (lv' := [(13, .int (((xa 7) + (2 * (xa 16))) + (4 * (xa 25)))), (12, .int (nI (y / 7))), (11, .int (nI (y % 7))), (0, .ref o), (1, .ref kv), (2, .ref kb), (3, .ref kg), (4, .ref kn), (5, .ref kt), (6, .ref ka), (7, .ref kw), (8, .ref kq), (9, .int (nI way)), (10, .int (nI y))]) hx hb dL_isActed_563 hl (by decide) rfl (fun ls hl => ?_)
                refine lv_aload hx hb dL_isActed_565 (lv_at hl 9 rfl) ?_
                refine lv_bipush (v := 7) hx hb dL_isActed_567 (by decide) ?_
                refine lv_iconst (v := 0) hx hb dL_isActed_569 (by decide) ?_
                refine r_iast X hw (ws' := ([OB D o z s, [(kv, .inl (D.1 100, 7, .inl xv)), (kb, .inl (D.1 100, 7, .inl xb)), (kg, .inl (D.1 100, 7, .inl xg)), (kn, .inl (D.1 100, 7, .inl xn)), (kt, .inl (D.1 100, 11, .inl xt)), (ka, .inl (D.1 100, 27, .inl (upd xa 7 0))), (kw, .inl (D.1 100, 64, .inl xw)), (kq, .inl (D.1 100, 14, .inl xq))]] : List va_W).flatten) 7 rfl (by decide) (by decide) (Foc.trans (Foc.at1 1 rfl rfl (ce rfl rfl)) (Foc.cell 5 rfl rfl (ce rfl (ce rfl (ce rfl (ce rfl (ce rfl (ce rfl (ce rfl rfl))))))))) dL_isActed_570 (fun H locs hw => ?_)
                refine lv_aload hx hb dL_isActed_571 (lv_at hl 9 rfl) ?_
                refine lv_bipush (v := 16) hx hb dL_isActed_573 (by decide) ?_
                refine lv_iconst (v := 0) hx hb dL_isActed_575 (by decide) ?_
                refine r_iast X hw (ws' := ([OB D o z s, [(kv, .inl (D.1 100, 7, .inl xv)), (kb, .inl (D.1 100, 7, .inl xb)), (kg, .inl (D.1 100, 7, .inl xg)), (kn, .inl (D.1 100, 7, .inl xn)), (kt, .inl (D.1 100, 11, .inl xt)), (ka, .inl (D.1 100, 27, .inl (upd (upd xa 7 0) 16 0))), (kw, .inl (D.1 100, 64, .inl xw)), (kq, .inl (D.1 100, 14, .inl xq))]] : List va_W).flatten) 16 rfl (by decide) (by decide) (Foc.trans (Foc.at1 1 rfl rfl (ce rfl rfl)) (Foc.cell 5 rfl rfl (ce rfl (ce rfl (ce rfl (ce rfl (ce rfl (ce rfl (ce rfl rfl))))))))) dL_isActed_576 (fun H locs hw => ?_)
                refine lv_aload hx hb dL_isActed_577 (lv_at hl 9 rfl) ?_
                refine lv_bipush (v := 25) hx hb dL_isActed_579 (by decide) ?_
                refine lv_iconst (v := 0) hx hb dL_isActed_581 (by decide) ?_
                refine r_iast X hw (ws' := ([OB D o z s, [(kv, .inl (D.1 100, 7, .inl xv)), (kb, .inl (D.1 100, 7, .inl xb)), (kg, .inl (D.1 100, 7, .inl xg)), (kn, .inl (D.1 100, 7, .inl xn)), (kt, .inl (D.1 100, 11, .inl xt)), (ka, .inl (D.1 100, 27, .inl (upd (upd (upd xa 7 0) 16 0) 25 0))), (kw, .inl (D.1 100, 64, .inl xw)), (kq, .inl (D.1 100, 14, .inl xq))]] : List va_W).flatten) 25 rfl (by decide) (by decide) (Foc.trans (Foc.at1 1 rfl rfl (ce rfl rfl)) (Foc.cell 5 rfl rfl (ce rfl (ce rfl (ce rfl (ce rfl (ce rfl (ce rfl (ce rfl rfl))))))))) dL_isActed_582 (fun H locs hw => ?_)
                refine lv_aload_n hx hb dL_isActed_583 rfl (lv_at hl 3 rfl) ?_
                obtain ⟨z1, s1, hz1, hL1, hM⟩ := k_clearL o hL hz 
                refine r_callV X hw (ws' := ([OB D o z1 s1, [(kv, .inl (D.1 100, 7, .inl xv)), (kb, .inl (D.1 100, 7, .inl xb)), (kg, .inl (D.1 100, 7, .inl xg)), (kn, .inl (D.1 100, 7, .inl xn)), (kt, .inl (D.1 100, 11, .inl xt)), (ka, .inl (D.1 100, 27, .inl (upd (upd (upd xa 7 0) 16 0) 25 0))), (kw, .inl (D.1 100, 64, .inl xw)), (kq, .inl (D.1 100, 14, .inl xq))]] : List va_W).flatten) (As := []) (rest := []) lk_L_98 (hM l D _) (Foc.at1 0 rfl rfl (ce rfl rfl)) (m_fl 0 rfl (OB_mem D o z s)) rfl hl.1 (Nat.le_of_ble_eq_true rfl) ⟨Nat.le_of_ble_eq_true rfl, Nat.le_of_ble_eq_true rfl⟩ rfl dL_isActed_584 ⟨Nat.le_refl _, Nat.le_refl _⟩ (fun H locs hw => ?_)
                refine lv_iload hx hb dL_isActed_587 (lv_at hl 0 rfl) ?_
                refine lv_icmp_ne (tgt := 596) hx hb dL_isActed_589 (by decide) (fun h => absurd rfl h) (fun _ => ?_)
                refine lv_iconst (v := 1) hx hb dL_isActed_592 (by decide) ?_
                refine lv_goto (tgt := 597) hx hb dL_isActed_593 (by decide) ?_
                exact r_retU X hw hk (z1, s1, xb, xg, (xv, xn, xt, upd (upd (upd xa 7 0) 16 0) 25 0), xw, xq) hret rfl rfl ⟨hz1, hL1.mono (Nat.le_succ K)⟩ rfl dL_isActed_597
            · skip
              refine lv_iload hx hb dL_isActed_437 (lv_at hl 12 rfl) ?_
              refine lv_iconst (v := 3) hx hb dL_isActed_439 (by decide) ?_
              refine r_remN hx hb y 3 rfl rfl (by omega) (by decide) (by decide) dL_isActed_440 ?_
              refine lv_istore (lv' := [(13, .int (nI (y % 3))), (12, .int (nI (y / 7))), (11, .int (nI (y % 7))), (0, .ref o), (1, .ref kv), (2, .ref kb), (3, .ref kg), (4, .ref kn), (5, .ref kt), (6, .ref ka), (7, .ref kw), (8, .ref kq), (9, .int (nI way)), (10, .int (nI y))]) hx hb dL_isActed_441 hl (by decide) rfl (fun ls hl => ?_)
              refine lv_iload hx hb dL_isActed_443 (lv_at hl 1 rfl) ?_
              refine lv_bipush (v := 33) hx hb dL_isActed_445 (by decide) ?_
              refine r_remN hx hb (y / 7) 33 rfl rfl (by omega) (by decide) (by decide) dL_isActed_447 ?_
              refine lv_iconst (v := 1) hx hb dL_isActed_448 (by decide) ?_
              by_cases g15 : (y / 7) % 33 = 0
              · skip
                rw [show nI ((y / 7) % 33) = 0 from by rw [g15]; rfl]
                refine lv_isub hx hb dL_isActed_449 ?_
                rw [show (0 : Int32) - 1 = -1 from rfl]
                refine lv_istore (lv' := [(14, .int (-1)), (13, .int (nI (y % 3))), (12, .int (nI (y / 7))), (11, .int (nI (y % 7))), (0, .ref o), (1, .ref kv), (2, .ref kb), (3, .ref kg), (4, .ref kn), (5, .ref kt), (6, .ref ka), (7, .ref kw), (8, .ref kq), (9, .int (nI way)), (10, .int (nI y))]) hx hb dL_isActed_450 hl (by decide) rfl (fun ls hl => ?_)
                refine lv_aload hx hb dL_isActed_452 (lv_at hl 10 rfl) ?_
                refine lv_bipush (v := 9) hx hb dL_isActed_454 (by decide) ?_
                refine lv_iload hx hb dL_isActed_456 (lv_at hl 1 rfl) ?_
                refine r_mulN hx hb 9 (y % 3) rfl rfl dL_isActed_458 ?_
                refine lv_bipush (v := 6) hx hb dL_isActed_459 (by decide) ?_
                refine r_addN hx hb (9 * (y % 3)) 6 rfl rfl dL_isActed_461 ?_
                refine r_iald X hw (f := xa) (9 * (y % 3) + 6) (m_fl 1 rfl (m_at 5 rfl)) rfl (by omega) (by decide) dL_isActed_462 ?_
                refine lv_istore (lv' := [(15, .int (xa (9 * (y % 3) + 6))), (14, .int (-1)), (13, .int (nI (y % 3))), (12, .int (nI (y / 7))), (11, .int (nI (y % 7))), (0, .ref o), (1, .ref kv), (2, .ref kb), (3, .ref kg), (4, .ref kn), (5, .ref kt), (6, .ref ka), (7, .ref kw), (8, .ref kq), (9, .int (nI way)), (10, .int (nI y))]) hx hb dL_isActed_463 hl (by decide) rfl (fun ls hl => ?_)
                refine lv_aload hx hb dL_isActed_465 (lv_at hl 11 rfl) ?_
                refine lv_bipush (v := 9) hx hb dL_isActed_467 (by decide) ?_
                refine lv_iload hx hb dL_isActed_469 (lv_at hl 2 rfl) ?_
                refine r_mulN hx hb 9 (y % 3) rfl rfl dL_isActed_471 ?_
                refine lv_bipush (v := 6) hx hb dL_isActed_472 (by decide) ?_
                refine r_addN hx hb (9 * (y % 3)) 6 rfl rfl dL_isActed_474 ?_
                refine lv_iload hx hb dL_isActed_475 (lv_at hl 1 rfl) ?_
                refine lv_if_ge (tgt := 484) hx hb dL_isActed_477 (by decide) (fun h => absurd h (by decide)) (fun _ => ?_)
                refine lv_iconst (v := 0) hx hb dL_isActed_480 (by decide) ?_
                refine lv_goto (tgt := 485) hx hb dL_isActed_481 (by decide) ?_
                refine r_iast X hw (ws' := ([OB D o z s, [(kv, .inl (D.1 100, 7, .inl xv)), (kb, .inl (D.1 100, 7, .inl xb)), (kg, .inl (D.1 100, 7, .inl xg)), (kn, .inl (D.1 100, 7, .inl xn)), (kt, .inl (D.1 100, 11, .inl xt)), (ka, .inl (D.1 100, 27, .inl (upd xa (9 * (y % 3) + 6) 0))), (kw, .inl (D.1 100, 64, .inl xw)), (kq, .inl (D.1 100, 14, .inl xq))]] : List va_W).flatten) (9 * (y % 3) + 6) rfl (by omega) (by decide) (Foc.trans (Foc.at1 1 rfl rfl (ce rfl rfl)) (Foc.cell 5 rfl rfl (ce rfl (ce rfl (ce rfl (ce rfl (ce rfl (ce rfl (ce rfl rfl))))))))) dL_isActed_485 (fun H locs hw => ?_)
                refine lv_aload hx hb dL_isActed_486 (lv_at hl 11 rfl) ?_
                refine lv_bipush (v := 9) hx hb dL_isActed_488 (by decide) ?_
                refine lv_iload hx hb dL_isActed_490 (lv_at hl 2 rfl) ?_
                refine r_mulN hx hb 9 (y % 3) rfl rfl dL_isActed_492 ?_
                refine lv_iconst (v := 5) hx hb dL_isActed_493 (by decide) ?_
                refine r_addN hx hb (9 * (y % 3)) 5 rfl rfl dL_isActed_494 ?_
                refine lv_iload hx hb dL_isActed_495 (lv_at hl 1 rfl) ?_
                refine lv_if_ge (tgt := 513) hx hb dL_isActed_497 (by decide) (fun h => absurd h (by decide)) (fun _ => ?_)
                refine lv_aload hx hb dL_isActed_500 (lv_at hl 11 rfl) ?_
                refine lv_bipush (v := 9) hx hb dL_isActed_502 (by decide) ?_
                refine lv_iload hx hb dL_isActed_504 (lv_at hl 2 rfl) ?_
                refine r_mulN hx hb 9 (y % 3) rfl rfl dL_isActed_506 ?_
                refine lv_iconst (v := 5) hx hb dL_isActed_507 (by decide) ?_
                refine r_addN hx hb (9 * (y % 3)) 5 rfl rfl dL_isActed_508 ?_
                refine r_iald X hw (f := upd xa (9 * (y % 3) + 6) 0) (9 * (y % 3) + 5) (m_fl 1 rfl (m_at 5 rfl)) rfl (by omega) (by decide) dL_isActed_509 ?_
                refine lv_goto (tgt := 515) hx hb dL_isActed_510 (by decide) ?_
                refine r_iast X hw (ws' := ([OB D o z s, [(kv, .inl (D.1 100, 7, .inl xv)), (kb, .inl (D.1 100, 7, .inl xb)), (kg, .inl (D.1 100, 7, .inl xg)), (kn, .inl (D.1 100, 7, .inl xn)), (kt, .inl (D.1 100, 11, .inl xt)), (ka, .inl (D.1 100, 27, .inl (upd (upd xa (9 * (y % 3) + 6) 0) (9 * (y % 3) + 5) ((upd xa (9 * (y % 3) + 6) 0) (9 * (y % 3) + 5))))), (kw, .inl (D.1 100, 64, .inl xw)), (kq, .inl (D.1 100, 14, .inl xq))]] : List va_W).flatten) (9 * (y % 3) + 5) rfl (by omega) (by decide) (Foc.trans (Foc.at1 1 rfl rfl (ce rfl rfl)) (Foc.cell 5 rfl rfl (ce rfl (ce rfl (ce rfl (ce rfl (ce rfl (ce rfl (ce rfl rfl))))))))) dL_isActed_515 (fun H locs hw => ?_)
                refine lv_aload_n hx hb dL_isActed_516 rfl (lv_at hl 5 rfl) ?_
                refine lv_iload hx hb dL_isActed_517 (lv_at hl 2 rfl) ?_
                refine lv_iload hx hb dL_isActed_519 (lv_at hl 1 rfl) ?_
                obtain ⟨z1, s1, hz1, hL1, hM⟩ := k_armML o hL hz (a := y % 3) (by omega)
                refine r_callV X hw (ws' := ([OB D o z1 s1, [(kv, .inl (D.1 100, 7, .inl xv)), (kb, .inl (D.1 100, 7, .inl xb)), (kg, .inl (D.1 100, 7, .inl xg)), (kn, .inl (D.1 100, 7, .inl xn)), (kt, .inl (D.1 100, 11, .inl xt)), (ka, .inl (D.1 100, 27, .inl (upd (upd xa (9 * (y % 3) + 6) 0) (9 * (y % 3) + 5) ((upd xa (9 * (y % 3) + 6) 0) (9 * (y % 3) + 5))))), (kw, .inl (D.1 100, 64, .inl xw)), (kq, .inl (D.1 100, 14, .inl xq))]] : List va_W).flatten) (As := [.int (nI (y % 3)), .int (-1)]) (rest := []) lk_L_95 (hM l D _) (Foc.at1 0 rfl rfl (ce rfl rfl)) (m_fl 0 rfl (OB_mem D o z s)) rfl hl.1 (Nat.le_of_ble_eq_true rfl) ⟨Nat.le_of_ble_eq_true rfl, Nat.le_of_ble_eq_true rfl⟩ rfl dL_isActed_521 ⟨Nat.le_refl _, Nat.le_refl _⟩ (fun H locs hw => ?_)
                refine lv_iload hx hb dL_isActed_524 (lv_at hl 0 rfl) ?_
                refine lv_icmp_ne (tgt := 533) hx hb dL_isActed_526 (by decide) (fun h => absurd rfl h) (fun _ => ?_)
                refine lv_iconst (v := 1) hx hb dL_isActed_529 (by decide) ?_
                refine lv_goto (tgt := 534) hx hb dL_isActed_530 (by decide) ?_
                exact r_retU X hw hk (z1, s1, xb, xg, (xv, xn, xt, upd (upd xa (9 * (y % 3) + 6) 0) (9 * (y % 3) + 5) ((upd xa (9 * (y % 3) + 6) 0) (9 * (y % 3) + 5))), xw, xq) hret rfl rfl ⟨hz1, hL1.mono (Nat.le_succ K)⟩ rfl dL_isActed_534
              · skip
                refine r_subN hx hb ((y / 7) % 33) 1 rfl rfl (by omega) dL_isActed_449 ?_
                refine lv_istore (lv' := [(14, .int (nI (((y / 7) % 33) - 1))), (13, .int (nI (y % 3))), (12, .int (nI (y / 7))), (11, .int (nI (y % 7))), (0, .ref o), (1, .ref kv), (2, .ref kb), (3, .ref kg), (4, .ref kn), (5, .ref kt), (6, .ref ka), (7, .ref kw), (8, .ref kq), (9, .int (nI way)), (10, .int (nI y))]) hx hb dL_isActed_450 hl (by decide) rfl (fun ls hl => ?_)
                refine lv_aload hx hb dL_isActed_452 (lv_at hl 10 rfl) ?_
                refine lv_bipush (v := 9) hx hb dL_isActed_454 (by decide) ?_
                refine lv_iload hx hb dL_isActed_456 (lv_at hl 1 rfl) ?_
                refine r_mulN hx hb 9 (y % 3) rfl rfl dL_isActed_458 ?_
                refine lv_bipush (v := 6) hx hb dL_isActed_459 (by decide) ?_
                refine r_addN hx hb (9 * (y % 3)) 6 rfl rfl dL_isActed_461 ?_
                refine r_iald X hw (f := xa) (9 * (y % 3) + 6) (m_fl 1 rfl (m_at 5 rfl)) rfl (by omega) (by decide) dL_isActed_462 ?_
                refine lv_istore (lv' := [(15, .int (xa (9 * (y % 3) + 6))), (14, .int (nI (((y / 7) % 33) - 1))), (13, .int (nI (y % 3))), (12, .int (nI (y / 7))), (11, .int (nI (y % 7))), (0, .ref o), (1, .ref kv), (2, .ref kb), (3, .ref kg), (4, .ref kn), (5, .ref kt), (6, .ref ka), (7, .ref kw), (8, .ref kq), (9, .int (nI way)), (10, .int (nI y))]) hx hb dL_isActed_463 hl (by decide) rfl (fun ls hl => ?_)
                refine lv_aload hx hb dL_isActed_465 (lv_at hl 11 rfl) ?_
                refine lv_bipush (v := 9) hx hb dL_isActed_467 (by decide) ?_
                refine lv_iload hx hb dL_isActed_469 (lv_at hl 2 rfl) ?_
                refine r_mulN hx hb 9 (y % 3) rfl rfl dL_isActed_471 ?_
                refine lv_bipush (v := 6) hx hb dL_isActed_472 (by decide) ?_
                refine r_addN hx hb (9 * (y % 3)) 6 rfl rfl dL_isActed_474 ?_
                refine lv_iload hx hb dL_isActed_475 (lv_at hl 1 rfl) ?_
                refine lv_if_ge (tgt := 484) hx hb dL_isActed_477 (by decide) (fun _ => ?_) (fun h => absurd (Int32.not_lt.mp (nI_pos (by omega))) h)
                refine lv_iconst (v := 1) hx hb dL_isActed_484 (by decide) ?_
                refine r_iast X hw (ws' := ([OB D o z s, [(kv, .inl (D.1 100, 7, .inl xv)), (kb, .inl (D.1 100, 7, .inl xb)), (kg, .inl (D.1 100, 7, .inl xg)), (kn, .inl (D.1 100, 7, .inl xn)), (kt, .inl (D.1 100, 11, .inl xt)), (ka, .inl (D.1 100, 27, .inl (upd xa (9 * (y % 3) + 6) 1))), (kw, .inl (D.1 100, 64, .inl xw)), (kq, .inl (D.1 100, 14, .inl xq))]] : List va_W).flatten) (9 * (y % 3) + 6) rfl (by omega) (by decide) (Foc.trans (Foc.at1 1 rfl rfl (ce rfl rfl)) (Foc.cell 5 rfl rfl (ce rfl (ce rfl (ce rfl (ce rfl (ce rfl (ce rfl (ce rfl rfl))))))))) dL_isActed_485 (fun H locs hw => ?_)
                refine lv_aload hx hb dL_isActed_486 (lv_at hl 11 rfl) ?_
                refine lv_bipush (v := 9) hx hb dL_isActed_488 (by decide) ?_
                refine lv_iload hx hb dL_isActed_490 (lv_at hl 2 rfl) ?_
                refine r_mulN hx hb 9 (y % 3) rfl rfl dL_isActed_492 ?_
                refine lv_iconst (v := 5) hx hb dL_isActed_493 (by decide) ?_
                refine r_addN hx hb (9 * (y % 3)) 5 rfl rfl dL_isActed_494 ?_
                refine lv_iload hx hb dL_isActed_495 (lv_at hl 1 rfl) ?_
                refine lv_if_ge (tgt := 513) hx hb dL_isActed_497 (by decide) (fun _ => ?_) (fun h => absurd (Int32.not_lt.mp (nI_pos (by omega))) h)
                refine lv_iload hx hb dL_isActed_513 (lv_at hl 1 rfl) ?_
                refine r_iast X hw (ws' := ([OB D o z s, [(kv, .inl (D.1 100, 7, .inl xv)), (kb, .inl (D.1 100, 7, .inl xb)), (kg, .inl (D.1 100, 7, .inl xg)), (kn, .inl (D.1 100, 7, .inl xn)), (kt, .inl (D.1 100, 11, .inl xt)), (ka, .inl (D.1 100, 27, .inl (upd (upd xa (9 * (y % 3) + 6) 1) (9 * (y % 3) + 5) (nI (((y / 7) % 33) - 1))))), (kw, .inl (D.1 100, 64, .inl xw)), (kq, .inl (D.1 100, 14, .inl xq))]] : List va_W).flatten) (9 * (y % 3) + 5) rfl (by omega) (by decide) (Foc.trans (Foc.at1 1 rfl rfl (ce rfl rfl)) (Foc.cell 5 rfl rfl (ce rfl (ce rfl (ce rfl (ce rfl (ce rfl (ce rfl (ce rfl rfl))))))))) dL_isActed_515 (fun H locs hw => ?_)
                refine lv_aload_n hx hb dL_isActed_516 rfl (lv_at hl 5 rfl) ?_
                refine lv_iload hx hb dL_isActed_517 (lv_at hl 2 rfl) ?_
                refine lv_iload hx hb dL_isActed_519 (lv_at hl 1 rfl) ?_
                obtain ⟨z1, s1, hz1, hL1, hM⟩ := k_armL o hL hz (a := y % 3) (y := ((y / 7) % 33) - 1) (by omega) (by omega)
                refine r_callV X hw (ws' := ([OB D o z1 s1, [(kv, .inl (D.1 100, 7, .inl xv)), (kb, .inl (D.1 100, 7, .inl xb)), (kg, .inl (D.1 100, 7, .inl xg)), (kn, .inl (D.1 100, 7, .inl xn)), (kt, .inl (D.1 100, 11, .inl xt)), (ka, .inl (D.1 100, 27, .inl (upd (upd xa (9 * (y % 3) + 6) 1) (9 * (y % 3) + 5) (nI (((y / 7) % 33) - 1))))), (kw, .inl (D.1 100, 64, .inl xw)), (kq, .inl (D.1 100, 14, .inl xq))]] : List va_W).flatten) (As := [.int (nI (y % 3)), .int (nI (((y / 7) % 33) - 1))]) (rest := []) lk_L_95 (hM l D _) (Foc.at1 0 rfl rfl (ce rfl rfl)) (m_fl 0 rfl (OB_mem D o z s)) rfl hl.1 (Nat.le_of_ble_eq_true rfl) ⟨Nat.le_of_ble_eq_true rfl, Nat.le_of_ble_eq_true rfl⟩ rfl dL_isActed_521 ⟨Nat.le_refl _, Nat.le_refl _⟩ (fun H locs hw => ?_)
                refine lv_iload hx hb dL_isActed_524 (lv_at hl 0 rfl) ?_
                refine lv_icmp_ne (tgt := 533) hx hb dL_isActed_526 (by decide) (fun h => absurd rfl h) (fun _ => ?_)
                refine lv_iconst (v := 1) hx hb dL_isActed_529 (by decide) ?_
                refine lv_goto (tgt := 534) hx hb dL_isActed_530 (by decide) ?_
                exact r_retU X hw hk (z1, s1, xb, xg, (xv, xn, xt, upd (upd xa (9 * (y % 3) + 6) 1) (9 * (y % 3) + 5) (nI (((y / 7) % 33) - 1))), xw, xq) hret rfl rfl ⟨hz1, hL1.mono (Nat.le_succ K)⟩ rfl dL_isActed_534
          · skip
            refine lv_iload hx hb dL_isActed_342 (lv_at hl 12 rfl) ?_
            refine lv_iconst (v := 3) hx hb dL_isActed_344 (by decide) ?_
            refine r_remN hx hb y 3 rfl rfl (by omega) (by decide) (by decide) dL_isActed_345 ?_
            refine lv_istore (lv' := [(13, .int (nI (y % 3))), (12, .int (nI (y / 7))), (11, .int (nI (y % 7))), (0, .ref o), (1, .ref kv), (2, .ref kb), (3, .ref kg), (4, .ref kn), (5, .ref kt), (6, .ref ka), (7, .ref kw), (8, .ref kq), (9, .int (nI way)), (10, .int (nI y))]) hx hb dL_isActed_346 hl (by decide) rfl (fun ls hl => ?_)
            refine lv_iload hx hb dL_isActed_348 (lv_at hl 1 rfl) ?_
            refine lv_iconst (v := 5) hx hb dL_isActed_350 (by decide) ?_
            refine r_remN hx hb (y / 7) 5 rfl rfl (by omega) (by decide) (by decide) dL_isActed_351 ?_
            refine lv_istore (lv' := [(14, .int (nI ((y / 7) % 5))), (13, .int (nI (y % 3))), (12, .int (nI (y / 7))), (11, .int (nI (y % 7))), (0, .ref o), (1, .ref kv), (2, .ref kb), (3, .ref kg), (4, .ref kn), (5, .ref kt), (6, .ref ka), (7, .ref kw), (8, .ref kq), (9, .int (nI way)), (10, .int (nI y))]) hx hb dL_isActed_352 hl (by decide) rfl (fun ls hl => ?_)
            refine lv_aload hx hb dL_isActed_354 (lv_at hl 10 rfl) ?_
            refine lv_bipush (v := 9) hx hb dL_isActed_356 (by decide) ?_
            refine lv_iload hx hb dL_isActed_358 (lv_at hl 1 rfl) ?_
            refine r_mulN hx hb 9 (y % 3) rfl rfl dL_isActed_360 ?_
            refine lv_iload hx hb dL_isActed_361 (lv_at hl 0 rfl) ?_
            refine r_addN hx hb (9 * (y % 3)) ((y / 7) % 5) rfl rfl dL_isActed_363 ?_
            refine r_iald X hw (f := xa) (9 * (y % 3) + (y / 7) % 5) (m_fl 1 rfl (m_at 5 rfl)) rfl (by omega) (by decide) dL_isActed_364 ?_
            refine lv_istore (lv' := [(15, .int (xa (9 * (y % 3) + (y / 7) % 5))), (14, .int (nI ((y / 7) % 5))), (13, .int (nI (y % 3))), (12, .int (nI (y / 7))), (11, .int (nI (y % 7))), (0, .ref o), (1, .ref kv), (2, .ref kb), (3, .ref kg), (4, .ref kn), (5, .ref kt), (6, .ref ka), (7, .ref kw), (8, .ref kq), (9, .int (nI way)), (10, .int (nI y))]) hx hb dL_isActed_365 hl (by decide) rfl (fun ls hl => ?_)
            refine lv_aload hx hb dL_isActed_367 (lv_at hl 11 rfl) ?_
            refine lv_bipush (v := 9) hx hb dL_isActed_369 (by decide) ?_
            refine lv_iload hx hb dL_isActed_371 (lv_at hl 2 rfl) ?_
            refine r_mulN hx hb 9 (y % 3) rfl rfl dL_isActed_373 ?_
            refine lv_iload hx hb dL_isActed_374 (lv_at hl 1 rfl) ?_
            refine r_addN hx hb (9 * (y % 3)) ((y / 7) % 5) rfl rfl dL_isActed_376 ?_
            refine lv_iload hx hb dL_isActed_377 (lv_at hl 3 rfl) ?_
            refine lv_iconst (v := 2) hx hb dL_isActed_379 (by decide) ?_
            refine r_remN hx hb (y / 7) 2 rfl rfl (by omega) (by decide) (by decide) dL_isActed_380 ?_
            refine r_ifn0N (tgt := 391) hx hb ((y / 7) % 2) rfl (by omega) dL_isActed_381 (by decide) (fun c16 => ?_) (fun c16 => ?_)
            · skip
              refine lv_iload hx hb dL_isActed_391 (lv_at hl 3 rfl) ?_
              refine lv_iconst (v := 2) hx hb dL_isActed_393 (by decide) ?_
              refine r_divN hx hb (y / 7) 2 rfl rfl (by omega) (by decide) (by decide) dL_isActed_394 ?_
              refine lv_sipush (v := 256) hx hb dL_isActed_395 (by decide) ?_
              refine r_remN hx hb ((y / 7) / 2) 256 rfl rfl (by omega) (by decide) (by decide) dL_isActed_398 ?_
              refine r_iast X hw (ws' := ([OB D o z s, [(kv, .inl (D.1 100, 7, .inl xv)), (kb, .inl (D.1 100, 7, .inl xb)), (kg, .inl (D.1 100, 7, .inl xg)), (kn, .inl (D.1 100, 7, .inl xn)), (kt, .inl (D.1 100, 11, .inl xt)), (ka, .inl (D.1 100, 27, .inl (upd xa (9 * (y % 3) + (y / 7) % 5) (nI (((y / 7) / 2) % 256))))), (kw, .inl (D.1 100, 64, .inl xw)), (kq, .inl (D.1 100, 14, .inl xq))]] : List va_W).flatten) (9 * (y % 3) + (y / 7) % 5) rfl (by omega) (by decide) (Foc.trans (Foc.at1 1 rfl rfl (ce rfl rfl)) (Foc.cell 5 rfl rfl (ce rfl (ce rfl (ce rfl (ce rfl (ce rfl (ce rfl (ce rfl rfl))))))))) dL_isActed_399 (fun H locs hw => ?_)
              refine lv_aload_n hx hb dL_isActed_400 rfl (lv_at hl 5 rfl) ?_
              refine lv_iload hx hb dL_isActed_401 (lv_at hl 2 rfl) ?_
              refine lv_iload hx hb dL_isActed_403 (lv_at hl 1 rfl) ?_
              refine lv_aload hx hb dL_isActed_405 (lv_at hl 11 rfl) ?_
              refine lv_bipush (v := 9) hx hb dL_isActed_407 (by decide) ?_
              refine lv_iload hx hb dL_isActed_409 (lv_at hl 2 rfl) ?_
              refine r_mulN hx hb 9 (y % 3) rfl rfl dL_isActed_411 ?_
              refine lv_iload hx hb dL_isActed_412 (lv_at hl 1 rfl) ?_
              refine r_addN hx hb (9 * (y % 3)) ((y / 7) % 5) rfl rfl dL_isActed_414 ?_
              refine r_iald X hw (f := upd xa (9 * (y % 3) + (y / 7) % 5) (nI (((y / 7) / 2) % 256))) (9 * (y % 3) + (y / 7) % 5) (m_fl 1 rfl (m_at 5 rfl)) rfl (by omega) (by decide) dL_isActed_415 ?_
              rw [upd_eq]
              obtain ⟨z1, s1, hz1, hL1, hM⟩ := k_alarmL o hL hz (a := y % 3) (i := (y / 7) % 5) (v := (((y / 7) / 2) % 256)) (by omega) (by omega) (by omega)
              refine r_callV X hw (ws' := ([OB D o z1 s1, [(kv, .inl (D.1 100, 7, .inl xv)), (kb, .inl (D.1 100, 7, .inl xb)), (kg, .inl (D.1 100, 7, .inl xg)), (kn, .inl (D.1 100, 7, .inl xn)), (kt, .inl (D.1 100, 11, .inl xt)), (ka, .inl (D.1 100, 27, .inl (upd xa (9 * (y % 3) + (y / 7) % 5) (nI (((y / 7) / 2) % 256))))), (kw, .inl (D.1 100, 64, .inl xw)), (kq, .inl (D.1 100, 14, .inl xq))]] : List va_W).flatten) (As := [.int (nI (y % 3)), .int (nI ((y / 7) % 5)), .int (nI (((y / 7) / 2) % 256))]) (rest := []) lk_L_91 (hM l D _) (Foc.at1 0 rfl rfl (ce rfl rfl)) (m_fl 0 rfl (OB_mem D o z s)) rfl hl.1 (Nat.le_of_ble_eq_true rfl) ⟨Nat.le_of_ble_eq_true rfl, Nat.le_of_ble_eq_true rfl⟩ rfl dL_isActed_416 ⟨Nat.le_refl _, Nat.le_refl _⟩ (fun H locs hw => ?_)
              refine lv_iload hx hb dL_isActed_419 (lv_at hl 0 rfl) ?_
              refine lv_icmp_ne (tgt := 428) hx hb dL_isActed_421 (by decide) (fun h => absurd rfl h) (fun _ => ?_)
              refine lv_iconst (v := 1) hx hb dL_isActed_424 (by decide) ?_
              refine lv_goto (tgt := 429) hx hb dL_isActed_425 (by decide) ?_
              exact r_retU X hw hk (z1, s1, xb, xg, (xv, xn, xt, upd xa (9 * (y % 3) + (y / 7) % 5) (nI (((y / 7) / 2) % 256))), xw, xq) hret rfl rfl ⟨hz1, hL1.mono (Nat.le_succ K)⟩ rfl dL_isActed_429
            · skip
              refine lv_aload_n hx hb dL_isActed_384 rfl (lv_at hl 6 rfl) ?_
              refine lv_iload hx hb dL_isActed_385 (lv_at hl 1 rfl) ?_
              refine r_iald X hw (f := xv) ((y / 7) % 5) (m_fl 1 rfl (m_at 0 rfl)) rfl (by omega) (by decide) dL_isActed_387 ?_
              refine lv_goto (tgt := 399) hx hb dL_isActed_388 (by decide) ?_
              obtain ⟨v9, hv9, e9⟩ := (hL.1 (y / 7 % 5) (by omega)).2.2.2.2.1
              rw [show xv ((y / 7) % 5) = nI v9 from e9]
              refine r_iast X hw (ws' := ([OB D o z s, [(kv, .inl (D.1 100, 7, .inl xv)), (kb, .inl (D.1 100, 7, .inl xb)), (kg, .inl (D.1 100, 7, .inl xg)), (kn, .inl (D.1 100, 7, .inl xn)), (kt, .inl (D.1 100, 11, .inl xt)), (ka, .inl (D.1 100, 27, .inl (upd xa (9 * (y % 3) + (y / 7) % 5) (nI v9)))), (kw, .inl (D.1 100, 64, .inl xw)), (kq, .inl (D.1 100, 14, .inl xq))]] : List va_W).flatten) (9 * (y % 3) + (y / 7) % 5) rfl (by omega) (by decide) (Foc.trans (Foc.at1 1 rfl rfl (ce rfl rfl)) (Foc.cell 5 rfl rfl (ce rfl (ce rfl (ce rfl (ce rfl (ce rfl (ce rfl (ce rfl rfl))))))))) dL_isActed_399 (fun H locs hw => ?_)
              refine lv_aload_n hx hb dL_isActed_400 rfl (lv_at hl 5 rfl) ?_
              refine lv_iload hx hb dL_isActed_401 (lv_at hl 2 rfl) ?_
              refine lv_iload hx hb dL_isActed_403 (lv_at hl 1 rfl) ?_
              refine lv_aload hx hb dL_isActed_405 (lv_at hl 11 rfl) ?_
              refine lv_bipush (v := 9) hx hb dL_isActed_407 (by decide) ?_
              refine lv_iload hx hb dL_isActed_409 (lv_at hl 2 rfl) ?_
              refine r_mulN hx hb 9 (y % 3) rfl rfl dL_isActed_411 ?_
              refine lv_iload hx hb dL_isActed_412 (lv_at hl 1 rfl) ?_
              refine r_addN hx hb (9 * (y % 3)) ((y / 7) % 5) rfl rfl dL_isActed_414 ?_
              refine r_iald X hw (f := upd xa (9 * (y % 3) + (y / 7) % 5) (nI v9)) (9 * (y % 3) + (y / 7) % 5) (m_fl 1 rfl (m_at 5 rfl)) rfl (by omega) (by decide) dL_isActed_415 ?_
              rw [upd_eq]
              obtain ⟨z1, s1, hz1, hL1, hM⟩ := k_alarmL o hL hz (a := y % 3) (i := (y / 7) % 5) (v := v9) (by omega) (by omega) (by omega)
              refine r_callV X hw (ws' := ([OB D o z1 s1, [(kv, .inl (D.1 100, 7, .inl xv)), (kb, .inl (D.1 100, 7, .inl xb)), (kg, .inl (D.1 100, 7, .inl xg)), (kn, .inl (D.1 100, 7, .inl xn)), (kt, .inl (D.1 100, 11, .inl xt)), (ka, .inl (D.1 100, 27, .inl (upd xa (9 * (y % 3) + (y / 7) % 5) (nI v9)))), (kw, .inl (D.1 100, 64, .inl xw)), (kq, .inl (D.1 100, 14, .inl xq))]] : List va_W).flatten) (As := [.int (nI (y % 3)), .int (nI ((y / 7) % 5)), .int (nI v9)]) (rest := []) lk_L_91 (hM l D _) (Foc.at1 0 rfl rfl (ce rfl rfl)) (m_fl 0 rfl (OB_mem D o z s)) rfl hl.1 (Nat.le_of_ble_eq_true rfl) ⟨Nat.le_of_ble_eq_true rfl, Nat.le_of_ble_eq_true rfl⟩ rfl dL_isActed_416 ⟨Nat.le_refl _, Nat.le_refl _⟩ (fun H locs hw => ?_)
              refine lv_iload hx hb dL_isActed_419 (lv_at hl 0 rfl) ?_
              refine lv_icmp_ne (tgt := 428) hx hb dL_isActed_421 (by decide) (fun h => absurd rfl h) (fun _ => ?_)
              refine lv_iconst (v := 1) hx hb dL_isActed_424 (by decide) ?_
              refine lv_goto (tgt := 429) hx hb dL_isActed_425 (by decide) ?_
              exact r_retU X hw hk (z1, s1, xb, xg, (xv, xn, xt, upd xa (9 * (y % 3) + (y / 7) % 5) (nI v9)), xw, xq) hret rfl rfl ⟨hz1, hL1.mono (Nat.le_succ K)⟩ rfl dL_isActed_429
        · skip
          refine lv_iconst (v := 1) hx hb dL_isActed_252 (by decide) ?_
          refine lv_iload hx hb dL_isActed_253 (lv_at hl 12 rfl) ?_
          refine lv_iload hx hb dL_isActed_255 (lv_at hl 11 rfl) ?_
          refine lv_bipush (v := 14) hx hb dL_isActed_257 (by decide) ?_
          refine r_neN (tgt := 268) hx hb way 14 rfl rfl (by omega) (by omega) dL_isActed_259 (by decide) (fun c17 => ?_) (fun c17 => ?_)
          · skip
            refine lv_bipush (v := 40) hx hb dL_isActed_268 (by decide) ?_
            refine r_remN hx hb y 40 rfl rfl (by omega) (by decide) (by decide) dL_isActed_270 ?_
            refine r_addN hx hb 1 (y % 40) rfl rfl dL_isActed_271 ?_
            refine lv_istore (lv' := [(13, .int (nI (1 + y % 40))), (12, .int (nI (y / 7))), (11, .int (nI (y % 7))), (0, .ref o), (1, .ref kv), (2, .ref kb), (3, .ref kg), (4, .ref kn), (5, .ref kt), (6, .ref ka), (7, .ref kw), (8, .ref kq), (9, .int (nI way)), (10, .int (nI y))]) hx hb dL_isActed_272 hl (by decide) rfl (fun ls hl => ?_)
            refine lv_iconst (v := 0) hx hb dL_isActed_274 (by decide) ?_
            refine lv_istore (lv' := [(14, .int 0), (13, .int (nI (1 + y % 40))), (12, .int (nI (y / 7))), (11, .int (nI (y % 7))), (0, .ref o), (1, .ref kv), (2, .ref kb), (3, .ref kg), (4, .ref kn), (5, .ref kt), (6, .ref ka), (7, .ref kw), (8, .ref kq), (9, .int (nI way)), (10, .int (nI y))]) hx hb dL_isActed_275 hl (by decide) rfl (fun ls hl => ?_)
            refine lv_iconst (v := 0) hx hb dL_isActed_277 (by decide) ?_
            refine lv_istore (lv' := [(15, .int 0), (14, .int 0), (13, .int (nI (1 + y % 40))), (12, .int (nI (y / 7))), (11, .int (nI (y % 7))), (0, .ref o), (1, .ref kv), (2, .ref kb), (3, .ref kg), (4, .ref kn), (5, .ref kt), (6, .ref ka), (7, .ref kw), (8, .ref kq), (9, .int (nI way)), (10, .int (nI y))]) hx hb dL_isActed_278 hl (by decide) rfl (fun ls hl => ?_)
            have key280 : ∀ (n280 : Nat) (f : Nat) (x : Int32), (f ≤ 1 + y % 40) → (1 + y % 40 - f < n280) → (x = phN xb xg (xv, xn, xt, xa) f) → ∀ (H : Heap) (locs : List Loc) (ls : Array Slot), Wd D A st.heap H locs (([OB D o z s, [(kv, .inl (D.1 100, 7, .inl ((phF xb xg (xv, xn, xt, xa) f).1))), (kb, .inl (D.1 100, 7, .inl xb)), (kg, .inl (D.1 100, 7, .inl xg)), (kn, .inl (D.1 100, 7, .inl ((phF xb xg (xv, xn, xt, xa) f).2.1))), (kt, .inl (D.1 100, 11, .inl ((phF xb xg (xv, xn, xt, xa) f).2.2.1))), (ka, .inl (D.1 100, 27, .inl ((phF xb xg (xv, xn, xt, xa) f).2.2.2))), (kw, .inl (D.1 100, 64, .inl xw)), (kq, .inl (D.1 100, 14, .inl xq))]] : List va_W).flatten) → lv_has ls 16 [(0, .ref o), (1, .ref kv), (2, .ref kb), (3, .ref kg), (4, .ref kn), (5, .ref kt), (6, .ref ka), (7, .ref kw), (8, .ref kq), (9, .int (nI way)), (10, .int (nI y)), (11, .int (nI (y % 7))), (12, .int (nI (y / 7))), (13, .int (nI (1 + y % 40))), (14, .int x), (15, .int (nI f))] → W p l e (rmOf 9 0 0 225) st m args below meth c H locs 0 0 (QIU below args st D A 1 (postL (K + 1)) (fun (u : US) => ([OB D o u.1 u.2.1, [(kv, .inl (D.1 100, 7, .inl u.2.2.2.2.1.1)), (kb, .inl (D.1 100, 7, .inl u.2.2.1)), (kg, .inl (D.1 100, 7, .inl u.2.2.2.1)), (kn, .inl (D.1 100, 7, .inl u.2.2.2.2.1.2.1)), (kt, .inl (D.1 100, 11, .inl u.2.2.2.2.1.2.2.1)), (ka, .inl (D.1 100, 27, .inl u.2.2.2.2.1.2.2.2)), (kw, .inl (D.1 100, 64, .inl u.2.2.2.2.2.1)), (kq, .inl (D.1 100, 14, .inl u.2.2.2.2.2.2))]] : List va_W).flatten)) (F0 m 280 ls []) := by
              intro n280
              induction n280 with
              | zero => intro f x hf hm hx0; omega
              | succ n280 ih280 =>
                intro f x hf hm hx0 H locs ls hw hl
                refine lv_iload hx hb dL_isActed_280 (lv_at hl 15 rfl) ?_
                refine lv_iload hx hb dL_isActed_282 (lv_at hl 13 rfl) ?_
                refine r_geN (tgt := 318) hx hb f (1 + y % 40) rfl rfl (by omega) (by omega) dL_isActed_284 (by decide) (fun c18 => ?_) (fun c18 => ?_)
                · skip
                  have hfq : f = 1 + y % 40 := by omega
                  rw [hfq] at hw hx0
                  refine lv_aload_n hx hb dL_isActed_318 rfl (lv_at hl 0 rfl) ?_
                  refine lv_iload hx hb dL_isActed_319 (lv_at hl 13 rfl) ?_
                  obtain ⟨z1, s1, hz1, hL1, hM⟩ := k_passL o hL hz (n := y % 40) (by omega)
                  refine r_callV X hw (ws' := ([OB D o z1 s1, [(kv, .inl (D.1 100, 7, .inl ((phF xb xg (xv, xn, xt, xa) (1 + y % 40)).1))), (kb, .inl (D.1 100, 7, .inl xb)), (kg, .inl (D.1 100, 7, .inl xg)), (kn, .inl (D.1 100, 7, .inl ((phF xb xg (xv, xn, xt, xa) (1 + y % 40)).2.1))), (kt, .inl (D.1 100, 11, .inl ((phF xb xg (xv, xn, xt, xa) (1 + y % 40)).2.2.1))), (ka, .inl (D.1 100, 27, .inl ((phF xb xg (xv, xn, xt, xa) (1 + y % 40)).2.2.2))), (kw, .inl (D.1 100, 64, .inl xw)), (kq, .inl (D.1 100, 14, .inl xq))]] : List va_W).flatten) (As := [.int (nI (1 + y % 40))]) (rest := []) lk_L_88 (hM l D _) (Foc.at1 0 rfl rfl (ce rfl rfl)) (m_fl 0 rfl (OB_mem D o z s)) rfl hl.1 (Nat.le_of_ble_eq_true rfl) ⟨Nat.le_of_ble_eq_true rfl, Nat.le_of_ble_eq_true rfl⟩ rfl dL_isActed_321 ⟨Nat.le_refl _, Nat.le_refl _⟩ (fun H locs hw => ?_)
                  refine lv_iload hx hb dL_isActed_324 (lv_at hl 14 rfl) ?_
                  refine lv_icmp_ne (tgt := 333) hx hb dL_isActed_326 (by decide) (fun h => absurd hx0.symm h) (fun _ => ?_)
                  refine lv_iconst (v := 1) hx hb dL_isActed_329 (by decide) ?_
                  refine lv_goto (tgt := 334) hx hb dL_isActed_330 (by decide) ?_
                  exact r_retU X hw hk (z1, s1, xb, xg, ((phF xb xg (xv, xn, xt, xa) (1 + y % 40)).1, (phF xb xg (xv, xn, xt, xa) (1 + y % 40)).2.1, (phF xb xg (xv, xn, xt, xa) (1 + y % 40)).2.2.1, (phF xb xg (xv, xn, xt, xa) (1 + y % 40)).2.2.2), xw, xq) hret rfl rfl ⟨hz1, hL1.mono (Nat.le_succ K)⟩ rfl dL_isActed_334
                · skip
                  refine lv_iload hx hb dL_isActed_287 (lv_at hl 14 rfl) ?_
                  refine lv_aload_n hx hb dL_isActed_289 rfl (lv_at hl 1 rfl) ?_
                  refine lv_aload_n hx hb dL_isActed_290 rfl (lv_at hl 2 rfl) ?_
                  refine lv_aload_n hx hb dL_isActed_291 rfl (lv_at hl 3 rfl) ?_
                  refine lv_aload hx hb dL_isActed_292 (lv_at hl 4 rfl) ?_
                  refine lv_aload hx hb dL_isActed_294 (lv_at hl 5 rfl) ?_
                  refine lv_aload hx hb dL_isActed_296 (lv_at hl 6 rfl) ?_
                  refine r_callS X hw (ws' := ([OB D o z s, [(kv, .inl (D.1 100, 7, .inl ((phL xb xg (phF xb xg (xv, xn, xt, xa) f)).2.1))), (kb, .inl (D.1 100, 7, .inl xb)), (kg, .inl (D.1 100, 7, .inl xg)), (kn, .inl (D.1 100, 7, .inl ((phL xb xg (phF xb xg (xv, xn, xt, xa) f)).2.2.1))), (kt, .inl (D.1 100, 11, .inl ((phL xb xg (phF xb xg (xv, xn, xt, xa) f)).2.2.2.1))), (ka, .inl (D.1 100, 27, .inl ((phL xb xg (phF xb xg (xv, xn, xt, xa) f)).2.2.2.2))), (kw, .inl (D.1 100, 64, .inl xw)), (kq, .inl (D.1 100, 14, .inl xq))]] : List va_W).flatten) (As := [.ref kv, .ref kb, .ref kg, .ref kn, .ref kt, .ref ka]) (rest := [.int x]) lk_L_45 (c_L_phaseY l D _ kv kb kg kn kt ka (phF xb xg (xv, xn, xt, xa) f) xb xg) (Foc.trans (Foc.at1 1 rfl rfl (ce rfl rfl)) (Foc.pick [0, 0, 0, 0, 0, 0] (r := [(kw, .inl (D.1 100, 64, .inl xw)), (kq, .inl (D.1 100, 14, .inl xq))]) rfl rfl)) rfl hl.1 (Nat.le_of_ble_eq_true rfl) ⟨Nat.le_of_ble_eq_true rfl, Nat.le_of_ble_eq_true rfl⟩ rfl dL_isActed_298 ⟨Nat.le_refl _, Nat.le_refl _⟩ (fun H locs hw => ?_)
                  refine lv_if_eq (tgt := 308) hx hb dL_isActed_301 (by decide) (fun c19 => ?_) (fun c19 => ?_)
                  · skip
                    refine lv_iconst (v := 0) hx hb dL_isActed_308 (by decide) ?_
                    refine lv_iadd hx hb dL_isActed_309 ?_
                    refine lv_istore (lv' := [(14, .int (x + 0)), (0, .ref o), (1, .ref kv), (2, .ref kb), (3, .ref kg), (4, .ref kn), (5, .ref kt), (6, .ref ka), (7, .ref kw), (8, .ref kq), (9, .int (nI way)), (10, .int (nI y)), (11, .int (nI (y % 7))), (12, .int (nI (y / 7))), (13, .int (nI (1 + y % 40))), (15, .int (nI f))]) hx hb dL_isActed_310 hl (by decide) rfl (fun ls hl => ?_)
                    refine r_iincN (lv' := [(15, .int (nI (f + 1))), (14, .int (x + 0)), (0, .ref o), (1, .ref kv), (2, .ref kb), (3, .ref kg), (4, .ref kn), (5, .ref kt), (6, .ref ka), (7, .ref kw), (8, .ref kq), (9, .int (nI way)), (10, .int (nI y)), (11, .int (nI (y % 7))), (12, .int (nI (y / 7))), (13, .int (nI (1 + y % 40)))]) hx hb f 1 rfl dL_isActed_312 hl (k := 15) rfl rfl (by decide) rfl (fun ls hl => ?_)
                    refine lv_goto (tgt := 280) hx hb dL_isActed_315 (by decide) ?_
                    exact ih280 (f + 1) (x + 0) (by omega) (by omega) (by show _ = phN xb xg (xv, xn, xt, xa) f + _; rw [if_pos c19]; rw [hx0]) _ _ _ (by rw [show phF xb xg (xv, xn, xt, xa) (f + 1) = (phL xb xg (phF xb xg (xv, xn, xt, xa) f)).2 from rfl]; exact hw) (lv_sub hl [2, 3, 4, 5, 6, 7, 8, 9, 10, 11, 12, 13, 14, 15, 1, 0] rfl)
                  · skip
                    refine lv_iconst (v := 1) hx hb dL_isActed_304 (by decide) ?_
                    refine lv_goto (tgt := 309) hx hb dL_isActed_305 (by decide) ?_
                    refine lv_iadd hx hb dL_isActed_309 ?_
                    refine lv_istore (lv' := [(14, .int (x + 1)), (0, .ref o), (1, .ref kv), (2, .ref kb), (3, .ref kg), (4, .ref kn), (5, .ref kt), (6, .ref ka), (7, .ref kw), (8, .ref kq), (9, .int (nI way)), (10, .int (nI y)), (11, .int (nI (y % 7))), (12, .int (nI (y / 7))), (13, .int (nI (1 + y % 40))), (15, .int (nI f))]) hx hb dL_isActed_310 hl (by decide) rfl (fun ls hl => ?_)
                    refine r_iincN (lv' := [(15, .int (nI (f + 1))), (14, .int (x + 1)), (0, .ref o), (1, .ref kv), (2, .ref kb), (3, .ref kg), (4, .ref kn), (5, .ref kt), (6, .ref ka), (7, .ref kw), (8, .ref kq), (9, .int (nI way)), (10, .int (nI y)), (11, .int (nI (y % 7))), (12, .int (nI (y / 7))), (13, .int (nI (1 + y % 40)))]) hx hb f 1 rfl dL_isActed_312 hl (k := 15) rfl rfl (by decide) rfl (fun ls hl => ?_)
                    refine lv_goto (tgt := 280) hx hb dL_isActed_315 (by decide) ?_
                    exact ih280 (f + 1) (x + 1) (by omega) (by omega) (by show _ = phN xb xg (xv, xn, xt, xa) f + _; rw [if_neg c19]; rw [hx0]) _ _ _ (by rw [show phF xb xg (xv, xn, xt, xa) (f + 1) = (phL xb xg (phF xb xg (xv, xn, xt, xa) f)).2 from rfl]; exact hw) (lv_sub hl [2, 3, 4, 5, 6, 7, 8, 9, 10, 11, 12, 13, 14, 15, 1, 0] rfl)
            exact key280 (1 + y % 40 + 1) 0 0 (by omega) (by omega) rfl _ _ _ hw (lv_sub hl [5, 6, 7, 8, 9, 10, 11, 12, 13, 14, 15, 4, 3, 2, 1, 0] rfl)
          · skip
            refine lv_sipush (v := 400) hx hb dL_isActed_262 (by decide) ?_
            refine lv_goto (tgt := 270) hx hb dL_isActed_265 (by decide) ?_
            refine r_remN hx hb y 400 rfl rfl (by omega) (by decide) (by decide) dL_isActed_270 ?_
            refine r_addN hx hb 1 (y % 400) rfl rfl dL_isActed_271 ?_
            refine lv_istore (lv' := [(13, .int (nI (1 + y % 400))), (12, .int (nI (y / 7))), (11, .int (nI (y % 7))), (0, .ref o), (1, .ref kv), (2, .ref kb), (3, .ref kg), (4, .ref kn), (5, .ref kt), (6, .ref ka), (7, .ref kw), (8, .ref kq), (9, .int (nI way)), (10, .int (nI y))]) hx hb dL_isActed_272 hl (by decide) rfl (fun ls hl => ?_)
            refine lv_iconst (v := 0) hx hb dL_isActed_274 (by decide) ?_
            refine lv_istore (lv' := [(14, .int 0), (13, .int (nI (1 + y % 400))), (12, .int (nI (y / 7))), (11, .int (nI (y % 7))), (0, .ref o), (1, .ref kv), (2, .ref kb), (3, .ref kg), (4, .ref kn), (5, .ref kt), (6, .ref ka), (7, .ref kw), (8, .ref kq), (9, .int (nI way)), (10, .int (nI y))]) hx hb dL_isActed_275 hl (by decide) rfl (fun ls hl => ?_)
            refine lv_iconst (v := 0) hx hb dL_isActed_277 (by decide) ?_
            refine lv_istore (lv' := [(15, .int 0), (14, .int 0), (13, .int (nI (1 + y % 400))), (12, .int (nI (y / 7))), (11, .int (nI (y % 7))), (0, .ref o), (1, .ref kv), (2, .ref kb), (3, .ref kg), (4, .ref kn), (5, .ref kt), (6, .ref ka), (7, .ref kw), (8, .ref kq), (9, .int (nI way)), (10, .int (nI y))]) hx hb dL_isActed_278 hl (by decide) rfl (fun ls hl => ?_)
            have key280 : ∀ (n280 : Nat) (f : Nat) (x : Int32), (f ≤ 1 + y % 400) → (1 + y % 400 - f < n280) → (x = phN xb xg (xv, xn, xt, xa) f) → ∀ (H : Heap) (locs : List Loc) (ls : Array Slot), Wd D A st.heap H locs (([OB D o z s, [(kv, .inl (D.1 100, 7, .inl ((phF xb xg (xv, xn, xt, xa) f).1))), (kb, .inl (D.1 100, 7, .inl xb)), (kg, .inl (D.1 100, 7, .inl xg)), (kn, .inl (D.1 100, 7, .inl ((phF xb xg (xv, xn, xt, xa) f).2.1))), (kt, .inl (D.1 100, 11, .inl ((phF xb xg (xv, xn, xt, xa) f).2.2.1))), (ka, .inl (D.1 100, 27, .inl ((phF xb xg (xv, xn, xt, xa) f).2.2.2))), (kw, .inl (D.1 100, 64, .inl xw)), (kq, .inl (D.1 100, 14, .inl xq))]] : List va_W).flatten) → lv_has ls 16 [(0, .ref o), (1, .ref kv), (2, .ref kb), (3, .ref kg), (4, .ref kn), (5, .ref kt), (6, .ref ka), (7, .ref kw), (8, .ref kq), (9, .int (nI way)), (10, .int (nI y)), (11, .int (nI (y % 7))), (12, .int (nI (y / 7))), (13, .int (nI (1 + y % 400))), (14, .int x), (15, .int (nI f))] → W p l e (rmOf 9 0 0 225) st m args below meth c H locs 0 0 (QIU below args st D A 1 (postL (K + 1)) (fun (u : US) => ([OB D o u.1 u.2.1, [(kv, .inl (D.1 100, 7, .inl u.2.2.2.2.1.1)), (kb, .inl (D.1 100, 7, .inl u.2.2.1)), (kg, .inl (D.1 100, 7, .inl u.2.2.2.1)), (kn, .inl (D.1 100, 7, .inl u.2.2.2.2.1.2.1)), (kt, .inl (D.1 100, 11, .inl u.2.2.2.2.1.2.2.1)), (ka, .inl (D.1 100, 27, .inl u.2.2.2.2.1.2.2.2)), (kw, .inl (D.1 100, 64, .inl u.2.2.2.2.2.1)), (kq, .inl (D.1 100, 14, .inl u.2.2.2.2.2.2))]] : List va_W).flatten)) (F0 m 280 ls []) := by
              intro n280
              induction n280 with
              | zero => intro f x hf hm hx0; omega
              | succ n280 ih280 =>
                intro f x hf hm hx0 H locs ls hw hl
                refine lv_iload hx hb dL_isActed_280 (lv_at hl 15 rfl) ?_
                refine lv_iload hx hb dL_isActed_282 (lv_at hl 13 rfl) ?_
                refine r_geN (tgt := 318) hx hb f (1 + y % 400) rfl rfl (by omega) (by omega) dL_isActed_284 (by decide) (fun c20 => ?_) (fun c20 => ?_)
                · skip
                  have hfq : f = 1 + y % 400 := by omega
                  rw [hfq] at hw hx0
                  refine lv_aload_n hx hb dL_isActed_318 rfl (lv_at hl 0 rfl) ?_
                  refine lv_iload hx hb dL_isActed_319 (lv_at hl 13 rfl) ?_
                  obtain ⟨z1, s1, hz1, hL1, hM⟩ := k_passL o hL hz (n := y % 400) (by omega)
                  refine r_callV X hw (ws' := ([OB D o z1 s1, [(kv, .inl (D.1 100, 7, .inl ((phF xb xg (xv, xn, xt, xa) (1 + y % 400)).1))), (kb, .inl (D.1 100, 7, .inl xb)), (kg, .inl (D.1 100, 7, .inl xg)), (kn, .inl (D.1 100, 7, .inl ((phF xb xg (xv, xn, xt, xa) (1 + y % 400)).2.1))), (kt, .inl (D.1 100, 11, .inl ((phF xb xg (xv, xn, xt, xa) (1 + y % 400)).2.2.1))), (ka, .inl (D.1 100, 27, .inl ((phF xb xg (xv, xn, xt, xa) (1 + y % 400)).2.2.2))), (kw, .inl (D.1 100, 64, .inl xw)), (kq, .inl (D.1 100, 14, .inl xq))]] : List va_W).flatten) (As := [.int (nI (1 + y % 400))]) (rest := []) lk_L_88 (hM l D _) (Foc.at1 0 rfl rfl (ce rfl rfl)) (m_fl 0 rfl (OB_mem D o z s)) rfl hl.1 (Nat.le_of_ble_eq_true rfl) ⟨Nat.le_of_ble_eq_true rfl, Nat.le_of_ble_eq_true rfl⟩ rfl dL_isActed_321 ⟨Nat.le_refl _, Nat.le_refl _⟩ (fun H locs hw => ?_)
                  refine lv_iload hx hb dL_isActed_324 (lv_at hl 14 rfl) ?_
                  refine lv_icmp_ne (tgt := 333) hx hb dL_isActed_326 (by decide) (fun h => absurd hx0.symm h) (fun _ => ?_)
                  refine lv_iconst (v := 1) hx hb dL_isActed_329 (by decide) ?_
                  refine lv_goto (tgt := 334) hx hb dL_isActed_330 (by decide) ?_
                  exact r_retU X hw hk (z1, s1, xb, xg, ((phF xb xg (xv, xn, xt, xa) (1 + y % 400)).1, (phF xb xg (xv, xn, xt, xa) (1 + y % 400)).2.1, (phF xb xg (xv, xn, xt, xa) (1 + y % 400)).2.2.1, (phF xb xg (xv, xn, xt, xa) (1 + y % 400)).2.2.2), xw, xq) hret rfl rfl ⟨hz1, hL1.mono (Nat.le_succ K)⟩ rfl dL_isActed_334
                · skip
                  refine lv_iload hx hb dL_isActed_287 (lv_at hl 14 rfl) ?_
                  refine lv_aload_n hx hb dL_isActed_289 rfl (lv_at hl 1 rfl) ?_
                  refine lv_aload_n hx hb dL_isActed_290 rfl (lv_at hl 2 rfl) ?_
                  refine lv_aload_n hx hb dL_isActed_291 rfl (lv_at hl 3 rfl) ?_
                  refine lv_aload hx hb dL_isActed_292 (lv_at hl 4 rfl) ?_
                  refine lv_aload hx hb dL_isActed_294 (lv_at hl 5 rfl) ?_
                  refine lv_aload hx hb dL_isActed_296 (lv_at hl 6 rfl) ?_
                  refine r_callS X hw (ws' := ([OB D o z s, [(kv, .inl (D.1 100, 7, .inl ((phL xb xg (phF xb xg (xv, xn, xt, xa) f)).2.1))), (kb, .inl (D.1 100, 7, .inl xb)), (kg, .inl (D.1 100, 7, .inl xg)), (kn, .inl (D.1 100, 7, .inl ((phL xb xg (phF xb xg (xv, xn, xt, xa) f)).2.2.1))), (kt, .inl (D.1 100, 11, .inl ((phL xb xg (phF xb xg (xv, xn, xt, xa) f)).2.2.2.1))), (ka, .inl (D.1 100, 27, .inl ((phL xb xg (phF xb xg (xv, xn, xt, xa) f)).2.2.2.2))), (kw, .inl (D.1 100, 64, .inl xw)), (kq, .inl (D.1 100, 14, .inl xq))]] : List va_W).flatten) (As := [.ref kv, .ref kb, .ref kg, .ref kn, .ref kt, .ref ka]) (rest := [.int x]) lk_L_45 (c_L_phaseY l D _ kv kb kg kn kt ka (phF xb xg (xv, xn, xt, xa) f) xb xg) (Foc.trans (Foc.at1 1 rfl rfl (ce rfl rfl)) (Foc.pick [0, 0, 0, 0, 0, 0] (r := [(kw, .inl (D.1 100, 64, .inl xw)), (kq, .inl (D.1 100, 14, .inl xq))]) rfl rfl)) rfl hl.1 (Nat.le_of_ble_eq_true rfl) ⟨Nat.le_of_ble_eq_true rfl, Nat.le_of_ble_eq_true rfl⟩ rfl dL_isActed_298 ⟨Nat.le_refl _, Nat.le_refl _⟩ (fun H locs hw => ?_)
                  refine lv_if_eq (tgt := 308) hx hb dL_isActed_301 (by decide) (fun c21 => ?_) (fun c21 => ?_)
                  · skip
                    refine lv_iconst (v := 0) hx hb dL_isActed_308 (by decide) ?_
                    refine lv_iadd hx hb dL_isActed_309 ?_
                    refine lv_istore (lv' := [(14, .int (x + 0)), (0, .ref o), (1, .ref kv), (2, .ref kb), (3, .ref kg), (4, .ref kn), (5, .ref kt), (6, .ref ka), (7, .ref kw), (8, .ref kq), (9, .int (nI way)), (10, .int (nI y)), (11, .int (nI (y % 7))), (12, .int (nI (y / 7))), (13, .int (nI (1 + y % 400))), (15, .int (nI f))]) hx hb dL_isActed_310 hl (by decide) rfl (fun ls hl => ?_)
                    refine r_iincN (lv' := [(15, .int (nI (f + 1))), (14, .int (x + 0)), (0, .ref o), (1, .ref kv), (2, .ref kb), (3, .ref kg), (4, .ref kn), (5, .ref kt), (6, .ref ka), (7, .ref kw), (8, .ref kq), (9, .int (nI way)), (10, .int (nI y)), (11, .int (nI (y % 7))), (12, .int (nI (y / 7))), (13, .int (nI (1 + y % 400)))]) hx hb f 1 rfl dL_isActed_312 hl (k := 15) rfl rfl (by decide) rfl (fun ls hl => ?_)
                    refine lv_goto (tgt := 280) hx hb dL_isActed_315 (by decide) ?_
                    exact ih280 (f + 1) (x + 0) (by omega) (by omega) (by show _ = phN xb xg (xv, xn, xt, xa) f + _; rw [if_pos c21]; rw [hx0]) _ _ _ (by rw [show phF xb xg (xv, xn, xt, xa) (f + 1) = (phL xb xg (phF xb xg (xv, xn, xt, xa) f)).2 from rfl]; exact hw) (lv_sub hl [2, 3, 4, 5, 6, 7, 8, 9, 10, 11, 12, 13, 14, 15, 1, 0] rfl)
                  · skip
                    refine lv_iconst (v := 1) hx hb dL_isActed_304 (by decide) ?_
                    refine lv_goto (tgt := 309) hx hb dL_isActed_305 (by decide) ?_
                    refine lv_iadd hx hb dL_isActed_309 ?_
                    refine lv_istore (lv' := [(14, .int (x + 1)), (0, .ref o), (1, .ref kv), (2, .ref kb), (3, .ref kg), (4, .ref kn), (5, .ref kt), (6, .ref ka), (7, .ref kw), (8, .ref kq), (9, .int (nI way)), (10, .int (nI y)), (11, .int (nI (y % 7))), (12, .int (nI (y / 7))), (13, .int (nI (1 + y % 400))), (15, .int (nI f))]) hx hb dL_isActed_310 hl (by decide) rfl (fun ls hl => ?_)
                    refine r_iincN (lv' := [(15, .int (nI (f + 1))), (14, .int (x + 1)), (0, .ref o), (1, .ref kv), (2, .ref kb), (3, .ref kg), (4, .ref kn), (5, .ref kt), (6, .ref ka), (7, .ref kw), (8, .ref kq), (9, .int (nI way)), (10, .int (nI y)), (11, .int (nI (y % 7))), (12, .int (nI (y / 7))), (13, .int (nI (1 + y % 400)))]) hx hb f 1 rfl dL_isActed_312 hl (k := 15) rfl rfl (by decide) rfl (fun ls hl => ?_)
                    refine lv_goto (tgt := 280) hx hb dL_isActed_315 (by decide) ?_
                    exact ih280 (f + 1) (x + 1) (by omega) (by omega) (by show _ = phN xb xg (xv, xn, xt, xa) f + _; rw [if_neg c21]; rw [hx0]) _ _ _ (by rw [show phF xb xg (xv, xn, xt, xa) (f + 1) = (phL xb xg (phF xb xg (xv, xn, xt, xa) f)).2 from rfl]; exact hw) (lv_sub hl [2, 3, 4, 5, 6, 7, 8, 9, 10, 11, 12, 13, 14, 15, 1, 0] rfl)
            exact key280 (1 + y % 400 + 1) 0 0 (by omega) (by omega) rfl _ _ _ hw (lv_sub hl [5, 6, 7, 8, 9, 10, 11, 12, 13, 14, 15, 4, 3, 2, 1, 0] rfl)
      · skip
        refine lv_aload_n hx hb dL_isActed_223 rfl (lv_at hl 2 rfl) ?_
        refine lv_aload_n hx hb dL_isActed_224 rfl (lv_at hl 3 rfl) ?_
        refine lv_aload_n hx hb dL_isActed_225 rfl (lv_at hl 4 rfl) ?_
        refine lv_aload_n hx hb dL_isActed_226 rfl (lv_at hl 5 rfl) ?_
        refine lv_aload hx hb dL_isActed_227 (lv_at hl 6 rfl) ?_
        refine lv_aload hx hb dL_isActed_229 (lv_at hl 7 rfl) ?_
        refine lv_aload hx hb dL_isActed_231 (lv_at hl 8 rfl) ?_
        refine lv_aload hx hb dL_isActed_233 (lv_at hl 9 rfl) ?_
        refine lv_aload hx hb dL_isActed_235 (lv_at hl 10 rfl) ?_
        refine lv_iload hx hb dL_isActed_237 (lv_at hl 12 rfl) ?_
        refine lv_iconst (v := 3) hx hb dL_isActed_239 (by decide) ?_
        refine r_remN hx hb y 3 rfl rfl (by omega) (by decide) (by decide) dL_isActed_240 ?_
        refine r_callSU X hw (W1 := fun (u : US) => ([OB D o u.1 u.2.1, [(kv, .inl (D.1 100, 7, .inl u.2.2.2.2.1.1)), (kb, .inl (D.1 100, 7, .inl u.2.2.1)), (kg, .inl (D.1 100, 7, .inl u.2.2.2.1)), (kn, .inl (D.1 100, 7, .inl u.2.2.2.2.1.2.1)), (kt, .inl (D.1 100, 11, .inl u.2.2.2.2.1.2.2.1)), (ka, .inl (D.1 100, 27, .inl u.2.2.2.2.1.2.2.2)), (kw, .inl (D.1 100, 64, .inl u.2.2.2.2.2.1)), (kq, .inl (D.1 100, 14, .inl u.2.2.2.2.2.2))]] : List va_W).flatten) (As := [.ref o, .ref kv, .ref kb, .ref kg, .ref kn, .ref kt, .ref ka, .ref kw, .ref kq, .int (nI (y % 3))]) (rest := []) lk_L_84 (c_L_isBurst l D _ o z s kv kb kg kn kt ka kw kq xv xb xg xn xt xa xw xq (y % 3) (by omega) p0 zz q hok (hqb (by omega) (by omega)) K hK hL hz) FocU.all rfl hl.1 (Nat.le_of_ble_eq_true rfl) ⟨Nat.le_of_ble_eq_true rfl, Nat.le_of_ble_eq_true rfl⟩ rfl dL_isActed_241 ⟨Nat.le_refl _, Nat.le_refl _⟩ (fun u9 H locs hu9 hw => ?_)
        exact r_retU X hw hk u9 hret rfl rfl hu9 rfl dL_isActed_244
    · skip
      refine lv_aload_n hx hb dL_isActed_139 rfl (lv_at hl 3 rfl) ?_
      refine lv_iload hx hb dL_isActed_140 (lv_at hl 1 rfl) ?_
      refine r_iald X hw (f := xv) (y % 7) (m_fl 1 rfl (m_at 0 rfl)) rfl (by omega) (by decide) dL_isActed_142 ?_
      refine lv_istore (lv' := [(13, .int (xv (y % 7))), (12, .int (nI (y / 7))), (11, .int (nI (y % 7))), (0, .ref o), (1, .ref kv), (2, .ref kb), (3, .ref kg), (4, .ref kn), (5, .ref kt), (6, .ref ka), (7, .ref kw), (8, .ref kq), (9, .int (nI way)), (10, .int (nI y))]) hx hb dL_isActed_143 hl (by decide) rfl (fun ls hl => ?_)
      refine lv_aload hx hb dL_isActed_145 (lv_at hl 8 rfl) ?_
      refine lv_iconst (v := 3) hx hb dL_isActed_147 (by decide) ?_
      refine lv_dup2_11 hx hb dL_isActed_148 rfl rfl ?_
      refine r_iald X hw (f := xt) 3 (m_fl 1 rfl (m_at 4 rfl)) rfl (by decide) (by decide) dL_isActed_149 ?_
      refine lv_iconst (v := 1) hx hb dL_isActed_150 (by decide) ?_
      refine lv_iadd hx hb dL_isActed_151 ?_
      refine r_iast X hw (ws' := ([OB D o z s, [(kv, .inl (D.1 100, 7, .inl xv)), (kb, .inl (D.1 100, 7, .inl xb)), (kg, .inl (D.1 100, 7, .inl xg)), (kn, .inl (D.1 100, 7, .inl xn)), (kt, .inl (D.1 100, 11, .inl (upd xt 3 ((xt 3) + 1)))), (ka, .inl (D.1 100, 27, .inl xa)), (kw, .inl (D.1 100, 64, .inl xw)), (kq, .inl (D.1 100, 14, .inl xq))]] : List va_W).flatten) 3 rfl (by decide) (by decide) (Foc.trans (Foc.at1 1 rfl rfl (ce rfl rfl)) (Foc.cell 4 rfl rfl (ce rfl (ce rfl (ce rfl (ce rfl (ce rfl (ce rfl (ce rfl rfl))))))))) dL_isActed_152 (fun H locs hw => ?_)
      refine lv_iconst (v := 0) hx hb dL_isActed_153 (by decide) ?_
      refine lv_istore (lv' := [(14, .int 0), (13, .int (xv (y % 7))), (12, .int (nI (y / 7))), (11, .int (nI (y % 7))), (0, .ref o), (1, .ref kv), (2, .ref kb), (3, .ref kg), (4, .ref kn), (5, .ref kt), (6, .ref ka), (7, .ref kw), (8, .ref kq), (9, .int (nI way)), (10, .int (nI y))]) hx hb dL_isActed_154 hl (by decide) rfl (fun ls hl => ?_)
      have key156 : ∀ (n156 : Nat) (f : Nat), (f ≤ q) → (q - f < n156) → ∀ (H : Heap) (locs : List Loc) (ls : Array Slot), Wd D A st.heap H locs (([OB D o z s, [(kv, .inl (D.1 100, 7, .inl ((phF xb xg (xv, xn, upd xt 3 ((xt 3) + 1), xa) f).1))), (kb, .inl (D.1 100, 7, .inl xb)), (kg, .inl (D.1 100, 7, .inl xg)), (kn, .inl (D.1 100, 7, .inl ((phF xb xg (xv, xn, upd xt 3 ((xt 3) + 1), xa) f).2.1))), (kt, .inl (D.1 100, 11, .inl ((phF xb xg (xv, xn, upd xt 3 ((xt 3) + 1), xa) f).2.2.1))), (ka, .inl (D.1 100, 27, .inl ((phF xb xg (xv, xn, upd xt 3 ((xt 3) + 1), xa) f).2.2.2))), (kw, .inl (D.1 100, 64, .inl xw)), (kq, .inl (D.1 100, 14, .inl xq))]] : List va_W).flatten) → lv_has ls 16 [(0, .ref o), (1, .ref kv), (2, .ref kb), (3, .ref kg), (4, .ref kn), (5, .ref kt), (6, .ref ka), (7, .ref kw), (8, .ref kq), (9, .int (nI way)), (10, .int (nI y)), (11, .int (nI (y % 7))), (12, .int (nI (y / 7))), (13, .int (xv (y % 7))), (14, .int (nI f))] → W p l e (rmOf 9 0 0 225) st m args below meth c H locs 0 0 (QIU below args st D A 1 (postL (K + 1)) (fun (u : US) => ([OB D o u.1 u.2.1, [(kv, .inl (D.1 100, 7, .inl u.2.2.2.2.1.1)), (kb, .inl (D.1 100, 7, .inl u.2.2.1)), (kg, .inl (D.1 100, 7, .inl u.2.2.2.1)), (kn, .inl (D.1 100, 7, .inl u.2.2.2.2.1.2.1)), (kt, .inl (D.1 100, 11, .inl u.2.2.2.2.1.2.2.1)), (ka, .inl (D.1 100, 27, .inl u.2.2.2.2.1.2.2.2)), (kw, .inl (D.1 100, 64, .inl u.2.2.2.2.2.1)), (kq, .inl (D.1 100, 14, .inl u.2.2.2.2.2.2))]] : List va_W).flatten)) (F0 m 156 ls []) := by
        intro n156
        induction n156 with
        | zero => intro f hf hm; omega
        | succ n156 ih156 =>
          intro f hf hm H locs ls hw hl
          obtain ⟨p2, hok2⟩ := phF_ok (xb := xb) (xg := xg) (y := (xv, xn, upd xt 3 ((xt 3) + 1), xa)) (@lOK_c xt (upd xt 3 (xt 3 + 1)) p0 zz q hok (upd_ne xt (k := 3) (j := 0) _ (by decide)) (upd_ne xt (k := 3) (j := 10) _ (by decide)) (upd_ne xt (k := 3) (j := 8) _ (by decide))) f
          have hx8 : (phF xb xg (xv, xn, upd xt 3 ((xt 3) + 1), xa) f).2.2.1 8 = nI q := hok2.2.2.1
          have hq8 := hok.2.2.2.2.2.2
          refine lv_iload hx hb dL_isActed_156 (lv_at hl 14 rfl) ?_
          refine lv_aload hx hb dL_isActed_158 (lv_at hl 5 rfl) ?_
          refine lv_bipush (v := 8) hx hb dL_isActed_160 (by decide) ?_
          refine r_iald X hw (f := (phF xb xg (xv, xn, upd xt 3 ((xt 3) + 1), xa) f).2.2.1) 8 (m_fl 1 rfl (m_at 4 rfl)) rfl (by decide) (by decide) dL_isActed_162 ?_
          rw [hx8]
          refine r_geN (tgt := 199) hx hb f q rfl rfl (by omega) (by omega) dL_isActed_163 (by decide) (fun c22 => ?_) (fun c22 => ?_)
          · skip
            have hfq : f = q := by omega
            rw [hfq] at hw
            refine lv_aload_n hx hb dL_isActed_199 rfl (lv_at hl 0 rfl) ?_
            refine lv_iload hx hb dL_isActed_200 (lv_at hl 11 rfl) ?_
            obtain ⟨z1, s1, hz1, hL1, hM⟩ := k_readL o hL hz (i := y % 7) (q := q) (by omega) hok.2.2.2.2.2.2 hok.2.2.1
            refine r_callV X hw (ws' := ([OB D o z1 s1, [(kv, .inl (D.1 100, 7, .inl ((phF xb xg (xv, xn, upd xt 3 ((xt 3) + 1), xa) q).1))), (kb, .inl (D.1 100, 7, .inl xb)), (kg, .inl (D.1 100, 7, .inl xg)), (kn, .inl (D.1 100, 7, .inl ((phF xb xg (xv, xn, upd xt 3 ((xt 3) + 1), xa) q).2.1))), (kt, .inl (D.1 100, 11, .inl ((phF xb xg (xv, xn, upd xt 3 ((xt 3) + 1), xa) q).2.2.1))), (ka, .inl (D.1 100, 27, .inl ((phF xb xg (xv, xn, upd xt 3 ((xt 3) + 1), xa) q).2.2.2))), (kw, .inl (D.1 100, 64, .inl xw)), (kq, .inl (D.1 100, 14, .inl xq))]] : List va_W).flatten) (As := [.int (nI (y % 7))]) (rest := []) lk_L_81 (hM l D _) (Foc.at1 0 rfl rfl (ce rfl rfl)) (m_fl 0 rfl (OB_mem D o z s)) rfl hl.1 (Nat.le_of_ble_eq_true rfl) ⟨Nat.le_of_ble_eq_true rfl, Nat.le_of_ble_eq_true rfl⟩ rfl dL_isActed_202 ⟨Nat.le_refl _, Nat.le_refl _⟩ (fun H locs hw => ?_)
            refine lv_iload hx hb dL_isActed_205 (lv_at hl 13 rfl) ?_
            refine lv_icmp_ne (tgt := 214) hx hb dL_isActed_207 (by decide) (fun h => absurd rfl h) (fun _ => ?_)
            refine lv_iconst (v := 1) hx hb dL_isActed_210 (by decide) ?_
            refine lv_goto (tgt := 215) hx hb dL_isActed_211 (by decide) ?_
            exact r_retU X hw hk (z1, s1, xb, xg, ((phF xb xg (xv, xn, upd xt 3 ((xt 3) + 1), xa) q).1, (phF xb xg (xv, xn, upd xt 3 ((xt 3) + 1), xa) q).2.1, (phF xb xg (xv, xn, upd xt 3 ((xt 3) + 1), xa) q).2.2.1, (phF xb xg (xv, xn, upd xt 3 ((xt 3) + 1), xa) q).2.2.2), xw, xq) hret rfl rfl ⟨hz1, hL1.mono (Nat.le_succ K)⟩ rfl dL_isActed_215
          · skip
            refine lv_aload hx hb dL_isActed_166 (lv_at hl 5 rfl) ?_
            refine lv_iconst (v := 3) hx hb dL_isActed_168 (by decide) ?_
            refine lv_dup2_11 hx hb dL_isActed_169 rfl rfl ?_
            refine r_iald X hw (f := (phF xb xg (xv, xn, upd xt 3 ((xt 3) + 1), xa) f).2.2.1) 3 (m_fl 1 rfl (m_at 4 rfl)) rfl (by decide) (by decide) dL_isActed_170 ?_
            refine lv_aload_n hx hb dL_isActed_171 rfl (lv_at hl 1 rfl) ?_
            refine lv_aload_n hx hb dL_isActed_172 rfl (lv_at hl 2 rfl) ?_
            refine lv_aload_n hx hb dL_isActed_173 rfl (lv_at hl 3 rfl) ?_
            refine lv_aload hx hb dL_isActed_174 (lv_at hl 4 rfl) ?_
            refine lv_aload hx hb dL_isActed_176 (lv_at hl 5 rfl) ?_
            refine lv_aload hx hb dL_isActed_178 (lv_at hl 6 rfl) ?_
            refine r_callS X hw (ws' := ([OB D o z s, [(kv, .inl (D.1 100, 7, .inl ((phL xb xg (phF xb xg (xv, xn, upd xt 3 ((xt 3) + 1), xa) f)).2.1))), (kb, .inl (D.1 100, 7, .inl xb)), (kg, .inl (D.1 100, 7, .inl xg)), (kn, .inl (D.1 100, 7, .inl ((phL xb xg (phF xb xg (xv, xn, upd xt 3 ((xt 3) + 1), xa) f)).2.2.1))), (kt, .inl (D.1 100, 11, .inl ((phL xb xg (phF xb xg (xv, xn, upd xt 3 ((xt 3) + 1), xa) f)).2.2.2.1))), (ka, .inl (D.1 100, 27, .inl ((phL xb xg (phF xb xg (xv, xn, upd xt 3 ((xt 3) + 1), xa) f)).2.2.2.2))), (kw, .inl (D.1 100, 64, .inl xw)), (kq, .inl (D.1 100, 14, .inl xq))]] : List va_W).flatten) (As := [.ref kv, .ref kb, .ref kg, .ref kn, .ref kt, .ref ka]) (rest := [.int (((phF xb xg (xv, xn, upd xt 3 ((xt 3) + 1), xa) f).2.2.1) 3), .int 3, .ref kt]) lk_L_45 (c_L_phaseY l D _ kv kb kg kn kt ka (phF xb xg (xv, xn, upd xt 3 ((xt 3) + 1), xa) f) xb xg) (Foc.trans (Foc.at1 1 rfl rfl (ce rfl rfl)) (Foc.pick [0, 0, 0, 0, 0, 0] (r := [(kw, .inl (D.1 100, 64, .inl xw)), (kq, .inl (D.1 100, 14, .inl xq))]) rfl rfl)) rfl hl.1 (Nat.le_of_ble_eq_true rfl) ⟨Nat.le_of_ble_eq_true rfl, Nat.le_of_ble_eq_true rfl⟩ rfl dL_isActed_180 ⟨Nat.le_refl _, Nat.le_refl _⟩ (fun H locs hw => ?_)
            refine lv_if_eq (tgt := 190) hx hb dL_isActed_183 (by decide) (fun c23 => ?_) (fun c23 => ?_)
            · skip
              refine lv_iconst (v := 0) hx hb dL_isActed_190 (by decide) ?_
              refine lv_iadd hx hb dL_isActed_191 ?_
              refine r_iast X hw (ws' := ([OB D o z s, [(kv, .inl (D.1 100, 7, .inl ((phL xb xg (phF xb xg (xv, xn, upd xt 3 ((xt 3) + 1), xa) f)).2.1))), (kb, .inl (D.1 100, 7, .inl xb)), (kg, .inl (D.1 100, 7, .inl xg)), (kn, .inl (D.1 100, 7, .inl ((phL xb xg (phF xb xg (xv, xn, upd xt 3 ((xt 3) + 1), xa) f)).2.2.1))), (kt, .inl (D.1 100, 11, .inl (upd ((phL xb xg (phF xb xg (xv, xn, upd xt 3 ((xt 3) + 1), xa) f)).2.2.2.1) 3 ((((phF xb xg (xv, xn, upd xt 3 ((xt 3) + 1), xa) f).2.2.1) 3) + 0)))), (ka, .inl (D.1 100, 27, .inl ((phL xb xg (phF xb xg (xv, xn, upd xt 3 ((xt 3) + 1), xa) f)).2.2.2.2))), (kw, .inl (D.1 100, 64, .inl xw)), (kq, .inl (D.1 100, 14, .inl xq))]] : List va_W).flatten) 3 rfl (by decide) (by decide) (Foc.trans (Foc.at1 1 rfl rfl (ce rfl rfl)) (Foc.cell 4 rfl rfl (ce rfl (ce rfl (ce rfl (ce rfl (ce rfl (ce rfl (ce rfl rfl))))))))) dL_isActed_192 (fun H locs hw => ?_)
              refine r_iincN (lv' := [(14, .int (nI (f + 1))), (0, .ref o), (1, .ref kv), (2, .ref kb), (3, .ref kg), (4, .ref kn), (5, .ref kt), (6, .ref ka), (7, .ref kw), (8, .ref kq), (9, .int (nI way)), (10, .int (nI y)), (11, .int (nI (y % 7))), (12, .int (nI (y / 7))), (13, .int (xv (y % 7)))]) hx hb f 1 rfl dL_isActed_193 hl (k := 14) rfl rfl (by decide) rfl (fun ls hl => ?_)
              refine lv_goto (tgt := 156) hx hb dL_isActed_196 (by decide) ?_
              exact ih156 (f + 1) (by omega) (by omega) _ _ _ (by rw [upd_t3] at hw; rw [show phF xb xg (xv, xn, upd xt 3 ((xt 3) + 1), xa) (f + 1) = (phL xb xg (phF xb xg (xv, xn, upd xt 3 ((xt 3) + 1), xa) f)).2 from rfl]; exact hw) (lv_sub hl [1, 2, 3, 4, 5, 6, 7, 8, 9, 10, 11, 12, 13, 14, 0] rfl)
            · skip
              refine lv_iconst (v := 0) hx hb dL_isActed_186 (by decide) ?_
              refine lv_goto (tgt := 191) hx hb dL_isActed_187 (by decide) ?_
              refine lv_iadd hx hb dL_isActed_191 ?_
              refine r_iast X hw (ws' := ([OB D o z s, [(kv, .inl (D.1 100, 7, .inl ((phL xb xg (phF xb xg (xv, xn, upd xt 3 ((xt 3) + 1), xa) f)).2.1))), (kb, .inl (D.1 100, 7, .inl xb)), (kg, .inl (D.1 100, 7, .inl xg)), (kn, .inl (D.1 100, 7, .inl ((phL xb xg (phF xb xg (xv, xn, upd xt 3 ((xt 3) + 1), xa) f)).2.2.1))), (kt, .inl (D.1 100, 11, .inl (upd ((phL xb xg (phF xb xg (xv, xn, upd xt 3 ((xt 3) + 1), xa) f)).2.2.2.1) 3 ((((phF xb xg (xv, xn, upd xt 3 ((xt 3) + 1), xa) f).2.2.1) 3) + 0)))), (ka, .inl (D.1 100, 27, .inl ((phL xb xg (phF xb xg (xv, xn, upd xt 3 ((xt 3) + 1), xa) f)).2.2.2.2))), (kw, .inl (D.1 100, 64, .inl xw)), (kq, .inl (D.1 100, 14, .inl xq))]] : List va_W).flatten) 3 rfl (by decide) (by decide) (Foc.trans (Foc.at1 1 rfl rfl (ce rfl rfl)) (Foc.cell 4 rfl rfl (ce rfl (ce rfl (ce rfl (ce rfl (ce rfl (ce rfl (ce rfl rfl))))))))) dL_isActed_192 (fun H locs hw => ?_)
              refine r_iincN (lv' := [(14, .int (nI (f + 1))), (0, .ref o), (1, .ref kv), (2, .ref kb), (3, .ref kg), (4, .ref kn), (5, .ref kt), (6, .ref ka), (7, .ref kw), (8, .ref kq), (9, .int (nI way)), (10, .int (nI y)), (11, .int (nI (y % 7))), (12, .int (nI (y / 7))), (13, .int (xv (y % 7)))]) hx hb f 1 rfl dL_isActed_193 hl (k := 14) rfl rfl (by decide) rfl (fun ls hl => ?_)
              refine lv_goto (tgt := 156) hx hb dL_isActed_196 (by decide) ?_
              exact ih156 (f + 1) (by omega) (by omega) _ _ _ (by rw [upd_t3] at hw; rw [show phF xb xg (xv, xn, upd xt 3 ((xt 3) + 1), xa) (f + 1) = (phL xb xg (phF xb xg (xv, xn, upd xt 3 ((xt 3) + 1), xa) f)).2 from rfl]; exact hw) (lv_sub hl [1, 2, 3, 4, 5, 6, 7, 8, 9, 10, 11, 12, 13, 14, 0] rfl)
      exact key156 (q + 1) 0 (by omega) (by omega) _ _ _ hw (lv_sub hl [4, 5, 6, 7, 8, 9, 10, 11, 12, 13, 14, 3, 2, 1, 0] rfl)
  · skip
    refine lv_iload hx hb dL_isActed_21 (lv_at hl 0 rfl) ?_
    refine lv_iconst (v := 3) hx hb dL_isActed_23 (by decide) ?_
    refine r_remN hx hb (y / 7) 3 rfl rfl (by omega) (by decide) (by decide) dL_isActed_24 ?_
    refine r_ifn0N (tgt := 39) hx hb ((y / 7) % 3) rfl (by omega) dL_isActed_25 (by decide) (fun c24 => ?_) (fun c24 => ?_)
    · skip
      refine lv_iload hx hb dL_isActed_39 (lv_at hl 0 rfl) ?_
      refine lv_iconst (v := 3) hx hb dL_isActed_41 (by decide) ?_
      refine r_remN hx hb (y / 7) 3 rfl rfl (by omega) (by decide) (by decide) dL_isActed_42 ?_
      refine lv_iconst (v := 1) hx hb dL_isActed_43 (by decide) ?_
      refine r_neN (tgt := 72) hx hb ((y / 7) % 3) 1 rfl rfl (by omega) (by omega) dL_isActed_44 (by decide) (fun c25 => ?_) (fun c25 => ?_)
      · skip
        refine lv_iload hx hb dL_isActed_72 (lv_at hl 0 rfl) ?_
        refine lv_iconst (v := 3) hx hb dL_isActed_74 (by decide) ?_
        refine r_divN hx hb (y / 7) 3 rfl rfl (by omega) (by decide) (by decide) dL_isActed_75 ?_
        refine lv_bipush (v := 10) hx hb dL_isActed_76 (by decide) ?_
        refine r_remN hx hb ((y / 7) / 3) 10 rfl rfl (by omega) (by decide) (by decide) dL_isActed_78 ?_
        refine lv_bipush (v := 16) hx hb dL_isActed_79 (by decide) ?_
        refine lv_iload hx hb dL_isActed_81 (lv_at hl 0 rfl) ?_
        refine lv_bipush (v := 30) hx hb dL_isActed_83 (by decide) ?_
        refine r_divN hx hb (y / 7) 30 rfl rfl (by omega) (by decide) (by decide) dL_isActed_85 ?_
        refine lv_bipush (v := 6) hx hb dL_isActed_86 (by decide) ?_
        refine r_remN hx hb ((y / 7) / 30) 6 rfl rfl (by omega) (by decide) (by decide) dL_isActed_88 ?_
        refine r_mulN hx hb 16 (((y / 7) / 30) % 6) rfl rfl dL_isActed_89 ?_
        refine r_addN hx hb (((y / 7) / 3) % 10) (16 * (((y / 7) / 30) % 6)) rfl rfl dL_isActed_90 ?_
        refine lv_istore (lv' := [(13, .int (nI (((y / 7) / 3) % 10 + (16 * (((y / 7) / 30) % 6))))), (12, .int (nI (y / 7))), (11, .int (nI (y % 7))), (0, .ref o), (1, .ref kv), (2, .ref kb), (3, .ref kg), (4, .ref kn), (5, .ref kt), (6, .ref ka), (7, .ref kw), (8, .ref kq), (9, .int (nI way)), (10, .int (nI y))]) hx hb dL_isActed_91 hl (by decide) rfl (fun ls hl => ?_)
        refine lv_aload_n hx hb dL_isActed_93 rfl (lv_at hl 4 rfl) ?_
        refine lv_aload_n hx hb dL_isActed_94 rfl (lv_at hl 5 rfl) ?_
        refine lv_aload_n hx hb dL_isActed_95 rfl (lv_at hl 6 rfl) ?_
        refine lv_iload hx hb dL_isActed_96 (lv_at hl 2 rfl) ?_
        refine lv_iload hx hb dL_isActed_98 (lv_at hl 0 rfl) ?_
        refine r_callSv X hw (ws' := ([OB D o z s, [(kv, .inl (D.1 100, 7, .inl (upd xv (y % 7) (puN (xb (y % 7)) (xg (y % 7)) (nI (((y / 7) / 3) % 10 + (16 * (((y / 7) / 30) % 6)))) 8)))), (kb, .inl (D.1 100, 7, .inl xb)), (kg, .inl (D.1 100, 7, .inl xg)), (kn, .inl (D.1 100, 7, .inl xn)), (kt, .inl (D.1 100, 11, .inl xt)), (ka, .inl (D.1 100, 27, .inl xa)), (kw, .inl (D.1 100, 64, .inl xw)), (kq, .inl (D.1 100, 14, .inl xq))]] : List va_W).flatten) (As := [.ref kv, .ref kb, .ref kg, .int (nI (y % 7)), .int (nI (((y / 7) / 3) % 10 + (16 * (((y / 7) / 30) % 6))))]) (rest := []) lk_L_33 (c_L_put l D _ kv kb kg xv xb xg (y % 7) (nI (((y / 7) / 3) % 10 + (16 * (((y / 7) / 30) % 6)))) (by omega)) (Foc.trans (Foc.at1 1 rfl rfl (ce rfl rfl)) (Foc.pick [0, 0, 0] (r := [(kn, .inl (D.1 100, 7, .inl xn)), (kt, .inl (D.1 100, 11, .inl xt)), (ka, .inl (D.1 100, 27, .inl xa)), (kw, .inl (D.1 100, 64, .inl xw)), (kq, .inl (D.1 100, 14, .inl xq))]) rfl rfl)) rfl hl.1 (Nat.le_of_ble_eq_true rfl) ⟨Nat.le_of_ble_eq_true rfl, Nat.le_of_ble_eq_true rfl⟩ rfl dL_isActed_100 ⟨Nat.le_refl _, Nat.le_refl _⟩ (fun H locs hw => ?_)
        refine lv_aload hx hb dL_isActed_103 (lv_at hl 8 rfl) ?_
        refine lv_iconst (v := 4) hx hb dL_isActed_105 (by decide) ?_
        refine lv_dup2_11 hx hb dL_isActed_106 rfl rfl ?_
        refine r_iald X hw (f := xt) 4 (m_fl 1 rfl (m_at 4 rfl)) rfl (by decide) (by decide) dL_isActed_107 ?_
        refine lv_iconst (v := 1) hx hb dL_isActed_108 (by decide) ?_
        refine lv_iadd hx hb dL_isActed_109 ?_
        refine r_iast X hw (ws' := ([OB D o z s, [(kv, .inl (D.1 100, 7, .inl (upd xv (y % 7) (puN (xb (y % 7)) (xg (y % 7)) (nI (((y / 7) / 3) % 10 + (16 * (((y / 7) / 30) % 6)))) 8)))), (kb, .inl (D.1 100, 7, .inl xb)), (kg, .inl (D.1 100, 7, .inl xg)), (kn, .inl (D.1 100, 7, .inl xn)), (kt, .inl (D.1 100, 11, .inl (upd xt 4 ((xt 4) + 1)))), (ka, .inl (D.1 100, 27, .inl xa)), (kw, .inl (D.1 100, 64, .inl xw)), (kq, .inl (D.1 100, 14, .inl xq))]] : List va_W).flatten) 4 rfl (by decide) (by decide) (Foc.trans (Foc.at1 1 rfl rfl (ce rfl rfl)) (Foc.cell 4 rfl rfl (ce rfl (ce rfl (ce rfl (ce rfl (ce rfl (ce rfl (ce rfl rfl))))))))) dL_isActed_110 (fun H locs hw => ?_)
        refine lv_aload_n hx hb dL_isActed_111 rfl (lv_at hl 3 rfl) ?_
        refine lv_iload hx hb dL_isActed_112 (lv_at hl 2 rfl) ?_
        refine lv_iload hx hb dL_isActed_114 (lv_at hl 0 rfl) ?_
        obtain ⟨z1, s1, hz1, hL1, hM⟩ := k_writeL o hL hz (i := y % 7) (v := ((y / 7) / 3) % 10 + (16 * (((y / 7) / 30) % 6))) (by omega) (by omega)
        refine r_callV X hw (ws' := ([OB D o z1 s1, [(kv, .inl (D.1 100, 7, .inl (upd xv (y % 7) (puN (xb (y % 7)) (xg (y % 7)) (nI (((y / 7) / 3) % 10 + (16 * (((y / 7) / 30) % 6)))) 8)))), (kb, .inl (D.1 100, 7, .inl xb)), (kg, .inl (D.1 100, 7, .inl xg)), (kn, .inl (D.1 100, 7, .inl xn)), (kt, .inl (D.1 100, 11, .inl (upd xt 4 ((xt 4) + 1)))), (ka, .inl (D.1 100, 27, .inl xa)), (kw, .inl (D.1 100, 64, .inl xw)), (kq, .inl (D.1 100, 14, .inl xq))]] : List va_W).flatten) (As := [.int (nI (y % 7)), .int (nI (((y / 7) / 3) % 10 + (16 * (((y / 7) / 30) % 6))))]) (rest := []) lk_L_78 (hM l D _) (Foc.at1 0 rfl rfl (ce rfl rfl)) (m_fl 0 rfl (OB_mem D o z s)) rfl hl.1 (Nat.le_of_ble_eq_true rfl) ⟨Nat.le_of_ble_eq_true rfl, Nat.le_of_ble_eq_true rfl⟩ rfl dL_isActed_116 ⟨Nat.le_refl _, Nat.le_refl _⟩ (fun H locs hw => ?_)
        refine lv_aload_n hx hb dL_isActed_119 rfl (lv_at hl 4 rfl) ?_
        refine lv_iload hx hb dL_isActed_120 (lv_at hl 2 rfl) ?_
        refine r_iald X hw (f := upd xv (y % 7) (puN (xb (y % 7)) (xg (y % 7)) (nI (((y / 7) / 3) % 10 + (16 * (((y / 7) / 30) % 6)))) 8)) (y % 7) (m_fl 1 rfl (m_at 0 rfl)) rfl (by omega) (by decide) dL_isActed_122 ?_
        refine lv_icmp_ne (tgt := 130) hx hb dL_isActed_123 (by decide) (fun h => absurd rfl h) (fun _ => ?_)
        refine lv_iconst (v := 1) hx hb dL_isActed_126 (by decide) ?_
        refine lv_goto (tgt := 131) hx hb dL_isActed_127 (by decide) ?_
        exact r_retU X hw hk (z1, s1, xb, xg, (upd xv (y % 7) (puN (xb (y % 7)) (xg (y % 7)) (nI (((y / 7) / 3) % 10 + (16 * (((y / 7) / 30) % 6)))) 8), xn, upd xt 4 ((xt 4) + 1), xa), xw, xq) hret rfl rfl ⟨hz1, hL1.mono (Nat.le_succ K)⟩ rfl dL_isActed_131
      · skip
        refine lv_aload_n hx hb dL_isActed_47 rfl (lv_at hl 3 rfl) ?_
        refine lv_iload hx hb dL_isActed_48 (lv_at hl 1 rfl) ?_
        refine r_callS X hw (ws' := ([OB D o z s, [(kv, .inl (D.1 100, 7, .inl xv)), (kb, .inl (D.1 100, 7, .inl xb)), (kg, .inl (D.1 100, 7, .inl xg)), (kn, .inl (D.1 100, 7, .inl xn)), (kt, .inl (D.1 100, 11, .inl xt)), (ka, .inl (D.1 100, 27, .inl xa)), (kw, .inl (D.1 100, 64, .inl xw)), (kq, .inl (D.1 100, 14, .inl xq))]] : List va_W).flatten) (As := [.ref kv, .int (nI (y % 7))]) (rest := []) lk_L_26 (c_L_most l D _ kv xv (y % 7) (by omega)) (Foc.trans (Foc.at1 1 rfl rfl (ce rfl rfl)) (Foc.pick [0] (r := [(kb, .inl (D.1 100, 7, .inl xb)), (kg, .inl (D.1 100, 7, .inl xg)), (kn, .inl (D.1 100, 7, .inl xn)), (kt, .inl (D.1 100, 11, .inl xt)), (ka, .inl (D.1 100, 27, .inl xa)), (kw, .inl (D.1 100, 64, .inl xw)), (kq, .inl (D.1 100, 14, .inl xq))]) rfl rfl)) rfl hl.1 (Nat.le_of_ble_eq_true rfl) ⟨Nat.le_of_ble_eq_true rfl, Nat.le_of_ble_eq_true rfl⟩ rfl dL_isActed_50 ⟨Nat.le_refl _, Nat.le_refl _⟩ (fun H locs hw => ?_)
        refine lv_bipush (v := 10) hx hb dL_isActed_53 (by decide) ?_
        refine lv_idiv hx hb dL_isActed_55 (by decide) ?_
        refine lv_bipush (v := 16) hx hb dL_isActed_56 (by decide) ?_
        refine lv_imul hx hb dL_isActed_58 ?_
        refine lv_aload_n hx hb dL_isActed_59 rfl (lv_at hl 3 rfl) ?_
        refine lv_iload hx hb dL_isActed_60 (lv_at hl 1 rfl) ?_
        refine r_callS X hw (ws' := ([OB D o z s, [(kv, .inl (D.1 100, 7, .inl xv)), (kb, .inl (D.1 100, 7, .inl xb)), (kg, .inl (D.1 100, 7, .inl xg)), (kn, .inl (D.1 100, 7, .inl xn)), (kt, .inl (D.1 100, 11, .inl xt)), (ka, .inl (D.1 100, 27, .inl xa)), (kw, .inl (D.1 100, 64, .inl xw)), (kq, .inl (D.1 100, 14, .inl xq))]] : List va_W).flatten) (As := [.ref kv, .int (nI (y % 7))]) (rest := [.int (((sp_L_most xv (y % 7)) / 10) * 16)]) lk_L_26 (c_L_most l D _ kv xv (y % 7) (by omega)) (Foc.trans (Foc.at1 1 rfl rfl (ce rfl rfl)) (Foc.pick [0] (r := [(kb, .inl (D.1 100, 7, .inl xb)), (kg, .inl (D.1 100, 7, .inl xg)), (kn, .inl (D.1 100, 7, .inl xn)), (kt, .inl (D.1 100, 11, .inl xt)), (ka, .inl (D.1 100, 27, .inl xa)), (kw, .inl (D.1 100, 64, .inl xw)), (kq, .inl (D.1 100, 14, .inl xq))]) rfl rfl)) rfl hl.1 (Nat.le_of_ble_eq_true rfl) ⟨Nat.le_of_ble_eq_true rfl, Nat.le_of_ble_eq_true rfl⟩ rfl dL_isActed_62 ⟨Nat.le_refl _, Nat.le_refl _⟩ (fun H locs hw => ?_)
        refine lv_bipush (v := 10) hx hb dL_isActed_65 (by decide) ?_
        refine lv_irem hx hb dL_isActed_67 (by decide) ?_
        refine lv_iadd hx hb dL_isActed_68 ?_
        refine lv_goto (tgt := 91) hx hb dL_isActed_69 (by decide) ?_
        obtain ⟨v9, hv9, e9⟩ := mo_byte hL.1 (show y % 7 < 7 from by omega)
        rw [show (((sp_L_most xv (y % 7)) / 10) * 16) + ((sp_L_most xv (y % 7)) - (sp_L_most xv (y % 7)) / 10 * 10) = nI v9 from e9]
        refine lv_istore (lv' := [(13, .int (nI v9)), (12, .int (nI (y / 7))), (11, .int (nI (y % 7))), (0, .ref o), (1, .ref kv), (2, .ref kb), (3, .ref kg), (4, .ref kn), (5, .ref kt), (6, .ref ka), (7, .ref kw), (8, .ref kq), (9, .int (nI way)), (10, .int (nI y))]) hx hb dL_isActed_91 hl (by decide) rfl (fun ls hl => ?_)
        refine lv_aload_n hx hb dL_isActed_93 rfl (lv_at hl 4 rfl) ?_
        refine lv_aload_n hx hb dL_isActed_94 rfl (lv_at hl 5 rfl) ?_
        refine lv_aload_n hx hb dL_isActed_95 rfl (lv_at hl 6 rfl) ?_
        refine lv_iload hx hb dL_isActed_96 (lv_at hl 2 rfl) ?_
        refine lv_iload hx hb dL_isActed_98 (lv_at hl 0 rfl) ?_
        refine r_callSv X hw (ws' := ([OB D o z s, [(kv, .inl (D.1 100, 7, .inl (upd xv (y % 7) (puN (xb (y % 7)) (xg (y % 7)) (nI v9) 8)))), (kb, .inl (D.1 100, 7, .inl xb)), (kg, .inl (D.1 100, 7, .inl xg)), (kn, .inl (D.1 100, 7, .inl xn)), (kt, .inl (D.1 100, 11, .inl xt)), (ka, .inl (D.1 100, 27, .inl xa)), (kw, .inl (D.1 100, 64, .inl xw)), (kq, .inl (D.1 100, 14, .inl xq))]] : List va_W).flatten) (As := [.ref kv, .ref kb, .ref kg, .int (nI (y % 7)), .int (nI v9)]) (rest := []) lk_L_33 (c_L_put l D _ kv kb kg xv xb xg (y % 7) (nI v9) (by omega)) (Foc.trans (Foc.at1 1 rfl rfl (ce rfl rfl)) (Foc.pick [0, 0, 0] (r := [(kn, .inl (D.1 100, 7, .inl xn)), (kt, .inl (D.1 100, 11, .inl xt)), (ka, .inl (D.1 100, 27, .inl xa)), (kw, .inl (D.1 100, 64, .inl xw)), (kq, .inl (D.1 100, 14, .inl xq))]) rfl rfl)) rfl hl.1 (Nat.le_of_ble_eq_true rfl) ⟨Nat.le_of_ble_eq_true rfl, Nat.le_of_ble_eq_true rfl⟩ rfl dL_isActed_100 ⟨Nat.le_refl _, Nat.le_refl _⟩ (fun H locs hw => ?_)
        refine lv_aload hx hb dL_isActed_103 (lv_at hl 8 rfl) ?_
        refine lv_iconst (v := 4) hx hb dL_isActed_105 (by decide) ?_
        refine lv_dup2_11 hx hb dL_isActed_106 rfl rfl ?_
        refine r_iald X hw (f := xt) 4 (m_fl 1 rfl (m_at 4 rfl)) rfl (by decide) (by decide) dL_isActed_107 ?_
        refine lv_iconst (v := 1) hx hb dL_isActed_108 (by decide) ?_
        refine lv_iadd hx hb dL_isActed_109 ?_
        refine r_iast X hw (ws' := ([OB D o z s, [(kv, .inl (D.1 100, 7, .inl (upd xv (y % 7) (puN (xb (y % 7)) (xg (y % 7)) (nI v9) 8)))), (kb, .inl (D.1 100, 7, .inl xb)), (kg, .inl (D.1 100, 7, .inl xg)), (kn, .inl (D.1 100, 7, .inl xn)), (kt, .inl (D.1 100, 11, .inl (upd xt 4 ((xt 4) + 1)))), (ka, .inl (D.1 100, 27, .inl xa)), (kw, .inl (D.1 100, 64, .inl xw)), (kq, .inl (D.1 100, 14, .inl xq))]] : List va_W).flatten) 4 rfl (by decide) (by decide) (Foc.trans (Foc.at1 1 rfl rfl (ce rfl rfl)) (Foc.cell 4 rfl rfl (ce rfl (ce rfl (ce rfl (ce rfl (ce rfl (ce rfl (ce rfl rfl))))))))) dL_isActed_110 (fun H locs hw => ?_)
        refine lv_aload_n hx hb dL_isActed_111 rfl (lv_at hl 3 rfl) ?_
        refine lv_iload hx hb dL_isActed_112 (lv_at hl 2 rfl) ?_
        refine lv_iload hx hb dL_isActed_114 (lv_at hl 0 rfl) ?_
        obtain ⟨z1, s1, hz1, hL1, hM⟩ := k_writeL o hL hz (i := y % 7) (v := v9) (by omega) (by omega)
        refine r_callV X hw (ws' := ([OB D o z1 s1, [(kv, .inl (D.1 100, 7, .inl (upd xv (y % 7) (puN (xb (y % 7)) (xg (y % 7)) (nI v9) 8)))), (kb, .inl (D.1 100, 7, .inl xb)), (kg, .inl (D.1 100, 7, .inl xg)), (kn, .inl (D.1 100, 7, .inl xn)), (kt, .inl (D.1 100, 11, .inl (upd xt 4 ((xt 4) + 1)))), (ka, .inl (D.1 100, 27, .inl xa)), (kw, .inl (D.1 100, 64, .inl xw)), (kq, .inl (D.1 100, 14, .inl xq))]] : List va_W).flatten) (As := [.int (nI (y % 7)), .int (nI v9)]) (rest := []) lk_L_78 (hM l D _) (Foc.at1 0 rfl rfl (ce rfl rfl)) (m_fl 0 rfl (OB_mem D o z s)) rfl hl.1 (Nat.le_of_ble_eq_true rfl) ⟨Nat.le_of_ble_eq_true rfl, Nat.le_of_ble_eq_true rfl⟩ rfl dL_isActed_116 ⟨Nat.le_refl _, Nat.le_refl _⟩ (fun H locs hw => ?_)
        refine lv_aload_n hx hb dL_isActed_119 rfl (lv_at hl 4 rfl) ?_
        refine lv_iload hx hb dL_isActed_120 (lv_at hl 2 rfl) ?_
        refine r_iald X hw (f := upd xv (y % 7) (puN (xb (y % 7)) (xg (y % 7)) (nI v9) 8)) (y % 7) (m_fl 1 rfl (m_at 0 rfl)) rfl (by omega) (by decide) dL_isActed_122 ?_
        refine lv_icmp_ne (tgt := 130) hx hb dL_isActed_123 (by decide) (fun h => absurd rfl h) (fun _ => ?_)
        refine lv_iconst (v := 1) hx hb dL_isActed_126 (by decide) ?_
        refine lv_goto (tgt := 131) hx hb dL_isActed_127 (by decide) ?_
        exact r_retU X hw hk (z1, s1, xb, xg, (upd xv (y % 7) (puN (xb (y % 7)) (xg (y % 7)) (nI v9) 8), xn, upd xt 4 ((xt 4) + 1), xa), xw, xq) hret rfl rfl ⟨hz1, hL1.mono (Nat.le_succ K)⟩ rfl dL_isActed_131
    · skip
      refine lv_iload hx hb dL_isActed_28 (lv_at hl 0 rfl) ?_
      refine lv_iconst (v := 3) hx hb dL_isActed_30 (by decide) ?_
      refine r_divN hx hb (y / 7) 3 rfl rfl (by omega) (by decide) (by decide) dL_isActed_31 ?_
      refine lv_sipush (v := 256) hx hb dL_isActed_32 (by decide) ?_
      refine r_remN hx hb ((y / 7) / 3) 256 rfl rfl (by omega) (by decide) (by decide) dL_isActed_35 ?_
      refine lv_goto (tgt := 91) hx hb dL_isActed_36 (by decide) ?_
      refine lv_istore (lv' := [(13, .int (nI (((y / 7) / 3) % 256))), (12, .int (nI (y / 7))), (11, .int (nI (y % 7))), (0, .ref o), (1, .ref kv), (2, .ref kb), (3, .ref kg), (4, .ref kn), (5, .ref kt), (6, .ref ka), (7, .ref kw), (8, .ref kq), (9, .int (nI way)), (10, .int (nI y))]) hx hb dL_isActed_91 hl (by decide) rfl (fun ls hl => ?_)
      refine lv_aload_n hx hb dL_isActed_93 rfl (lv_at hl 4 rfl) ?_
      refine lv_aload_n hx hb dL_isActed_94 rfl (lv_at hl 5 rfl) ?_
      refine lv_aload_n hx hb dL_isActed_95 rfl (lv_at hl 6 rfl) ?_
      refine lv_iload hx hb dL_isActed_96 (lv_at hl 2 rfl) ?_
      refine lv_iload hx hb dL_isActed_98 (lv_at hl 0 rfl) ?_
      refine r_callSv X hw (ws' := ([OB D o z s, [(kv, .inl (D.1 100, 7, .inl (upd xv (y % 7) (puN (xb (y % 7)) (xg (y % 7)) (nI (((y / 7) / 3) % 256)) 8)))), (kb, .inl (D.1 100, 7, .inl xb)), (kg, .inl (D.1 100, 7, .inl xg)), (kn, .inl (D.1 100, 7, .inl xn)), (kt, .inl (D.1 100, 11, .inl xt)), (ka, .inl (D.1 100, 27, .inl xa)), (kw, .inl (D.1 100, 64, .inl xw)), (kq, .inl (D.1 100, 14, .inl xq))]] : List va_W).flatten) (As := [.ref kv, .ref kb, .ref kg, .int (nI (y % 7)), .int (nI (((y / 7) / 3) % 256))]) (rest := []) lk_L_33 (c_L_put l D _ kv kb kg xv xb xg (y % 7) (nI (((y / 7) / 3) % 256)) (by omega)) (Foc.trans (Foc.at1 1 rfl rfl (ce rfl rfl)) (Foc.pick [0, 0, 0] (r := [(kn, .inl (D.1 100, 7, .inl xn)), (kt, .inl (D.1 100, 11, .inl xt)), (ka, .inl (D.1 100, 27, .inl xa)), (kw, .inl (D.1 100, 64, .inl xw)), (kq, .inl (D.1 100, 14, .inl xq))]) rfl rfl)) rfl hl.1 (Nat.le_of_ble_eq_true rfl) ⟨Nat.le_of_ble_eq_true rfl, Nat.le_of_ble_eq_true rfl⟩ rfl dL_isActed_100 ⟨Nat.le_refl _, Nat.le_refl _⟩ (fun H locs hw => ?_)
      refine lv_aload hx hb dL_isActed_103 (lv_at hl 8 rfl) ?_
      refine lv_iconst (v := 4) hx hb dL_isActed_105 (by decide) ?_
      refine lv_dup2_11 hx hb dL_isActed_106 rfl rfl ?_
      refine r_iald X hw (f := xt) 4 (m_fl 1 rfl (m_at 4 rfl)) rfl (by decide) (by decide) dL_isActed_107 ?_
      refine lv_iconst (v := 1) hx hb dL_isActed_108 (by decide) ?_
      refine lv_iadd hx hb dL_isActed_109 ?_
      refine r_iast X hw (ws' := ([OB D o z s, [(kv, .inl (D.1 100, 7, .inl (upd xv (y % 7) (puN (xb (y % 7)) (xg (y % 7)) (nI (((y / 7) / 3) % 256)) 8)))), (kb, .inl (D.1 100, 7, .inl xb)), (kg, .inl (D.1 100, 7, .inl xg)), (kn, .inl (D.1 100, 7, .inl xn)), (kt, .inl (D.1 100, 11, .inl (upd xt 4 ((xt 4) + 1)))), (ka, .inl (D.1 100, 27, .inl xa)), (kw, .inl (D.1 100, 64, .inl xw)), (kq, .inl (D.1 100, 14, .inl xq))]] : List va_W).flatten) 4 rfl (by decide) (by decide) (Foc.trans (Foc.at1 1 rfl rfl (ce rfl rfl)) (Foc.cell 4 rfl rfl (ce rfl (ce rfl (ce rfl (ce rfl (ce rfl (ce rfl (ce rfl rfl))))))))) dL_isActed_110 (fun H locs hw => ?_)
      refine lv_aload_n hx hb dL_isActed_111 rfl (lv_at hl 3 rfl) ?_
      refine lv_iload hx hb dL_isActed_112 (lv_at hl 2 rfl) ?_
      refine lv_iload hx hb dL_isActed_114 (lv_at hl 0 rfl) ?_
      obtain ⟨z1, s1, hz1, hL1, hM⟩ := k_writeL o hL hz (i := y % 7) (v := ((y / 7) / 3) % 256) (by omega) (by omega)
      refine r_callV X hw (ws' := ([OB D o z1 s1, [(kv, .inl (D.1 100, 7, .inl (upd xv (y % 7) (puN (xb (y % 7)) (xg (y % 7)) (nI (((y / 7) / 3) % 256)) 8)))), (kb, .inl (D.1 100, 7, .inl xb)), (kg, .inl (D.1 100, 7, .inl xg)), (kn, .inl (D.1 100, 7, .inl xn)), (kt, .inl (D.1 100, 11, .inl (upd xt 4 ((xt 4) + 1)))), (ka, .inl (D.1 100, 27, .inl xa)), (kw, .inl (D.1 100, 64, .inl xw)), (kq, .inl (D.1 100, 14, .inl xq))]] : List va_W).flatten) (As := [.int (nI (y % 7)), .int (nI (((y / 7) / 3) % 256))]) (rest := []) lk_L_78 (hM l D _) (Foc.at1 0 rfl rfl (ce rfl rfl)) (m_fl 0 rfl (OB_mem D o z s)) rfl hl.1 (Nat.le_of_ble_eq_true rfl) ⟨Nat.le_of_ble_eq_true rfl, Nat.le_of_ble_eq_true rfl⟩ rfl dL_isActed_116 ⟨Nat.le_refl _, Nat.le_refl _⟩ (fun H locs hw => ?_)
      refine lv_aload_n hx hb dL_isActed_119 rfl (lv_at hl 4 rfl) ?_
      refine lv_iload hx hb dL_isActed_120 (lv_at hl 2 rfl) ?_
      refine r_iald X hw (f := upd xv (y % 7) (puN (xb (y % 7)) (xg (y % 7)) (nI (((y / 7) / 3) % 256)) 8)) (y % 7) (m_fl 1 rfl (m_at 0 rfl)) rfl (by omega) (by decide) dL_isActed_122 ?_
      refine lv_icmp_ne (tgt := 130) hx hb dL_isActed_123 (by decide) (fun h => absurd rfl h) (fun _ => ?_)
      refine lv_iconst (v := 1) hx hb dL_isActed_126 (by decide) ?_
      refine lv_goto (tgt := 131) hx hb dL_isActed_127 (by decide) ?_
      exact r_retU X hw hk (z1, s1, xb, xg, (upd xv (y % 7) (puN (xb (y % 7)) (xg (y % 7)) (nI (((y / 7) / 3) % 256)) 8), xn, upd xt 4 ((xt 4) + 1), xa), xw, xq) hret rfl rfl ⟨hz1, hL1.mono (Nat.le_succ K)⟩ rfl dL_isActed_131
