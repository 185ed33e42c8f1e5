noncomputable def rbF (s : ChS) : Nat → Nat → Nat
  | 0, r => r
  | f + 1, r => if 7 ≤ r then r else (if s.se 2 - s.ph ≤ nI r * s.se 0 then r else rbF s f (r + 1))
theorem rbF_x {s : ChS} {f r : Nat} (h : 7 ≤ r ∨ s.se 2 - s.ph ≤ nI r * s.se 0) : rbF s f r = r := by
  cases f with
  | zero => rfl
  | succ f =>
    show (if 7 ≤ r then r else (if s.se 2 - s.ph ≤ nI r * s.se 0 then r else rbF s f (r + 1))) = r
    (repeat' split) <;> first | rfl | (rcases h with h | h <;> contradiction)
theorem rbF_s {s : ChS} {f r : Nat} (h : ¬ 7 ≤ r) (h2 : ¬ s.se 2 - s.ph ≤ nI r * s.se 0) : rbF s (f + 1) r = rbF s f (r + 1) := (if_neg h).trans (if_neg h2)

set_option maxRecDepth 100000 in
set_option maxHeartbeats 4000000 in
theorem c_X6_readable (l : Launch) (D : va_G) (sz : Nat) (o ha ta : Nat) (L w1 w2 M y1 y2 : Nat → Nat) (HL HW1 HW2 : Nat → Nat → Nat) (b0 b1 b2 b3 : Nat) (bw : Nat → Nat) (u0 u1 : Nat) (tx : Row) (T : Nat) (s t : ChS) (hs : Nat → ChS) (en tb : Row) (sh : Nat → Row) (n0 : Int32) (nu : Row) (lt br le : Int32) (k : Nat) (hk4 : k ≤ 4) (hT : T ≤ 60) : MI l yX6_readable cX6_readable 3 (some .int) 0 0 D sz [.ref o] (([([xB D o ha ta (L 0) (M 0) b0 u0 (nI k) (rows4 HL) tx (nI T), chipB D L w1 w2 s.v s.f s.g s.r s.av s.mk s.cm s.ar s.fl s.en s.la s.zs s.se s.ph s.tk s.pc s.rc s.wc s.bc s.tc, hsB D HL HW1 HW2 hs] : List va_W).flatten, ([chipB D M y1 y2 t.v t.f t.g t.r t.av t.mk t.cm t.ar t.fl t.en t.la t.zs t.se t.ph t.tk t.pc t.rc t.wc t.bc t.tc, buB D b0 b1 b2 b3 bw en tb sh n0, orB D u0 u1 nu lt br le] : List va_W).flatten] : List va_W).flatten) (nI (rbF s 7 1)) (([([xB D o ha ta (L 0) (M 0) b0 u0 (nI k) (rows4 HL) tx (nI T), chipB D L w1 w2 s.v s.f s.g s.r s.av s.mk s.cm s.ar s.fl s.en s.la s.zs s.se s.ph s.tk s.pc s.rc s.wc s.bc s.tc, hsB D HL HW1 HW2 hs] : List va_W).flatten, ([chipB D M y1 y2 t.v t.f t.g t.r t.av t.mk t.cm t.ar t.fl t.en t.la t.zs t.se t.ph t.tk t.pc t.rc t.wc t.bc t.tc, buB D b0 b1 b2 b3 bw en tb sh n0, orB D u0 u1 nu lt br le] : List va_W).flatten] : List va_W).flatten) := by
  refine r_enterI (by decide) (Nat.le_of_ble_eq_true rfl) ?_
  intro p e st m args below meth c ls A X hret hk hw hl
  have X : CX D p m c cX6_readable 3 st args RX6 A := X
  have hx := X.1.1
  have hb := X.1.2.1
  have hown := X.1.2.2.2.1
  have hts := X.1.2.2.2.2
  have hl : lv_has ls 3 [(0, .ref o)] := hl
  refine lv_aload_n hx hb dX6_readable_0 rfl (lv_at hl 0 rfl) ?_
  refine r_get X hw (v := .ref (L 0)) fl_X6_10 (m_fl 0 rfl (m_fl 0 rfl (m_at 0 rfl))) rfl dX6_readable_1 ?_
  refine r_get X hw (v := .ref (L 12)) fl_X6_210 (m_fl 0 rfl (m_fl 1 rfl (m_fl 0 rfl (m_at 0 rfl)))) rfl dX6_readable_4 ?_
  refine lv_iconst (v := 2) hx hb dX6_readable_7 (by decide) ?_
  refine r_iald X hw (f := s.se) 2 (m_fl 0 rfl (m_fl 1 rfl (m_fl 4 rfl (m_at 0 rfl)))) rfl (by decide) (by decide) dX6_readable_8 ?_
  refine lv_aload_n hx hb dX6_readable_9 rfl (lv_at hl 0 rfl) ?_
  refine r_get X hw (v := .ref (L 0)) fl_X6_10 (m_fl 0 rfl (m_fl 0 rfl (m_at 0 rfl))) rfl dX6_readable_10 ?_
  refine r_get X hw (v := .int s.ph) fl_X6_213 (m_fl 0 rfl (m_fl 1 rfl (m_fl 0 rfl (m_at 0 rfl)))) rfl dX6_readable_13 ?_
  refine lv_isub hx hb dX6_readable_16 ?_
  refine lv_istore_n (lv' := [(1, .int ((s.se 2) - s.ph)), (0, .ref o)]) hx hb dX6_readable_17 rfl hl (by decide) rfl (fun ls hl => ?_)
  refine lv_iconst (v := 1) hx hb dX6_readable_18 (by decide) ?_
  refine lv_istore_n (lv' := [(2, .int 1), (1, .int ((s.se 2) - s.ph)), (0, .ref o)]) hx hb dX6_readable_19 rfl hl (by decide) rfl (fun ls hl => ?_)
  have key20 : ∀ (n20 : Nat) (f r : Nat), (r + f = 8) → (f < n20) → (rbF s f r = rbF s 7 1) → ∀ (H : Heap) (locs : List Loc) (ls : Array Slot), Wd D A st.heap H locs (([([xB D o ha ta (L 0) (M 0) b0 u0 (nI k) (rows4 HL) tx (nI T), chipB D L w1 w2 s.v s.f s.g s.r s.av s.mk s.cm s.ar s.fl s.en s.la s.zs s.se s.ph s.tk s.pc s.rc s.wc s.bc s.tc, hsB D HL HW1 HW2 hs] : List va_W).flatten, ([chipB D M y1 y2 t.v t.f t.g t.r t.av t.mk t.cm t.ar t.fl t.en t.la t.zs t.se t.ph t.tk t.pc t.rc t.wc t.bc t.tc, buB D b0 b1 b2 b3 bw en tb sh n0, orB D u0 u1 nu lt br le] : List va_W).flatten] : List va_W).flatten) → lv_has ls 3 [(0, .ref o), (1, .int (s.se 2 - s.ph)), (2, .int (nI r))] → W p l e (rmOf 0 0 0 0) st m args below meth c H locs 0 0 (QI below args st D A (nI (rbF s 7 1)) (([([xB D o ha ta (L 0) (M 0) b0 u0 (nI k) (rows4 HL) tx (nI T), chipB D L w1 w2 s.v s.f s.g s.r s.av s.mk s.cm s.ar s.fl s.en s.la s.zs s.se s.ph s.tk s.pc s.rc s.wc s.bc s.tc, hsB D HL HW1 HW2 hs] : List va_W).flatten, ([chipB D M y1 y2 t.v t.f t.g t.r t.av t.mk t.cm t.ar t.fl t.en t.la t.zs t.se t.ph t.tk t.pc t.rc t.wc t.bc t.tc, buB D b0 b1 b2 b3 bw en tb sh n0, orB D u0 u1 nu lt br le] : List va_W).flatten] : List va_W).flatten)) (F0 m 20 ls []) := by
    intro n20
    induction n20 with
    | zero => intro f r hj hm hR; omega
    | succ n20 ih20 =>
      intro f r hj hm hR H locs ls hw hl
      refine lv_iload_n hx hb dX6_readable_20 rfl (lv_at hl 2 rfl) ?_
      refine lv_bipush (v := 7) hx hb dX6_readable_21 (by decide) ?_
      refine r_geN (tgt := 47) hx hb r 7 rfl rfl (by omega) (by omega) dX6_readable_23 (by decide) (fun c1 => ?_) (fun c1 => ?_)
      · skip
        refine lv_iload_n hx hb dX6_readable_47 rfl (lv_at hl 2 rfl) ?_
        exact r_ret X hw hk hret rfl (by rw [← hR, rbF_x (Or.inl c1)]) rfl dX6_readable_48
      · skip
        obtain ⟨f, rfl⟩ : ∃ f0, f = f0 + 1 := ⟨f - 1, by omega⟩
        refine lv_iload_n hx hb dX6_readable_26 rfl (lv_at hl 2 rfl) ?_
        refine lv_aload_n hx hb dX6_readable_27 rfl (lv_at hl 0 rfl) ?_
        refine r_get X hw (v := .ref (L 0)) fl_X6_10 (m_fl 0 rfl (m_fl 0 rfl (m_at 0 rfl))) rfl dX6_readable_28 ?_
        refine r_get X hw (v := .ref (L 12)) fl_X6_210 (m_fl 0 rfl (m_fl 1 rfl (m_fl 0 rfl (m_at 0 rfl)))) rfl dX6_readable_31 ?_
        refine lv_iconst (v := 0) hx hb dX6_readable_34 (by decide) ?_
        refine r_iald X hw (f := s.se) 0 (m_fl 0 rfl (m_fl 1 rfl (m_fl 4 rfl (m_at 0 rfl)))) rfl (by decide) (by decide) dX6_readable_35 ?_
        refine lv_imul hx hb dX6_readable_36 ?_
        refine lv_iload_n hx hb dX6_readable_37 rfl (lv_at hl 1 rfl) ?_
        refine lv_icmp_ge (tgt := 47) hx hb dX6_readable_38 (by decide) (fun c2 => ?_) (fun c2 => ?_)
        · skip
          refine lv_iload_n hx hb dX6_readable_47 rfl (lv_at hl 2 rfl) ?_
          exact r_ret X hw hk hret rfl (by rw [← hR, rbF_x (Or.inr c2)]) rfl dX6_readable_48
        · skip
          refine r_iincN (lv' := [(2, .int (nI (r + 1))), (0, .ref o), (1, .int (s.se 2 - s.ph))]) hx hb r 1 rfl dX6_readable_41 hl (k := 2) rfl rfl (by decide) rfl (fun ls hl => ?_)
          refine lv_goto (tgt := 20) hx hb dX6_readable_44 (by decide) ?_
          exact ih20 f (r + 1) (by omega) (by omega) ((rbF_s (Nat.not_le.mpr c1) c2).symm.trans hR) _ _ _ hw (lv_sub hl [1, 2, 0] rfl)
  exact key20 8 7 1 (by omega) (by omega) rfl _ _ _ hw (lv_sub hl [2, 1, 0] rfl)

set_option maxRecDepth 100000 in
set_option maxHeartbeats 4000000 in
theorem c_X6_undo (l : Launch) (D : va_G) (sz : Nat) (o ha ta : Nat) (L w1 w2 M y1 y2 : Nat → Nat) (HL HW1 HW2 : Nat → Nat → Nat) (b0 b1 b2 b3 : Nat) (bw : Nat → Nat) (u0 u1 : Nat) (tx : Row) (T : Nat) (s t : ChS) (hs : Nat → ChS) (en tb : Row) (sh : Nat → Row) (n0 : Int32) (nu : Row) (lt br le : Int32) (k : Nat) (hk4 : k ≤ 4) (hT : T ≤ 60) (hk1 : 1 ≤ k) : MI l yX6_undo cX6_undo 2 (some .int) 3 103 D sz [.ref o] (([([xB D o ha ta (L 0) (M 0) b0 u0 (nI k) (rows4 HL) tx (nI T), chipB D L w1 w2 s.v s.f s.g s.r s.av s.mk s.cm s.ar s.fl s.en s.la s.zs s.se s.ph s.tk s.pc s.rc s.wc s.bc s.tc, hsB D HL HW1 HW2 hs] : List va_W).flatten, ([chipB D M y1 y2 t.v t.f t.g t.r t.av t.mk t.cm t.ar t.fl t.en t.la t.zs t.se t.ph t.tk t.pc t.rc t.wc t.bc t.tc, buB D b0 b1 b2 b3 bw en tb sh n0, orB D u0 u1 nu lt br le] : List va_W).flatten] : List va_W).flatten) (nI (k - 1)) (([([xB D o ha ta (L 0) (M 0) b0 u0 (nI (k - 1)) (rows4 HL) tx (nI T), chipB D L w1 w2 ((cpC s (hs (k - 1))).v) ((cpC s (hs (k - 1))).f) ((cpC s (hs (k - 1))).g) ((cpC s (hs (k - 1))).r) ((cpC s (hs (k - 1))).av) ((cpC s (hs (k - 1))).mk) ((cpC s (hs (k - 1))).cm) ((cpC s (hs (k - 1))).ar) ((cpC s (hs (k - 1))).fl) ((cpC s (hs (k - 1))).en) ((cpC s (hs (k - 1))).la) ((cpC s (hs (k - 1))).zs) ((cpC s (hs (k - 1))).se) ((cpC s (hs (k - 1))).ph) ((cpC s (hs (k - 1))).tk) ((cpC s (hs (k - 1))).pc) ((cpC s (hs (k - 1))).rc) ((cpC s (hs (k - 1))).wc) ((cpC s (hs (k - 1))).bc) ((cpC s (hs (k - 1))).tc), hsB D HL HW1 HW2 hs] : List va_W).flatten, ([chipB D M y1 y2 t.v t.f t.g t.r t.av t.mk t.cm t.ar t.fl t.en t.la t.zs t.se t.ph t.tk t.pc t.rc t.wc t.bc t.tc, buB D b0 b1 b2 b3 bw en tb sh n0, orB D u0 u1 nu lt br le] : List va_W).flatten] : List va_W).flatten) := by
  refine r_enterI (by decide) (Nat.le_of_ble_eq_true rfl) ?_
  intro p e st m args below meth c ls A X hret hk hw hl
  have X : CX D p m c cX6_undo 2 st args RX6 A := X
  have hx := X.1.1
  have hb := X.1.2.1
  have hown := X.1.2.2.2.1
  have hts := X.1.2.2.2.2
  have hl : lv_has ls 2 [(0, .ref o)] := hl
  have hcases : k = 1 ∨ k = 2 ∨ k = 3 ∨ k = 4 := by omega
  rcases hcases with rfl | rfl | rfl | rfl
  · skip
    refine lv_aload_n hx hb dX6_undo_0 rfl (lv_at hl 0 rfl) ?_
    refine r_get X hw (v := .int 1) fl_X6_254 (m_fl 0 rfl (m_fl 0 rfl (m_at 0 rfl))) rfl dX6_undo_1 ?_
    refine lv_if_le (tgt := 21) hx hb dX6_undo_4 (by decide) (fun h => absurd h (by decide)) (fun _ => ?_)
    refine lv_aload_n hx hb dX6_undo_7 rfl (lv_at hl 0 rfl) ?_
    refine r_get X hw (v := .ref ha) fl_X6_33 (m_fl 0 rfl (m_fl 0 rfl (m_at 0 rfl))) rfl dX6_undo_8 ?_
    refine lv_aload_n hx hb dX6_undo_11 rfl (lv_at hl 0 rfl) ?_
    refine r_get X hw (v := .int 1) fl_X6_254 (m_fl 0 rfl (m_fl 0 rfl (m_at 0 rfl))) rfl dX6_undo_12 ?_
    refine lv_iconst (v := 1) hx hb dX6_undo_15 (by decide) ?_
    refine r_subN hx hb 1 1 rfl rfl (by decide) dX6_undo_16 ?_
    refine r_aldq X hw (q := (HL 0) 0) 0 (m_fl 0 rfl (m_fl 0 rfl (m_at 1 rfl))) rfl (by decide) (by decide) rfl dX6_undo_17 ?_
    refine lv_goto (tgt := 22) hx hb dX6_undo_18 (by decide) ?_
    refine lv_astore_n (lv' := [(1, .ref ((HL 0) 0)), (0, .ref o)]) hx hb dX6_undo_22 rfl hl (by decide) rfl (fun ls hl => ?_)
    refine lv_aload_n hx hb dX6_undo_23 rfl (lv_at hl 0 rfl) ?_
    refine lv_ifnonnull (tgt := 30) hx hb dX6_undo_24 (by decide) ?_
    refine lv_aload_n hx hb dX6_undo_30 rfl (lv_at hl 1 rfl) ?_
    refine r_get X hw (v := .ref (L 0)) fl_X6_10 (m_fl 0 rfl (m_fl 0 rfl (m_at 0 rfl))) rfl dX6_undo_31 ?_
    refine lv_aload_n hx hb dX6_undo_34 rfl (lv_at hl 0 rfl) ?_
    refine r_callVv X hw (ws' := ([([xB D o ha ta (L 0) (M 0) b0 u0 1 (rows4 HL) tx (nI T), chipB D L w1 w2 ((cpC s (hs 0)).v) ((cpC s (hs 0)).f) ((cpC s (hs 0)).g) ((cpC s (hs 0)).r) ((cpC s (hs 0)).av) ((cpC s (hs 0)).mk) ((cpC s (hs 0)).cm) ((cpC s (hs 0)).ar) ((cpC s (hs 0)).fl) ((cpC s (hs 0)).en) ((cpC s (hs 0)).la) ((cpC s (hs 0)).zs) ((cpC s (hs 0)).se) ((cpC s (hs 0)).ph) ((cpC s (hs 0)).tk) ((cpC s (hs 0)).pc) ((cpC s (hs 0)).rc) ((cpC s (hs 0)).wc) ((cpC s (hs 0)).bc) ((cpC s (hs 0)).tc), ([chipB D (HL 0) (HW1 0) (HW2 0) ((hs 0).v) ((hs 0).f) ((hs 0).g) ((hs 0).r) ((hs 0).av) ((hs 0).mk) ((hs 0).cm) ((hs 0).ar) ((hs 0).fl) ((hs 0).en) ((hs 0).la) ((hs 0).zs) ((hs 0).se) ((hs 0).ph) ((hs 0).tk) ((hs 0).pc) ((hs 0).rc) ((hs 0).wc) ((hs 0).bc) ((hs 0).tc), chipB D (HL 1) (HW1 1) (HW2 1) ((hs 1).v) ((hs 1).f) ((hs 1).g) ((hs 1).r) ((hs 1).av) ((hs 1).mk) ((hs 1).cm) ((hs 1).ar) ((hs 1).fl) ((hs 1).en) ((hs 1).la) ((hs 1).zs) ((hs 1).se) ((hs 1).ph) ((hs 1).tk) ((hs 1).pc) ((hs 1).rc) ((hs 1).wc) ((hs 1).bc) ((hs 1).tc), chipB D (HL 2) (HW1 2) (HW2 2) ((hs 2).v) ((hs 2).f) ((hs 2).g) ((hs 2).r) ((hs 2).av) ((hs 2).mk) ((hs 2).cm) ((hs 2).ar) ((hs 2).fl) ((hs 2).en) ((hs 2).la) ((hs 2).zs) ((hs 2).se) ((hs 2).ph) ((hs 2).tk) ((hs 2).pc) ((hs 2).rc) ((hs 2).wc) ((hs 2).bc) ((hs 2).tc), chipB D (HL 3) (HW1 3) (HW2 3) ((hs 3).v) ((hs 3).f) ((hs 3).g) ((hs 3).r) ((hs 3).av) ((hs 3).mk) ((hs 3).cm) ((hs 3).ar) ((hs 3).fl) ((hs 3).en) ((hs 3).la) ((hs 3).zs) ((hs 3).se) ((hs 3).ph) ((hs 3).tk) ((hs 3).pc) ((hs 3).rc) ((hs 3).wc) ((hs 3).bc) ((hs 3).tc)] : List va_W).flatten] : List va_W).flatten, ([chipB D M y1 y2 t.v t.f t.g t.r t.av t.mk t.cm t.ar t.fl t.en t.la t.zs t.se t.ph t.tk t.pc t.rc t.wc t.bc t.tc, buB D b0 b1 b2 b3 bw en tb sh n0, orB D u0 u1 nu lt br le] : List va_W).flatten] : List va_W).flatten) (As := [.ref ((HL 0) 0)]) (rest := []) lk_X6_216 (c_X3_copyFrom l D _ L w1 w2 (HL 0) (HW1 0) (HW2 0) s (hs 0)) (Foc.trans (Foc.at1 0 rfl rfl (ce rfl rfl)) (Foc.trans (Foc.at2 1 1 rfl rfl rfl rfl (ce rfl rfl)) (Foc.pair Foc.all (Foc.at1 0 rfl rfl (ce rfl (ce rfl (ce rfl rfl))))))) (m_fl 0 rfl (m_fl 1 rfl (m_fl 0 rfl (m_at 0 rfl)))) rfl hl.1 (Nat.le_of_ble_eq_true rfl) ⟨Nat.le_of_ble_eq_true rfl, Nat.le_of_ble_eq_true rfl⟩ rfl dX6_undo_35 ⟨Nat.le_refl _, Nat.le_refl _⟩ (fun H locs hw => ?_)
    refine lv_aload_n hx hb dX6_undo_38 rfl (lv_at hl 1 rfl) ?_
    refine lv_dup hx hb dX6_undo_39 rfl ?_
    refine r_get X hw (v := .int 1) fl_X6_254 (m_fl 0 rfl (m_fl 0 rfl (m_at 0 rfl))) rfl dX6_undo_40 ?_
    refine lv_iconst (v := 1) hx hb dX6_undo_43 (by decide) ?_
    refine r_subN hx hb 1 1 rfl rfl (by decide) dX6_undo_44 ?_
    refine r_puti X hw (ws' := ([([xB D o ha ta (L 0) (M 0) b0 u0 0 (rows4 HL) tx (nI T), chipB D L w1 w2 ((cpC s (hs 0)).v) ((cpC s (hs 0)).f) ((cpC s (hs 0)).g) ((cpC s (hs 0)).r) ((cpC s (hs 0)).av) ((cpC s (hs 0)).mk) ((cpC s (hs 0)).cm) ((cpC s (hs 0)).ar) ((cpC s (hs 0)).fl) ((cpC s (hs 0)).en) ((cpC s (hs 0)).la) ((cpC s (hs 0)).zs) ((cpC s (hs 0)).se) ((cpC s (hs 0)).ph) ((cpC s (hs 0)).tk) ((cpC s (hs 0)).pc) ((cpC s (hs 0)).rc) ((cpC s (hs 0)).wc) ((cpC s (hs 0)).bc) ((cpC s (hs 0)).tc), ([chipB D (HL 0) (HW1 0) (HW2 0) ((hs 0).v) ((hs 0).f) ((hs 0).g) ((hs 0).r) ((hs 0).av) ((hs 0).mk) ((hs 0).cm) ((hs 0).ar) ((hs 0).fl) ((hs 0).en) ((hs 0).la) ((hs 0).zs) ((hs 0).se) ((hs 0).ph) ((hs 0).tk) ((hs 0).pc) ((hs 0).rc) ((hs 0).wc) ((hs 0).bc) ((hs 0).tc), chipB D (HL 1) (HW1 1) (HW2 1) ((hs 1).v) ((hs 1).f) ((hs 1).g) ((hs 1).r) ((hs 1).av) ((hs 1).mk) ((hs 1).cm) ((hs 1).ar) ((hs 1).fl) ((hs 1).en) ((hs 1).la) ((hs 1).zs) ((hs 1).se) ((hs 1).ph) ((hs 1).tk) ((hs 1).pc) ((hs 1).rc) ((hs 1).wc) ((hs 1).bc) ((hs 1).tc), chipB D (HL 2) (HW1 2) (HW2 2) ((hs 2).v) ((hs 2).f) ((hs 2).g) ((hs 2).r) ((hs 2).av) ((hs 2).mk) ((hs 2).cm) ((hs 2).ar) ((hs 2).fl) ((hs 2).en) ((hs 2).la) ((hs 2).zs) ((hs 2).se) ((hs 2).ph) ((hs 2).tk) ((hs 2).pc) ((hs 2).rc) ((hs 2).wc) ((hs 2).bc) ((hs 2).tc), chipB D (HL 3) (HW1 3) (HW2 3) ((hs 3).v) ((hs 3).f) ((hs 3).g) ((hs 3).r) ((hs 3).av) ((hs 3).mk) ((hs 3).cm) ((hs 3).ar) ((hs 3).fl) ((hs 3).en) ((hs 3).la) ((hs 3).zs) ((hs 3).se) ((hs 3).ph) ((hs 3).tk) ((hs 3).pc) ((hs 3).rc) ((hs 3).wc) ((hs 3).bc) ((hs 3).tc)] : List va_W).flatten] : List va_W).flatten, ([chipB D M y1 y2 t.v t.f t.g t.r t.av t.mk t.cm t.ar t.fl t.en t.la t.zs t.se t.ph t.tk t.pc t.rc t.wc t.bc t.tc, buB D b0 b1 b2 b3 bw en tb sh n0, orB D u0 u1 nu lt br le] : List va_W).flatten] : List va_W).flatten) fp_X6_254 (Nat.le_of_ble_eq_true rfl) (Foc.trans (Foc.at1 0 rfl rfl (ce rfl rfl)) (Foc.trans (Foc.at1 0 rfl rfl (ce rfl (ce rfl rfl))) (Foc.cell 0 rfl rfl (ce rfl (ce rfl rfl))))) dX6_undo_45 (fun H locs hw => ?_)
    refine lv_aload_n hx hb dX6_undo_48 rfl (lv_at hl 1 rfl) ?_
    refine r_get X hw (v := .int 0) fl_X6_254 (m_fl 0 rfl (m_fl 0 rfl (m_at 0 rfl))) rfl dX6_undo_49 ?_
    exact r_ret X hw hk hret rfl rfl rfl dX6_undo_52
  · skip
    refine lv_aload_n hx hb dX6_undo_0 rfl (lv_at hl 0 rfl) ?_
    refine r_get X hw (v := .int 2) fl_X6_254 (m_fl 0 rfl (m_fl 0 rfl (m_at 0 rfl))) rfl dX6_undo_1 ?_
    refine lv_if_le (tgt := 21) hx hb dX6_undo_4 (by decide) (fun h => absurd h (by decide)) (fun _ => ?_)
    refine lv_aload_n hx hb dX6_undo_7 rfl (lv_at hl 0 rfl) ?_
    refine r_get X hw (v := .ref ha) fl_X6_33 (m_fl 0 rfl (m_fl 0 rfl (m_at 0 rfl))) rfl dX6_undo_8 ?_
    refine lv_aload_n hx hb dX6_undo_11 rfl (lv_at hl 0 rfl) ?_
    refine r_get X hw (v := .int 2) fl_X6_254 (m_fl 0 rfl (m_fl 0 rfl (m_at 0 rfl))) rfl dX6_undo_12 ?_
    refine lv_iconst (v := 1) hx hb dX6_undo_15 (by decide) ?_
    refine r_subN hx hb 2 1 rfl rfl (by decide) dX6_undo_16 ?_
    refine r_aldq X hw (q := (HL 1) 0) 1 (m_fl 0 rfl (m_fl 0 rfl (m_at 1 rfl))) rfl (by decide) (by decide) rfl dX6_undo_17 ?_
    refine lv_goto (tgt := 22) hx hb dX6_undo_18 (by decide) ?_
    refine lv_astore_n (lv' := [(1, .ref ((HL 1) 0)), (0, .ref o)]) hx hb dX6_undo_22 rfl hl (by decide) rfl (fun ls hl => ?_)
    refine lv_aload_n hx hb dX6_undo_23 rfl (lv_at hl 0 rfl) ?_
    refine lv_ifnonnull (tgt := 30) hx hb dX6_undo_24 (by decide) ?_
    refine lv_aload_n hx hb dX6_undo_30 rfl (lv_at hl 1 rfl) ?_
    refine r_get X hw (v := .ref (L 0)) fl_X6_10 (m_fl 0 rfl (m_fl 0 rfl (m_at 0 rfl))) rfl dX6_undo_31 ?_
    refine lv_aload_n hx hb dX6_undo_34 rfl (lv_at hl 0 rfl) ?_
    refine r_callVv X hw (ws' := ([([xB D o ha ta (L 0) (M 0) b0 u0 2 (rows4 HL) tx (nI T), chipB D L w1 w2 ((cpC s (hs 1)).v) ((cpC s (hs 1)).f) ((cpC s (hs 1)).g) ((cpC s (hs 1)).r) ((cpC s (hs 1)).av) ((cpC s (hs 1)).mk) ((cpC s (hs 1)).cm) ((cpC s (hs 1)).ar) ((cpC s (hs 1)).fl) ((cpC s (hs 1)).en) ((cpC s (hs 1)).la) ((cpC s (hs 1)).zs) ((cpC s (hs 1)).se) ((cpC s (hs 1)).ph) ((cpC s (hs 1)).tk) ((cpC s (hs 1)).pc) ((cpC s (hs 1)).rc) ((cpC s (hs 1)).wc) ((cpC s (hs 1)).bc) ((cpC s (hs 1)).tc), ([chipB D (HL 0) (HW1 0) (HW2 0) ((hs 0).v) ((hs 0).f) ((hs 0).g) ((hs 0).r) ((hs 0).av) ((hs 0).mk) ((hs 0).cm) ((hs 0).ar) ((hs 0).fl) ((hs 0).en) ((hs 0).la) ((hs 0).zs) ((hs 0).se) ((hs 0).ph) ((hs 0).tk) ((hs 0).pc) ((hs 0).rc) ((hs 0).wc) ((hs 0).bc) ((hs 0).tc), chipB D (HL 1) (HW1 1) (HW2 1) ((hs 1).v) ((hs 1).f) ((hs 1).g) ((hs 1).r) ((hs 1).av) ((hs 1).mk) ((hs 1).cm) ((hs 1).ar) ((hs 1).fl) ((hs 1).en) ((hs 1).la) ((hs 1).zs) ((hs 1).se) ((hs 1).ph) ((hs 1).tk) ((hs 1).pc) ((hs 1).rc) ((hs 1).wc) ((hs 1).bc) ((hs 1).tc), chipB D (HL 2) (HW1 2) (HW2 2) ((hs 2).v) ((hs 2).f) ((hs 2).g) ((hs 2).r) ((hs 2).av) ((hs 2).mk) ((hs 2).cm) ((hs 2).ar) ((hs 2).fl) ((hs 2).en) ((hs 2).la) ((hs 2).zs) ((hs 2).se) ((hs 2).ph) ((hs 2).tk) ((hs 2).pc) ((hs 2).rc) ((hs 2).wc) ((hs 2).bc) ((hs 2).tc), chipB D (HL 3) (HW1 3) (HW2 3) ((hs 3).v) ((hs 3).f) ((hs 3).g) ((hs 3).r) ((hs 3).av) ((hs 3).mk) ((hs 3).cm) ((hs 3).ar) ((hs 3).fl) ((hs 3).en) ((hs 3).la) ((hs 3).zs) ((hs 3).se) ((hs 3).ph) ((hs 3).tk) ((hs 3).pc) ((hs 3).rc) ((hs 3).wc) ((hs 3).bc) ((hs 3).tc)] : List va_W).flatten] : List va_W).flatten, ([chipB D M y1 y2 t.v t.f t.g t.r t.av t.mk t.cm t.ar t.fl t.en t.la t.zs t.se t.ph t.tk t.pc t.rc t.wc t.bc t.tc, buB D b0 b1 b2 b3 bw en tb sh n0, orB D u0 u1 nu lt br le] : List va_W).flatten] : List va_W).flatten) (As := [.ref ((HL 1) 0)]) (rest := []) lk_X6_216 (c_X3_copyFrom l D _ L w1 w2 (HL 1) (HW1 1) (HW2 1) s (hs 1)) (Foc.trans (Foc.at1 0 rfl rfl (ce rfl rfl)) (Foc.trans (Foc.at2 1 1 rfl rfl rfl rfl (ce rfl rfl)) (Foc.pair Foc.all (Foc.at1 1 rfl rfl (ce rfl (ce rfl (ce rfl rfl))))))) (m_fl 0 rfl (m_fl 1 rfl (m_fl 0 rfl (m_at 0 rfl)))) rfl hl.1 (Nat.le_of_ble_eq_true rfl) ⟨Nat.le_of_ble_eq_true rfl, Nat.le_of_ble_eq_true rfl⟩ rfl dX6_undo_35 ⟨Nat.le_refl _, Nat.le_refl _⟩ (fun H locs hw => ?_)
    refine lv_aload_n hx hb dX6_undo_38 rfl (lv_at hl 1 rfl) ?_
    refine lv_dup hx hb dX6_undo_39 rfl ?_
    refine r_get X hw (v := .int 2) fl_X6_254 (m_fl 0 rfl (m_fl 0 rfl (m_at 0 rfl))) rfl dX6_undo_40 ?_
    refine lv_iconst (v := 1) hx hb dX6_undo_43 (by decide) ?_
    refine r_subN hx hb 2 1 rfl rfl (by decide) dX6_undo_44 ?_
    refine r_puti X hw (ws' := ([([xB D o ha ta (L 0) (M 0) b0 u0 1 (rows4 HL) tx (nI T), chipB D L w1 w2 ((cpC s (hs 1)).v) ((cpC s (hs 1)).f) ((cpC s (hs 1)).g) ((cpC s (hs 1)).r) ((cpC s (hs 1)).av) ((cpC s (hs 1)).mk) ((cpC s (hs 1)).cm) ((cpC s (hs 1)).ar) ((cpC s (hs 1)).fl) ((cpC s (hs 1)).en) ((cpC s (hs 1)).la) ((cpC s (hs 1)).zs) ((cpC s (hs 1)).se) ((cpC s (hs 1)).ph) ((cpC s (hs 1)).tk) ((cpC s (hs 1)).pc) ((cpC s (hs 1)).rc) ((cpC s (hs 1)).wc) ((cpC s (hs 1)).bc) ((cpC s (hs 1)).tc), ([chipB D (HL 0) (HW1 0) (HW2 0) ((hs 0).v) ((hs 0).f) ((hs 0).g) ((hs 0).r) ((hs 0).av) ((hs 0).mk) ((hs 0).cm) ((hs 0).ar) ((hs 0).fl) ((hs 0).en) ((hs 0).la) ((hs 0).zs) ((hs 0).se) ((hs 0).ph) ((hs 0).tk) ((hs 0).pc) ((hs 0).rc) ((hs 0).wc) ((hs 0).bc) ((hs 0).tc), chipB D (HL 1) (HW1 1) (HW2 1) ((hs 1).v) ((hs 1).f) ((hs 1).g) ((hs 1).r) ((hs 1).av) ((hs 1).mk) ((hs 1).cm) ((hs 1).ar) ((hs 1).fl) ((hs 1).en) ((hs 1).la) ((hs 1).zs) ((hs 1).se) ((hs 1).ph) ((hs 1).tk) ((hs 1).pc) ((hs 1).rc) ((hs 1).wc) ((hs 1).bc) ((hs 1).tc), chipB D (HL 2) (HW1 2) (HW2 2) ((hs 2).v) ((hs 2).f) ((hs 2).g) ((hs 2).r) ((hs 2).av) ((hs 2).mk) ((hs 2).cm) ((hs 2).ar) ((hs 2).fl) ((hs 2).en) ((hs 2).la) ((hs 2).zs) ((hs 2).se) ((hs 2).ph) ((hs 2).tk) ((hs 2).pc) ((hs 2).rc) ((hs 2).wc) ((hs 2).bc) ((hs 2).tc), chipB D (HL 3) (HW1 3) (HW2 3) ((hs 3).v) ((hs 3).f) ((hs 3).g) ((hs 3).r) ((hs 3).av) ((hs 3).mk) ((hs 3).cm) ((hs 3).ar) ((hs 3).fl) ((hs 3).en) ((hs 3).la) ((hs 3).zs) ((hs 3).se) ((hs 3).ph) ((hs 3).tk) ((hs 3).pc) ((hs 3).rc) ((hs 3).wc) ((hs 3).bc) ((hs 3).tc)] : List va_W).flatten] : List va_W).flatten, ([chipB D M y1 y2 t.v t.f t.g t.r t.av t.mk t.cm t.ar t.fl t.en t.la t.zs t.se t.ph t.tk t.pc t.rc t.wc t.bc t.tc, buB D b0 b1 b2 b3 bw en tb sh n0, orB D u0 u1 nu lt br le] : List va_W).flatten] : List va_W).flatten) fp_X6_254 (Nat.le_of_ble_eq_true rfl) (Foc.trans (Foc.at1 0 rfl rfl (ce rfl rfl)) (Foc.trans (Foc.at1 0 rfl rfl (ce rfl (ce rfl rfl))) (Foc.cell 0 rfl rfl (ce rfl (ce rfl rfl))))) dX6_undo_45 (fun H locs hw => ?_)
    refine lv_aload_n hx hb dX6_undo_48 rfl (lv_at hl 1 rfl) ?_
    refine r_get X hw (v := .int 1) fl_X6_254 (m_fl 0 rfl (m_fl 0 rfl (m_at 0 rfl))) rfl dX6_undo_49 ?_
    exact r_ret X hw hk hret rfl rfl rfl dX6_undo_52
  · skip
    refine lv_aload_n hx hb dX6_undo_0 rfl (lv_at hl 0 rfl) ?_
    refine r_get X hw (v := .int 3) fl_X6_254 (m_fl 0 rfl (m_fl 0 rfl (m_at 0 rfl))) rfl dX6_undo_1 ?_
    refine lv_if_le (tgt := 21) hx hb dX6_undo_4 (by decide) (fun h => absurd h (by decide)) (fun _ => ?_)
    refine lv_aload_n hx hb dX6_undo_7 rfl (lv_at hl 0 rfl) ?_
    refine r_get X hw (v := .ref ha) fl_X6_33 (m_fl 0 rfl (m_fl 0 rfl (m_at 0 rfl))) rfl dX6_undo_8 ?_
    refine lv_aload_n hx hb dX6_undo_11 rfl (lv_at hl 0 rfl) ?_
    refine r_get X hw (v := .int 3) fl_X6_254 (m_fl 0 rfl (m_fl 0 rfl (m_at 0 rfl))) rfl dX6_undo_12 ?_
    refine lv_iconst (v := 1) hx hb dX6_undo_15 (by decide) ?_
    refine r_subN hx hb 3 1 rfl rfl (by decide) dX6_undo_16 ?_
    refine r_aldq X hw (q := (HL 2) 0) 2 (m_fl 0 rfl (m_fl 0 rfl (m_at 1 rfl))) rfl (by decide) (by decide) rfl dX6_undo_17 ?_
    refine lv_goto (tgt := 22) hx hb dX6_undo_18 (by decide) ?_
    refine lv_astore_n (lv' := [(1, .ref ((HL 2) 0)), (0, .ref o)]) hx hb dX6_undo_22 rfl hl (by decide) rfl (fun ls hl => ?_)
    refine lv_aload_n hx hb dX6_undo_23 rfl (lv_at hl 0 rfl) ?_
    refine lv_ifnonnull (tgt := 30) hx hb dX6_undo_24 (by decide) ?_
    refine lv_aload_n hx hb dX6_undo_30 rfl (lv_at hl 1 rfl) ?_
    refine r_get X hw (v := .ref (L 0)) fl_X6_10 (m_fl 0 rfl (m_fl 0 rfl (m_at 0 rfl))) rfl dX6_undo_31 ?_
    refine lv_aload_n hx hb dX6_undo_34 rfl (lv_at hl 0 rfl) ?_
    refine r_callVv X hw (ws' := ([([xB D o ha ta (L 0) (M 0) b0 u0 3 (rows4 HL) tx (nI T), chipB D L w1 w2 ((cpC s (hs 2)).v) ((cpC s (hs 2)).f) ((cpC s (hs 2)).g) ((cpC s (hs 2)).r) ((cpC s (hs 2)).av) ((cpC s (hs 2)).mk) ((cpC s (hs 2)).cm) ((cpC s (hs 2)).ar) ((cpC s (hs 2)).fl) ((cpC s (hs 2)).en) ((cpC s (hs 2)).la) ((cpC s (hs 2)).zs) ((cpC s (hs 2)).se) ((cpC s (hs 2)).ph) ((cpC s (hs 2)).tk) ((cpC s (hs 2)).pc) ((cpC s (hs 2)).rc) ((cpC s (hs 2)).wc) ((cpC s (hs 2)).bc) ((cpC s (hs 2)).tc), ([chipB D (HL 0) (HW1 0) (HW2 0) ((hs 0).v) ((hs 0).f) ((hs 0).g) ((hs 0).r) ((hs 0).av) ((hs 0).mk) ((hs 0).cm) ((hs 0).ar) ((hs 0).fl) ((hs 0).en) ((hs 0).la) ((hs 0).zs) ((hs 0).se) ((hs 0).ph) ((hs 0).tk) ((hs 0).pc) ((hs 0).rc) ((hs 0).wc) ((hs 0).bc) ((hs 0).tc), chipB D (HL 1) (HW1 1) (HW2 1) ((hs 1).v) ((hs 1).f) ((hs 1).g) ((hs 1).r) ((hs 1).av) ((hs 1).mk) ((hs 1).cm) ((hs 1).ar) ((hs 1).fl) ((hs 1).en) ((hs 1).la) ((hs 1).zs) ((hs 1).se) ((hs 1).ph) ((hs 1).tk) ((hs 1).pc) ((hs 1).rc) ((hs 1).wc) ((hs 1).bc) ((hs 1).tc), chipB D (HL 2) (HW1 2) (HW2 2) ((hs 2).v) ((hs 2).f) ((hs 2).g) ((hs 2).r) ((hs 2).av) ((hs 2).mk) ((hs 2).cm) ((hs 2).ar) ((hs 2).fl) ((hs 2).en) ((hs 2).la) ((hs 2).zs) ((hs 2).se) ((hs 2).ph) ((hs 2).tk) ((hs 2).pc) ((hs 2).rc) ((hs 2).wc) ((hs 2).bc) ((hs 2).tc), chipB D (HL 3) (HW1 3) (HW2 3) ((hs 3).v) ((hs 3).f) ((hs 3).g) ((hs 3).r) ((hs 3).av) ((hs 3).mk) ((hs 3).cm) ((hs 3).ar) ((hs 3).fl) ((hs 3).en) ((hs 3).la) ((hs 3).zs) ((hs 3).se) ((hs 3).ph) ((hs 3).tk) ((hs 3).pc) ((hs 3).rc) ((hs 3).wc) ((hs 3).bc) ((hs 3).tc)] : List va_W).flatten] : List va_W).flatten, ([chipB D M y1 y2 t.v t.f t.g t.r t.av t.mk t.cm t.ar t.fl t.en t.la t.zs t.se t.ph t.tk t.pc t.rc t.wc t.bc t.tc, buB D b0 b1 b2 b3 bw en tb sh n0, orB D u0 u1 nu lt br le] : List va_W).flatten] : List va_W).flatten) (As := [.ref ((HL 2) 0)]) (rest := []) lk_X6_216 (c_X3_copyFrom l D _ L w1 w2 (HL 2) (HW1 2) (HW2 2) s (hs 2)) (Foc.trans (Foc.at1 0 rfl rfl (ce rfl rfl)) (Foc.trans (Foc.at2 1 1 rfl rfl rfl rfl (ce rfl rfl)) (Foc.pair Foc.all (Foc.at1 2 rfl rfl (ce rfl (ce rfl (ce rfl rfl))))))) (m_fl 0 rfl (m_fl 1 rfl (m_fl 0 rfl (m_at 0 rfl)))) rfl hl.1 (Nat.le_of_ble_eq_true rfl) ⟨Nat.le_of_ble_eq_true rfl, Nat.le_of_ble_eq_true rfl⟩ rfl dX6_undo_35 ⟨Nat.le_refl _, Nat.le_refl _⟩ (fun H locs hw => ?_)
    refine lv_aload_n hx hb dX6_undo_38 rfl (lv_at hl 1 rfl) ?_
    refine lv_dup hx hb dX6_undo_39 rfl ?_
    refine r_get X hw (v := .int 3) fl_X6_254 (m_fl 0 rfl (m_fl 0 rfl (m_at 0 rfl))) rfl dX6_undo_40 ?_
    refine lv_iconst (v := 1) hx hb dX6_undo_43 (by decide) ?_
    refine r_subN hx hb 3 1 rfl rfl (by decide) dX6_undo_44 ?_
    refine r_puti X hw (ws' := ([([xB D o ha ta (L 0) (M 0) b0 u0 2 (rows4 HL) tx (nI T), chipB D L w1 w2 ((cpC s (hs 2)).v) ((cpC s (hs 2)).f) ((cpC s (hs 2)).g) ((cpC s (hs 2)).r) ((cpC s (hs 2)).av) ((cpC s (hs 2)).mk) ((cpC s (hs 2)).cm) ((cpC s (hs 2)).ar) ((cpC s (hs 2)).fl) ((cpC s (hs 2)).en) ((cpC s (hs 2)).la) ((cpC s (hs 2)).zs) ((cpC s (hs 2)).se) ((cpC s (hs 2)).ph) ((cpC s (hs 2)).tk) ((cpC s (hs 2)).pc) ((cpC s (hs 2)).rc) ((cpC s (hs 2)).wc) ((cpC s (hs 2)).bc) ((cpC s (hs 2)).tc), ([chipB D (HL 0) (HW1 0) (HW2 0) ((hs 0).v) ((hs 0).f) ((hs 0).g) ((hs 0).r) ((hs 0).av) ((hs 0).mk) ((hs 0).cm) ((hs 0).ar) ((hs 0).fl) ((hs 0).en) ((hs 0).la) ((hs 0).zs) ((hs 0).se) ((hs 0).ph) ((hs 0).tk) ((hs 0).pc) ((hs 0).rc) ((hs 0).wc) ((hs 0).bc) ((hs 0).tc), chipB D (HL 1) (HW1 1) (HW2 1) ((hs 1).v) ((hs 1).f) ((hs 1).g) ((hs 1).r) ((hs 1).av) ((hs 1).mk) ((hs 1).cm) ((hs 1).ar) ((hs 1).fl) ((hs 1).en) ((hs 1).la) ((hs 1).zs) ((hs 1).se) ((hs 1).ph) ((hs 1).tk) ((hs 1).pc) ((hs 1).rc) ((hs 1).wc) ((hs 1).bc) ((hs 1).tc), chipB D (HL 2) (HW1 2) (HW2 2) ((hs 2).v) ((hs 2).f) ((hs 2).g) ((hs 2).r) ((hs 2).av) ((hs 2).mk) ((hs 2).cm) ((hs 2).ar) ((hs 2).fl) ((hs 2).en) ((hs 2).la) ((hs 2).zs) ((hs 2).se) ((hs 2).ph) ((hs 2).tk) ((hs 2).pc) ((hs 2).rc) ((hs 2).wc) ((hs 2).bc) ((hs 2).tc), chipB D (HL 3) (HW1 3) (HW2 3) ((hs 3).v) ((hs 3).f) ((hs 3).g) ((hs 3).r) ((hs 3).av) ((hs 3).mk) ((hs 3).cm) ((hs 3).ar) ((hs 3).fl) ((hs 3).en) ((hs 3).la) ((hs 3).zs) ((hs 3).se) ((hs 3).ph) ((hs 3).tk) ((hs 3).pc) ((hs 3).rc) ((hs 3).wc) ((hs 3).bc) ((hs 3).tc)] : List va_W).flatten] : List va_W).flatten, ([chipB D M y1 y2 t.v t.f t.g t.r t.av t.mk t.cm t.ar t.fl t.en t.la t.zs t.se t.ph t.tk t.pc t.rc t.wc t.bc t.tc, buB D b0 b1 b2 b3 bw en tb sh n0, orB D u0 u1 nu lt br le] : List va_W).flatten] : List va_W).flatten) fp_X6_254 (Nat.le_of_ble_eq_true rfl) (Foc.trans (Foc.at1 0 rfl rfl (ce rfl rfl)) (Foc.trans (Foc.at1 0 rfl rfl (ce rfl (ce rfl rfl))) (Foc.cell 0 rfl rfl (ce rfl (ce rfl rfl))))) dX6_undo_45 (fun H locs hw => ?_)
    refine lv_aload_n hx hb dX6_undo_48 rfl (lv_at hl 1 rfl) ?_
    refine r_get X hw (v := .int 2) fl_X6_254 (m_fl 0 rfl (m_fl 0 rfl (m_at 0 rfl))) rfl dX6_undo_49 ?_
    exact r_ret X hw hk hret rfl rfl rfl dX6_undo_52
  · skip
    refine lv_aload_n hx hb dX6_undo_0 rfl (lv_at hl 0 rfl) ?_
    refine r_get X hw (v := .int 4) fl_X6_254 (m_fl 0 rfl (m_fl 0 rfl (m_at 0 rfl))) rfl dX6_undo_1 ?_
    refine lv_if_le (tgt := 21) hx hb dX6_undo_4 (by decide) (fun h => absurd h (by decide)) (fun _ => ?_)
    refine lv_aload_n hx hb dX6_undo_7 rfl (lv_at hl 0 rfl) ?_
    refine r_get X hw (v := .ref ha) fl_X6_33 (m_fl 0 rfl (m_fl 0 rfl (m_at 0 rfl))) rfl dX6_undo_8 ?_
    refine lv_aload_n hx hb dX6_undo_11 rfl (lv_at hl 0 rfl) ?_
    refine r_get X hw (v := .int 4) fl_X6_254 (m_fl 0 rfl (m_fl 0 rfl (m_at 0 rfl))) rfl dX6_undo_12 ?_
    refine lv_iconst (v := 1) hx hb dX6_undo_15 (by decide) ?_
    refine r_subN hx hb 4 1 rfl rfl (by decide) dX6_undo_16 ?_
    refine r_aldq X hw (q := (HL 3) 0) 3 (m_fl 0 rfl (m_fl 0 rfl (m_at 1 rfl))) rfl (by decide) (by decide) rfl dX6_undo_17 ?_
    refine lv_goto (tgt := 22) hx hb dX6_undo_18 (by decide) ?_
    refine lv_astore_n (lv' := [(1, .ref ((HL 3) 0)), (0, .ref o)]) hx hb dX6_undo_22 rfl hl (by decide) rfl (fun ls hl => ?_)
    refine lv_aload_n hx hb dX6_undo_23 rfl (lv_at hl 0 rfl) ?_
    refine lv_ifnonnull (tgt := 30) hx hb dX6_undo_24 (by decide) ?_
    refine lv_aload_n hx hb dX6_undo_30 rfl (lv_at hl 1 rfl) ?_
    refine r_get X hw (v := .ref (L 0)) fl_X6_10 (m_fl 0 rfl (m_fl 0 rfl (m_at 0 rfl))) rfl dX6_undo_31 ?_
    refine lv_aload_n hx hb dX6_undo_34 rfl (lv_at hl 0 rfl) ?_
    refine r_callVv X hw (ws' := ([([xB D o ha ta (L 0) (M 0) b0 u0 4 (rows4 HL) tx (nI T), chipB D L w1 w2 ((cpC s (hs 3)).v) ((cpC s (hs 3)).f) ((cpC s (hs 3)).g) ((cpC s (hs 3)).r) ((cpC s (hs 3)).av) ((cpC s (hs 3)).mk) ((cpC s (hs 3)).cm) ((cpC s (hs 3)).ar) ((cpC s (hs 3)).fl) ((cpC s (hs 3)).en) ((cpC s (hs 3)).la) ((cpC s (hs 3)).zs) ((cpC s (hs 3)).se) ((cpC s (hs 3)).ph) ((cpC s (hs 3)).tk) ((cpC s (hs 3)).pc) ((cpC s (hs 3)).rc) ((cpC s (hs 3)).wc) ((cpC s (hs 3)).bc) ((cpC s (hs 3)).tc), ([chipB D (HL 0) (HW1 0) (HW2 0) ((hs 0).v) ((hs 0).f) ((hs 0).g) ((hs 0).r) ((hs 0).av) ((hs 0).mk) ((hs 0).cm) ((hs 0).ar) ((hs 0).fl) ((hs 0).en) ((hs 0).la) ((hs 0).zs) ((hs 0).se) ((hs 0).ph) ((hs 0).tk) ((hs 0).pc) ((hs 0).rc) ((hs 0).wc) ((hs 0).bc) ((hs 0).tc), chipB D (HL 1) (HW1 1) (HW2 1) ((hs 1).v) ((hs 1).f) ((hs 1).g) ((hs 1).r) ((hs 1).av) ((hs 1).mk) ((hs 1).cm) ((hs 1).ar) ((hs 1).fl) ((hs 1).en) ((hs 1).la) ((hs 1).zs) ((hs 1).se) ((hs 1).ph) ((hs 1).tk) ((hs 1).pc) ((hs 1).rc) ((hs 1).wc) ((hs 1).bc) ((hs 1).tc), chipB D (HL 2) (HW1 2) (HW2 2) ((hs 2).v) ((hs 2).f) ((hs 2).g) ((hs 2).r) ((hs 2).av) ((hs 2).mk) ((hs 2).cm) ((hs 2).ar) ((hs 2).fl) ((hs 2).en) ((hs 2).la) ((hs 2).zs) ((hs 2).se) ((hs 2).ph) ((hs 2).tk) ((hs 2).pc) ((hs 2).rc) ((hs 2).wc) ((hs 2).bc) ((hs 2).tc), chipB D (HL 3) (HW1 3) (HW2 3) ((hs 3).v) ((hs 3).f) ((hs 3).g) ((hs 3).r) ((hs 3).av) ((hs 3).mk) ((hs 3).cm) ((hs 3).ar) ((hs 3).fl) ((hs 3).en) ((hs 3).la) ((hs 3).zs) ((hs 3).se) ((hs 3).ph) ((hs 3).tk) ((hs 3).pc) ((hs 3).rc) ((hs 3).wc) ((hs 3).bc) ((hs 3).tc)] : List va_W).flatten] : List va_W).flatten, ([chipB D M y1 y2 t.v t.f t.g t.r t.av t.mk t.cm t.ar t.fl t.en t.la t.zs t.se t.ph t.tk t.pc t.rc t.wc t.bc t.tc, buB D b0 b1 b2 b3 bw en tb sh n0, orB D u0 u1 nu lt br le] : List va_W).flatten] : List va_W).flatten) (As := [.ref ((HL 3) 0)]) (rest := []) lk_X6_216 (c_X3_copyFrom l D _ L w1 w2 (HL 3) (HW1 3) (HW2 3) s (hs 3)) (Foc.trans (Foc.at1 0 rfl rfl (ce rfl rfl)) (Foc.trans (Foc.at2 1 1 rfl rfl rfl rfl (ce rfl rfl)) (Foc.pair Foc.all (Foc.at1 3 rfl rfl (ce rfl (ce rfl (ce rfl rfl))))))) (m_fl 0 rfl (m_fl 1 rfl (m_fl 0 rfl (m_at 0 rfl)))) rfl hl.1 (Nat.le_of_ble_eq_true rfl) ⟨Nat.le_of_ble_eq_true rfl, Nat.le_of_ble_eq_true rfl⟩ rfl dX6_undo_35 ⟨Nat.le_refl _, Nat.le_refl _⟩ (fun H locs hw => ?_)
    refine lv_aload_n hx hb dX6_undo_38 rfl (lv_at hl 1 rfl) ?_
    refine lv_dup hx hb dX6_undo_39 rfl ?_
    refine r_get X hw (v := .int 4) fl_X6_254 (m_fl 0 rfl (m_fl 0 rfl (m_at 0 rfl))) rfl dX6_undo_40 ?_
    refine lv_iconst (v := 1) hx hb dX6_undo_43 (by decide) ?_
    refine r_subN hx hb 4 1 rfl rfl (by decide) dX6_undo_44 ?_
    refine r_puti X hw (ws' := ([([xB D o ha ta (L 0) (M 0) b0 u0 3 (rows4 HL) tx (nI T), chipB D L w1 w2 ((cpC s (hs 3)).v) ((cpC s (hs 3)).f) ((cpC s (hs 3)).g) ((cpC s (hs 3)).r) ((cpC s (hs 3)).av) ((cpC s (hs 3)).mk) ((cpC s (hs 3)).cm) ((cpC s (hs 3)).ar) ((cpC s (hs 3)).fl) ((cpC s (hs 3)).en) ((cpC s (hs 3)).la) ((cpC s (hs 3)).zs) ((cpC s (hs 3)).se) ((cpC s (hs 3)).ph) ((cpC s (hs 3)).tk) ((cpC s (hs 3)).pc) ((cpC s (hs 3)).rc) ((cpC s (hs 3)).wc) ((cpC s (hs 3)).bc) ((cpC s (hs 3)).tc), ([chipB D (HL 0) (HW1 0) (HW2 0) ((hs 0).v) ((hs 0).f) ((hs 0).g) ((hs 0).r) ((hs 0).av) ((hs 0).mk) ((hs 0).cm) ((hs 0).ar) ((hs 0).fl) ((hs 0).en) ((hs 0).la) ((hs 0).zs) ((hs 0).se) ((hs 0).ph) ((hs 0).tk) ((hs 0).pc) ((hs 0).rc) ((hs 0).wc) ((hs 0).bc) ((hs 0).tc), chipB D (HL 1) (HW1 1) (HW2 1) ((hs 1).v) ((hs 1).f) ((hs 1).g) ((hs 1).r) ((hs 1).av) ((hs 1).mk) ((hs 1).cm) ((hs 1).ar) ((hs 1).fl) ((hs 1).en) ((hs 1).la) ((hs 1).zs) ((hs 1).se) ((hs 1).ph) ((hs 1).tk) ((hs 1).pc) ((hs 1).rc) ((hs 1).wc) ((hs 1).bc) ((hs 1).tc), chipB D (HL 2) (HW1 2) (HW2 2) ((hs 2).v) ((hs 2).f) ((hs 2).g) ((hs 2).r) ((hs 2).av) ((hs 2).mk) ((hs 2).cm) ((hs 2).ar) ((hs 2).fl) ((hs 2).en) ((hs 2).la) ((hs 2).zs) ((hs 2).se) ((hs 2).ph) ((hs 2).tk) ((hs 2).pc) ((hs 2).rc) ((hs 2).wc) ((hs 2).bc) ((hs 2).tc), chipB D (HL 3) (HW1 3) (HW2 3) ((hs 3).v) ((hs 3).f) ((hs 3).g) ((hs 3).r) ((hs 3).av) ((hs 3).mk) ((hs 3).cm) ((hs 3).ar) ((hs 3).fl) ((hs 3).en) ((hs 3).la) ((hs 3).zs) ((hs 3).se) ((hs 3).ph) ((hs 3).tk) ((hs 3).pc) ((hs 3).rc) ((hs 3).wc) ((hs 3).bc) ((hs 3).tc)] : List va_W).flatten] : List va_W).flatten, ([chipB D M y1 y2 t.v t.f t.g t.r t.av t.mk t.cm t.ar t.fl t.en t.la t.zs t.se t.ph t.tk t.pc t.rc t.wc t.bc t.tc, buB D b0 b1 b2 b3 bw en tb sh n0, orB D u0 u1 nu lt br le] : List va_W).flatten] : List va_W).flatten) fp_X6_254 (Nat.le_of_ble_eq_true rfl) (Foc.trans (Foc.at1 0 rfl rfl (ce rfl rfl)) (Foc.trans (Foc.at1 0 rfl rfl (ce rfl (ce rfl rfl))) (Foc.cell 0 rfl rfl (ce rfl (ce rfl rfl))))) dX6_undo_45 (fun H locs hw => ?_)
    refine lv_aload_n hx hb dX6_undo_48 rfl (lv_at hl 1 rfl) ?_
    refine r_get X hw (v := .int 3) fl_X6_254 (m_fl 0 rfl (m_fl 0 rfl (m_at 0 rfl))) rfl dX6_undo_49 ?_
    exact r_ret X hw hk hret rfl rfl rfl dX6_undo_52
