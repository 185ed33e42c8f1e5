/-! the orders of a text: where the first fault is, and what they do -/
theorem ps_b (tx : Row) (e9 : Nat) : ∀ (r i q : Nat) (nu : Row), q ≤ e9 → q ≤ (ps tx e9 r i q nu).2.1 ∧ (ps tx e9 r i q nu).2.1 ≤ e9
  | 0, _, q, _, h => ⟨Nat.le_refl _, h⟩
  | r + 1, i, q, nu, h => by
    have b := eo_b tx h
    unfold ps
    split
    · exact b
    · split
      · exact b
      · split
        · have g := ps_b tx e9 r (i + 1) (eo tx e9 q + 1) (upd nu i (nuF tx q (eo tx e9 q - q))) (by omega)
          exact ⟨by omega, g.2⟩
        · exact b
theorem pso_b (tx : Row) {e9 q : Nat} (nu : Row) (h : q < e9) : q ≤ (pso tx e9 q nu).2.1 ∧ (pso tx e9 q nu).2.1 ≤ e9 ∧ ((pso tx e9 q nu).1 = 0 → q < (pso tx e9 q nu).2.1) := by
  unfold pso
  split
  · exact ⟨Nat.le_refl _, Nat.le_of_lt h, fun g => absurd (show (1 : Int32) = 0 from g) (by decide)⟩
  · have g := ps_b tx e9 (nbC (tx q)) 0 (q + 1) nu (by omega)
    exact ⟨by omega, g.2, fun _ => by omega⟩
/-- an order as it is read: its numbers, its letter, whether broken, its length -/
abbrev OS : Type := Row × Int32 × Int32 × Int32
noncomputable def ffO (tx : Row) (T a : Nat) (nu : Row) : OS := ((pso tx T a nu).2.2, tx a, (pso tx T a nu).1, nI ((pso tx T a nu).2.1 - a))
noncomputable def ffR (tx : Row) (T : Nat) : Nat → Nat → OS → Int32 × OS
  | 0, _, o => (-1, o)
  | f + 1, a, o => if T ≤ a then (-1, o) else (if (pso tx T a o.1).1 = 0 then (if sp_X6_mayDo (pso tx T a o.1).2.2 (tx a) = 0 then (nI a, ffO tx T a o.1) else ffR tx T f (pso tx T a o.1).2.1 (ffO tx T a o.1)) else (nI a, ffO tx T a o.1))
theorem ffR_0 {tx : Row} {T f a : Nat} {o : OS} (h : f = 0) : ffR tx T f a o = (-1, o) := by
  subst h
  rfl
theorem ffR_T {tx : Row} {T f a : Nat} {o : OS} (h : T ≤ a) : ffR tx T f a o = (-1, o) := by
  cases f with
  | zero => rfl
  | succ f => exact if_pos h
theorem ffR_b {tx : Row} {T f a : Nat} {o : OS} (h : ¬ T ≤ a) (h2 : ¬ (pso tx T a o.1).1 = 0) : ffR tx T (f + 1) a o = (nI a, ffO tx T a o.1) := (if_neg h).trans (if_neg h2)
theorem ffR_n {tx : Row} {T f a : Nat} {o : OS} (h : ¬ T ≤ a) (h2 : (pso tx T a o.1).1 = 0) (h3 : sp_X6_mayDo (pso tx T a o.1).2.2 (tx a) = 0) : ffR tx T (f + 1) a o = (nI a, ffO tx T a o.1) := (if_neg h).trans ((if_pos h2).trans (if_pos h3))
theorem ffR_s {tx : Row} {T f a : Nat} {o : OS} (h : ¬ T ≤ a) (h2 : (pso tx T a o.1).1 = 0) (h3 : ¬ sp_X6_mayDo (pso tx T a o.1).2.2 (tx a) = 0) : ffR tx T (f + 1) a o = ffR tx T f (pso tx T a o.1).2.1 (ffO tx T a o.1) := (if_neg h).trans ((if_pos h2).trans (if_neg h3))
/-- what is told of a fault -/
noncomputable def faC (w : Nat) (F : Int32 × OS) : Int32 := if w = 0 then F.1 else (if w = 1 then (if F.2.2.2.1 = 0 then 2 else 1) else (if F.2.2.2.1 = 0 then -1000001 else F.2.2.2.2))

set_option maxRecDepth 100000 in
set_option maxHeartbeats 4000000 in
theorem c_X6_findFault (l : Launch) (D : va_G) (sz : Nat) (o ha ta : Nat) (L w1 w2 M y1 y2 : Nat → Nat) (HL HW1 HW2 : Nat → Nat → Nat) (b0 b1 b2 b3 : Nat) (bw : Nat → Nat) (u0 u1 : Nat) (tx : Row) (T : Nat) (s t : ChS) (hs : Nat → ChS) (en tb : Row) (sh : Nat → Row) (n0 : Int32) (nu : Row) (lt br le : Int32) (k : Nat) (hk4 : k ≤ 4) (hT : T ≤ 60) (htx : chOK tx) : MI l yX6_findFault cX6_findFault 3 (some .int) 4 85 D sz [.ref o] (([([xB D o ha ta (L 0) (M 0) b0 u0 (nI k) (rows4 HL) tx (nI T), chipB D L w1 w2 s.v s.f s.g s.r s.av s.mk s.cm s.ar s.fl s.en s.la s.zs s.se s.ph s.tk s.pc s.rc s.wc s.bc s.tc, hsB D HL HW1 HW2 hs] : List va_W).flatten, ([chipB D M y1 y2 t.v t.f t.g t.r t.av t.mk t.cm t.ar t.fl t.en t.la t.zs t.se t.ph t.tk t.pc t.rc t.wc t.bc t.tc, buB D b0 b1 b2 b3 bw en tb sh n0, orB D u0 u1 nu lt br le] : List va_W).flatten] : List va_W).flatten) ((ffR tx T 60 0 (nu, lt, br, le)).1) (([([xB D o ha ta (L 0) (M 0) b0 u0 (nI k) (rows4 HL) tx (nI T), chipB D L w1 w2 s.v s.f s.g s.r s.av s.mk s.cm s.ar s.fl s.en s.la s.zs s.se s.ph s.tk s.pc s.rc s.wc s.bc s.tc, hsB D HL HW1 HW2 hs] : List va_W).flatten, ([chipB D M y1 y2 t.v t.f t.g t.r t.av t.mk t.cm t.ar t.fl t.en t.la t.zs t.se t.ph t.tk t.pc t.rc t.wc t.bc t.tc, buB D b0 b1 b2 b3 bw en tb sh n0, orB D u0 u1 ((ffR tx T 60 0 (nu, lt, br, le)).2.1) ((ffR tx T 60 0 (nu, lt, br, le)).2.2.1) ((ffR tx T 60 0 (nu, lt, br, le)).2.2.2.1) ((ffR tx T 60 0 (nu, lt, br, le)).2.2.2.2)] : List va_W).flatten] : List va_W).flatten) := by
  refine r_enterI (by decide) (Nat.le_of_ble_eq_true rfl) ?_
  intro p e st m args below meth c ls A X hret hk hw hl
  have X : CX D p m c cX6_findFault 3 st args RX6 A := X
  have hx := X.1.1
  have hb := X.1.2.1
  have hown := X.1.2.2.2.1
  have hts := X.1.2.2.2.2
  have hl : lv_has ls 3 [(0, .ref o)] := hl
  refine lv_iconst (v := 0) hx hb dX6_findFault_0 (by decide) ?_
  refine lv_istore_n (lv' := [(1, .int 0), (0, .ref o)]) hx hb dX6_findFault_1 rfl hl (by decide) rfl (fun ls hl => ?_)
  refine lv_iconst (v := 0) hx hb dX6_findFault_2 (by decide) ?_
  refine lv_istore_n (lv' := [(2, .int 0), (1, .int 0), (0, .ref o)]) hx hb dX6_findFault_3 rfl hl (by decide) rfl (fun ls hl => ?_)
  have key4 : ∀ (n4 : Nat) (f a i : Nat) (x : OS), (i + f = 60) → (a ≤ T) → (f < n4) → (ffR tx T f a x = (ffR tx T 60 0 (nu, lt, br, le))) → ∀ (H : Heap) (locs : List Loc) (ls : Array Slot), Wd D A st.heap H locs (([([xB D o ha ta (L 0) (M 0) b0 u0 (nI k) (rows4 HL) tx (nI T), chipB D L w1 w2 s.v s.f s.g s.r s.av s.mk s.cm s.ar s.fl s.en s.la s.zs s.se s.ph s.tk s.pc s.rc s.wc s.bc s.tc, hsB D HL HW1 HW2 hs] : List va_W).flatten, ([chipB D M y1 y2 t.v t.f t.g t.r t.av t.mk t.cm t.ar t.fl t.en t.la t.zs t.se t.ph t.tk t.pc t.rc t.wc t.bc t.tc, buB D b0 b1 b2 b3 bw en tb sh n0, orB D u0 u1 x.1 x.2.1 x.2.2.1 x.2.2.2] : List va_W).flatten] : List va_W).flatten) → lv_has ls 3 [(0, .ref o), (1, .int (nI a)), (2, .int (nI i))] → W p l e (rmOf 4 0 0 85) st m args below meth c H locs 0 0 (QI below args st D A ((ffR tx T 60 0 (nu, lt, br, le)).1) (([([xB D o ha ta (L 0) (M 0) b0 u0 (nI k) (rows4 HL) tx (nI T), chipB D L w1 w2 s.v s.f s.g s.r s.av s.mk s.cm s.ar s.fl s.en s.la s.zs s.se s.ph s.tk s.pc s.rc s.wc s.bc s.tc, hsB D HL HW1 HW2 hs] : List va_W).flatten, ([chipB D M y1 y2 t.v t.f t.g t.r t.av t.mk t.cm t.ar t.fl t.en t.la t.zs t.se t.ph t.tk t.pc t.rc t.wc t.bc t.tc, buB D b0 b1 b2 b3 bw en tb sh n0, orB D u0 u1 ((ffR tx T 60 0 (nu, lt, br, le)).2.1) ((ffR tx T 60 0 (nu, lt, br, le)).2.2.1) ((ffR tx T 60 0 (nu, lt, br, le)).2.2.2.1) ((ffR tx T 60 0 (nu, lt, br, le)).2.2.2.2)] : List va_W).flatten] : List va_W).flatten)) (F0 m 4 ls []) := by
    intro n4
    induction n4 with
    | zero => intro f a i x hj haT hm hR; omega
    | succ n4 ih4 =>
      intro f a i x hj haT hm hR H locs ls hw hl
      refine lv_iload_n hx hb dX6_findFault_4 rfl (lv_at hl 2 rfl) ?_
      refine lv_bipush (v := 60) hx hb dX6_findFault_5 (by decide) ?_
      refine r_geN (tgt := 72) hx hb i 60 rfl rfl (by omega) (by omega) dX6_findFault_7 (by decide) (fun c1 => ?_) (fun c1 => ?_)
      · skip
        refine lv_iconst (v := (-1)) hx hb dX6_findFault_72 (by decide) ?_
        exact r_ret X hw hk hret rfl (by rw [show (ffR tx T 60 0 (nu, lt, br, le)) = (-1, x) from hR.symm.trans (ffR_0 (by omega))]; try rfl) (by rw [show (ffR tx T 60 0 (nu, lt, br, le)) = (-1, x) from hR.symm.trans (ffR_0 (by omega))]; try rfl) dX6_findFault_73
      · skip
        obtain ⟨f, rfl⟩ : ∃ f0, f = f0 + 1 := ⟨f - 1, by omega⟩
        refine lv_iload_n hx hb dX6_findFault_10 rfl (lv_at hl 1 rfl) ?_
        refine lv_aload_n hx hb dX6_findFault_11 rfl (lv_at hl 0 rfl) ?_
        refine r_get X hw (v := .int (nI T)) fl_X6_257 (m_fl 0 rfl (m_fl 0 rfl (m_at 0 rfl))) rfl dX6_findFault_12 ?_
        refine r_geN (tgt := 72) hx hb a T rfl rfl (by omega) (by omega) dX6_findFault_15 (by decide) (fun c2 => ?_) (fun c2 => ?_)
        · skip
          refine lv_iconst (v := (-1)) hx hb dX6_findFault_72 (by decide) ?_
          exact r_ret X hw hk hret rfl (by rw [show (ffR tx T 60 0 (nu, lt, br, le)) = (-1, x) from hR.symm.trans (ffR_T c2)]; try rfl) (by rw [show (ffR tx T 60 0 (nu, lt, br, le)) = (-1, x) from hR.symm.trans (ffR_T c2)]; try rfl) dX6_findFault_73
        · skip
          have hpb := pso_b tx x.1 (show a < T from by omega)
          refine lv_aload_n hx hb dX6_findFault_18 rfl (lv_at hl 0 rfl) ?_
          refine r_get X hw (v := .ref u0) fl_X6_29 (m_fl 0 rfl (m_fl 0 rfl (m_at 0 rfl))) rfl dX6_findFault_19 ?_
          refine lv_aload_n hx hb dX6_findFault_22 rfl (lv_at hl 0 rfl) ?_
          refine r_get X hw (v := .ref ta) fl_X6_37 (m_fl 0 rfl (m_fl 0 rfl (m_at 0 rfl))) rfl dX6_findFault_23 ?_
          refine lv_aload_n hx hb dX6_findFault_26 rfl (lv_at hl 0 rfl) ?_
          refine r_get X hw (v := .int (nI T)) fl_X6_257 (m_fl 0 rfl (m_fl 0 rfl (m_at 0 rfl))) rfl dX6_findFault_27 ?_
          refine lv_iload_n hx hb dX6_findFault_30 rfl (lv_at hl 1 rfl) ?_
          refine r_callVv X hw (ws' := ([([xB D o ha ta (L 0) (M 0) b0 u0 (nI k) (rows4 HL) tx (nI T), chipB D L w1 w2 s.v s.f s.g s.r s.av s.mk s.cm s.ar s.fl s.en s.la s.zs s.se s.ph s.tk s.pc s.rc s.wc s.bc s.tc, hsB D HL HW1 HW2 hs] : List va_W).flatten, ([chipB D M y1 y2 t.v t.f t.g t.r t.av t.mk t.cm t.ar t.fl t.en t.la t.zs t.se t.ph t.tk t.pc t.rc t.wc t.bc t.tc, buB D b0 b1 b2 b3 bw en tb sh n0, orB D u0 u1 ((pso tx T a x.1).2.2) (tx a) ((pso tx T a x.1).1) (nI ((pso tx T a x.1).2.1 - a))] : List va_W).flatten] : List va_W).flatten) (As := [.ref ta, .int (nI T), .int (nI a)]) (rest := []) lk_X6_271 (c_X4_parse l D _ u0 u1 x.1 x.2.1 x.2.2.1 x.2.2.2 ta tx T a hT (by omega) htx) (Foc.trans (Foc.at2 1 0 rfl rfl rfl rfl rfl) (Foc.pair (Foc.at1 2 rfl rfl (ce rfl (ce rfl rfl))) (Foc.trans (Foc.at1 0 rfl rfl (ce rfl (ce rfl rfl))) (Foc.cell 2 rfl rfl (ce rfl (ce rfl rfl)))))) (m_fl 1 rfl (m_fl 2 rfl (m_at 0 rfl))) rfl hl.1 (Nat.le_of_ble_eq_true rfl) ⟨Nat.le_of_ble_eq_true rfl, Nat.le_of_ble_eq_true rfl⟩ rfl dX6_findFault_31 ⟨Nat.le_refl _, Nat.le_refl _⟩ (fun H locs hw => ?_)
          refine lv_aload_n hx hb dX6_findFault_34 rfl (lv_at hl 0 rfl) ?_
          refine r_get X hw (v := .ref u0) fl_X6_29 (m_fl 0 rfl (m_fl 0 rfl (m_at 0 rfl))) rfl dX6_findFault_35 ?_
          refine r_get X hw (v := .int ((pso tx T a x.1).1)) fl_X6_264 (m_fl 1 rfl (m_fl 2 rfl (m_at 0 rfl))) rfl dX6_findFault_38 ?_
          refine lv_if_ne (tgt := 54) hx hb dX6_findFault_41 (by decide) (fun c3 => ?_) (fun c3 => ?_)
          · skip
            refine lv_iload_n hx hb dX6_findFault_54 rfl (lv_at hl 1 rfl) ?_
            exact r_ret X hw hk hret rfl (by rw [show (ffR tx T 60 0 (nu, lt, br, le)) = (nI a, ffO tx T a x.1) from hR.symm.trans (ffR_b (Nat.not_le.mpr c2) c3)]; try rfl) (by rw [show (ffR tx T 60 0 (nu, lt, br, le)) = (nI a, ffO tx T a x.1) from hR.symm.trans (ffR_b (Nat.not_le.mpr c2) c3)]; try rfl) dX6_findFault_55
          · skip
            refine lv_aload_n hx hb dX6_findFault_44 rfl (lv_at hl 0 rfl) ?_
            refine r_get X hw (v := .ref u0) fl_X6_29 (m_fl 0 rfl (m_fl 0 rfl (m_at 0 rfl))) rfl dX6_findFault_45 ?_
            refine r_callS X hw (ws' := ([([xB D o ha ta (L 0) (M 0) b0 u0 (nI k) (rows4 HL) tx (nI T), chipB D L w1 w2 s.v s.f s.g s.r s.av s.mk s.cm s.ar s.fl s.en s.la s.zs s.se s.ph s.tk s.pc s.rc s.wc s.bc s.tc, hsB D HL HW1 HW2 hs] : List va_W).flatten, ([chipB D M y1 y2 t.v t.f t.g t.r t.av t.mk t.cm t.ar t.fl t.en t.la t.zs t.se t.ph t.tk t.pc t.rc t.wc t.bc t.tc, buB D b0 b1 b2 b3 bw en tb sh n0, orB D u0 u1 ((pso tx T a x.1).2.2) (tx a) ((pso tx T a x.1).1) (nI ((pso tx T a x.1).2.1 - a))] : List va_W).flatten] : List va_W).flatten) (As := [.ref u0]) (rest := []) lk_X6_282 (c_X6_mayDo l D _ u0 u1 ((pso tx T a x.1).2.2) (tx a) ((pso tx T a x.1).1) (nI ((pso tx T a x.1).2.1 - a))) (Foc.trans (Foc.at1 1 rfl rfl (ce rfl rfl)) (Foc.at1 2 rfl rfl (ce rfl (ce rfl rfl)))) rfl hl.1 (Nat.le_of_ble_eq_true rfl) ⟨Nat.le_of_ble_eq_true rfl, Nat.le_of_ble_eq_true rfl⟩ rfl dX6_findFault_48 ⟨Nat.le_refl _, Nat.le_refl _⟩ (fun H locs hw => ?_)
            refine lv_if_ne (tgt := 56) hx hb dX6_findFault_51 (by decide) (fun c4 => ?_) (fun c4 => ?_)
            · skip
              refine lv_iload_n hx hb dX6_findFault_56 rfl (lv_at hl 1 rfl) ?_
              refine lv_aload_n hx hb dX6_findFault_57 rfl (lv_at hl 0 rfl) ?_
              refine r_get X hw (v := .ref u0) fl_X6_29 (m_fl 0 rfl (m_fl 0 rfl (m_at 0 rfl))) rfl dX6_findFault_58 ?_
              refine r_get X hw (v := .int (nI ((pso tx T a x.1).2.1 - a))) fl_X6_268 (m_fl 1 rfl (m_fl 2 rfl (m_at 0 rfl))) rfl dX6_findFault_61 ?_
              refine r_addN hx hb a ((pso tx T a x.1).2.1 - a) rfl rfl dX6_findFault_64 ?_
              refine lv_istore_n (lv' := [(1, .int (nI (a + ((pso tx T a x.1).2.1 - a)))), (0, .ref o), (2, .int (nI i))]) hx hb dX6_findFault_65 rfl hl (by decide) rfl (fun ls hl => ?_)
              rw [show a + ((pso tx T a x.1).2.1 - a) = (pso tx T a x.1).2.1 from by omega] at hl
              refine r_iincN (lv' := [(2, .int (nI (i + 1))), (1, .int (nI ((pso tx T a x.1).2.1))), (0, .ref o)]) hx hb i 1 rfl dX6_findFault_66 hl (k := 2) rfl rfl (by decide) rfl (fun ls hl => ?_)
              refine lv_goto (tgt := 4) hx hb dX6_findFault_69 (by decide) ?_
              exact ih4 f (pso tx T a x.1).2.1 (i + 1) (ffO tx T a x.1) (by omega) hpb.2.1 (by omega) ((ffR_s (Nat.not_le.mpr c2) c3 c4).symm.trans hR) _ _ _ hw (lv_sub hl [2, 1, 0] rfl)
            · skip
              refine lv_iload_n hx hb dX6_findFault_54 rfl (lv_at hl 1 rfl) ?_
              exact r_ret X hw hk hret rfl (by rw [show (ffR tx T 60 0 (nu, lt, br, le)) = (nI a, ffO tx T a x.1) from hR.symm.trans (ffR_n (Nat.not_le.mpr c2) c3 c4)]; try rfl) (by rw [show (ffR tx T 60 0 (nu, lt, br, le)) = (nI a, ffO tx T a x.1) from hR.symm.trans (ffR_n (Nat.not_le.mpr c2) c3 c4)]; try rfl) dX6_findFault_55
  exact key4 61 60 0 0 (nu, lt, br, le) (by omega) (by omega) (by omega) rfl _ _ _ hw (lv_sub hl [2, 1, 0] rfl)

set_option maxRecDepth 100000 in
set_option maxHeartbeats 4000000 in
theorem c_X6_fault0 (l : Launch) (D : va_G) (sz : Nat) (o ha ta : Nat) (L w1 w2 M y1 y2 : Nat → Nat) (HL HW1 HW2 : Nat → Nat → Nat) (b0 b1 b2 b3 : Nat) (bw : Nat → Nat) (u0 u1 : Nat) (tx : Row) (T : Nat) (s t : ChS) (hs : Nat → ChS) (en tb : Row) (sh : Nat → Row) (n0 : Int32) (nu : Row) (lt br le : Int32) (k : Nat) (hk4 : k ≤ 4) (hT : T ≤ 60) (htx : chOK tx) (F9 : Int32 × OS) (hF9 : ffR tx T 60 0 (nu, lt, br, le) = F9) (h9 : ¬ 0 ≤ F9.1 → False) : MI l yX6_fault cX6_fault 3 (some .int) 5 107 D sz [.ref o, .int 0] (([([xB D o ha ta (L 0) (M 0) b0 u0 (nI k) (rows4 HL) tx (nI T), chipB D L w1 w2 s.v s.f s.g s.r s.av s.mk s.cm s.ar s.fl s.en s.la s.zs s.se s.ph s.tk s.pc s.rc s.wc s.bc s.tc, hsB D HL HW1 HW2 hs] : List va_W).flatten, ([chipB D M y1 y2 t.v t.f t.g t.r t.av t.mk t.cm t.ar t.fl t.en t.la t.zs t.se t.ph t.tk t.pc t.rc t.wc t.bc t.tc, buB D b0 b1 b2 b3 bw en tb sh n0, orB D u0 u1 nu lt br le] : List va_W).flatten] : List va_W).flatten) (faC 0 F9) (([([xB D o ha ta (L 0) (M 0) b0 u0 (nI k) (rows4 HL) tx (nI T), chipB D L w1 w2 s.v s.f s.g s.r s.av s.mk s.cm s.ar s.fl s.en s.la s.zs s.se s.ph s.tk s.pc s.rc s.wc s.bc s.tc, hsB D HL HW1 HW2 hs] : List va_W).flatten, ([chipB D M y1 y2 t.v t.f t.g t.r t.av t.mk t.cm t.ar t.fl t.en t.la t.zs t.se t.ph t.tk t.pc t.rc t.wc t.bc t.tc, buB D b0 b1 b2 b3 bw en tb sh n0, orB D u0 u1 F9.2.1 F9.2.2.1 F9.2.2.2.1 F9.2.2.2.2] : List va_W).flatten] : List va_W).flatten) := by
  refine r_enterI (by decide) (Nat.le_of_ble_eq_true rfl) ?_
  intro p e st m args below meth c ls A X hret hk hw hl
  have X : CX D p m c cX6_fault 3 st args RX6 A := X
  have hx := X.1.1
  have hb := X.1.2.1
  have hown := X.1.2.2.2.1
  have hts := X.1.2.2.2.2
  have hl : lv_has ls 3 [(0, .ref o), (1, .int 0)] := hl
  refine lv_iload_n hx hb dX6_fault_0 rfl (lv_at hl 1 rfl) ?_
  refine lv_iconst (v := 0) hx hb dX6_fault_1 (by decide) ?_
  refine lv_iconst (v := 2) hx hb dX6_fault_2 (by decide) ?_
  refine r_callS X hw (ws' := ([([xB D o ha ta (L 0) (M 0) b0 u0 (nI k) (rows4 HL) tx (nI T), chipB D L w1 w2 s.v s.f s.g s.r s.av s.mk s.cm s.ar s.fl s.en s.la s.zs s.se s.ph s.tk s.pc s.rc s.wc s.bc s.tc, hsB D HL HW1 HW2 hs] : List va_W).flatten, ([chipB D M y1 y2 t.v t.f t.g t.r t.av t.mk t.cm t.ar t.fl t.en t.la t.zs t.se t.ph t.tk t.pc t.rc t.wc t.bc t.tc, buB D b0 b1 b2 b3 bw en tb sh n0, orB D u0 u1 nu lt br le] : List va_W).flatten] : List va_W).flatten) (As := [.int 0, .int 0, .int 2]) (rest := []) lk_X6_95 (c_X6_isWithin l D _ 0 0 2) Foc.nil rfl hl.1 (Nat.le_of_ble_eq_true rfl) ⟨Nat.le_of_ble_eq_true rfl, Nat.le_of_ble_eq_true rfl⟩ rfl dX6_fault_3 ⟨Nat.le_refl _, Nat.le_refl _⟩ (fun H locs hw => ?_)
  refine lv_if_ne (tgt := 12) hx hb dX6_fault_6 (by decide) (fun _ => ?_) (fun h => absurd h (by decide))
  refine lv_aload_n hx hb dX6_fault_12 rfl (lv_at hl 0 rfl) ?_
  refine r_callV X hw (ws' := ([([xB D o ha ta (L 0) (M 0) b0 u0 (nI k) (rows4 HL) tx (nI T), chipB D L w1 w2 s.v s.f s.g s.r s.av s.mk s.cm s.ar s.fl s.en s.la s.zs s.se s.ph s.tk s.pc s.rc s.wc s.bc s.tc, hsB D HL HW1 HW2 hs] : List va_W).flatten, ([chipB D M y1 y2 t.v t.f t.g t.r t.av t.mk t.cm t.ar t.fl t.en t.la t.zs t.se t.ph t.tk t.pc t.rc t.wc t.bc t.tc, buB D b0 b1 b2 b3 bw en tb sh n0, orB D u0 u1 ((ffR tx T 60 0 (nu, lt, br, le)).2.1) ((ffR tx T 60 0 (nu, lt, br, le)).2.2.1) ((ffR tx T 60 0 (nu, lt, br, le)).2.2.2.1) ((ffR tx T 60 0 (nu, lt, br, le)).2.2.2.2)] : List va_W).flatten] : List va_W).flatten) (As := []) (rest := []) lk_X6_261 (c_X6_findFault l D _ o ha ta L w1 w2 M y1 y2 HL HW1 HW2 b0 b1 b2 b3 bw u0 u1 tx T s t hs en tb sh n0 nu lt br le k hk4 hT htx) Foc.all (m_fl 0 rfl (m_fl 0 rfl (m_at 0 rfl))) rfl hl.1 (Nat.le_of_ble_eq_true rfl) ⟨Nat.le_of_ble_eq_true rfl, Nat.le_of_ble_eq_true rfl⟩ rfl dX6_fault_13 ⟨Nat.le_refl _, Nat.le_refl _⟩ (fun H locs hw => ?_)
  rw [hF9] at hw
  rw [hF9]
  refine lv_istore_n (lv' := [(2, .int F9.1), (0, .ref o), (1, .int 0)]) hx hb dX6_fault_16 rfl hl (by decide) rfl (fun ls hl => ?_)
  refine lv_iload_n hx hb dX6_fault_17 rfl (lv_at hl 0 rfl) ?_
  refine lv_if_ge (tgt := 24) hx hb dX6_fault_18 (by decide) (fun _ => ?_) (fun h => absurd (Classical.byContradiction h9) h)
  refine lv_iload_n hx hb dX6_fault_24 rfl (lv_at hl 2 rfl) ?_
  refine r_lookIn (tgt := 52) hx hb 0 rfl dX6_fault_25 (by decide) rfl (by decide) ?_
  refine lv_iload_n hx hb dX6_fault_52 rfl (lv_at hl 0 rfl) ?_
  exact r_ret X hw hk hret rfl (by unfold faC; rw [if_pos rfl]) rfl dX6_fault_53

set_option maxRecDepth 100000 in
set_option maxHeartbeats 4000000 in
theorem c_X6_faultN0 (l : Launch) (D : va_G) (sz : Nat) (o ha ta : Nat) (L w1 w2 M y1 y2 : Nat → Nat) (HL HW1 HW2 : Nat → Nat → Nat) (b0 b1 b2 b3 : Nat) (bw : Nat → Nat) (u0 u1 : Nat) (tx : Row) (T : Nat) (s t : ChS) (hs : Nat → ChS) (en tb : Row) (sh : Nat → Row) (n0 : Int32) (nu : Row) (lt br le : Int32) (k : Nat) (hk4 : k ≤ 4) (hT : T ≤ 60) (htx : chOK tx) (F9 : Int32 × OS) (hF9 : ffR tx T 60 0 (nu, lt, br, le) = F9) (h9 : ¬ 0 ≤ F9.1) : MI l yX6_fault cX6_fault 3 (some .int) 5 107 D sz [.ref o, .int 0] (([([xB D o ha ta (L 0) (M 0) b0 u0 (nI k) (rows4 HL) tx (nI T), chipB D L w1 w2 s.v s.f s.g s.r s.av s.mk s.cm s.ar s.fl s.en s.la s.zs s.se s.ph s.tk s.pc s.rc s.wc s.bc s.tc, hsB D HL HW1 HW2 hs] : List va_W).flatten, ([chipB D M y1 y2 t.v t.f t.g t.r t.av t.mk t.cm t.ar t.fl t.en t.la t.zs t.se t.ph t.tk t.pc t.rc t.wc t.bc t.tc, buB D b0 b1 b2 b3 bw en tb sh n0, orB D u0 u1 nu lt br le] : List va_W).flatten] : List va_W).flatten) (-1000004) (([([xB D o ha ta (L 0) (M 0) b0 u0 (nI k) (rows4 HL) tx (nI T), chipB D L w1 w2 s.v s.f s.g s.r s.av s.mk s.cm s.ar s.fl s.en s.la s.zs s.se s.ph s.tk s.pc s.rc s.wc s.bc s.tc, hsB D HL HW1 HW2 hs] : List va_W).flatten, ([chipB D M y1 y2 t.v t.f t.g t.r t.av t.mk t.cm t.ar t.fl t.en t.la t.zs t.se t.ph t.tk t.pc t.rc t.wc t.bc t.tc, buB D b0 b1 b2 b3 bw en tb sh n0, orB D u0 u1 F9.2.1 F9.2.2.1 F9.2.2.2.1 F9.2.2.2.2] : List va_W).flatten] : List va_W).flatten) := by
  refine r_enterI (by decide) (Nat.le_of_ble_eq_true rfl) ?_
  intro p e st m args below meth c ls A X hret hk hw hl
  have X : CX D p m c cX6_fault 3 st args RX6 A := X
  have hx := X.1.1
  have hb := X.1.2.1
  have hown := X.1.2.2.2.1
  have hts := X.1.2.2.2.2
  have hl : lv_has ls 3 [(0, .ref o), (1, .int 0)] := hl
  refine lv_iload_n hx hb dX6_fault_0 rfl (lv_at hl 1 rfl) ?_
  refine lv_iconst (v := 0) hx hb dX6_fault_1 (by decide) ?_
  refine lv_iconst (v := 2) hx hb dX6_fault_2 (by decide) ?_
  refine r_callS X hw (ws' := ([([xB D o ha ta (L 0) (M 0) b0 u0 (nI k) (rows4 HL) tx (nI T), chipB D L w1 w2 s.v s.f s.g s.r s.av s.mk s.cm s.ar s.fl s.en s.la s.zs s.se s.ph s.tk s.pc s.rc s.wc s.bc s.tc, hsB D HL HW1 HW2 hs] : List va_W).flatten, ([chipB D M y1 y2 t.v t.f t.g t.r t.av t.mk t.cm t.ar t.fl t.en t.la t.zs t.se t.ph t.tk t.pc t.rc t.wc t.bc t.tc, buB D b0 b1 b2 b3 bw en tb sh n0, orB D u0 u1 nu lt br le] : List va_W).flatten] : List va_W).flatten) (As := [.int 0, .int 0, .int 2]) (rest := []) lk_X6_95 (c_X6_isWithin l D _ 0 0 2) Foc.nil rfl hl.1 (Nat.le_of_ble_eq_true rfl) ⟨Nat.le_of_ble_eq_true rfl, Nat.le_of_ble_eq_true rfl⟩ rfl dX6_fault_3 ⟨Nat.le_refl _, Nat.le_refl _⟩ (fun H locs hw => ?_)
  refine lv_if_ne (tgt := 12) hx hb dX6_fault_6 (by decide) (fun _ => ?_) (fun h => absurd h (by decide))
  refine lv_aload_n hx hb dX6_fault_12 rfl (lv_at hl 0 rfl) ?_
  refine r_callV X hw (ws' := ([([xB D o ha ta (L 0) (M 0) b0 u0 (nI k) (rows4 HL) tx (nI T), chipB D L w1 w2 s.v s.f s.g s.r s.av s.mk s.cm s.ar s.fl s.en s.la s.zs s.se s.ph s.tk s.pc s.rc s.wc s.bc s.tc, hsB D HL HW1 HW2 hs] : List va_W).flatten, ([chipB D M y1 y2 t.v t.f t.g t.r t.av t.mk t.cm t.ar t.fl t.en t.la t.zs t.se t.ph t.tk t.pc t.rc t.wc t.bc t.tc, buB D b0 b1 b2 b3 bw en tb sh n0, orB D u0 u1 ((ffR tx T 60 0 (nu, lt, br, le)).2.1) ((ffR tx T 60 0 (nu, lt, br, le)).2.2.1) ((ffR tx T 60 0 (nu, lt, br, le)).2.2.2.1) ((ffR tx T 60 0 (nu, lt, br, le)).2.2.2.2)] : List va_W).flatten] : List va_W).flatten) (As := []) (rest := []) lk_X6_261 (c_X6_findFault l D _ o ha ta L w1 w2 M y1 y2 HL HW1 HW2 b0 b1 b2 b3 bw u0 u1 tx T s t hs en tb sh n0 nu lt br le k hk4 hT htx) Foc.all (m_fl 0 rfl (m_fl 0 rfl (m_at 0 rfl))) rfl hl.1 (Nat.le_of_ble_eq_true rfl) ⟨Nat.le_of_ble_eq_true rfl, Nat.le_of_ble_eq_true rfl⟩ rfl dX6_fault_13 ⟨Nat.le_refl _, Nat.le_refl _⟩ (fun H locs hw => ?_)
  rw [hF9] at hw
  rw [hF9]
  refine lv_istore_n (lv' := [(2, .int F9.1), (0, .ref o), (1, .int 0)]) hx hb dX6_fault_16 rfl hl (by decide) rfl (fun ls hl => ?_)
  refine lv_iload_n hx hb dX6_fault_17 rfl (lv_at hl 0 rfl) ?_
  refine lv_if_ge (tgt := 24) hx hb dX6_fault_18 (by decide) (fun h => absurd h h9) (fun _ => ?_)
  refine lv_ldc (v := (-1000004)) hx hb hown (hts _ kc_X6_185) dX6_fault_21 ?_
  exact r_ret X hw hk hret rfl rfl rfl dX6_fault_23

set_option maxRecDepth 100000 in
set_option maxHeartbeats 4000000 in
theorem c_X6_fault1 (l : Launch) (D : va_G) (sz : Nat) (o ha ta : Nat) (L w1 w2 M y1 y2 : Nat → Nat) (HL HW1 HW2 : Nat → Nat → Nat) (b0 b1 b2 b3 : Nat) (bw : Nat → Nat) (u0 u1 : Nat) (tx : Row) (T : Nat) (s t : ChS) (hs : Nat → ChS) (en tb : Row) (sh : Nat → Row) (n0 : Int32) (nu : Row) (lt br le : Int32) (k : Nat) (hk4 : k ≤ 4) (hT : T ≤ 60) (htx : chOK tx) (F9 : Int32 × OS) (hF9 : ffR tx T 60 0 (nu, lt, br, le) = F9) (h9 : ¬ 0 ≤ F9.1 → False) : MI l yX6_fault cX6_fault 3 (some .int) 5 107 D sz [.ref o, .int 1] (([([xB D o ha ta (L 0) (M 0) b0 u0 (nI k) (rows4 HL) tx (nI T), chipB D L w1 w2 s.v s.f s.g s.r s.av s.mk s.cm s.ar s.fl s.en s.la s.zs s.se s.ph s.tk s.pc s.rc s.wc s.bc s.tc, hsB D HL HW1 HW2 hs] : List va_W).flatten, ([chipB D M y1 y2 t.v t.f t.g t.r t.av t.mk t.cm t.ar t.fl t.en t.la t.zs t.se t.ph t.tk t.pc t.rc t.wc t.bc t.tc, buB D b0 b1 b2 b3 bw en tb sh n0, orB D u0 u1 nu lt br le] : List va_W).flatten] : List va_W).flatten) (faC 1 F9) (([([xB D o ha ta (L 0) (M 0) b0 u0 (nI k) (rows4 HL) tx (nI T), chipB D L w1 w2 s.v s.f s.g s.r s.av s.mk s.cm s.ar s.fl s.en s.la s.zs s.se s.ph s.tk s.pc s.rc s.wc s.bc s.tc, hsB D HL HW1 HW2 hs] : List va_W).flatten, ([chipB D M y1 y2 t.v t.f t.g t.r t.av t.mk t.cm t.ar t.fl t.en t.la t.zs t.se t.ph t.tk t.pc t.rc t.wc t.bc t.tc, buB D b0 b1 b2 b3 bw en tb sh n0, orB D u0 u1 F9.2.1 F9.2.2.1 F9.2.2.2.1 F9.2.2.2.2] : List va_W).flatten] : List va_W).flatten) := by
  refine r_enterI (by decide) (Nat.le_of_ble_eq_true rfl) ?_
  intro p e st m args below meth c ls A X hret hk hw hl
  have X : CX D p m c cX6_fault 3 st args RX6 A := X
  have hx := X.1.1
  have hb := X.1.2.1
  have hown := X.1.2.2.2.1
  have hts := X.1.2.2.2.2
  have hl : lv_has ls 3 [(0, .ref o), (1, .int 1)] := hl
  refine lv_iload_n hx hb dX6_fault_0 rfl (lv_at hl 1 rfl) ?_
  refine lv_iconst (v := 0) hx hb dX6_fault_1 (by decide) ?_
  refine lv_iconst (v := 2) hx hb dX6_fault_2 (by decide) ?_
  refine r_callS X hw (ws' := ([([xB D o ha ta (L 0) (M 0) b0 u0 (nI k) (rows4 HL) tx (nI T), chipB D L w1 w2 s.v s.f s.g s.r s.av s.mk s.cm s.ar s.fl s.en s.la s.zs s.se s.ph s.tk s.pc s.rc s.wc s.bc s.tc, hsB D HL HW1 HW2 hs] : List va_W).flatten, ([chipB D M y1 y2 t.v t.f t.g t.r t.av t.mk t.cm t.ar t.fl t.en t.la t.zs t.se t.ph t.tk t.pc t.rc t.wc t.bc t.tc, buB D b0 b1 b2 b3 bw en tb sh n0, orB D u0 u1 nu lt br le] : List va_W).flatten] : List va_W).flatten) (As := [.int 1, .int 0, .int 2]) (rest := []) lk_X6_95 (c_X6_isWithin l D _ 1 0 2) Foc.nil rfl hl.1 (Nat.le_of_ble_eq_true rfl) ⟨Nat.le_of_ble_eq_true rfl, Nat.le_of_ble_eq_true rfl⟩ rfl dX6_fault_3 ⟨Nat.le_refl _, Nat.le_refl _⟩ (fun H locs hw => ?_)
  refine lv_if_ne (tgt := 12) hx hb dX6_fault_6 (by decide) (fun _ => ?_) (fun h => absurd h (by decide))
  refine lv_aload_n hx hb dX6_fault_12 rfl (lv_at hl 0 rfl) ?_
  refine r_callV X hw (ws' := ([([xB D o ha ta (L 0) (M 0) b0 u0 (nI k) (rows4 HL) tx (nI T), chipB D L w1 w2 s.v s.f s.g s.r s.av s.mk s.cm s.ar s.fl s.en s.la s.zs s.se s.ph s.tk s.pc s.rc s.wc s.bc s.tc, hsB D HL HW1 HW2 hs] : List va_W).flatten, ([chipB D M y1 y2 t.v t.f t.g t.r t.av t.mk t.cm t.ar t.fl t.en t.la t.zs t.se t.ph t.tk t.pc t.rc t.wc t.bc t.tc, buB D b0 b1 b2 b3 bw en tb sh n0, orB D u0 u1 ((ffR tx T 60 0 (nu, lt, br, le)).2.1) ((ffR tx T 60 0 (nu, lt, br, le)).2.2.1) ((ffR tx T 60 0 (nu, lt, br, le)).2.2.2.1) ((ffR tx T 60 0 (nu, lt, br, le)).2.2.2.2)] : List va_W).flatten] : List va_W).flatten) (As := []) (rest := []) lk_X6_261 (c_X6_findFault l D _ o ha ta L w1 w2 M y1 y2 HL HW1 HW2 b0 b1 b2 b3 bw u0 u1 tx T s t hs en tb sh n0 nu lt br le k hk4 hT htx) Foc.all (m_fl 0 rfl (m_fl 0 rfl (m_at 0 rfl))) rfl hl.1 (Nat.le_of_ble_eq_true rfl) ⟨Nat.le_of_ble_eq_true rfl, Nat.le_of_ble_eq_true rfl⟩ rfl dX6_fault_13 ⟨Nat.le_refl _, Nat.le_refl _⟩ (fun H locs hw => ?_)
  rw [hF9] at hw
  rw [hF9]
  refine lv_istore_n (lv' := [(2, .int F9.1), (0, .ref o), (1, .int 1)]) hx hb dX6_fault_16 rfl hl (by decide) rfl (fun ls hl => ?_)
  refine lv_iload_n hx hb dX6_fault_17 rfl (lv_at hl 0 rfl) ?_
  refine lv_if_ge (tgt := 24) hx hb dX6_fault_18 (by decide) (fun _ => ?_) (fun h => absurd (Classical.byContradiction h9) h)
  refine lv_iload_n hx hb dX6_fault_24 rfl (lv_at hl 2 rfl) ?_
  refine r_lookIn (tgt := 54) hx hb 1 rfl dX6_fault_25 (by decide) rfl (by decide) ?_
  refine lv_aload_n hx hb dX6_fault_54 rfl (lv_at hl 1 rfl) ?_
  refine r_get X hw (v := .ref u0) fl_X6_29 (m_fl 0 rfl (m_fl 0 rfl (m_at 0 rfl))) rfl dX6_fault_55 ?_
  refine r_get X hw (v := .int F9.2.2.2.1) fl_X6_264 (m_fl 1 rfl (m_fl 2 rfl (m_at 0 rfl))) rfl dX6_fault_58 ?_
  refine lv_if_eq (tgt := 68) hx hb dX6_fault_61 (by decide) (fun c1 => ?_) (fun c1 => ?_)
  · skip
    refine lv_iconst (v := 2) hx hb dX6_fault_68 (by decide) ?_
    exact r_ret X hw hk hret rfl (by unfold faC; rw [if_neg (by decide), if_pos rfl]; rw [if_pos c1]) rfl dX6_fault_69
  · skip
    refine lv_iconst (v := 1) hx hb dX6_fault_64 (by decide) ?_
    refine lv_goto (tgt := 69) hx hb dX6_fault_65 (by decide) ?_
    exact r_ret X hw hk hret rfl (by unfold faC; rw [if_neg (by decide), if_pos rfl]; rw [if_neg c1]) rfl dX6_fault_69

set_option maxRecDepth 100000 in
set_option maxHeartbeats 4000000 in
theorem c_X6_faultN1 (l : Launch) (D : va_G) (sz : Nat) (o ha ta : Nat) (L w1 w2 M y1 y2 : Nat → Nat) (HL HW1 HW2 : Nat → Nat → Nat) (b0 b1 b2 b3 : Nat) (bw : Nat → Nat) (u0 u1 : Nat) (tx : Row) (T : Nat) (s t : ChS) (hs : Nat → ChS) (en tb : Row) (sh : Nat → Row) (n0 : Int32) (nu : Row) (lt br le : Int32) (k : Nat) (hk4 : k ≤ 4) (hT : T ≤ 60) (htx : chOK tx) (F9 : Int32 × OS) (hF9 : ffR tx T 60 0 (nu, lt, br, le) = F9) (h9 : ¬ 0 ≤ F9.1) : MI l yX6_fault cX6_fault 3 (some .int) 5 107 D sz [.ref o, .int 1] (([([xB D o ha ta (L 0) (M 0) b0 u0 (nI k) (rows4 HL) tx (nI T), chipB D L w1 w2 s.v s.f s.g s.r s.av s.mk s.cm s.ar s.fl s.en s.la s.zs s.se s.ph s.tk s.pc s.rc s.wc s.bc s.tc, hsB D HL HW1 HW2 hs] : List va_W).flatten, ([chipB D M y1 y2 t.v t.f t.g t.r t.av t.mk t.cm t.ar t.fl t.en t.la t.zs t.se t.ph t.tk t.pc t.rc t.wc t.bc t.tc, buB D b0 b1 b2 b3 bw en tb sh n0, orB D u0 u1 nu lt br le] : List va_W).flatten] : List va_W).flatten) (-1000004) (([([xB D o ha ta (L 0) (M 0) b0 u0 (nI k) (rows4 HL) tx (nI T), chipB D L w1 w2 s.v s.f s.g s.r s.av s.mk s.cm s.ar s.fl s.en s.la s.zs s.se s.ph s.tk s.pc s.rc s.wc s.bc s.tc, hsB D HL HW1 HW2 hs] : List va_W).flatten, ([chipB D M y1 y2 t.v t.f t.g t.r t.av t.mk t.cm t.ar t.fl t.en t.la t.zs t.se t.ph t.tk t.pc t.rc t.wc t.bc t.tc, buB D b0 b1 b2 b3 bw en tb sh n0, orB D u0 u1 F9.2.1 F9.2.2.1 F9.2.2.2.1 F9.2.2.2.2] : List va_W).flatten] : List va_W).flatten) := by
  refine r_enterI (by decide) (Nat.le_of_ble_eq_true rfl) ?_
  intro p e st m args below meth c ls A X hret hk hw hl
  have X : CX D p m c cX6_fault 3 st args RX6 A := X
  have hx := X.1.1
  have hb := X.1.2.1
  have hown := X.1.2.2.2.1
  have hts := X.1.2.2.2.2
  have hl : lv_has ls 3 [(0, .ref o), (1, .int 1)] := hl
  refine lv_iload_n hx hb dX6_fault_0 rfl (lv_at hl 1 rfl) ?_
  refine lv_iconst (v := 0) hx hb dX6_fault_1 (by decide) ?_
  refine lv_iconst (v := 2) hx hb dX6_fault_2 (by decide) ?_
  refine r_callS X hw (ws' := ([([xB D o ha ta (L 0) (M 0) b0 u0 (nI k) (rows4 HL) tx (nI T), chipB D L w1 w2 s.v s.f s.g s.r s.av s.mk s.cm s.ar s.fl s.en s.la s.zs s.se s.ph s.tk s.pc s.rc s.wc s.bc s.tc, hsB D HL HW1 HW2 hs] : List va_W).flatten, ([chipB D M y1 y2 t.v t.f t.g t.r t.av t.mk t.cm t.ar t.fl t.en t.la t.zs t.se t.ph t.tk t.pc t.rc t.wc t.bc t.tc, buB D b0 b1 b2 b3 bw en tb sh n0, orB D u0 u1 nu lt br le] : List va_W).flatten] : List va_W).flatten) (As := [.int 1, .int 0, .int 2]) (rest := []) lk_X6_95 (c_X6_isWithin l D _ 1 0 2) Foc.nil rfl hl.1 (Nat.le_of_ble_eq_true rfl) ⟨Nat.le_of_ble_eq_true rfl, Nat.le_of_ble_eq_true rfl⟩ rfl dX6_fault_3 ⟨Nat.le_refl _, Nat.le_refl _⟩ (fun H locs hw => ?_)
  refine lv_if_ne (tgt := 12) hx hb dX6_fault_6 (by decide) (fun _ => ?_) (fun h => absurd h (by decide))
  refine lv_aload_n hx hb dX6_fault_12 rfl (lv_at hl 0 rfl) ?_
  refine r_callV X hw (ws' := ([([xB D o ha ta (L 0) (M 0) b0 u0 (nI k) (rows4 HL) tx (nI T), chipB D L w1 w2 s.v s.f s.g s.r s.av s.mk s.cm s.ar s.fl s.en s.la s.zs s.se s.ph s.tk s.pc s.rc s.wc s.bc s.tc, hsB D HL HW1 HW2 hs] : List va_W).flatten, ([chipB D M y1 y2 t.v t.f t.g t.r t.av t.mk t.cm t.ar t.fl t.en t.la t.zs t.se t.ph t.tk t.pc t.rc t.wc t.bc t.tc, buB D b0 b1 b2 b3 bw en tb sh n0, orB D u0 u1 ((ffR tx T 60 0 (nu, lt, br, le)).2.1) ((ffR tx T 60 0 (nu, lt, br, le)).2.2.1) ((ffR tx T 60 0 (nu, lt, br, le)).2.2.2.1) ((ffR tx T 60 0 (nu, lt, br, le)).2.2.2.2)] : List va_W).flatten] : List va_W).flatten) (As := []) (rest := []) lk_X6_261 (c_X6_findFault l D _ o ha ta L w1 w2 M y1 y2 HL HW1 HW2 b0 b1 b2 b3 bw u0 u1 tx T s t hs en tb sh n0 nu lt br le k hk4 hT htx) Foc.all (m_fl 0 rfl (m_fl 0 rfl (m_at 0 rfl))) rfl hl.1 (Nat.le_of_ble_eq_true rfl) ⟨Nat.le_of_ble_eq_true rfl, Nat.le_of_ble_eq_true rfl⟩ rfl dX6_fault_13 ⟨Nat.le_refl _, Nat.le_refl _⟩ (fun H locs hw => ?_)
  rw [hF9] at hw
  rw [hF9]
  refine lv_istore_n (lv' := [(2, .int F9.1), (0, .ref o), (1, .int 1)]) hx hb dX6_fault_16 rfl hl (by decide) rfl (fun ls hl => ?_)
  refine lv_iload_n hx hb dX6_fault_17 rfl (lv_at hl 0 rfl) ?_
  refine lv_if_ge (tgt := 24) hx hb dX6_fault_18 (by decide) (fun h => absurd h h9) (fun _ => ?_)
  refine lv_ldc (v := (-1000004)) hx hb hown (hts _ kc_X6_185) dX6_fault_21 ?_
  exact r_ret X hw hk hret rfl rfl rfl dX6_fault_23

set_option maxRecDepth 100000 in
set_option maxHeartbeats 4000000 in
theorem c_X6_fault2 (l : Launch) (D : va_G) (sz : Nat) (o ha ta : Nat) (L w1 w2 M y1 y2 : Nat → Nat) (HL HW1 HW2 : Nat → Nat → Nat) (b0 b1 b2 b3 : Nat) (bw : Nat → Nat) (u0 u1 : Nat) (tx : Row) (T : Nat) (s t : ChS) (hs : Nat → ChS) (en tb : Row) (sh : Nat → Row) (n0 : Int32) (nu : Row) (lt br le : Int32) (k : Nat) (hk4 : k ≤ 4) (hT : T ≤ 60) (htx : chOK tx) (F9 : Int32 × OS) (hF9 : ffR tx T 60 0 (nu, lt, br, le) = F9) (h9 : ¬ 0 ≤ F9.1 → False) : MI l yX6_fault cX6_fault 3 (some .int) 5 107 D sz [.ref o, .int 2] (([([xB D o ha ta (L 0) (M 0) b0 u0 (nI k) (rows4 HL) tx (nI T), chipB D L w1 w2 s.v s.f s.g s.r s.av s.mk s.cm s.ar s.fl s.en s.la s.zs s.se s.ph s.tk s.pc s.rc s.wc s.bc s.tc, hsB D HL HW1 HW2 hs] : List va_W).flatten, ([chipB D M y1 y2 t.v t.f t.g t.r t.av t.mk t.cm t.ar t.fl t.en t.la t.zs t.se t.ph t.tk t.pc t.rc t.wc t.bc t.tc, buB D b0 b1 b2 b3 bw en tb sh n0, orB D u0 u1 nu lt br le] : List va_W).flatten] : List va_W).flatten) (faC 2 F9) (([([xB D o ha ta (L 0) (M 0) b0 u0 (nI k) (rows4 HL) tx (nI T), chipB D L w1 w2 s.v s.f s.g s.r s.av s.mk s.cm s.ar s.fl s.en s.la s.zs s.se s.ph s.tk s.pc s.rc s.wc s.bc s.tc, hsB D HL HW1 HW2 hs] : List va_W).flatten, ([chipB D M y1 y2 t.v t.f t.g t.r t.av t.mk t.cm t.ar t.fl t.en t.la t.zs t.se t.ph t.tk t.pc t.rc t.wc t.bc t.tc, buB D b0 b1 b2 b3 bw en tb sh n0, orB D u0 u1 F9.2.1 F9.2.2.1 F9.2.2.2.1 F9.2.2.2.2] : List va_W).flatten] : List va_W).flatten) := by
  refine r_enterI (by decide) (Nat.le_of_ble_eq_true rfl) ?_
  intro p e st m args below meth c ls A X hret hk hw hl
  have X : CX D p m c cX6_fault 3 st args RX6 A := X
  have hx := X.1.1
  have hb := X.1.2.1
  have hown := X.1.2.2.2.1
  have hts := X.1.2.2.2.2
  have hl : lv_has ls 3 [(0, .ref o), (1, .int 2)] := hl
  refine lv_iload_n hx hb dX6_fault_0 rfl (lv_at hl 1 rfl) ?_
  refine lv_iconst (v := 0) hx hb dX6_fault_1 (by decide) ?_
  refine lv_iconst (v := 2) hx hb dX6_fault_2 (by decide) ?_
  refine r_callS X hw (ws' := ([([xB D o ha ta (L 0) (M 0) b0 u0 (nI k) (rows4 HL) tx (nI T), chipB D L w1 w2 s.v s.f s.g s.r s.av s.mk s.cm s.ar s.fl s.en s.la s.zs s.se s.ph s.tk s.pc s.rc s.wc s.bc s.tc, hsB D HL HW1 HW2 hs] : List va_W).flatten, ([chipB D M y1 y2 t.v t.f t.g t.r t.av t.mk t.cm t.ar t.fl t.en t.la t.zs t.se t.ph t.tk t.pc t.rc t.wc t.bc t.tc, buB D b0 b1 b2 b3 bw en tb sh n0, orB D u0 u1 nu lt br le] : List va_W).flatten] : List va_W).flatten) (As := [.int 2, .int 0, .int 2]) (rest := []) lk_X6_95 (c_X6_isWithin l D _ 2 0 2) Foc.nil rfl hl.1 (Nat.le_of_ble_eq_true rfl) ⟨Nat.le_of_ble_eq_true rfl, Nat.le_of_ble_eq_true rfl⟩ rfl dX6_fault_3 ⟨Nat.le_refl _, Nat.le_refl _⟩ (fun H locs hw => ?_)
  refine lv_if_ne (tgt := 12) hx hb dX6_fault_6 (by decide) (fun _ => ?_) (fun h => absurd h (by decide))
  refine lv_aload_n hx hb dX6_fault_12 rfl (lv_at hl 0 rfl) ?_
  refine r_callV X hw (ws' := ([([xB D o ha ta (L 0) (M 0) b0 u0 (nI k) (rows4 HL) tx (nI T), chipB D L w1 w2 s.v s.f s.g s.r s.av s.mk s.cm s.ar s.fl s.en s.la s.zs s.se s.ph s.tk s.pc s.rc s.wc s.bc s.tc, hsB D HL HW1 HW2 hs] : List va_W).flatten, ([chipB D M y1 y2 t.v t.f t.g t.r t.av t.mk t.cm t.ar t.fl t.en t.la t.zs t.se t.ph t.tk t.pc t.rc t.wc t.bc t.tc, buB D b0 b1 b2 b3 bw en tb sh n0, orB D u0 u1 ((ffR tx T 60 0 (nu, lt, br, le)).2.1) ((ffR tx T 60 0 (nu, lt, br, le)).2.2.1) ((ffR tx T 60 0 (nu, lt, br, le)).2.2.2.1) ((ffR tx T 60 0 (nu, lt, br, le)).2.2.2.2)] : List va_W).flatten] : List va_W).flatten) (As := []) (rest := []) lk_X6_261 (c_X6_findFault l D _ o ha ta L w1 w2 M y1 y2 HL HW1 HW2 b0 b1 b2 b3 bw u0 u1 tx T s t hs en tb sh n0 nu lt br le k hk4 hT htx) Foc.all (m_fl 0 rfl (m_fl 0 rfl (m_at 0 rfl))) rfl hl.1 (Nat.le_of_ble_eq_true rfl) ⟨Nat.le_of_ble_eq_true rfl, Nat.le_of_ble_eq_true rfl⟩ rfl dX6_fault_13 ⟨Nat.le_refl _, Nat.le_refl _⟩ (fun H locs hw => ?_)
  rw [hF9] at hw
  rw [hF9]
  refine lv_istore_n (lv' := [(2, .int F9.1), (0, .ref o), (1, .int 2)]) hx hb dX6_fault_16 rfl hl (by decide) rfl (fun ls hl => ?_)
  refine lv_iload_n hx hb dX6_fault_17 rfl (lv_at hl 0 rfl) ?_
  refine lv_if_ge (tgt := 24) hx hb dX6_fault_18 (by decide) (fun _ => ?_) (fun h => absurd (Classical.byContradiction h9) h)
  refine lv_iload_n hx hb dX6_fault_24 rfl (lv_at hl 2 rfl) ?_
  refine lv_lookup (tgt := 70) hx hb dX6_fault_25 (by decide) rfl (by decide) ?_
  refine lv_aload_n hx hb dX6_fault_70 rfl (lv_at hl 1 rfl) ?_
  refine r_get X hw (v := .ref u0) fl_X6_29 (m_fl 0 rfl (m_fl 0 rfl (m_at 0 rfl))) rfl dX6_fault_71 ?_
  refine r_get X hw (v := .int F9.2.2.2.1) fl_X6_264 (m_fl 1 rfl (m_fl 2 rfl (m_at 0 rfl))) rfl dX6_fault_74 ?_
  refine lv_if_eq (tgt := 90) hx hb dX6_fault_77 (by decide) (fun c1 => ?_) (fun c1 => ?_)
  · skip
    refine lv_ldc (v := (-1000001)) hx hb hown (hts _ kc_X6_45) dX6_fault_90 ?_
    exact r_ret X hw hk hret rfl (by unfold faC; rw [if_neg (by decide), if_neg (by decide)]; rw [if_pos c1]) rfl dX6_fault_92
  · skip
    refine lv_aload_n hx hb dX6_fault_80 rfl (lv_at hl 1 rfl) ?_
    refine r_get X hw (v := .ref u0) fl_X6_29 (m_fl 0 rfl (m_fl 0 rfl (m_at 0 rfl))) rfl dX6_fault_81 ?_
    refine r_get X hw (v := .int F9.2.2.2.2) fl_X6_268 (m_fl 1 rfl (m_fl 2 rfl (m_at 0 rfl))) rfl dX6_fault_84 ?_
    refine lv_goto (tgt := 92) hx hb dX6_fault_87 (by decide) ?_
    exact r_ret X hw hk hret rfl (by unfold faC; rw [if_neg (by decide), if_neg (by decide)]; rw [if_neg c1]) rfl dX6_fault_92

set_option maxRecDepth 100000 in
set_option maxHeartbeats 4000000 in
theorem c_X6_faultN2 (l : Launch) (D : va_G) (sz : Nat) (o ha ta : Nat) (L w1 w2 M y1 y2 : Nat → Nat) (HL HW1 HW2 : Nat → Nat → Nat) (b0 b1 b2 b3 : Nat) (bw : Nat → Nat) (u0 u1 : Nat) (tx : Row) (T : Nat) (s t : ChS) (hs : Nat → ChS) (en tb : Row) (sh : Nat → Row) (n0 : Int32) (nu : Row) (lt br le : Int32) (k : Nat) (hk4 : k ≤ 4) (hT : T ≤ 60) (htx : chOK tx) (F9 : Int32 × OS) (hF9 : ffR tx T 60 0 (nu, lt, br, le) = F9) (h9 : ¬ 0 ≤ F9.1) : MI l yX6_fault cX6_fault 3 (some .int) 5 107 D sz [.ref o, .int 2] (([([xB D o ha ta (L 0) (M 0) b0 u0 (nI k) (rows4 HL) tx (nI T), chipB D L w1 w2 s.v s.f s.g s.r s.av s.mk s.cm s.ar s.fl s.en s.la s.zs s.se s.ph s.tk s.pc s.rc s.wc s.bc s.tc, hsB D HL HW1 HW2 hs] : List va_W).flatten, ([chipB D M y1 y2 t.v t.f t.g t.r t.av t.mk t.cm t.ar t.fl t.en t.la t.zs t.se t.ph t.tk t.pc t.rc t.wc t.bc t.tc, buB D b0 b1 b2 b3 bw en tb sh n0, orB D u0 u1 nu lt br le] : List va_W).flatten] : List va_W).flatten) (-1000004) (([([xB D o ha ta (L 0) (M 0) b0 u0 (nI k) (rows4 HL) tx (nI T), chipB D L w1 w2 s.v s.f s.g s.r s.av s.mk s.cm s.ar s.fl s.en s.la s.zs s.se s.ph s.tk s.pc s.rc s.wc s.bc s.tc, hsB D HL HW1 HW2 hs] : List va_W).flatten, ([chipB D M y1 y2 t.v t.f t.g t.r t.av t.mk t.cm t.ar t.fl t.en t.la t.zs t.se t.ph t.tk t.pc t.rc t.wc t.bc t.tc, buB D b0 b1 b2 b3 bw en tb sh n0, orB D u0 u1 F9.2.1 F9.2.2.1 F9.2.2.2.1 F9.2.2.2.2] : List va_W).flatten] : List va_W).flatten) := by
  refine r_enterI (by decide) (Nat.le_of_ble_eq_true rfl) ?_
  intro p e st m args below meth c ls A X hret hk hw hl
  have X : CX D p m c cX6_fault 3 st args RX6 A := X
  have hx := X.1.1
  have hb := X.1.2.1
  have hown := X.1.2.2.2.1
  have hts := X.1.2.2.2.2
  have hl : lv_has ls 3 [(0, .ref o), (1, .int 2)] := hl
  refine lv_iload_n hx hb dX6_fault_0 rfl (lv_at hl 1 rfl) ?_
  refine lv_iconst (v := 0) hx hb dX6_fault_1 (by decide) ?_
  refine lv_iconst (v := 2) hx hb dX6_fault_2 (by decide) ?_
  refine r_callS X hw (ws' := ([([xB D o ha ta (L 0) (M 0) b0 u0 (nI k) (rows4 HL) tx (nI T), chipB D L w1 w2 s.v s.f s.g s.r s.av s.mk s.cm s.ar s.fl s.en s.la s.zs s.se s.ph s.tk s.pc s.rc s.wc s.bc s.tc, hsB D HL HW1 HW2 hs] : List va_W).flatten, ([chipB D M y1 y2 t.v t.f t.g t.r t.av t.mk t.cm t.ar t.fl t.en t.la t.zs t.se t.ph t.tk t.pc t.rc t.wc t.bc t.tc, buB D b0 b1 b2 b3 bw en tb sh n0, orB D u0 u1 nu lt br le] : List va_W).flatten] : List va_W).flatten) (As := [.int 2, .int 0, .int 2]) (rest := []) lk_X6_95 (c_X6_isWithin l D _ 2 0 2) Foc.nil rfl hl.1 (Nat.le_of_ble_eq_true rfl) ⟨Nat.le_of_ble_eq_true rfl, Nat.le_of_ble_eq_true rfl⟩ rfl dX6_fault_3 ⟨Nat.le_refl _, Nat.le_refl _⟩ (fun H locs hw => ?_)
  refine lv_if_ne (tgt := 12) hx hb dX6_fault_6 (by decide) (fun _ => ?_) (fun h => absurd h (by decide))
  refine lv_aload_n hx hb dX6_fault_12 rfl (lv_at hl 0 rfl) ?_
  refine r_callV X hw (ws' := ([([xB D o ha ta (L 0) (M 0) b0 u0 (nI k) (rows4 HL) tx (nI T), chipB D L w1 w2 s.v s.f s.g s.r s.av s.mk s.cm s.ar s.fl s.en s.la s.zs s.se s.ph s.tk s.pc s.rc s.wc s.bc s.tc, hsB D HL HW1 HW2 hs] : List va_W).flatten, ([chipB D M y1 y2 t.v t.f t.g t.r t.av t.mk t.cm t.ar t.fl t.en t.la t.zs t.se t.ph t.tk t.pc t.rc t.wc t.bc t.tc, buB D b0 b1 b2 b3 bw en tb sh n0, orB D u0 u1 ((ffR tx T 60 0 (nu, lt, br, le)).2.1) ((ffR tx T 60 0 (nu, lt, br, le)).2.2.1) ((ffR tx T 60 0 (nu, lt, br, le)).2.2.2.1) ((ffR tx T 60 0 (nu, lt, br, le)).2.2.2.2)] : List va_W).flatten] : List va_W).flatten) (As := []) (rest := []) lk_X6_261 (c_X6_findFault l D _ o ha ta L w1 w2 M y1 y2 HL HW1 HW2 b0 b1 b2 b3 bw u0 u1 tx T s t hs en tb sh n0 nu lt br le k hk4 hT htx) Foc.all (m_fl 0 rfl (m_fl 0 rfl (m_at 0 rfl))) rfl hl.1 (Nat.le_of_ble_eq_true rfl) ⟨Nat.le_of_ble_eq_true rfl, Nat.le_of_ble_eq_true rfl⟩ rfl dX6_fault_13 ⟨Nat.le_refl _, Nat.le_refl _⟩ (fun H locs hw => ?_)
  rw [hF9] at hw
  rw [hF9]
  refine lv_istore_n (lv' := [(2, .int F9.1), (0, .ref o), (1, .int 2)]) hx hb dX6_fault_16 rfl hl (by decide) rfl (fun ls hl => ?_)
  refine lv_iload_n hx hb dX6_fault_17 rfl (lv_at hl 0 rfl) ?_
  refine lv_if_ge (tgt := 24) hx hb dX6_fault_18 (by decide) (fun h => absurd h h9) (fun _ => ?_)
  refine lv_ldc (v := (-1000004)) hx hb hown (hts _ kc_X6_185) dX6_fault_21 ?_
  exact r_ret X hw hk hret rfl rfl rfl dX6_fault_23

set_option maxRecDepth 100000 in
set_option maxHeartbeats 4000000 in
theorem c_X6_faultB (l : Launch) (D : va_G) (sz : Nat) (o ha ta : Nat) (L w1 w2 M y1 y2 : Nat → Nat) (HL HW1 HW2 : Nat → Nat → Nat) (b0 b1 b2 b3 : Nat) (bw : Nat → Nat) (u0 u1 : Nat) (tx : Row) (T : Nat) (s t : ChS) (hs : Nat → ChS) (en tb : Row) (sh : Nat → Row) (n0 : Int32) (nu : Row) (lt br le : Int32) (k : Nat) (hk4 : k ≤ 4) (hT : T ≤ 60) (x : Int32) (h9 : sp_X6_isWithin x 0 2 = 0) : MI l yX6_fault cX6_fault 3 (some .int) 1 22 D sz [.ref o, .int x] (([([xB D o ha ta (L 0) (M 0) b0 u0 (nI k) (rows4 HL) tx (nI T), chipB D L w1 w2 s.v s.f s.g s.r s.av s.mk s.cm s.ar s.fl s.en s.la s.zs s.se s.ph s.tk s.pc s.rc s.wc s.bc s.tc, hsB D HL HW1 HW2 hs] : List va_W).flatten, ([chipB D M y1 y2 t.v t.f t.g t.r t.av t.mk t.cm t.ar t.fl t.en t.la t.zs t.se t.ph t.tk t.pc t.rc t.wc t.bc t.tc, buB D b0 b1 b2 b3 bw en tb sh n0, orB D u0 u1 nu lt br le] : List va_W).flatten] : List va_W).flatten) (-1000001) (([([xB D o ha ta (L 0) (M 0) b0 u0 (nI k) (rows4 HL) tx (nI T), chipB D L w1 w2 s.v s.f s.g s.r s.av s.mk s.cm s.ar s.fl s.en s.la s.zs s.se s.ph s.tk s.pc s.rc s.wc s.bc s.tc, hsB D HL HW1 HW2 hs] : List va_W).flatten, ([chipB D M y1 y2 t.v t.f t.g t.r t.av t.mk t.cm t.ar t.fl t.en t.la t.zs t.se t.ph t.tk t.pc t.rc t.wc t.bc t.tc, buB D b0 b1 b2 b3 bw en tb sh n0, orB D u0 u1 nu lt br le] : List va_W).flatten] : List va_W).flatten) := by
  refine r_enterI (by decide) (Nat.le_of_ble_eq_true rfl) ?_
  intro p e st m args below meth c ls A X hret hk hw hl
  have X : CX D p m c cX6_fault 3 st args RX6 A := X
  have hx := X.1.1
  have hb := X.1.2.1
  have hown := X.1.2.2.2.1
  have hts := X.1.2.2.2.2
  have hl : lv_has ls 3 [(0, .ref o), (1, .int x)] := hl
  refine lv_iload_n hx hb dX6_fault_0 rfl (lv_at hl 1 rfl) ?_
  refine lv_iconst (v := 0) hx hb dX6_fault_1 (by decide) ?_
  refine lv_iconst (v := 2) hx hb dX6_fault_2 (by decide) ?_
  refine r_callS X hw (ws' := ([([xB D o ha ta (L 0) (M 0) b0 u0 (nI k) (rows4 HL) tx (nI T), chipB D L w1 w2 s.v s.f s.g s.r s.av s.mk s.cm s.ar s.fl s.en s.la s.zs s.se s.ph s.tk s.pc s.rc s.wc s.bc s.tc, hsB D HL HW1 HW2 hs] : List va_W).flatten, ([chipB D M y1 y2 t.v t.f t.g t.r t.av t.mk t.cm t.ar t.fl t.en t.la t.zs t.se t.ph t.tk t.pc t.rc t.wc t.bc t.tc, buB D b0 b1 b2 b3 bw en tb sh n0, orB D u0 u1 nu lt br le] : List va_W).flatten] : List va_W).flatten) (As := [.int x, .int 0, .int 2]) (rest := []) lk_X6_95 (c_X6_isWithin l D _ x 0 2) Foc.nil rfl hl.1 (Nat.le_of_ble_eq_true rfl) ⟨Nat.le_of_ble_eq_true rfl, Nat.le_of_ble_eq_true rfl⟩ rfl dX6_fault_3 ⟨Nat.le_refl _, Nat.le_refl _⟩ (fun H locs hw => ?_)
  refine lv_if_ne (tgt := 12) hx hb dX6_fault_6 (by decide) (fun h => absurd h9 h) (fun _ => ?_)
  refine lv_ldc (v := (-1000001)) hx hb hown (hts _ kc_X6_45) dX6_fault_9 ?_
  exact r_ret X hw hk hret rfl rfl rfl dX6_fault_11
