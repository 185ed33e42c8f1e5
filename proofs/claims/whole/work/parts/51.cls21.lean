/-! the orders are done -/
theorem isW_n {x : Int32} {l N : Nat} (hN : N < 2147483648) (hl : l < 2147483648) (h : ¬ sp_X6_isWithin x (nI l) (nI N) = 0) : ∃ k, k < N + 1 ∧ l ≤ k ∧ x = nI k := (in_iffL x l N hN hl).mp h
theorem may_a {nu : Row} {lt : Int32} (e : lt = 97) (h : ¬ sp_X6_mayDo nu lt = 0) : ∃ k i y, k < 3 ∧ i < 5 ∧ y < 256 ∧ nu 0 = nI k ∧ nu 1 = nI i ∧ nu 2 = nI y := by
  unfold sp_X6_mayDo at h
  rw [if_pos e] at h
  unfold sp_X6_mayChangeAlarm at h
  split at h
  · exact absurd rfl h
  · next h1 =>
    split at h
    · exact absurd rfl h
    · next h2 =>
      split at h
      · exact absurd rfl h
      · next h3 =>
        obtain ⟨k, a1, -, a2⟩ := isW_n (l := 0) (N := 2) (by decide) (by decide) h1
        obtain ⟨i, b1, -, b2⟩ := isW_n (l := 0) (N := 4) (by decide) (by decide) h2
        obtain ⟨y, c1, -, c2⟩ := isW_n (l := 0) (N := 255) (by decide) (by decide) h3
        exact ⟨k, i, y, a1, b1, c1, a2, b2, c2⟩
theorem may_b {nu : Row} {lt : Int32} (e : lt = 98) (h : ¬ sp_X6_mayDo nu lt = 0) : ∃ k, k < 3 ∧ nu 0 = nI k := by
  unfold sp_X6_mayDo at h
  rw [if_neg (by rw [e]; decide), if_pos e] at h
  obtain ⟨k, a1, -, a2⟩ := isW_n (l := 0) (N := 2) (by decide) (by decide) h
  exact ⟨k, a1, a2⟩
theorem may_p {nu : Row} {lt : Int32} (e : lt = 112) (h : ¬ sp_X6_mayDo nu lt = 0) : ∃ k, k < 10000 ∧ 1 ≤ k ∧ nu 0 = nI k := by
  unfold sp_X6_mayDo at h
  rw [if_neg (by rw [e]; decide), if_neg (by rw [e]; decide), if_pos e] at h
  obtain ⟨k, a1, a3, a2⟩ := isW_n (l := 1) (N := 9999) (by decide) (by decide) h
  exact ⟨k, a1, a3, a2⟩
theorem may_r {nu : Row} {lt : Int32} (e : lt = 114) (h : ¬ sp_X6_mayDo nu lt = 0) : ∃ k, k < 7 ∧ nu 0 = nI k := by
  unfold sp_X6_mayDo at h
  rw [if_neg (by rw [e]; decide), if_neg (by rw [e]; decide), if_neg (by rw [e]; decide), if_pos e] at h
  obtain ⟨k, a1, -, a2⟩ := isW_n (l := 0) (N := 6) (by decide) (by decide) h
  exact ⟨k, a1, a2⟩
theorem may_w {nu : Row} {lt : Int32} (e : lt = 119) (h : ¬ sp_X6_mayDo nu lt = 0) : ∃ k y, k < 7 ∧ y < 256 ∧ nu 0 = nI k ∧ nu 1 = nI y := by
  unfold sp_X6_mayDo at h
  rw [if_neg (by rw [e]; decide), if_neg (by rw [e]; decide), if_neg (by rw [e]; decide), if_neg (by rw [e]; decide), if_pos e] at h
  unfold sp_X6_mayWrite at h
  split at h
  · exact absurd rfl h
  · next h1 =>
    split at h
    · exact absurd rfl h
    · next h2 =>
      obtain ⟨k, a1, -, a2⟩ := isW_n (l := 0) (N := 6) (by decide) (by decide) h1
      obtain ⟨i, b1, -, b2⟩ := isW_n (l := 0) (N := 255) (by decide) (by decide) h2
      exact ⟨k, i, a1, b1, a2, b2⟩
theorem may_m {nu : Row} {lt : Int32} (e1 : ¬ lt = 97) (e2 : ¬ lt = 98) (e3 : ¬ lt = 112) (e4 : ¬ lt = 114) (e5 : ¬ lt = 119) (h : ¬ sp_X6_mayDo nu lt = 0) : ∃ k y, k < 3 ∧ y < 32 ∧ nu 0 = nI k ∧ nu 1 = nI y := by
  unfold sp_X6_mayDo at h
  rw [if_neg e1, if_neg e2, if_neg e3, if_neg e4, if_neg e5] at h
  split at h
  · exact absurd rfl h
  · next h1 =>
    split at h
    · exact absurd rfl h
    · next h2 =>
      obtain ⟨k, a1, -, a2⟩ := isW_n (l := 0) (N := 2) (by decide) (by decide) h1
      obtain ⟨i, b1, -, b2⟩ := isW_n (l := 0) (N := 31) (by decide) (by decide) h2
      exact ⟨k, i, a1, b1, a2, b2⟩
theorem nc_nI {k : Nat} (h : k < 2147483648) : nc (nI k) = k := nI_clamp h
/-- what is made of a burst: the entry, told before, what was shown, how often -/
abbrev UB : Type := Row × Row × (Nat → Row) × Int32
noncomputable def pyS (n : Nat) (lt : Int32) (nu : Row) (y : ChS × UB) : ChS × UB :=
  if lt = 97 then ((ChS.new y.1.v y.1.f y.1.g y.1.r (upR y.1.av (nc (nu 0)) (upd (y.1.av (nc (nu 0))) (nc (nu 1)) (nu 2))) y.1.mk y.1.cm y.1.ar y.1.fl y.1.en y.1.la y.1.zs y.1.se y.1.ph y.1.tk y.1.pc y.1.rc y.1.wc y.1.bc y.1.tc), y.2)
  else (if lt = 98 then (lgC (mkR (nu 0) n y.2.1 y.2.2.1 y.2.2.2.1 y.1).2.2.2.2 (mkE (nu 0) (mkR (nu 0) n y.2.1 y.2.2.1 y.2.2.2.1 y.1)) (nc y.1.la) (nc y.1.zs), (mkE (nu 0) (mkR (nu 0) n y.2.1 y.2.2.1 y.2.2.2.1 y.1), (mkR (nu 0) n y.2.1 y.2.2.1 y.2.2.2.1 y.1).2.1, (mkR (nu 0) n y.2.1 y.2.2.1 y.2.2.2.1 y.1).2.2.2.1.1, nI (mkR (nu 0) n y.2.1 y.2.2.1 y.2.2.2.1 y.1).2.2.2.1.2))
  else (if lt = 112 then ((ppF y.1 (nc (nu 0))).2, y.2)
  else (if lt = 114 then ((sp_X3_readRegister y.1 (nc (nu 0)) n).2, y.2)
  else (if lt = 119 then ((sp_X3_writeRegister y.1 (nc (nu 0)) (nu 1)).2, y.2)
  else ((ChS.new y.1.v y.1.f y.1.g y.1.r y.1.av (sp_X0_changeMask y.1.mk y.1.ar (nc (nu 0)) (nc (nu 1))).2.1 y.1.cm (sp_X0_changeMask y.1.mk y.1.ar (nc (nu 0)) (nc (nu 1))).2.2 y.1.fl y.1.en y.1.la y.1.zs y.1.se y.1.ph y.1.tk y.1.pc y.1.rc y.1.wc y.1.bc y.1.tc), y.2)))))
noncomputable def pyR (n : Nat) (tx : Row) (T : Nat) : Nat → Nat → (ChS × UB) × OS × Nat → (ChS × UB) × OS × Nat
  | 0, _, x => x
  | f + 1, a, x => if T ≤ a then x else pyR n tx T f (pso tx T a x.2.1.1).2.1 (pyS n (tx a) (pso tx T a x.2.1.1).2.2 x.1, ffO tx T a x.2.1.1, x.2.2 + 1)
theorem pyR_0 {n : Nat} {tx : Row} {T f a : Nat} {x : (ChS × UB) × OS × Nat} (h : f = 0) : pyR n tx T f a x = x := by
  subst h
  rfl
theorem pyR_T {n : Nat} {tx : Row} {T f a : Nat} {x : (ChS × UB) × OS × Nat} (h : T ≤ a) : pyR n tx T f a x = x := by
  cases f with
  | zero => rfl
  | succ f => exact if_pos h
theorem pyR_s {n : Nat} {tx : Row} {T f a : Nat} {x : (ChS × UB) × OS × Nat} (h : ¬ T ≤ a) : pyR n tx T (f + 1) a x = pyR n tx T f (pso tx T a x.2.1.1).2.1 (pyS n (tx a) (pso tx T a x.2.1.1).2.2 x.1, ffO tx T a x.2.1.1, x.2.2 + 1) := if_neg h
/-- all orders are possible -/
def okP (tx : Row) (T : Nat) : Nat → Nat → Row → Prop
  | 0, _, _ => True
  | f + 1, a, nu => ¬ T ≤ a → (pso tx T a nu).1 = 0 ∧ (¬ sp_X6_mayDo (pso tx T a nu).2.2 (tx a) = 0) ∧ okP tx T f (pso tx T a nu).2.1 (pso tx T a nu).2.2
/-- what a burst needs of the chip -/
def cOK (n : Nat) (s : ChS) : Prop := n ≤ 8 ∧ s.se 0 = nI n ∧ s.la = nI (nc s.la) ∧ s.zs = nI (nc s.zs) ∧ nc s.la < 6 ∧ nc s.zs ≤ 6
theorem mkL_se (n : Nat) : ∀ (f j : Nat) (b : Int32) (tb : Row) (Y : BX), (mkL n f j b tb Y).2.2.2.2.se = Y.2.2.se ∧ (mkL n f j b tb Y).2.2.2.2.la = Y.2.2.la ∧ (mkL n f j b tb Y).2.2.2.2.zs = Y.2.2.zs
  | 0, _, _, _, _ => ⟨rfl, rfl, rfl⟩
  | f + 1, j, b, tb, Y => by
    unfold mkL
    split
    · obtain ⟨g1, g2, g3⟩ := mkL_se n f (j + 1) (sp_X1_isTold (riT n (Y.1, (Y.2.1.1, 0), Y.2.2)).1 (va_cpy Y.1 tb 0 0 7)) (va_cpy Y.1 tb 0 0 7) (riT n (Y.1, (Y.2.1.1, 0), Y.2.2))
      exact ⟨g1.trans (riT_se n _), g2.trans (riT_la n _), g3.trans (riT_zs n _)⟩
    · exact ⟨rfl, rfl, rfl⟩
theorem mkR_se (md : Int32) (n : Nat) (en tb : Row) (sh : Nat → Row) (s : ChS) : (mkR md n en tb sh s).2.2.2.2.se = s.se ∧ (mkR md n en tb sh s).2.2.2.2.la = s.la ∧ (mkR md n en tb sh s).2.2.2.2.zs = s.zs := by
  unfold mkR
  split
  · exact ⟨ppF_se s _, ppF_la s _, ppF_zs s _⟩
  · obtain ⟨g1, g2, g3⟩ := mkL_se n 4 1 (if md = 2 then 0 else 1) tb (riT n (en, (sh, 0), s))
    exact ⟨g1.trans (riT_se n _), g2.trans (riT_la n _), g3.trans (riT_zs n _)⟩
theorem cOK_of {n : Nat} {s t : ChS} (h : cOK n s) (h1 : t.se 0 = s.se 0) (h2 : t.la = s.la) (h3 : t.zs = s.zs) : cOK n t := by
  obtain ⟨g1, g2, g3, g4, g5, g6⟩ := h
  exact ⟨g1, h1.trans g2, by rw [h2]; exact g3, by rw [h3]; exact g4, by rw [h2]; exact g5, by rw [h3]; exact g6⟩
theorem pyS_ok {n : Nat} (lt : Int32) (nu : Row) {y : ChS × UB} (h : cOK n y.1) : cOK n (pyS n lt nu y).1 := by
  unfold pyS
  split
  · exact cOK_of h rfl rfl rfl
  · split
    · obtain ⟨e1, e2, e3⟩ := mkR_se (nu 0) n y.2.1 y.2.2.1 y.2.2.2.1 y.1
      obtain ⟨g1, g2, g3, g4, g5, g6⟩ := h
      have gA := nxA_lt _ g5
      have gZ := nxZ_le _ g6
      have kA : nc (nI (nxA (nc y.1.la))) = nxA (nc y.1.la) := nc_nI (by omega)
      have kZ : nc (nI (nxZ (nc y.1.zs))) = nxZ (nc y.1.zs) := nc_nI (by omega)
      refine ⟨g1, (congrFun e1 0).trans g2, (congrArg nI kA).symm, (congrArg nI kZ).symm, ?_, ?_⟩
      · show nc (nI (nxA (nc y.1.la))) < 6
        rw [kA]
        exact gA
      · show nc (nI (nxZ (nc y.1.zs))) ≤ 6
        rw [kZ]
        exact gZ
    · split
      · exact cOK_of h (congrFun (ppF_se _ _) 0) (ppF_la _ _) (ppF_zs _ _)
      · split
        · exact cOK_of h (congrFun (ppF_se _ _) 0) (ppF_la _ _) (ppF_zs _ _)
        · split
          · exact cOK_of h rfl rfl rfl
          · exact cOK_of h rfl rfl rfl

set_option maxRecDepth 100000 in
set_option maxHeartbeats 4000000 in
theorem c_X6_play (l : Launch) (D : va_G) (sz : Nat) (o ha ta : Nat) (L w1 w2 M y1 y2 : Nat → Nat) (HL HW1 HW2 : Nat → Nat → Nat) (b0 b1 b2 b3 : Nat) (bw : Nat → Nat) (u0 u1 : Nat) (tx : Row) (T : Nat) (s t : ChS) (hs : Nat → ChS) (en tb : Row) (sh : Nat → Row) (n0 : Int32) (nu : Row) (lt br le : Int32) (k : Nat) (hk4 : k ≤ 4) (hT : T ≤ 60) (n : Nat) (hcK0 : cOK n s) (htx : chOK tx) (F9 : Int32 × OS) (hF9 : ffR tx T 60 0 (nu, lt, br, le) = F9) (h9 : F9.1 < 0) (hok0 : okP tx T 60 0 F9.2.1) : MI l yX6_play cX6_play 4 (some .int) 6 135 D sz [.ref o] (([([xB D o ha ta (L 0) (M 0) b0 u0 (nI k) (rows4 HL) tx (nI T), chipB D L w1 w2 s.v s.f s.g s.r s.av s.mk s.cm s.ar s.fl s.en s.la s.zs s.se s.ph s.tk s.pc s.rc s.wc s.bc s.tc, hsB D HL HW1 HW2 hs] : List va_W).flatten, ([chipB D M y1 y2 t.v t.f t.g t.r t.av t.mk t.cm t.ar t.fl t.en t.la t.zs t.se t.ph t.tk t.pc t.rc t.wc t.bc t.tc, buB D b0 b1 b2 b3 bw en tb sh n0, orB D u0 u1 nu lt br le] : List va_W).flatten] : List va_W).flatten) (nI (pyR n tx T 60 0 ((s, en, tb, sh, n0), F9.2, 0)).2.2) (([([xB D o ha ta (L 0) (M 0) b0 u0 (nI (khN k)) (rows4 (roN k HL)) tx (nI T), chipB D L w1 w2 (((pyR n tx T 60 0 ((s, en, tb, sh, n0), F9.2, 0)).1.1).v) (((pyR n tx T 60 0 ((s, en, tb, sh, n0), F9.2, 0)).1.1).f) (((pyR n tx T 60 0 ((s, en, tb, sh, n0), F9.2, 0)).1.1).g) (((pyR n tx T 60 0 ((s, en, tb, sh, n0), F9.2, 0)).1.1).r) (((pyR n tx T 60 0 ((s, en, tb, sh, n0), F9.2, 0)).1.1).av) (((pyR n tx T 60 0 ((s, en, tb, sh, n0), F9.2, 0)).1.1).mk) (((pyR n tx T 60 0 ((s, en, tb, sh, n0), F9.2, 0)).1.1).cm) (((pyR n tx T 60 0 ((s, en, tb, sh, n0), F9.2, 0)).1.1).ar) (((pyR n tx T 60 0 ((s, en, tb, sh, n0), F9.2, 0)).1.1).fl) (((pyR n tx T 60 0 ((s, en, tb, sh, n0), F9.2, 0)).1.1).en) (((pyR n tx T 60 0 ((s, en, tb, sh, n0), F9.2, 0)).1.1).la) (((pyR n tx T 60 0 ((s, en, tb, sh, n0), F9.2, 0)).1.1).zs) (((pyR n tx T 60 0 ((s, en, tb, sh, n0), F9.2, 0)).1.1).se) (((pyR n tx T 60 0 ((s, en, tb, sh, n0), F9.2, 0)).1.1).ph) (((pyR n tx T 60 0 ((s, en, tb, sh, n0), F9.2, 0)).1.1).tk) (((pyR n tx T 60 0 ((s, en, tb, sh, n0), F9.2, 0)).1.1).pc) (((pyR n tx T 60 0 ((s, en, tb, sh, n0), F9.2, 0)).1.1).rc) (((pyR n tx T 60 0 ((s, en, tb, sh, n0), F9.2, 0)).1.1).wc) (((pyR n tx T 60 0 ((s, en, tb, sh, n0), F9.2, 0)).1.1).bc) (((pyR n tx T 60 0 ((s, en, tb, sh, n0), F9.2, 0)).1.1).tc), hsB D (roN k HL) (roN k HW1) (roN k HW2) (khS k hs s)] : List va_W).flatten, ([chipB D M y1 y2 t.v t.f t.g t.r t.av t.mk t.cm t.ar t.fl t.en t.la t.zs t.se t.ph t.tk t.pc t.rc t.wc t.bc t.tc, buB D b0 b1 b2 b3 bw ((pyR n tx T 60 0 ((s, en, tb, sh, n0), F9.2, 0)).1.2.1) ((pyR n tx T 60 0 ((s, en, tb, sh, n0), F9.2, 0)).1.2.2.1) ((pyR n tx T 60 0 ((s, en, tb, sh, n0), F9.2, 0)).1.2.2.2.1) ((pyR n tx T 60 0 ((s, en, tb, sh, n0), F9.2, 0)).1.2.2.2.2), orB D u0 u1 ((pyR n tx T 60 0 ((s, en, tb, sh, n0), F9.2, 0)).2.1.1) ((pyR n tx T 60 0 ((s, en, tb, sh, n0), F9.2, 0)).2.1.2.1) ((pyR n tx T 60 0 ((s, en, tb, sh, n0), F9.2, 0)).2.1.2.2.1) ((pyR n tx T 60 0 ((s, en, tb, sh, n0), F9.2, 0)).2.1.2.2.2)] : List va_W).flatten] : List va_W).flatten) := by
  refine r_enterI (by decide) (Nat.le_of_ble_eq_true rfl) ?_
  intro p e st m args below meth c ls A X hret hk hw hl
  have X : CX D p m c cX6_play 4 st args RX6 A := X
  have hx := X.1.1
  have hb := X.1.2.1
  have hown := X.1.2.2.2.1
  have hts := X.1.2.2.2.2
  have hl : lv_has ls 4 [(0, .ref o)] := hl
  refine lv_aload_n hx hb dX6_play_0 rfl (lv_at hl 0 rfl) ?_
  refine r_callV X hw (ws' := ([([xB D o ha ta (L 0) (M 0) b0 u0 (nI k) (rows4 HL) tx (nI T), chipB D L w1 w2 s.v s.f s.g s.r s.av s.mk s.cm s.ar s.fl s.en s.la s.zs s.se s.ph s.tk s.pc s.rc s.wc s.bc s.tc, hsB D HL HW1 HW2 hs] : List va_W).flatten, ([chipB D M y1 y2 t.v t.f t.g t.r t.av t.mk t.cm t.ar t.fl t.en t.la t.zs t.se t.ph t.tk t.pc t.rc t.wc t.bc t.tc, buB D b0 b1 b2 b3 bw en tb sh n0, orB D u0 u1 ((ffR tx T 60 0 (nu, lt, br, le)).2.1) ((ffR tx T 60 0 (nu, lt, br, le)).2.2.1) ((ffR tx T 60 0 (nu, lt, br, le)).2.2.2.1) ((ffR tx T 60 0 (nu, lt, br, le)).2.2.2.2)] : List va_W).flatten] : List va_W).flatten) (As := []) (rest := []) lk_X6_261 (c_X6_findFault l D _ o ha ta L w1 w2 M y1 y2 HL HW1 HW2 b0 b1 b2 b3 bw u0 u1 tx T s t hs en tb sh n0 nu lt br le k hk4 hT htx) Foc.all (m_fl 0 rfl (m_fl 0 rfl (m_at 0 rfl))) rfl hl.1 (Nat.le_of_ble_eq_true rfl) ⟨Nat.le_of_ble_eq_true rfl, Nat.le_of_ble_eq_true rfl⟩ rfl dX6_play_1 ⟨Nat.le_refl _, Nat.le_refl _⟩ (fun H locs hw => ?_)
  rw [hF9] at hw
  rw [hF9]
  refine lv_if_lt (tgt := 10) hx hb dX6_play_4 (by decide) (fun _ => ?_) (fun h => absurd h9 h)
  refine lv_aload_n hx hb dX6_play_10 rfl (lv_at hl 0 rfl) ?_
  refine r_callVv X hw (ws' := ([([xB D o ha ta (L 0) (M 0) b0 u0 (nI (khN k)) (rows4 (roN k HL)) tx (nI T), chipB D L w1 w2 s.v s.f s.g s.r s.av s.mk s.cm s.ar s.fl s.en s.la s.zs s.se s.ph s.tk s.pc s.rc s.wc s.bc s.tc, hsB D (roN k HL) (roN k HW1) (roN k HW2) (khS k hs s)] : List va_W).flatten, ([chipB D M y1 y2 t.v t.f t.g t.r t.av t.mk t.cm t.ar t.fl t.en t.la t.zs t.se t.ph t.tk t.pc t.rc t.wc t.bc t.tc, buB D b0 b1 b2 b3 bw en tb sh n0, orB D u0 u1 F9.2.1 F9.2.2.1 F9.2.2.2.1 F9.2.2.2.2] : List va_W).flatten] : List va_W).flatten) (As := []) (rest := []) lk_X6_46 (c_X6_keepState l D _ o ha ta (M 0) b0 u0 tx (nI T) L w1 w2 s HL HW1 HW2 hs k hk4) (Foc.at1 0 rfl rfl (ce rfl rfl)) (m_fl 0 rfl (m_fl 0 rfl (m_at 0 rfl))) rfl hl.1 (Nat.le_of_ble_eq_true rfl) ⟨Nat.le_of_ble_eq_true rfl, Nat.le_of_ble_eq_true rfl⟩ rfl dX6_play_11 ⟨Nat.le_refl _, Nat.le_refl _⟩ (fun H locs hw => ?_)
  refine lv_iconst (v := 0) hx hb dX6_play_14 (by decide) ?_
  refine lv_istore_n (lv' := [(1, .int 0), (0, .ref o)]) hx hb dX6_play_15 rfl hl (by decide) rfl (fun ls hl => ?_)
  refine lv_iconst (v := 0) hx hb dX6_play_16 (by decide) ?_
  refine lv_istore_n (lv' := [(2, .int 0), (1, .int 0), (0, .ref o)]) hx hb dX6_play_17 rfl hl (by decide) rfl (fun ls hl => ?_)
  have key18 : ∀ (n18 : Nat) (f a : Nat) (x : (ChS × UB) × OS × Nat), (x.2.2 + f = 60) → (a ≤ T) → (f < n18) → (cOK n x.1.1) → (okP tx T f a x.2.1.1) → (pyR n tx T f a x = (pyR n tx T 60 0 ((s, en, tb, sh, n0), F9.2, 0))) → ∀ (H : Heap) (locs : List Loc) (ls : Array Slot), Wd D A st.heap H locs (([([xB D o ha ta (L 0) (M 0) b0 u0 (nI (khN k)) (rows4 (roN k HL)) tx (nI T), chipB D L w1 w2 x.1.1.v x.1.1.f x.1.1.g x.1.1.r x.1.1.av x.1.1.mk x.1.1.cm x.1.1.ar x.1.1.fl x.1.1.en x.1.1.la x.1.1.zs x.1.1.se x.1.1.ph x.1.1.tk x.1.1.pc x.1.1.rc x.1.1.wc x.1.1.bc x.1.1.tc, hsB D (roN k HL) (roN k HW1) (roN k HW2) (khS k hs s)] : List va_W).flatten, ([chipB D M y1 y2 t.v t.f t.g t.r t.av t.mk t.cm t.ar t.fl t.en t.la t.zs t.se t.ph t.tk t.pc t.rc t.wc t.bc t.tc, buB D b0 b1 b2 b3 bw x.1.2.1 x.1.2.2.1 x.1.2.2.2.1 x.1.2.2.2.2, orB D u0 u1 x.2.1.1 x.2.1.2.1 x.2.1.2.2.1 x.2.1.2.2.2] : List va_W).flatten] : List va_W).flatten) → lv_has ls 4 [(0, .ref o), (1, .int (nI a)), (2, .int (nI x.2.2))] → W p l e (rmOf 6 0 0 135) st m args below meth c H locs 0 0 (QI below args st D A (nI (pyR n tx T 60 0 ((s, en, tb, sh, n0), F9.2, 0)).2.2) (([([xB D o ha ta (L 0) (M 0) b0 u0 (nI (khN k)) (rows4 (roN k HL)) tx (nI T), chipB D L w1 w2 (((pyR n tx T 60 0 ((s, en, tb, sh, n0), F9.2, 0)).1.1).v) (((pyR n tx T 60 0 ((s, en, tb, sh, n0), F9.2, 0)).1.1).f) (((pyR n tx T 60 0 ((s, en, tb, sh, n0), F9.2, 0)).1.1).g) (((pyR n tx T 60 0 ((s, en, tb, sh, n0), F9.2, 0)).1.1).r) (((pyR n tx T 60 0 ((s, en, tb, sh, n0), F9.2, 0)).1.1).av) (((pyR n tx T 60 0 ((s, en, tb, sh, n0), F9.2, 0)).1.1).mk) (((pyR n tx T 60 0 ((s, en, tb, sh, n0), F9.2, 0)).1.1).cm) (((pyR n tx T 60 0 ((s, en, tb, sh, n0), F9.2, 0)).1.1).ar) (((pyR n tx T 60 0 ((s, en, tb, sh, n0), F9.2, 0)).1.1).fl) (((pyR n tx T 60 0 ((s, en, tb, sh, n0), F9.2, 0)).1.1).en) (((pyR n tx T 60 0 ((s, en, tb, sh, n0), F9.2, 0)).1.1).la) (((pyR n tx T 60 0 ((s, en, tb, sh, n0), F9.2, 0)).1.1).zs) (((pyR n tx T 60 0 ((s, en, tb, sh, n0), F9.2, 0)).1.1).se) (((pyR n tx T 60 0 ((s, en, tb, sh, n0), F9.2, 0)).1.1).ph) (((pyR n tx T 60 0 ((s, en, tb, sh, n0), F9.2, 0)).1.1).tk) (((pyR n tx T 60 0 ((s, en, tb, sh, n0), F9.2, 0)).1.1).pc) (((pyR n tx T 60 0 ((s, en, tb, sh, n0), F9.2, 0)).1.1).rc) (((pyR n tx T 60 0 ((s, en, tb, sh, n0), F9.2, 0)).1.1).wc) (((pyR n tx T 60 0 ((s, en, tb, sh, n0), F9.2, 0)).1.1).bc) (((pyR n tx T 60 0 ((s, en, tb, sh, n0), F9.2, 0)).1.1).tc), hsB D (roN k HL) (roN k HW1) (roN k HW2) (khS k hs s)] : List va_W).flatten, ([chipB D M y1 y2 t.v t.f t.g t.r t.av t.mk t.cm t.ar t.fl t.en t.la t.zs t.se t.ph t.tk t.pc t.rc t.wc t.bc t.tc, buB D b0 b1 b2 b3 bw ((pyR n tx T 60 0 ((s, en, tb, sh, n0), F9.2, 0)).1.2.1) ((pyR n tx T 60 0 ((s, en, tb, sh, n0), F9.2, 0)).1.2.2.1) ((pyR n tx T 60 0 ((s, en, tb, sh, n0), F9.2, 0)).1.2.2.2.1) ((pyR n tx T 60 0 ((s, en, tb, sh, n0), F9.2, 0)).1.2.2.2.2), orB D u0 u1 ((pyR n tx T 60 0 ((s, en, tb, sh, n0), F9.2, 0)).2.1.1) ((pyR n tx T 60 0 ((s, en, tb, sh, n0), F9.2, 0)).2.1.2.1) ((pyR n tx T 60 0 ((s, en, tb, sh, n0), F9.2, 0)).2.1.2.2.1) ((pyR n tx T 60 0 ((s, en, tb, sh, n0), F9.2, 0)).2.1.2.2.2)] : List va_W).flatten] : List va_W).flatten)) (F0 m 18 ls []) := by
    intro n18
    induction n18 with
    | zero => intro f a x hj haT hm hcK hok hR; omega
    | succ n18 ih18 =>
      intro f a x hj haT hm hcK hok hR H locs ls hw hl
      refine lv_iload_n hx hb dX6_play_18 rfl (lv_at hl 2 rfl) ?_
      refine lv_bipush (v := 60) hx hb dX6_play_19 (by decide) ?_
      refine r_geN (tgt := 230) hx hb x.2.2 60 rfl rfl (by omega) (by omega) dX6_play_21 (by decide) (fun c1 => ?_) (fun c1 => ?_)
      · skip
        refine lv_iload_n hx hb dX6_play_230 rfl (lv_at hl 2 rfl) ?_
        exact r_ret X hw hk hret rfl (by rw [show (pyR n tx T 60 0 ((s, en, tb, sh, n0), F9.2, 0)) = x from hR.symm.trans (pyR_0 (by omega))]) (by rw [show (pyR n tx T 60 0 ((s, en, tb, sh, n0), F9.2, 0)) = x from hR.symm.trans (pyR_0 (by omega))]) dX6_play_231
      · skip
        obtain ⟨f, rfl⟩ : ∃ f0, f = f0 + 1 := ⟨f - 1, by omega⟩
        refine lv_iload_n hx hb dX6_play_24 rfl (lv_at hl 1 rfl) ?_
        refine lv_aload_n hx hb dX6_play_25 rfl (lv_at hl 0 rfl) ?_
        refine r_get X hw (v := .int (nI T)) fl_X6_257 (m_fl 0 rfl (m_fl 0 rfl (m_at 0 rfl))) rfl dX6_play_26 ?_
        refine r_geN (tgt := 230) hx hb a T rfl rfl (by omega) (by omega) dX6_play_29 (by decide) (fun c2 => ?_) (fun c2 => ?_)
        · skip
          refine lv_iload_n hx hb dX6_play_230 rfl (lv_at hl 2 rfl) ?_
          exact r_ret X hw hk hret rfl (by rw [show (pyR n tx T 60 0 ((s, en, tb, sh, n0), F9.2, 0)) = x from hR.symm.trans (pyR_T c2)]) (by rw [show (pyR n tx T 60 0 ((s, en, tb, sh, n0), F9.2, 0)) = x from hR.symm.trans (pyR_T c2)]) dX6_play_231
        · skip
          have hn8 : n ≤ 8 := hcK.1
          have hpb := pso_b tx x.2.1.1 (show a < T from by omega)
          obtain ⟨hb0, hmd, hok2⟩ := hok (Nat.not_le.mpr c2)
          refine lv_aload_n hx hb dX6_play_32 rfl (lv_at hl 0 rfl) ?_
          refine r_get X hw (v := .ref u0) fl_X6_29 (m_fl 0 rfl (m_fl 0 rfl (m_at 0 rfl))) rfl dX6_play_33 ?_
          refine lv_aload_n hx hb dX6_play_36 rfl (lv_at hl 0 rfl) ?_
          refine r_get X hw (v := .ref ta) fl_X6_37 (m_fl 0 rfl (m_fl 0 rfl (m_at 0 rfl))) rfl dX6_play_37 ?_
          refine lv_aload_n hx hb dX6_play_40 rfl (lv_at hl 0 rfl) ?_
          refine r_get X hw (v := .int (nI T)) fl_X6_257 (m_fl 0 rfl (m_fl 0 rfl (m_at 0 rfl))) rfl dX6_play_41 ?_
          refine lv_iload_n hx hb dX6_play_44 rfl (lv_at hl 1 rfl) ?_
          refine r_callVv X hw (ws' := ([([xB D o ha ta (L 0) (M 0) b0 u0 (nI (khN k)) (rows4 (roN k HL)) tx (nI T), chipB D L w1 w2 x.1.1.v x.1.1.f x.1.1.g x.1.1.r x.1.1.av x.1.1.mk x.1.1.cm x.1.1.ar x.1.1.fl x.1.1.en x.1.1.la x.1.1.zs x.1.1.se x.1.1.ph x.1.1.tk x.1.1.pc x.1.1.rc x.1.1.wc x.1.1.bc x.1.1.tc, hsB D (roN k HL) (roN k HW1) (roN k HW2) (khS k hs s)] : List va_W).flatten, ([chipB D M y1 y2 t.v t.f t.g t.r t.av t.mk t.cm t.ar t.fl t.en t.la t.zs t.se t.ph t.tk t.pc t.rc t.wc t.bc t.tc, buB D b0 b1 b2 b3 bw x.1.2.1 x.1.2.2.1 x.1.2.2.2.1 x.1.2.2.2.2, orB D u0 u1 ((pso tx T a x.2.1.1).2.2) (tx a) ((pso tx T a x.2.1.1).1) (nI ((pso tx T a x.2.1.1).2.1 - a))] : List va_W).flatten] : List va_W).flatten) (As := [.ref ta, .int (nI T), .int (nI a)]) (rest := []) lk_X6_271 (c_X4_parse l D _ u0 u1 x.2.1.1 x.2.1.2.1 x.2.1.2.2.1 x.2.1.2.2.2 ta tx T a hT (by omega) htx) (Foc.trans (Foc.at2 1 0 rfl rfl rfl rfl rfl) (Foc.pair (Foc.at1 2 rfl rfl (ce rfl (ce rfl rfl))) (Foc.trans (Foc.at1 0 rfl rfl (ce rfl (ce rfl rfl))) (Foc.cell 2 rfl rfl (ce rfl (ce rfl rfl)))))) (m_fl 1 rfl (m_fl 2 rfl (m_at 0 rfl))) rfl hl.1 (Nat.le_of_ble_eq_true rfl) ⟨Nat.le_of_ble_eq_true rfl, Nat.le_of_ble_eq_true rfl⟩ rfl dX6_play_45 ⟨Nat.le_refl _, Nat.le_refl _⟩ (fun H locs hw => ?_)
          obtain ⟨P9, hP9⟩ : ∃ y, y = (pso tx T a x.2.1.1) := ⟨_, rfl⟩
          rw [← hP9] at hw
          rw [← hP9] at hb0
          rw [← hP9] at hmd
          rw [← hP9] at hok2
          rw [← hP9] at hpb
          refine lv_aload_n hx hb dX6_play_48 rfl (lv_at hl 0 rfl) ?_
          refine r_get X hw (v := .ref u0) fl_X6_29 (m_fl 0 rfl (m_fl 0 rfl (m_at 0 rfl))) rfl dX6_play_49 ?_
          refine r_get X hw (v := .ref u1) fl_X6_275 (m_fl 1 rfl (m_fl 2 rfl (m_at 0 rfl))) rfl dX6_play_52 ?_
          refine lv_astore_n (lv' := [(3, .ref u1), (0, .ref o), (1, .int (nI a)), (2, .int (nI x.2.2))]) hx hb dX6_play_55 rfl hl (by decide) rfl (fun ls hl => ?_)
          refine lv_aload_n hx hb dX6_play_56 rfl (lv_at hl 1 rfl) ?_
          refine r_get X hw (v := .ref u0) fl_X6_29 (m_fl 0 rfl (m_fl 0 rfl (m_at 0 rfl))) rfl dX6_play_57 ?_
          refine r_get X hw (v := .int (tx a)) fl_X6_278 (m_fl 1 rfl (m_fl 2 rfl (m_at 0 rfl))) rfl dX6_play_60 ?_
          by_cases w3 : (tx a) = 97
          · skip
            refine r_lookIn (tgt := 174) hx hb 97 w3 dX6_play_63 (by decide) rfl (by decide) ?_
            obtain ⟨k0, k1, k2, hk0, hk1, hk2, e0, e1, e2⟩ := may_a w3 hmd
            refine lv_aload_n hx hb dX6_play_174 rfl (lv_at hl 1 rfl) ?_
            refine r_get X hw (v := .ref (L 0)) fl_X6_10 (m_fl 0 rfl (m_fl 0 rfl (m_at 0 rfl))) rfl dX6_play_175 ?_
            refine r_get X hw (v := .ref (L 6)) fl_X6_82 (m_fl 0 rfl (m_fl 1 rfl (m_fl 0 rfl (m_at 0 rfl)))) rfl dX6_play_178 ?_
            refine lv_aload_n hx hb dX6_play_181 rfl (lv_at hl 0 rfl) ?_
            refine lv_iconst (v := 0) hx hb dX6_play_182 (by decide) ?_
            refine r_iald X hw (f := P9.2.2) 0 (m_fl 1 rfl (m_fl 2 rfl (m_at 1 rfl))) rfl (by decide) (by decide) dX6_play_183 ?_
            rw [show P9.2.2 0 = nI k0 from e0]
            refine lv_aload_n hx hb dX6_play_184 rfl (lv_at hl 0 rfl) ?_
            refine lv_iconst (v := 1) hx hb dX6_play_185 (by decide) ?_
            refine r_iald X hw (f := P9.2.2) 1 (m_fl 1 rfl (m_fl 2 rfl (m_at 1 rfl))) rfl (by decide) (by decide) dX6_play_186 ?_
            rw [show P9.2.2 1 = nI k1 from e1]
            refine lv_aload_n hx hb dX6_play_187 rfl (lv_at hl 0 rfl) ?_
            refine lv_iconst (v := 2) hx hb dX6_play_188 (by decide) ?_
            refine r_iald X hw (f := P9.2.2) 2 (m_fl 1 rfl (m_fl 2 rfl (m_at 1 rfl))) rfl (by decide) (by decide) dX6_play_189 ?_
            rw [show P9.2.2 2 = nI k2 from e2]
            refine r_callV X hw (ws' := ([([xB D o ha ta (L 0) (M 0) b0 u0 (nI (khN k)) (rows4 (roN k HL)) tx (nI T), chipB D L w1 w2 x.1.1.v x.1.1.f x.1.1.g x.1.1.r (upR x.1.1.av k0 (upd (x.1.1.av k0) k1 (nI k2))) x.1.1.mk x.1.1.cm x.1.1.ar x.1.1.fl x.1.1.en x.1.1.la x.1.1.zs x.1.1.se x.1.1.ph x.1.1.tk x.1.1.pc x.1.1.rc x.1.1.wc x.1.1.bc x.1.1.tc, hsB D (roN k HL) (roN k HW1) (roN k HW2) (khS k hs s)] : List va_W).flatten, ([chipB D M y1 y2 t.v t.f t.g t.r t.av t.mk t.cm t.ar t.fl t.en t.la t.zs t.se t.ph t.tk t.pc t.rc t.wc t.bc t.tc, buB D b0 b1 b2 b3 bw x.1.2.1 x.1.2.2.1 x.1.2.2.2.1 x.1.2.2.2.2, orB D u0 u1 P9.2.2 (tx a) P9.1 (nI (P9.2.1 - a))] : List va_W).flatten] : List va_W).flatten) (As := [.int (nI k0), .int (nI k1), .int (nI k2)]) (rest := []) lk_X6_86 (c_X0_changeValue l D _ (L 6) (L 7) (L 8) (L 9) w1 x.1.1.av x.1.1.mk x.1.1.cm x.1.1.ar x.1.1.fl k0 k1 (nI k2) (by omega) (by omega)) (Foc.trans (Foc.at1 0 rfl rfl (ce rfl rfl)) (Foc.trans (Foc.at1 1 rfl rfl (ce rfl (ce rfl rfl))) (Foc.at1 2 rfl rfl (ce rfl (ce rfl (ce rfl (ce rfl rfl))))))) (m_fl 0 rfl (m_fl 1 rfl (m_fl 2 rfl (m_at 0 rfl)))) rfl hl.1 (Nat.le_of_ble_eq_true rfl) ⟨Nat.le_of_ble_eq_true rfl, Nat.le_of_ble_eq_true rfl⟩ rfl dX6_play_190 ⟨Nat.le_refl _, Nat.le_refl _⟩ (fun H locs hw => ?_)
            refine lv_pop hx hb dX6_play_193 rfl ?_
            refine lv_goto (tgt := 214) hx hb dX6_play_194 (by decide) ?_
            refine lv_iload_n hx hb dX6_play_214 rfl (lv_at hl 2 rfl) ?_
            refine lv_aload_n hx hb dX6_play_215 rfl (lv_at hl 1 rfl) ?_
            refine r_get X hw (v := .ref u0) fl_X6_29 (m_fl 0 rfl (m_fl 0 rfl (m_at 0 rfl))) rfl dX6_play_216 ?_
            refine r_get X hw (v := .int (nI (P9.2.1 - a))) fl_X6_268 (m_fl 1 rfl (m_fl 2 rfl (m_at 0 rfl))) rfl dX6_play_219 ?_
            refine r_addN hx hb a (P9.2.1 - a) rfl rfl dX6_play_222 ?_
            refine lv_istore_n (lv' := [(1, .int (nI (a + (P9.2.1 - a)))), (3, .ref u1), (0, .ref o), (2, .int (nI x.2.2))]) hx hb dX6_play_223 rfl hl (by decide) rfl (fun ls hl => ?_)
            rw [show a + (P9.2.1 - a) = P9.2.1 from by omega] at hl
            refine r_iincN (lv' := [(2, .int (nI (x.2.2 + 1))), (1, .int (nI P9.2.1)), (3, .ref u1), (0, .ref o)]) hx hb x.2.2 1 rfl dX6_play_224 hl (k := 3) rfl rfl (by decide) rfl (fun ls hl => ?_)
            refine lv_goto (tgt := 18) hx hb dX6_play_227 (by decide) ?_
            have hok2' : okP tx T f P9.2.1 (ffO tx T a x.2.1.1).1 := (by show okP tx T f P9.2.1 (pso tx T a x.2.1.1).2.2; rw [← hP9]; exact hok2)
            exact ih18 f P9.2.1 (pyS n (tx a) P9.2.2 x.1, ffO tx T a x.2.1.1, x.2.2 + 1) (by show x.2.2 + 1 + f = 60; omega) hpb.2.1 (by omega) (pyS_ok (tx a) P9.2.2 hcK) hok2' (by have q := pyR_s (n := n) (tx := tx) (f := f) (x := x) (Nat.not_le.mpr c2); rw [← hP9] at q; exact q.symm.trans hR) _ _ _ (by have e9 : pyS n (tx a) P9.2.2 x.1 = ((ChS.new x.1.1.v x.1.1.f x.1.1.g x.1.1.r (upR x.1.1.av k0 (upd (x.1.1.av k0) k1 (nI k2))) x.1.1.mk x.1.1.cm x.1.1.ar x.1.1.fl x.1.1.en x.1.1.la x.1.1.zs x.1.1.se x.1.1.ph x.1.1.tk x.1.1.pc x.1.1.rc x.1.1.wc x.1.1.bc x.1.1.tc), x.1.2.1, x.1.2.2.1, x.1.2.2.2.1, x.1.2.2.2.2) := (by unfold pyS; rw [if_pos w3]; rw [e0, e1, e2, nc_nI (show k0 < 2147483648 from by omega), nc_nI (show k1 < 2147483648 from by omega)]); have f9 : ffO tx T a x.2.1.1 = (P9.2.2, tx a, P9.1, nI (P9.2.1 - a)) := (by rw [hP9]; rfl); rw [e9, f9]; exact hw) (lv_sub hl [3, 1, 0] rfl)
          · skip
            by_cases w4 : (tx a) = 98
            · skip
              refine r_lookIn (tgt := 143) hx hb 98 w4 dX6_play_63 (by decide) rfl (by decide) ?_
              obtain ⟨k0, hk0, e0⟩ := may_b w4 hmd
              refine lv_aload_n hx hb dX6_play_143 rfl (lv_at hl 1 rfl) ?_
              refine r_get X hw (v := .ref b0) fl_X6_22 (m_fl 0 rfl (m_fl 0 rfl (m_at 0 rfl))) rfl dX6_play_144 ?_
              refine lv_aload_n hx hb dX6_play_147 rfl (lv_at hl 1 rfl) ?_
              refine r_get X hw (v := .ref (L 0)) fl_X6_10 (m_fl 0 rfl (m_fl 0 rfl (m_at 0 rfl))) rfl dX6_play_148 ?_
              refine lv_aload_n hx hb dX6_play_151 rfl (lv_at hl 0 rfl) ?_
              refine lv_iconst (v := 0) hx hb dX6_play_152 (by decide) ?_
              refine r_iald X hw (f := P9.2.2) 0 (m_fl 1 rfl (m_fl 2 rfl (m_at 1 rfl))) rfl (by decide) (by decide) dX6_play_153 ?_
              rw [show P9.2.2 0 = nI k0 from e0]
              refine r_callVv X hw (ws' := ([([xB D o ha ta (L 0) (M 0) b0 u0 (nI (khN k)) (rows4 (roN k HL)) tx (nI T), chipB D L w1 w2 ((lgC (mkR (nI k0) n x.1.2.1 x.1.2.2.1 x.1.2.2.2.1 x.1.1).2.2.2.2 (mkE (nI k0) (mkR (nI k0) n x.1.2.1 x.1.2.2.1 x.1.2.2.2.1 x.1.1)) (nc x.1.1.la) (nc x.1.1.zs)).v) ((lgC (mkR (nI k0) n x.1.2.1 x.1.2.2.1 x.1.2.2.2.1 x.1.1).2.2.2.2 (mkE (nI k0) (mkR (nI k0) n x.1.2.1 x.1.2.2.1 x.1.2.2.2.1 x.1.1)) (nc x.1.1.la) (nc x.1.1.zs)).f) ((lgC (mkR (nI k0) n x.1.2.1 x.1.2.2.1 x.1.2.2.2.1 x.1.1).2.2.2.2 (mkE (nI k0) (mkR (nI k0) n x.1.2.1 x.1.2.2.1 x.1.2.2.2.1 x.1.1)) (nc x.1.1.la) (nc x.1.1.zs)).g) ((lgC (mkR (nI k0) n x.1.2.1 x.1.2.2.1 x.1.2.2.2.1 x.1.1).2.2.2.2 (mkE (nI k0) (mkR (nI k0) n x.1.2.1 x.1.2.2.1 x.1.2.2.2.1 x.1.1)) (nc x.1.1.la) (nc x.1.1.zs)).r) ((lgC (mkR (nI k0) n x.1.2.1 x.1.2.2.1 x.1.2.2.2.1 x.1.1).2.2.2.2 (mkE (nI k0) (mkR (nI k0) n x.1.2.1 x.1.2.2.1 x.1.2.2.2.1 x.1.1)) (nc x.1.1.la) (nc x.1.1.zs)).av) ((lgC (mkR (nI k0) n x.1.2.1 x.1.2.2.1 x.1.2.2.2.1 x.1.1).2.2.2.2 (mkE (nI k0) (mkR (nI k0) n x.1.2.1 x.1.2.2.1 x.1.2.2.2.1 x.1.1)) (nc x.1.1.la) (nc x.1.1.zs)).mk) ((lgC (mkR (nI k0) n x.1.2.1 x.1.2.2.1 x.1.2.2.2.1 x.1.1).2.2.2.2 (mkE (nI k0) (mkR (nI k0) n x.1.2.1 x.1.2.2.1 x.1.2.2.2.1 x.1.1)) (nc x.1.1.la) (nc x.1.1.zs)).cm) ((lgC (mkR (nI k0) n x.1.2.1 x.1.2.2.1 x.1.2.2.2.1 x.1.1).2.2.2.2 (mkE (nI k0) (mkR (nI k0) n x.1.2.1 x.1.2.2.1 x.1.2.2.2.1 x.1.1)) (nc x.1.1.la) (nc x.1.1.zs)).ar) ((lgC (mkR (nI k0) n x.1.2.1 x.1.2.2.1 x.1.2.2.2.1 x.1.1).2.2.2.2 (mkE (nI k0) (mkR (nI k0) n x.1.2.1 x.1.2.2.1 x.1.2.2.2.1 x.1.1)) (nc x.1.1.la) (nc x.1.1.zs)).fl) ((lgC (mkR (nI k0) n x.1.2.1 x.1.2.2.1 x.1.2.2.2.1 x.1.1).2.2.2.2 (mkE (nI k0) (mkR (nI k0) n x.1.2.1 x.1.2.2.1 x.1.2.2.2.1 x.1.1)) (nc x.1.1.la) (nc x.1.1.zs)).en) ((lgC (mkR (nI k0) n x.1.2.1 x.1.2.2.1 x.1.2.2.2.1 x.1.1).2.2.2.2 (mkE (nI k0) (mkR (nI k0) n x.1.2.1 x.1.2.2.1 x.1.2.2.2.1 x.1.1)) (nc x.1.1.la) (nc x.1.1.zs)).la) ((lgC (mkR (nI k0) n x.1.2.1 x.1.2.2.1 x.1.2.2.2.1 x.1.1).2.2.2.2 (mkE (nI k0) (mkR (nI k0) n x.1.2.1 x.1.2.2.1 x.1.2.2.2.1 x.1.1)) (nc x.1.1.la) (nc x.1.1.zs)).zs) ((lgC (mkR (nI k0) n x.1.2.1 x.1.2.2.1 x.1.2.2.2.1 x.1.1).2.2.2.2 (mkE (nI k0) (mkR (nI k0) n x.1.2.1 x.1.2.2.1 x.1.2.2.2.1 x.1.1)) (nc x.1.1.la) (nc x.1.1.zs)).se) ((lgC (mkR (nI k0) n x.1.2.1 x.1.2.2.1 x.1.2.2.2.1 x.1.1).2.2.2.2 (mkE (nI k0) (mkR (nI k0) n x.1.2.1 x.1.2.2.1 x.1.2.2.2.1 x.1.1)) (nc x.1.1.la) (nc x.1.1.zs)).ph) ((lgC (mkR (nI k0) n x.1.2.1 x.1.2.2.1 x.1.2.2.2.1 x.1.1).2.2.2.2 (mkE (nI k0) (mkR (nI k0) n x.1.2.1 x.1.2.2.1 x.1.2.2.2.1 x.1.1)) (nc x.1.1.la) (nc x.1.1.zs)).tk) ((lgC (mkR (nI k0) n x.1.2.1 x.1.2.2.1 x.1.2.2.2.1 x.1.1).2.2.2.2 (mkE (nI k0) (mkR (nI k0) n x.1.2.1 x.1.2.2.1 x.1.2.2.2.1 x.1.1)) (nc x.1.1.la) (nc x.1.1.zs)).pc) ((lgC (mkR (nI k0) n x.1.2.1 x.1.2.2.1 x.1.2.2.2.1 x.1.1).2.2.2.2 (mkE (nI k0) (mkR (nI k0) n x.1.2.1 x.1.2.2.1 x.1.2.2.2.1 x.1.1)) (nc x.1.1.la) (nc x.1.1.zs)).rc) ((lgC (mkR (nI k0) n x.1.2.1 x.1.2.2.1 x.1.2.2.2.1 x.1.1).2.2.2.2 (mkE (nI k0) (mkR (nI k0) n x.1.2.1 x.1.2.2.1 x.1.2.2.2.1 x.1.1)) (nc x.1.1.la) (nc x.1.1.zs)).wc) ((lgC (mkR (nI k0) n x.1.2.1 x.1.2.2.1 x.1.2.2.2.1 x.1.1).2.2.2.2 (mkE (nI k0) (mkR (nI k0) n x.1.2.1 x.1.2.2.1 x.1.2.2.2.1 x.1.1)) (nc x.1.1.la) (nc x.1.1.zs)).bc) ((lgC (mkR (nI k0) n x.1.2.1 x.1.2.2.1 x.1.2.2.2.1 x.1.1).2.2.2.2 (mkE (nI k0) (mkR (nI k0) n x.1.2.1 x.1.2.2.1 x.1.2.2.2.1 x.1.1)) (nc x.1.1.la) (nc x.1.1.zs)).tc), hsB D (roN k HL) (roN k HW1) (roN k HW2) (khS k hs s)] : List va_W).flatten, ([chipB D M y1 y2 t.v t.f t.g t.r t.av t.mk t.cm t.ar t.fl t.en t.la t.zs t.se t.ph t.tk t.pc t.rc t.wc t.bc t.tc, buB D b0 b1 b2 b3 bw (mkE (nI k0) (mkR (nI k0) n x.1.2.1 x.1.2.2.1 x.1.2.2.2.1 x.1.1)) ((mkR (nI k0) n x.1.2.1 x.1.2.2.1 x.1.2.2.2.1 x.1.1).2.1) ((mkR (nI k0) n x.1.2.1 x.1.2.2.1 x.1.2.2.2.1 x.1.1).2.2.2.1.1) (nI (mkR (nI k0) n x.1.2.1 x.1.2.2.1 x.1.2.2.2.1 x.1.1).2.2.2.1.2), orB D u0 u1 P9.2.2 (tx a) P9.1 (nI (P9.2.1 - a))] : List va_W).flatten] : List va_W).flatten) (As := [.ref (L 0), .int (nI k0)]) (rest := []) lk_X6_64 (c_X1_make l D _ b0 b1 b2 b3 bw x.1.2.1 x.1.2.2.1 x.1.2.2.2.1 x.1.2.2.2.2 L w1 w2 x.1.1 (nI k0) n (nc x.1.1.la) (nc x.1.1.zs) (by have := hcK.1; omega) hcK.2.1 hcK.2.2.1 hcK.2.2.2.1 hcK.2.2.2.2.1 hcK.2.2.2.2.2) (Foc.trans (Foc.at2 1 0 rfl rfl rfl rfl rfl) (Foc.pair (Foc.at1 1 rfl rfl (ce rfl (ce rfl rfl))) (Foc.at1 1 rfl rfl (ce rfl (ce rfl rfl))))) (m_fl 1 rfl (m_fl 1 rfl (m_at 0 rfl))) rfl hl.1 (Nat.le_of_ble_eq_true rfl) ⟨Nat.le_of_ble_eq_true rfl, Nat.le_of_ble_eq_true rfl⟩ rfl dX6_play_154 ⟨Nat.le_refl _, Nat.le_refl _⟩ (fun H locs hw => ?_)
              refine lv_goto (tgt := 214) hx hb dX6_play_157 (by decide) ?_
              refine lv_iload_n hx hb dX6_play_214 rfl (lv_at hl 2 rfl) ?_
              refine lv_aload_n hx hb dX6_play_215 rfl (lv_at hl 1 rfl) ?_
              refine r_get X hw (v := .ref u0) fl_X6_29 (m_fl 0 rfl (m_fl 0 rfl (m_at 0 rfl))) rfl dX6_play_216 ?_
              refine r_get X hw (v := .int (nI (P9.2.1 - a))) fl_X6_268 (m_fl 1 rfl (m_fl 2 rfl (m_at 0 rfl))) rfl dX6_play_219 ?_
              refine r_addN hx hb a (P9.2.1 - a) rfl rfl dX6_play_222 ?_
              refine lv_istore_n (lv' := [(1, .int (nI (a + (P9.2.1 - a)))), (3, .ref u1), (0, .ref o), (2, .int (nI x.2.2))]) hx hb dX6_play_223 rfl hl (by decide) rfl (fun ls hl => ?_)
              rw [show a + (P9.2.1 - a) = P9.2.1 from by omega] at hl
              refine r_iincN (lv' := [(2, .int (nI (x.2.2 + 1))), (1, .int (nI P9.2.1)), (3, .ref u1), (0, .ref o)]) hx hb x.2.2 1 rfl dX6_play_224 hl (k := 3) rfl rfl (by decide) rfl (fun ls hl => ?_)
              refine lv_goto (tgt := 18) hx hb dX6_play_227 (by decide) ?_
              have hok2' : okP tx T f P9.2.1 (ffO tx T a x.2.1.1).1 := (by show okP tx T f P9.2.1 (pso tx T a x.2.1.1).2.2; rw [← hP9]; exact hok2)
              exact ih18 f P9.2.1 (pyS n (tx a) P9.2.2 x.1, ffO tx T a x.2.1.1, x.2.2 + 1) (by show x.2.2 + 1 + f = 60; omega) hpb.2.1 (by omega) (pyS_ok (tx a) P9.2.2 hcK) hok2' (by have q := pyR_s (n := n) (tx := tx) (f := f) (x := x) (Nat.not_le.mpr c2); rw [← hP9] at q; exact q.symm.trans hR) _ _ _ (by have e9 : pyS n (tx a) P9.2.2 x.1 = ((lgC (mkR (nI k0) n x.1.2.1 x.1.2.2.1 x.1.2.2.2.1 x.1.1).2.2.2.2 (mkE (nI k0) (mkR (nI k0) n x.1.2.1 x.1.2.2.1 x.1.2.2.2.1 x.1.1)) (nc x.1.1.la) (nc x.1.1.zs)), mkE (nI k0) (mkR (nI k0) n x.1.2.1 x.1.2.2.1 x.1.2.2.2.1 x.1.1), (mkR (nI k0) n x.1.2.1 x.1.2.2.1 x.1.2.2.2.1 x.1.1).2.1, (mkR (nI k0) n x.1.2.1 x.1.2.2.1 x.1.2.2.2.1 x.1.1).2.2.2.1.1, nI (mkR (nI k0) n x.1.2.1 x.1.2.2.1 x.1.2.2.2.1 x.1.1).2.2.2.1.2) := (by unfold pyS; rw [if_neg (by rw [w4]; decide), if_pos w4]; rw [e0]); have f9 : ffO tx T a x.2.1.1 = (P9.2.2, tx a, P9.1, nI (P9.2.1 - a)) := (by rw [hP9]; rfl); rw [e9, f9]; exact hw) (lv_sub hl [3, 1, 0] rfl)
            · skip
              by_cases w5 : (tx a) = 112
              · skip
                refine r_lookIn (tgt := 160) hx hb 112 w5 dX6_play_63 (by decide) rfl (by decide) ?_
                obtain ⟨k0, hk0, hk01, e0⟩ := may_p w5 hmd
                refine lv_aload_n hx hb dX6_play_160 rfl (lv_at hl 1 rfl) ?_
                refine r_get X hw (v := .ref (L 0)) fl_X6_10 (m_fl 0 rfl (m_fl 0 rfl (m_at 0 rfl))) rfl dX6_play_161 ?_
                refine lv_aload_n hx hb dX6_play_164 rfl (lv_at hl 0 rfl) ?_
                refine lv_iconst (v := 0) hx hb dX6_play_165 (by decide) ?_
                refine r_iald X hw (f := P9.2.2) 0 (m_fl 1 rfl (m_fl 2 rfl (m_at 1 rfl))) rfl (by decide) (by decide) dX6_play_166 ?_
                rw [show P9.2.2 0 = nI k0 from e0]
                refine r_callV X hw (ws' := ([([xB D o ha ta (L 0) (M 0) b0 u0 (nI (khN k)) (rows4 (roN k HL)) tx (nI T), chipB D L w1 w2 (((ppF x.1.1 k0).2).v) (((ppF x.1.1 k0).2).f) (((ppF x.1.1 k0).2).g) (((ppF x.1.1 k0).2).r) (((ppF x.1.1 k0).2).av) (((ppF x.1.1 k0).2).mk) (((ppF x.1.1 k0).2).cm) (((ppF x.1.1 k0).2).ar) (((ppF x.1.1 k0).2).fl) (((ppF x.1.1 k0).2).en) (((ppF x.1.1 k0).2).la) (((ppF x.1.1 k0).2).zs) (((ppF x.1.1 k0).2).se) (((ppF x.1.1 k0).2).ph) (((ppF x.1.1 k0).2).tk) (((ppF x.1.1 k0).2).pc) (((ppF x.1.1 k0).2).rc) (((ppF x.1.1 k0).2).wc) (((ppF x.1.1 k0).2).bc) (((ppF x.1.1 k0).2).tc), hsB D (roN k HL) (roN k HW1) (roN k HW2) (khS k hs s)] : List va_W).flatten, ([chipB D M y1 y2 t.v t.f t.g t.r t.av t.mk t.cm t.ar t.fl t.en t.la t.zs t.se t.ph t.tk t.pc t.rc t.wc t.bc t.tc, buB D b0 b1 b2 b3 bw x.1.2.1 x.1.2.2.1 x.1.2.2.2.1 x.1.2.2.2.2, orB D u0 u1 P9.2.2 (tx a) P9.1 (nI (P9.2.1 - a))] : List va_W).flatten] : List va_W).flatten) (As := [.int (nI k0)]) (rest := []) lk_X6_75 (c_X3_passPhases l D _ L w1 w2 x.1.1 k0 (by omega)) (Foc.trans (Foc.at1 0 rfl rfl (ce rfl rfl)) (Foc.at1 1 rfl rfl (ce rfl (ce rfl rfl)))) (m_fl 0 rfl (m_fl 1 rfl (m_fl 0 rfl (m_at 0 rfl)))) rfl hl.1 (Nat.le_of_ble_eq_true rfl) ⟨Nat.le_of_ble_eq_true rfl, Nat.le_of_ble_eq_true rfl⟩ rfl dX6_play_167 ⟨Nat.le_refl _, Nat.le_refl _⟩ (fun H locs hw => ?_)
                refine lv_pop hx hb dX6_play_170 rfl ?_
                refine lv_goto (tgt := 214) hx hb dX6_play_171 (by decide) ?_
                refine lv_iload_n hx hb dX6_play_214 rfl (lv_at hl 2 rfl) ?_
                refine lv_aload_n hx hb dX6_play_215 rfl (lv_at hl 1 rfl) ?_
                refine r_get X hw (v := .ref u0) fl_X6_29 (m_fl 0 rfl (m_fl 0 rfl (m_at 0 rfl))) rfl dX6_play_216 ?_
                refine r_get X hw (v := .int (nI (P9.2.1 - a))) fl_X6_268 (m_fl 1 rfl (m_fl 2 rfl (m_at 0 rfl))) rfl dX6_play_219 ?_
                refine r_addN hx hb a (P9.2.1 - a) rfl rfl dX6_play_222 ?_
                refine lv_istore_n (lv' := [(1, .int (nI (a + (P9.2.1 - a)))), (3, .ref u1), (0, .ref o), (2, .int (nI x.2.2))]) hx hb dX6_play_223 rfl hl (by decide) rfl (fun ls hl => ?_)
                rw [show a + (P9.2.1 - a) = P9.2.1 from by omega] at hl
                refine r_iincN (lv' := [(2, .int (nI (x.2.2 + 1))), (1, .int (nI P9.2.1)), (3, .ref u1), (0, .ref o)]) hx hb x.2.2 1 rfl dX6_play_224 hl (k := 3) rfl rfl (by decide) rfl (fun ls hl => ?_)
                refine lv_goto (tgt := 18) hx hb dX6_play_227 (by decide) ?_
                have hok2' : okP tx T f P9.2.1 (ffO tx T a x.2.1.1).1 := (by show okP tx T f P9.2.1 (pso tx T a x.2.1.1).2.2; rw [← hP9]; exact hok2)
                exact ih18 f P9.2.1 (pyS n (tx a) P9.2.2 x.1, ffO tx T a x.2.1.1, x.2.2 + 1) (by show x.2.2 + 1 + f = 60; omega) hpb.2.1 (by omega) (pyS_ok (tx a) P9.2.2 hcK) hok2' (by have q := pyR_s (n := n) (tx := tx) (f := f) (x := x) (Nat.not_le.mpr c2); rw [← hP9] at q; exact q.symm.trans hR) _ _ _ (by have e9 : pyS n (tx a) P9.2.2 x.1 = (((ppF x.1.1 k0).2), x.1.2.1, x.1.2.2.1, x.1.2.2.2.1, x.1.2.2.2.2) := (by unfold pyS; rw [if_neg (by rw [w5]; decide), if_neg (by rw [w5]; decide), if_pos w5]; rw [e0, nc_nI (show k0 < 2147483648 from by omega)]); have f9 : ffO tx T a x.2.1.1 = (P9.2.2, tx a, P9.1, nI (P9.2.1 - a)) := (by rw [hP9]; rfl); rw [e9, f9]; exact hw) (lv_sub hl [3, 1, 0] rfl)
              · skip
                by_cases w6 : (tx a) = 114
                · skip
                  refine r_lookIn (tgt := 129) hx hb 114 w6 dX6_play_63 (by decide) rfl (by decide) ?_
                  obtain ⟨k0, hk0, e0⟩ := may_r w6 hmd
                  refine lv_aload_n hx hb dX6_play_129 rfl (lv_at hl 1 rfl) ?_
                  refine r_get X hw (v := .ref (L 0)) fl_X6_10 (m_fl 0 rfl (m_fl 0 rfl (m_at 0 rfl))) rfl dX6_play_130 ?_
                  refine lv_aload_n hx hb dX6_play_133 rfl (lv_at hl 0 rfl) ?_
                  refine lv_iconst (v := 0) hx hb dX6_play_134 (by decide) ?_
                  refine r_iald X hw (f := P9.2.2) 0 (m_fl 1 rfl (m_fl 2 rfl (m_at 1 rfl))) rfl (by decide) (by decide) dX6_play_135 ?_
                  rw [show P9.2.2 0 = nI k0 from e0]
                  refine r_callV X hw (ws' := ([([xB D o ha ta (L 0) (M 0) b0 u0 (nI (khN k)) (rows4 (roN k HL)) tx (nI T), chipB D L w1 w2 (((sp_X3_readRegister x.1.1 k0 n).2).v) (((sp_X3_readRegister x.1.1 k0 n).2).f) (((sp_X3_readRegister x.1.1 k0 n).2).g) (((sp_X3_readRegister x.1.1 k0 n).2).r) (((sp_X3_readRegister x.1.1 k0 n).2).av) (((sp_X3_readRegister x.1.1 k0 n).2).mk) (((sp_X3_readRegister x.1.1 k0 n).2).cm) (((sp_X3_readRegister x.1.1 k0 n).2).ar) (((sp_X3_readRegister x.1.1 k0 n).2).fl) (((sp_X3_readRegister x.1.1 k0 n).2).en) (((sp_X3_readRegister x.1.1 k0 n).2).la) (((sp_X3_readRegister x.1.1 k0 n).2).zs) (((sp_X3_readRegister x.1.1 k0 n).2).se) (((sp_X3_readRegister x.1.1 k0 n).2).ph) (((sp_X3_readRegister x.1.1 k0 n).2).tk) (((sp_X3_readRegister x.1.1 k0 n).2).pc) (((sp_X3_readRegister x.1.1 k0 n).2).rc) (((sp_X3_readRegister x.1.1 k0 n).2).wc) (((sp_X3_readRegister x.1.1 k0 n).2).bc) (((sp_X3_readRegister x.1.1 k0 n).2).tc), hsB D (roN k HL) (roN k HW1) (roN k HW2) (khS k hs s)] : List va_W).flatten, ([chipB D M y1 y2 t.v t.f t.g t.r t.av t.mk t.cm t.ar t.fl t.en t.la t.zs t.se t.ph t.tk t.pc t.rc t.wc t.bc t.tc, buB D b0 b1 b2 b3 bw x.1.2.1 x.1.2.2.1 x.1.2.2.2.1 x.1.2.2.2.2, orB D u0 u1 P9.2.2 (tx a) P9.1 (nI (P9.2.1 - a))] : List va_W).flatten] : List va_W).flatten) (As := [.int (nI k0)]) (rest := []) lk_X6_57 (c_X3_readRegister l D _ L w1 w2 x.1.1 k0 n (by omega) (by omega) hcK.2.1) (Foc.trans (Foc.at1 0 rfl rfl (ce rfl rfl)) (Foc.at1 1 rfl rfl (ce rfl (ce rfl rfl)))) (m_fl 0 rfl (m_fl 1 rfl (m_fl 0 rfl (m_at 0 rfl)))) rfl hl.1 (Nat.le_of_ble_eq_true rfl) ⟨Nat.le_of_ble_eq_true rfl, Nat.le_of_ble_eq_true rfl⟩ rfl dX6_play_136 ⟨Nat.le_refl _, Nat.le_refl _⟩ (fun H locs hw => ?_)
                  refine lv_pop hx hb dX6_play_139 rfl ?_
                  refine lv_goto (tgt := 214) hx hb dX6_play_140 (by decide) ?_
                  refine lv_iload_n hx hb dX6_play_214 rfl (lv_at hl 2 rfl) ?_
                  refine lv_aload_n hx hb dX6_play_215 rfl (lv_at hl 1 rfl) ?_
                  refine r_get X hw (v := .ref u0) fl_X6_29 (m_fl 0 rfl (m_fl 0 rfl (m_at 0 rfl))) rfl dX6_play_216 ?_
                  refine r_get X hw (v := .int (nI (P9.2.1 - a))) fl_X6_268 (m_fl 1 rfl (m_fl 2 rfl (m_at 0 rfl))) rfl dX6_play_219 ?_
                  refine r_addN hx hb a (P9.2.1 - a) rfl rfl dX6_play_222 ?_
                  refine lv_istore_n (lv' := [(1, .int (nI (a + (P9.2.1 - a)))), (3, .ref u1), (0, .ref o), (2, .int (nI x.2.2))]) hx hb dX6_play_223 rfl hl (by decide) rfl (fun ls hl => ?_)
                  rw [show a + (P9.2.1 - a) = P9.2.1 from by omega] at hl
                  refine r_iincN (lv' := [(2, .int (nI (x.2.2 + 1))), (1, .int (nI P9.2.1)), (3, .ref u1), (0, .ref o)]) hx hb x.2.2 1 rfl dX6_play_224 hl (k := 3) rfl rfl (by decide) rfl (fun ls hl => ?_)
                  refine lv_goto (tgt := 18) hx hb dX6_play_227 (by decide) ?_
                  have hok2' : okP tx T f P9.2.1 (ffO tx T a x.2.1.1).1 := (by show okP tx T f P9.2.1 (pso tx T a x.2.1.1).2.2; rw [← hP9]; exact hok2)
                  exact ih18 f P9.2.1 (pyS n (tx a) P9.2.2 x.1, ffO tx T a x.2.1.1, x.2.2 + 1) (by show x.2.2 + 1 + f = 60; omega) hpb.2.1 (by omega) (pyS_ok (tx a) P9.2.2 hcK) hok2' (by have q := pyR_s (n := n) (tx := tx) (f := f) (x := x) (Nat.not_le.mpr c2); rw [← hP9] at q; exact q.symm.trans hR) _ _ _ (by have e9 : pyS n (tx a) P9.2.2 x.1 = (((sp_X3_readRegister x.1.1 k0 n).2), x.1.2.1, x.1.2.2.1, x.1.2.2.2.1, x.1.2.2.2.2) := (by unfold pyS; rw [if_neg (by rw [w6]; decide), if_neg (by rw [w6]; decide), if_neg (by rw [w6]; decide), if_pos w6]; rw [e0, nc_nI (show k0 < 2147483648 from by omega)]); have f9 : ffO tx T a x.2.1.1 = (P9.2.2, tx a, P9.1, nI (P9.2.1 - a)) := (by rw [hP9]; rfl); rw [e9, f9]; exact hw) (lv_sub hl [3, 1, 0] rfl)
                · skip
                  by_cases w7 : (tx a) = 119
                  · skip
                    refine r_lookIn (tgt := 112) hx hb 119 w7 dX6_play_63 (by decide) rfl (by decide) ?_
                    obtain ⟨k0, k1, hk0, hk1, e0, e1⟩ := may_w w7 hmd
                    refine lv_aload_n hx hb dX6_play_112 rfl (lv_at hl 1 rfl) ?_
                    refine r_get X hw (v := .ref (L 0)) fl_X6_10 (m_fl 0 rfl (m_fl 0 rfl (m_at 0 rfl))) rfl dX6_play_113 ?_
                    refine lv_aload_n hx hb dX6_play_116 rfl (lv_at hl 0 rfl) ?_
                    refine lv_iconst (v := 0) hx hb dX6_play_117 (by decide) ?_
                    refine r_iald X hw (f := P9.2.2) 0 (m_fl 1 rfl (m_fl 2 rfl (m_at 1 rfl))) rfl (by decide) (by decide) dX6_play_118 ?_
                    rw [show P9.2.2 0 = nI k0 from e0]
                    refine lv_aload_n hx hb dX6_play_119 rfl (lv_at hl 0 rfl) ?_
                    refine lv_iconst (v := 1) hx hb dX6_play_120 (by decide) ?_
                    refine r_iald X hw (f := P9.2.2) 1 (m_fl 1 rfl (m_fl 2 rfl (m_at 1 rfl))) rfl (by decide) (by decide) dX6_play_121 ?_
                    refine r_callV X hw (ws' := ([([xB D o ha ta (L 0) (M 0) b0 u0 (nI (khN k)) (rows4 (roN k HL)) tx (nI T), chipB D L w1 w2 (((sp_X3_writeRegister x.1.1 k0 (P9.2.2 1)).2).v) (((sp_X3_writeRegister x.1.1 k0 (P9.2.2 1)).2).f) (((sp_X3_writeRegister x.1.1 k0 (P9.2.2 1)).2).g) (((sp_X3_writeRegister x.1.1 k0 (P9.2.2 1)).2).r) (((sp_X3_writeRegister x.1.1 k0 (P9.2.2 1)).2).av) (((sp_X3_writeRegister x.1.1 k0 (P9.2.2 1)).2).mk) (((sp_X3_writeRegister x.1.1 k0 (P9.2.2 1)).2).cm) (((sp_X3_writeRegister x.1.1 k0 (P9.2.2 1)).2).ar) (((sp_X3_writeRegister x.1.1 k0 (P9.2.2 1)).2).fl) (((sp_X3_writeRegister x.1.1 k0 (P9.2.2 1)).2).en) (((sp_X3_writeRegister x.1.1 k0 (P9.2.2 1)).2).la) (((sp_X3_writeRegister x.1.1 k0 (P9.2.2 1)).2).zs) (((sp_X3_writeRegister x.1.1 k0 (P9.2.2 1)).2).se) (((sp_X3_writeRegister x.1.1 k0 (P9.2.2 1)).2).ph) (((sp_X3_writeRegister x.1.1 k0 (P9.2.2 1)).2).tk) (((sp_X3_writeRegister x.1.1 k0 (P9.2.2 1)).2).pc) (((sp_X3_writeRegister x.1.1 k0 (P9.2.2 1)).2).rc) (((sp_X3_writeRegister x.1.1 k0 (P9.2.2 1)).2).wc) (((sp_X3_writeRegister x.1.1 k0 (P9.2.2 1)).2).bc) (((sp_X3_writeRegister x.1.1 k0 (P9.2.2 1)).2).tc), hsB D (roN k HL) (roN k HW1) (roN k HW2) (khS k hs s)] : List va_W).flatten, ([chipB D M y1 y2 t.v t.f t.g t.r t.av t.mk t.cm t.ar t.fl t.en t.la t.zs t.se t.ph t.tk t.pc t.rc t.wc t.bc t.tc, buB D b0 b1 b2 b3 bw x.1.2.1 x.1.2.2.1 x.1.2.2.2.1 x.1.2.2.2.2, orB D u0 u1 P9.2.2 (tx a) P9.1 (nI (P9.2.1 - a))] : List va_W).flatten] : List va_W).flatten) (As := [.int (nI k0), .int (P9.2.2 1)]) (rest := []) lk_X6_49 (c_X3_writeRegister l D _ L w1 w2 x.1.1 k0 (P9.2.2 1) (by omega)) (Foc.trans (Foc.at1 0 rfl rfl (ce rfl rfl)) (Foc.at1 1 rfl rfl (ce rfl (ce rfl rfl)))) (m_fl 0 rfl (m_fl 1 rfl (m_fl 0 rfl (m_at 0 rfl)))) rfl hl.1 (Nat.le_of_ble_eq_true rfl) ⟨Nat.le_of_ble_eq_true rfl, Nat.le_of_ble_eq_true rfl⟩ rfl dX6_play_122 ⟨Nat.le_refl _, Nat.le_refl _⟩ (fun H locs hw => ?_)
                    refine lv_pop hx hb dX6_play_125 rfl ?_
                    refine lv_goto (tgt := 214) hx hb dX6_play_126 (by decide) ?_
                    refine lv_iload_n hx hb dX6_play_214 rfl (lv_at hl 2 rfl) ?_
                    refine lv_aload_n hx hb dX6_play_215 rfl (lv_at hl 1 rfl) ?_
                    refine r_get X hw (v := .ref u0) fl_X6_29 (m_fl 0 rfl (m_fl 0 rfl (m_at 0 rfl))) rfl dX6_play_216 ?_
                    refine r_get X hw (v := .int (nI (P9.2.1 - a))) fl_X6_268 (m_fl 1 rfl (m_fl 2 rfl (m_at 0 rfl))) rfl dX6_play_219 ?_
                    refine r_addN hx hb a (P9.2.1 - a) rfl rfl dX6_play_222 ?_
                    refine lv_istore_n (lv' := [(1, .int (nI (a + (P9.2.1 - a)))), (3, .ref u1), (0, .ref o), (2, .int (nI x.2.2))]) hx hb dX6_play_223 rfl hl (by decide) rfl (fun ls hl => ?_)
                    rw [show a + (P9.2.1 - a) = P9.2.1 from by omega] at hl
                    refine r_iincN (lv' := [(2, .int (nI (x.2.2 + 1))), (1, .int (nI P9.2.1)), (3, .ref u1), (0, .ref o)]) hx hb x.2.2 1 rfl dX6_play_224 hl (k := 3) rfl rfl (by decide) rfl (fun ls hl => ?_)
                    refine lv_goto (tgt := 18) hx hb dX6_play_227 (by decide) ?_
                    have hok2' : okP tx T f P9.2.1 (ffO tx T a x.2.1.1).1 := (by show okP tx T f P9.2.1 (pso tx T a x.2.1.1).2.2; rw [← hP9]; exact hok2)
                    exact ih18 f P9.2.1 (pyS n (tx a) P9.2.2 x.1, ffO tx T a x.2.1.1, x.2.2 + 1) (by show x.2.2 + 1 + f = 60; omega) hpb.2.1 (by omega) (pyS_ok (tx a) P9.2.2 hcK) hok2' (by have q := pyR_s (n := n) (tx := tx) (f := f) (x := x) (Nat.not_le.mpr c2); rw [← hP9] at q; exact q.symm.trans hR) _ _ _ (by have e9 : pyS n (tx a) P9.2.2 x.1 = (((sp_X3_writeRegister x.1.1 k0 (P9.2.2 1)).2), x.1.2.1, x.1.2.2.1, x.1.2.2.2.1, x.1.2.2.2.2) := (by unfold pyS; rw [if_neg (by rw [w7]; decide), if_neg (by rw [w7]; decide), if_neg (by rw [w7]; decide), if_neg (by rw [w7]; decide), if_pos w7]; rw [e0, e1, nc_nI (show k0 < 2147483648 from by omega)]); have f9 : ffO tx T a x.2.1.1 = (P9.2.2, tx a, P9.1, nI (P9.2.1 - a)) := (by rw [hP9]; rfl); rw [e9, f9]; exact hw) (lv_sub hl [3, 1, 0] rfl)
                  · skip
                    refine lv_lookup (tgt := 197) hx hb dX6_play_63 (by decide) (off := 134) (by have g0 := i_ne w3; have g1 := i_ne w4; have g2 := i_ne w5; have g3 := i_ne w6; have g4 := i_ne w7; rw [show (97 : Int32).toInt = 97 from rfl] at g0; rw [show (98 : Int32).toInt = 98 from rfl] at g1; rw [show (112 : Int32).toInt = 112 from rfl] at g2; rw [show (114 : Int32).toInt = 114 from rfl] at g3; rw [show (119 : Int32).toInt = 119 from rfl] at g4; simp [Op.lookupswitch.offset, g0, g1, g2, g3, g4, Ne.symm g0, Ne.symm g1, Ne.symm g2, Ne.symm g3, Ne.symm g4]) (by decide) ?_
                    obtain ⟨k0, k1, hk0, hk1, e0, e1⟩ := may_m w3 w4 w5 w6 w7 hmd
                    refine lv_aload_n hx hb dX6_play_197 rfl (lv_at hl 1 rfl) ?_
                    refine r_get X hw (v := .ref (L 0)) fl_X6_10 (m_fl 0 rfl (m_fl 0 rfl (m_at 0 rfl))) rfl dX6_play_198 ?_
                    refine r_get X hw (v := .ref (L 6)) fl_X6_82 (m_fl 0 rfl (m_fl 1 rfl (m_fl 0 rfl (m_at 0 rfl)))) rfl dX6_play_201 ?_
                    refine lv_aload_n hx hb dX6_play_204 rfl (lv_at hl 0 rfl) ?_
                    refine lv_iconst (v := 0) hx hb dX6_play_205 (by decide) ?_
                    refine r_iald X hw (f := P9.2.2) 0 (m_fl 1 rfl (m_fl 2 rfl (m_at 1 rfl))) rfl (by decide) (by decide) dX6_play_206 ?_
                    rw [show P9.2.2 0 = nI k0 from e0]
                    refine lv_aload_n hx hb dX6_play_207 rfl (lv_at hl 0 rfl) ?_
                    refine lv_iconst (v := 1) hx hb dX6_play_208 (by decide) ?_
                    refine r_iald X hw (f := P9.2.2) 1 (m_fl 1 rfl (m_fl 2 rfl (m_at 1 rfl))) rfl (by decide) (by decide) dX6_play_209 ?_
                    rw [show P9.2.2 1 = nI k1 from e1]
                    refine r_callV X hw (ws' := ([([xB D o ha ta (L 0) (M 0) b0 u0 (nI (khN k)) (rows4 (roN k HL)) tx (nI T), chipB D L w1 w2 x.1.1.v x.1.1.f x.1.1.g x.1.1.r x.1.1.av ((sp_X0_changeMask x.1.1.mk x.1.1.ar k0 k1).2.1) x.1.1.cm ((sp_X0_changeMask x.1.1.mk x.1.1.ar k0 k1).2.2) x.1.1.fl x.1.1.en x.1.1.la x.1.1.zs x.1.1.se x.1.1.ph x.1.1.tk x.1.1.pc x.1.1.rc x.1.1.wc x.1.1.bc x.1.1.tc, hsB D (roN k HL) (roN k HW1) (roN k HW2) (khS k hs s)] : List va_W).flatten, ([chipB D M y1 y2 t.v t.f t.g t.r t.av t.mk t.cm t.ar t.fl t.en t.la t.zs t.se t.ph t.tk t.pc t.rc t.wc t.bc t.tc, buB D b0 b1 b2 b3 bw x.1.2.1 x.1.2.2.1 x.1.2.2.2.1 x.1.2.2.2.2, orB D u0 u1 P9.2.2 (tx a) P9.1 (nI (P9.2.1 - a))] : List va_W).flatten] : List va_W).flatten) (As := [.int (nI k0), .int (nI k1)]) (rest := []) lk_X6_98 (c_X0_changeMask l D _ (L 6) (L 7) (L 8) (L 9) w1 x.1.1.av x.1.1.mk x.1.1.cm x.1.1.ar x.1.1.fl k0 k1 (by omega) (by omega)) (Foc.trans (Foc.at1 0 rfl rfl (ce rfl rfl)) (Foc.trans (Foc.at1 1 rfl rfl (ce rfl (ce rfl rfl))) (Foc.at1 2 rfl rfl (ce rfl (ce rfl (ce rfl (ce rfl rfl))))))) (m_fl 0 rfl (m_fl 1 rfl (m_fl 2 rfl (m_at 0 rfl)))) rfl hl.1 (Nat.le_of_ble_eq_true rfl) ⟨Nat.le_of_ble_eq_true rfl, Nat.le_of_ble_eq_true rfl⟩ rfl dX6_play_210 ⟨Nat.le_refl _, Nat.le_refl _⟩ (fun H locs hw => ?_)
                    refine lv_pop hx hb dX6_play_213 rfl ?_
                    refine lv_iload_n hx hb dX6_play_214 rfl (lv_at hl 2 rfl) ?_
                    refine lv_aload_n hx hb dX6_play_215 rfl (lv_at hl 1 rfl) ?_
                    refine r_get X hw (v := .ref u0) fl_X6_29 (m_fl 0 rfl (m_fl 0 rfl (m_at 0 rfl))) rfl dX6_play_216 ?_
                    refine r_get X hw (v := .int (nI (P9.2.1 - a))) fl_X6_268 (m_fl 1 rfl (m_fl 2 rfl (m_at 0 rfl))) rfl dX6_play_219 ?_
                    refine r_addN hx hb a (P9.2.1 - a) rfl rfl dX6_play_222 ?_
                    refine lv_istore_n (lv' := [(1, .int (nI (a + (P9.2.1 - a)))), (3, .ref u1), (0, .ref o), (2, .int (nI x.2.2))]) hx hb dX6_play_223 rfl hl (by decide) rfl (fun ls hl => ?_)
                    rw [show a + (P9.2.1 - a) = P9.2.1 from by omega] at hl
                    refine r_iincN (lv' := [(2, .int (nI (x.2.2 + 1))), (1, .int (nI P9.2.1)), (3, .ref u1), (0, .ref o)]) hx hb x.2.2 1 rfl dX6_play_224 hl (k := 3) rfl rfl (by decide) rfl (fun ls hl => ?_)
                    refine lv_goto (tgt := 18) hx hb dX6_play_227 (by decide) ?_
                    have hok2' : okP tx T f P9.2.1 (ffO tx T a x.2.1.1).1 := (by show okP tx T f P9.2.1 (pso tx T a x.2.1.1).2.2; rw [← hP9]; exact hok2)
                    exact ih18 f P9.2.1 (pyS n (tx a) P9.2.2 x.1, ffO tx T a x.2.1.1, x.2.2 + 1) (by show x.2.2 + 1 + f = 60; omega) hpb.2.1 (by omega) (pyS_ok (tx a) P9.2.2 hcK) hok2' (by have q := pyR_s (n := n) (tx := tx) (f := f) (x := x) (Nat.not_le.mpr c2); rw [← hP9] at q; exact q.symm.trans hR) _ _ _ (by have e9 : pyS n (tx a) P9.2.2 x.1 = ((ChS.new x.1.1.v x.1.1.f x.1.1.g x.1.1.r x.1.1.av ((sp_X0_changeMask x.1.1.mk x.1.1.ar k0 k1).2.1) x.1.1.cm ((sp_X0_changeMask x.1.1.mk x.1.1.ar k0 k1).2.2) x.1.1.fl x.1.1.en x.1.1.la x.1.1.zs x.1.1.se x.1.1.ph x.1.1.tk x.1.1.pc x.1.1.rc x.1.1.wc x.1.1.bc x.1.1.tc), x.1.2.1, x.1.2.2.1, x.1.2.2.2.1, x.1.2.2.2.2) := (by unfold pyS; rw [if_neg w3, if_neg w4, if_neg w5, if_neg w6, if_neg w7]; rw [e0, e1, nc_nI (show k0 < 2147483648 from by omega), nc_nI (show k1 < 2147483648 from by omega)]); have f9 : ffO tx T a x.2.1.1 = (P9.2.2, tx a, P9.1, nI (P9.2.1 - a)) := (by rw [hP9]; rfl); rw [e9, f9]; exact hw) (lv_sub hl [3, 1, 0] rfl)
  exact key18 61 60 0 ((s, en, tb, sh, n0), F9.2, 0) rfl (by omega) (by omega) hcK0 hok0 rfl _ _ _ hw (lv_sub hl [2, 1, 0] rfl)

set_option maxRecDepth 100000 in
set_option maxHeartbeats 4000000 in
theorem c_X6_playN (l : Launch) (D : va_G) (sz : Nat) (o ha ta : Nat) (L w1 w2 M y1 y2 : Nat → Nat) (HL HW1 HW2 : Nat → Nat → Nat) (b0 b1 b2 b3 : Nat) (bw : Nat → Nat) (u0 u1 : Nat) (tx : Row) (T : Nat) (s t : ChS) (hs : Nat → ChS) (en tb : Row) (sh : Nat → Row) (n0 : Int32) (nu : Row) (lt br le : Int32) (k : Nat) (hk4 : k ≤ 4) (hT : T ≤ 60) (htx : chOK tx) (F9 : Int32 × OS) (hF9 : ffR tx T 60 0 (nu, lt, br, le) = F9) (h9 : ¬ F9.1 < 0) : MI l yX6_play cX6_play 4 (some .int) 5 107 D sz [.ref o] (([([xB D o ha ta (L 0) (M 0) b0 u0 (nI k) (rows4 HL) tx (nI T), chipB D L w1 w2 s.v s.f s.g s.r s.av s.mk s.cm s.ar s.fl s.en s.la s.zs s.se s.ph s.tk s.pc s.rc s.wc s.bc s.tc, hsB D HL HW1 HW2 hs] : List va_W).flatten, ([chipB D M y1 y2 t.v t.f t.g t.r t.av t.mk t.cm t.ar t.fl t.en t.la t.zs t.se t.ph t.tk t.pc t.rc t.wc t.bc t.tc, buB D b0 b1 b2 b3 bw en tb sh n0, orB D u0 u1 nu lt br le] : List va_W).flatten] : List va_W).flatten) (-1000002) (([([xB D o ha ta (L 0) (M 0) b0 u0 (nI k) (rows4 HL) tx (nI T), chipB D L w1 w2 s.v s.f s.g s.r s.av s.mk s.cm s.ar s.fl s.en s.la s.zs s.se s.ph s.tk s.pc s.rc s.wc s.bc s.tc, hsB D HL HW1 HW2 hs] : List va_W).flatten, ([chipB D M y1 y2 t.v t.f t.g t.r t.av t.mk t.cm t.ar t.fl t.en t.la t.zs t.se t.ph t.tk t.pc t.rc t.wc t.bc t.tc, buB D b0 b1 b2 b3 bw en tb sh n0, orB D u0 u1 F9.2.1 F9.2.2.1 F9.2.2.2.1 F9.2.2.2.2] : List va_W).flatten] : List va_W).flatten) := by
  refine r_enterI (by decide) (Nat.le_of_ble_eq_true rfl) ?_
  intro p e st m args below meth c ls A X hret hk hw hl
  have X : CX D p m c cX6_play 4 st args RX6 A := X
  have hx := X.1.1
  have hb := X.1.2.1
  have hown := X.1.2.2.2.1
  have hts := X.1.2.2.2.2
  have hl : lv_has ls 4 [(0, .ref o)] := hl
  refine lv_aload_n hx hb dX6_play_0 rfl (lv_at hl 0 rfl) ?_
  refine r_callV X hw (ws' := ([([xB D o ha ta (L 0) (M 0) b0 u0 (nI k) (rows4 HL) tx (nI T), chipB D L w1 w2 s.v s.f s.g s.r s.av s.mk s.cm s.ar s.fl s.en s.la s.zs s.se s.ph s.tk s.pc s.rc s.wc s.bc s.tc, hsB D HL HW1 HW2 hs] : List va_W).flatten, ([chipB D M y1 y2 t.v t.f t.g t.r t.av t.mk t.cm t.ar t.fl t.en t.la t.zs t.se t.ph t.tk t.pc t.rc t.wc t.bc t.tc, buB D b0 b1 b2 b3 bw en tb sh n0, orB D u0 u1 ((ffR tx T 60 0 (nu, lt, br, le)).2.1) ((ffR tx T 60 0 (nu, lt, br, le)).2.2.1) ((ffR tx T 60 0 (nu, lt, br, le)).2.2.2.1) ((ffR tx T 60 0 (nu, lt, br, le)).2.2.2.2)] : List va_W).flatten] : List va_W).flatten) (As := []) (rest := []) lk_X6_261 (c_X6_findFault l D _ o ha ta L w1 w2 M y1 y2 HL HW1 HW2 b0 b1 b2 b3 bw u0 u1 tx T s t hs en tb sh n0 nu lt br le k hk4 hT htx) Foc.all (m_fl 0 rfl (m_fl 0 rfl (m_at 0 rfl))) rfl hl.1 (Nat.le_of_ble_eq_true rfl) ⟨Nat.le_of_ble_eq_true rfl, Nat.le_of_ble_eq_true rfl⟩ rfl dX6_play_1 ⟨Nat.le_refl _, Nat.le_refl _⟩ (fun H locs hw => ?_)
  rw [hF9] at hw
  rw [hF9]
  refine lv_if_lt (tgt := 10) hx hb dX6_play_4 (by decide) (fun h => absurd h h9) (fun _ => ?_)
  refine lv_ldc (v := (-1000002)) hx hb hown (hts _ kc_X6_117) dX6_play_7 ?_
  exact r_ret X hw hk hret rfl rfl rfl dX6_play_9
