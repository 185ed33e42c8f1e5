theorem not_not' {p : Prop} (h : ¬ ¬ p) : p := Classical.byContradiction h
theorem Rel.rok {s : ChS} {m : Row} (h : Rel s m) : ∃ p z q, rOK m p z q := h.2.2.2.2.2.2.2.2.2.2.2.2.2
theorem Rel.se0 {s : ChS} {m : Row} (h : Rel s m) : s.se 0 = m 37 := h.2.2.2.1
theorem rOK.q37 {m : Row} {p z q : Nat} (h : rOK m p z q) : q ≤ 8 ∧ m 37 = nI q := by
  obtain ⟨h1, h2, h3, h4, h5, h6, h7⟩ := h
  exact ⟨by omega, by assumption⟩
theorem pp_bc (s : ChS) : (sp_X3_passPhase s).2.bc = s.bc := by
  by_cases c : s.se 2 ≤ s.ph + 1
  · rw [pp_t c]
  · rw [pp_f c]
theorem pp_tc (s : ChS) : (sp_X3_passPhase s).2.tc = s.tc := by
  by_cases c : s.se 2 ≤ s.ph + 1
  · rw [pp_t c]
  · rw [pp_f c]
theorem ppF_bc (s : ChS) (n : Nat) : (ppF s n).2.bc = s.bc := by
  induction n with
  | zero => rfl
  | succ n ih => exact (pp_bc _).trans ih
theorem ppF_tc (s : ChS) (n : Nat) : (ppF s n).2.tc = s.tc := by
  induction n with
  | zero => rfl
  | succ n ih => exact (pp_tc _).trans ih
theorem Rel.alv {s : ChS} {m : Row} (h : Rel s m) {a r : Nat} (ha : a < 3) (hr : r < 5) : s.av a r = m (40 + 9 * a + r) := ((h.2.1.2.2.2 a ha).1 r hr).1
/-! the calls side by side: changes and no changes -/
section SIM1
variable (o ha ta : Nat) (L w1 w2 M y1 y2 : Nat → Nat) (b0 b1 b2 b3 : Nat) (bw : Nat → Nat) (u0 u1 : Nat) (Lm : Nat → Nat)
theorem SIM.mk {K : Nat} {y6 : MethodName} {c6 : ByteArray} {n6 : Nat} {y7 : MethodName} {c7 : ByteArray} {n7 : Nat} {As : List Value} {HL : Nat → Nat → Nat} {HW1 : Nat → Nat → Nat} {HW2 : Nat → Nat → Nat} {s : ChS} {t : ChS} {hs : Nat → ChS} {en : Row} {tb : Row} {sh : Nat → Row} {n0 : Int32} {nu : Row} {lt : Int32} {br : Int32} {le : Int32} {k : Nat} {tx : Row} {T : Nat} {m : Row} {pa : Row} {td : Row} {ah : Row} {d : Row} {nn : Int32} {p9 : Nat} {fo : Int32} {re : Int32} {ca : Int32} {os : Int32} {od : Int32} {spa : Row} {he : Row} (r : Int32) (HL' : Nat → Nat → Nat) (HW1' : Nat → Nat → Nat) (HW2' : Nat → Nat → Nat) (s' : ChS) (t' : ChS) (hs' : Nat → ChS) (en' : Row) (tb' : Row) (sh' : Nat → Row) (n0' : Int32) (nu' : Row) (lt' : Int32) (br' : Int32) (le' : Int32) (k' : Nat) (tx' : Row) (T' : Nat) (m' : Row) (pa' : Row) (td' : Row) (ah' : Row) (d' : Row) (nn' : Int32) (p9' : Nat) (fo' : Int32) (re' : Int32) (ca' : Int32) (os' : Int32) (od' : Int32) (spa' : Row) (he' : Row) (hI : INVx (K + 61) s' hs' k' tx' T' m' pa' p9') (h6 : ∀ (l : Launch) (D : va_G) (sz : Nat), ∃ fr lo, fr ≤ 18 ∧ lo ≤ 700 ∧ MI l y6 c6 n6 (some .int) fr lo D sz (.ref o :: As) (WC D o ha ta L w1 w2 M y1 y2 b0 b1 b2 b3 bw u0 u1 HL HW1 HW2 s t hs en tb sh n0 nu lt br le k tx T) r (WC D o ha ta L w1 w2 M y1 y2 b0 b1 b2 b3 bw u0 u1 (HL') (HW1') (HW2') (s') (t') (hs') (en') (tb') (sh') (n0') (nu') (lt') (br') (le') (k') (tx') (T'))) (h7 : ∀ (l : Launch) (D : va_G) (sz : Nat), ∃ fr lo, fr ≤ 18 ∧ lo ≤ 700 ∧ MI l y7 c7 n7 (some .int) fr lo D sz (.ref (Lm 0) :: As) (WR D Lm nu k tx T m pa td ah d nn p9 fo re ca os od spa he) r (WR D Lm (nu') (k') (tx') (T') (m') (pa') (td') (ah') (d') (nn') (p9') (fo') (re') (ca') (os') (od') (spa') (he'))) : SIM o ha ta L w1 w2 M y1 y2 b0 b1 b2 b3 bw u0 u1 Lm K y6 c6 n6 y7 c7 n7 As (HL, HW1, HW2, s, t, hs, (en, tb, sh, n0), (nu, lt, br, le), k, tx, T) (m, pa, (td, ah, d, nn), p9, (fo, re, ca, os, od), spa, he) := ⟨r, (HL', HW1', HW2', s', t', hs', (en', tb', sh', n0'), (nu', lt', br', le'), k', tx', T'), (m', pa', (td', ah', d', nn'), p9', (fo', re', ca', os', od'), spa', he'), hI, h6, h7⟩
theorem SIM.same {K : Nat} {y6 : MethodName} {c6 : ByteArray} {n6 : Nat} {y7 : MethodName} {c7 : ByteArray} {n7 : Nat} {As : List Value} {HL : Nat → Nat → Nat} {HW1 : Nat → Nat → Nat} {HW2 : Nat → Nat → Nat} {s : ChS} {t : ChS} {hs : Nat → ChS} {en : Row} {tb : Row} {sh : Nat → Row} {n0 : Int32} {nu : Row} {lt : Int32} {br : Int32} {le : Int32} {k : Nat} {tx : Row} {T : Nat} {m : Row} {pa : Row} {td : Row} {ah : Row} {d : Row} {nn : Int32} {p9 : Nat} {fo : Int32} {re : Int32} {ca : Int32} {os : Int32} {od : Int32} {spa : Row} {he : Row} (hI : INVx K s hs k tx T m pa p9) (r : Int32) (h6 : ∀ (l : Launch) (D : va_G) (sz : Nat), ∃ fr lo, fr ≤ 18 ∧ lo ≤ 700 ∧ MI l y6 c6 n6 (some .int) fr lo D sz (.ref o :: As) (WC D o ha ta L w1 w2 M y1 y2 b0 b1 b2 b3 bw u0 u1 HL HW1 HW2 s t hs en tb sh n0 nu lt br le k tx T) r (WC D o ha ta L w1 w2 M y1 y2 b0 b1 b2 b3 bw u0 u1 HL HW1 HW2 s t hs en tb sh n0 nu lt br le k tx T)) (h7 : ∀ (l : Launch) (D : va_G) (sz : Nat), ∃ fr lo, fr ≤ 18 ∧ lo ≤ 700 ∧ MI l y7 c7 n7 (some .int) fr lo D sz (.ref (Lm 0) :: As) (WR D Lm nu k tx T m pa td ah d nn p9 fo re ca os od spa he) r (WR D Lm nu k tx T m pa td ah d nn p9 fo re ca os od spa he)) : SIM o ha ta L w1 w2 M y1 y2 b0 b1 b2 b3 bw u0 u1 Lm K y6 c6 n6 y7 c7 n7 As (HL, HW1, HW2, s, t, hs, (en, tb, sh, n0), (nu, lt, br, le), k, tx, T) (m, pa, (td, ah, d, nn), p9, (fo, re, ca, os, od), spa, he) := ⟨r, (HL, HW1, HW2, s, t, hs, (en, tb, sh, n0), (nu, lt, br, le), k, tx, T), (m, pa, (td, ah, d, nn), p9, (fo, re, ca, os, od), spa, he), hI.mono (Nat.le_add_right _ _), h6, h7⟩
theorem SIM.chg {K : Nat} {y6 : MethodName} {c6 : ByteArray} {n6 : Nat} {y7 : MethodName} {c7 : ByteArray} {n7 : Nat} {As : List Value} {HL : Nat → Nat → Nat} {HW1 : Nat → Nat → Nat} {HW2 : Nat → Nat → Nat} {s : ChS} {t : ChS} {hs : Nat → ChS} {en : Row} {tb : Row} {sh : Nat → Row} {n0 : Int32} {nu : Row} {lt : Int32} {br : Int32} {le : Int32} {k : Nat} {tx : Row} {T : Nat} {m : Row} {pa : Row} {td : Row} {ah : Row} {d : Row} {nn : Int32} {p9 : Nat} {fo : Int32} {re : Int32} {ca : Int32} {os : Int32} {od : Int32} {spa : Row} {he : Row} (hI : INVx K s hs k tx T m pa p9) (r : Int32) (s' : ChS) (en' : Row) (tb' : Row) (sh' : Nat → Row) (n0' : Int32) (nu' : Row) (lt' : Int32) (br' : Int32) (le' : Int32) (m' : Row) (td' : Row) (ah' : Row) (d' : Row) (nn' : Int32) (p9' : Nat) (fo' : Int32) (re' : Int32) (ca' : Int32) (os' : Int32) (od' : Int32) (spa' : Row) (he' : Row) (hr : Rel s' m') (hb : RB (K + 61) m') (hp : p9' ≤ 60) (h6 : ∀ (l : Launch) (D : va_G) (sz : Nat), ∃ fr lo, fr ≤ 18 ∧ lo ≤ 700 ∧ MI l y6 c6 n6 (some .int) fr lo D sz (.ref o :: As) (WC D o ha ta L w1 w2 M y1 y2 b0 b1 b2 b3 bw u0 u1 HL HW1 HW2 s t hs en tb sh n0 nu lt br le k tx T) r (WC D o ha ta L w1 w2 M y1 y2 b0 b1 b2 b3 bw u0 u1 (roN k HL) (roN k HW1) (roN k HW2) (s') t (khS k hs s) (en') (tb') (sh') (n0') (nu') (lt') (br') (le') (khN k) tx T)) (h7 : ∀ (l : Launch) (D : va_G) (sz : Nat), ∃ fr lo, fr ≤ 18 ∧ lo ≤ 700 ∧ MI l y7 c7 n7 (some .int) fr lo D sz (.ref (Lm 0) :: As) (WR D Lm nu k tx T m pa td ah d nn p9 fo re ca os od spa he) r (WR D Lm (nu') ((pushR m pa k).2) tx T (m') ((pushR m pa k).1) (td') (ah') (d') (nn') (p9') (fo') (re') (ca') (os') (od') (spa') (he'))) : SIM o ha ta L w1 w2 M y1 y2 b0 b1 b2 b3 bw u0 u1 Lm K y6 c6 n6 y7 c7 n7 As (HL, HW1, HW2, s, t, hs, (en, tb, sh, n0), (nu, lt, br, le), k, tx, T) (m, pa, (td, ah, d, nn), p9, (fo, re, ca, os, od), spa, he) := by
  obtain ⟨e, q1, q2, q3, q4, q5, q6, q7, q8⟩ := hI.change hr hb
  rw [e] at h7
  exact ⟨r, (roN k HL, roN k HW1, roN k HW2, s', t, khS k hs s, (en', tb', sh', n0'), (nu', lt', br', le'), khN k, tx, T), (m', (pushR m pa k).1, (td', ah', d', nn'), p9', (fo', re', ca', os', od'), spa', he'), ⟨q1, q2, q3, q4, q5, q6, q7, hp⟩, h6, h7⟩
theorem RB.rel {K : Nat} {s s' : ChS} {m m' : Row} (h : RB K m) (r : Rel s m) (r' : Rel s' m') (e1 : s'.bc = s.bc) (e2 : s'.tc = s.tc) : RB (K + 61) m' := by
  obtain ⟨-, -, -, -, -, -, -, -, -, -, -, a1, a2, -⟩ := r
  obtain ⟨-, -, -, -, -, -, -, -, -, -, -, c1, c2, -⟩ := r'
  exact (h.mono (Nat.le_add_right _ _)).congr (c2.symm.trans (e2.trans a2)) (c1.symm.trans (e1.trans a1))
theorem sim_write {K : Nat} {c : DS} {x : MS} (hI : INV K c x) (a b : Int32) : SIM o ha ta L w1 w2 M y1 y2 b0 b1 b2 b3 bw u0 u1 Lm K yX6_write cX6_write 3 yX7_write cX7_write 3 [.int a, .int b] c x := by
  obtain ⟨HL, HW1, HW2, s, t, hs, ⟨en, tb, sh, n0⟩, ⟨nu, lt, br, le⟩, k, tx, T⟩ := c
  obtain ⟨m, pa, ⟨td, ah, d, nn⟩, p9, ⟨fo, re, ca, os, od⟩, spa, he⟩ := x
  replace hI : INVx K s hs k tx T m pa p9 := hI
  obtain ⟨hk, hT, htx, hr, hh, hb, hhb, hp9⟩ := id hI
  by_cases g : (¬ sp_X7_isRegister a = 0) ∧ ¬ sp_X7_in b 0 255 = 0
  · obtain ⟨g1, g2⟩ := id g
    obtain ⟨i, hi, -, rfl⟩ := in_of (l := 0) (N := 6) (by decide) (by decide) g1
    obtain ⟨v, hv, -, rfl⟩ := in_of (l := 0) (N := 255) (by decide) (by decide) g2
    obtain ⟨e, r'⟩ := hr.write (v := v) hi hv
    exact SIM.chg o ha ta L w1 w2 M y1 y2 b0 b1 b2 b3 bw u0 u1 Lm hI ((sp_X3_writeRegister s i (nI v)).1) ((sp_X3_writeRegister s i (nI v)).2) en tb sh n0 nu lt br le ((sp_X7_write m i v).2) td ah d nn p9 fo re ca os od spa he (r') (hb.rel hr r' rfl rfl) hp9 (fun l D sz => ⟨_, _, by decide, by decide, c_X6_write l D sz o ha ta L w1 w2 M y1 y2 HL HW1 HW2 b0 b1 b2 b3 bw u0 u1 tx T s t hs en tb sh n0 nu lt br le k hk hT i (nI v) hi (mw1 g1 g2)⟩) (fun l D sz => ⟨2, 42, by decide, by decide, by (rw [e]; exact c_X7_write_0 l D sz Lm _ _ _ _ _ _ _ _ _ _ _ _ _ _ _ _ _ _ _ _ hi hv hk)⟩)
  · exact SIM.same o ha ta L w1 w2 M y1 y2 b0 b1 b2 b3 bw u0 u1 Lm hI (-1000001) (fun l D sz => ⟨_, _, by decide, by decide, c_X6_writeB l D sz o ha ta L w1 w2 M y1 y2 HL HW1 HW2 b0 b1 b2 b3 bw u0 u1 tx T s t hs en tb sh n0 nu lt br le k hk hT a b (mw0 g)⟩) (fun l D sz => ⟨_, _, by decide, by decide, c_X7_write_bad l D sz Lm _ _ _ _ _ _ _ _ _ _ _ _ _ _ _ _ _ _ _ a b g⟩)
theorem sim_read {K : Nat} {c : DS} {x : MS} (hI : INV K c x) (a : Int32) : SIM o ha ta L w1 w2 M y1 y2 b0 b1 b2 b3 bw u0 u1 Lm K yX6_read cX6_read 2 yX7_read cX7_read 3 [.int a] c x := by
  obtain ⟨HL, HW1, HW2, s, t, hs, ⟨en, tb, sh, n0⟩, ⟨nu, lt, br, le⟩, k, tx, T⟩ := c
  obtain ⟨m, pa, ⟨td, ah, d, nn⟩, p9, ⟨fo, re, ca, os, od⟩, spa, he⟩ := x
  replace hI : INVx K s hs k tx T m pa p9 := hI
  obtain ⟨hk, hT, htx, hr, hh, hb, hhb, hp9⟩ := id hI
  by_cases g : ¬ sp_X7_isRegister a = 0
  · obtain ⟨i, hi, -, rfl⟩ := in_of (l := 0) (N := 6) (by decide) (by decide) g
    obtain ⟨p, z, q, hok⟩ := hr.rok
    obtain ⟨e, r'⟩ := hr.read (q := q) hi
    obtain ⟨z1, z2, z3, z4⟩ := hr.ring
    have hq := hok.q37
    exact SIM.chg o ha ta L w1 w2 M y1 y2 b0 b1 b2 b3 bw u0 u1 Lm hI (s.v i) ((sp_X3_readRegister s i q).2) en tb sh n0 nu lt br le ((sp_X7_read m i q).2) td ah d nn p9 fo re ca os od spa he (r') (hb.rel hr r' (ppF_bc _ _) (ppF_tc _ _)) hp9 (fun l D sz => ⟨_, _, by decide, by decide, c_X6_read l D sz o ha ta L w1 w2 M y1 y2 HL HW1 HW2 b0 b1 b2 b3 bw u0 u1 tx T s t hs en tb sh n0 nu lt br le k hk hT q _ _ hq.1 (hr.se0.trans hq.2) z1 z3 z2 z4 i hi g⟩) (fun l D sz => ⟨12, 261, by decide, by decide, by (rw [e]; exact c_X7_read_0 l D sz Lm _ _ _ _ _ _ _ _ _ _ _ _ _ _ _ _ _ _ _ hi hk _ hq.1 hq.2)⟩)
  · exact SIM.same o ha ta L w1 w2 M y1 y2 b0 b1 b2 b3 bw u0 u1 Lm hI (-1000001) (fun l D sz => ⟨_, _, by decide, by decide, c_X6_readB l D sz o ha ta L w1 w2 M y1 y2 HL HW1 HW2 b0 b1 b2 b3 bw u0 u1 tx T s t hs en tb sh n0 nu lt br le k hk hT a (not_not' g)⟩) (fun l D sz => ⟨_, _, by decide, by decide, c_X7_read_bad l D sz Lm _ _ _ _ _ _ _ _ _ _ _ _ _ _ _ _ _ _ _ a g⟩)
theorem sim_pass {K : Nat} {c : DS} {x : MS} (hI : INV K c x) (a : Int32) : SIM o ha ta L w1 w2 M y1 y2 b0 b1 b2 b3 bw u0 u1 Lm K yX6_pass cX6_pass 2 yX7_pass cX7_pass 2 [.int a] c x := by
  obtain ⟨HL, HW1, HW2, s, t, hs, ⟨en, tb, sh, n0⟩, ⟨nu, lt, br, le⟩, k, tx, T⟩ := c
  obtain ⟨m, pa, ⟨td, ah, d, nn⟩, p9, ⟨fo, re, ca, os, od⟩, spa, he⟩ := x
  replace hI : INVx K s hs k tx T m pa p9 := hI
  obtain ⟨hk, hT, htx, hr, hh, hb, hhb, hp9⟩ := id hI
  by_cases g : ¬ sp_X7_in a 1 9999 = 0
  · obtain ⟨i, hi, hi1, rfl⟩ := in_of (l := 1) (N := 9999) (by decide) (by decide) g
    obtain ⟨e, r'⟩ := hr.phases i
    exact SIM.chg o ha ta L w1 w2 M y1 y2 b0 b1 b2 b3 bw u0 u1 Lm hI ((ppF s i).1) ((ppF s i).2) en tb sh n0 nu lt br le (phF m i) td ah d nn p9 fo re ca os od spa he (r') (hb.rel hr r' (ppF_bc _ _) (ppF_tc _ _)) hp9 (fun l D sz => ⟨_, _, by decide, by decide, c_X6_pass l D sz o ha ta L w1 w2 M y1 y2 HL HW1 HW2 b0 b1 b2 b3 bw u0 u1 tx T s t hs en tb sh n0 nu lt br le k hk hT i hi g⟩) (fun l D sz => ⟨12, 261, by decide, by decide, by (rw [e]; exact c_X7_pass_0 l D sz Lm _ _ _ _ _ _ _ _ _ _ _ _ _ _ _ _ _ _ _ hi hk hi1)⟩)
  · exact SIM.same o ha ta L w1 w2 M y1 y2 b0 b1 b2 b3 bw u0 u1 Lm hI (-1000001) (fun l D sz => ⟨_, _, by decide, by decide, c_X6_passB l D sz o ha ta L w1 w2 M y1 y2 HL HW1 HW2 b0 b1 b2 b3 bw u0 u1 tx T s t hs en tb sh n0 nu lt br le k hk hT a (not_not' g)⟩) (fun l D sz => ⟨_, _, by decide, by decide, c_X7_pass_bad l D sz Lm _ _ _ _ _ _ _ _ _ _ _ _ _ _ _ _ _ _ _ a g⟩)
theorem sim_alarm {K : Nat} {c : DS} {x : MS} (hI : INV K c x) (x0 x1 x2 : Int32) : SIM o ha ta L w1 w2 M y1 y2 b0 b1 b2 b3 bw u0 u1 Lm K yX6_alarm cX6_alarm 4 yX7_alarm cX7_alarm 5 [.int x0, .int x1, .int x2] c x := by
  obtain ⟨HL, HW1, HW2, s, t, hs, ⟨en, tb, sh, n0⟩, ⟨nu, lt, br, le⟩, k, tx, T⟩ := c
  obtain ⟨m, pa, ⟨td, ah, d, nn⟩, p9, ⟨fo, re, ca, os, od⟩, spa, he⟩ := x
  replace hI : INVx K s hs k tx T m pa p9 := hI
  obtain ⟨hk, hT, htx, hr, hh, hb, hhb, hp9⟩ := id hI
  by_cases g : (¬ sp_X7_isAlarm x0 = 0) ∧ (¬ sp_X7_in x1 0 4 = 0) ∧ ¬ sp_X7_in x2 0 255 = 0
  · obtain ⟨g1, g2, g3⟩ := id g
    obtain ⟨a, ha3, -, rfl⟩ := in_of (l := 0) (N := 2) (by decide) (by decide) g1
    obtain ⟨r, hr5, -, rfl⟩ := in_of (l := 0) (N := 4) (by decide) (by decide) g2
    obtain ⟨v, hv, -, rfl⟩ := in_of (l := 0) (N := 255) (by decide) (by decide) g3
    have r' := hr.setal (x := nI v) ha3 hr5 ⟨v, hv, rfl⟩
    have e : s.av a r = m (40 + 9 * a + r) := hr.alv ha3 hr5
    exact SIM.chg o ha ta L w1 w2 M y1 y2 b0 b1 b2 b3 bw u0 u1 Lm hI (s.av a r) (ChS.new s.v s.f s.g s.r (upR s.av a (upd (s.av a) r (nI v))) s.mk s.cm s.ar s.fl s.en s.la s.zs s.se s.ph s.tk s.pc s.rc s.wc s.bc s.tc) en tb sh n0 nu lt br le ((sp_X7_alarm m a r v).2) td ah d nn p9 fo re ca os od spa he (r') (hb.rel hr r' rfl rfl) hp9 (fun l D sz => ⟨_, _, by decide, by decide, c_X6_alarm l D sz o ha ta L w1 w2 M y1 y2 HL HW1 HW2 b0 b1 b2 b3 bw u0 u1 tx T s t hs en tb sh n0 nu lt br le k hk hT a r (nI v) ha3 hr5 (ma1 g1 g2 g3)⟩) (fun l D sz => ⟨2, 42, by decide, by decide, by (rw [e]; exact c_X7_alarm_0 l D sz Lm _ _ _ _ _ _ _ _ _ _ _ _ _ _ _ _ _ _ a r v ha3 hr5 hv hk)⟩)
  · exact SIM.same o ha ta L w1 w2 M y1 y2 b0 b1 b2 b3 bw u0 u1 Lm hI (-1000001) (fun l D sz => ⟨_, _, by decide, by decide, c_X6_alarmB l D sz o ha ta L w1 w2 M y1 y2 HL HW1 HW2 b0 b1 b2 b3 bw u0 u1 tx T s t hs en tb sh n0 nu lt br le k hk hT x0 x1 x2 (ma0 g)⟩) (fun l D sz => ⟨_, _, by decide, by decide, c_X7_alarm_bad l D sz Lm _ _ _ _ _ _ _ _ _ _ _ _ _ _ _ _ _ _ _ x0 x1 x2 g⟩)
theorem sim_clear {K : Nat} {c : DS} {x : MS} (hI : INV K c x) : SIM o ha ta L w1 w2 M y1 y2 b0 b1 b2 b3 bw u0 u1 Lm K yX6_clear cX6_clear 2 yX7_clear cX7_clear 3 [] c x := by
  obtain ⟨HL, HW1, HW2, s, t, hs, ⟨en, tb, sh, n0⟩, ⟨nu, lt, br, le⟩, k, tx, T⟩ := c
  obtain ⟨m, pa, ⟨td, ah, d, nn⟩, p9, ⟨fo, re, ca, os, od⟩, spa, he⟩ := x
  replace hI : INVx K s hs k tx T m pa p9 := hI
  obtain ⟨hk, hT, htx, hr, hh, hb, hhb, hp9⟩ := id hI
  have r' := hr.clear
  have e := hr.flags
  exact SIM.chg o ha ta L w1 w2 M y1 y2 b0 b1 b2 b3 bw u0 u1 Lm hI (s.fl) (ChS.new s.v s.f s.g s.r s.av s.mk s.cm s.ar 0 s.en s.la s.zs s.se s.ph s.tk s.pc s.rc s.wc s.bc s.tc) en tb sh n0 nu lt br le (clN m 3) td ah d nn p9 fo re ca os od spa he (r') (hb.rel hr r' rfl rfl) hp9 (fun l D sz => ⟨_, _, by decide, by decide, c_X6_clear l D sz o ha ta L w1 w2 M y1 y2 HL HW1 HW2 b0 b1 b2 b3 bw u0 u1 tx T s t hs en tb sh n0 nu lt br le k hk hT⟩) (fun l D sz => ⟨2, 42, by decide, by decide, by (rw [e]; exact c_X7_clear_0 l D sz Lm _ _ _ _ _ _ _ _ _ _ _ _ _ _ _ _ _ _ hk)⟩)
theorem sim_clearText {K : Nat} {c : DS} {x : MS} (hI : INV K c x) : SIM o ha ta L w1 w2 M y1 y2 b0 b1 b2 b3 bw u0 u1 Lm K yX6_clearText cX6_clearText 2 yX7_clearText cX7_clearText 2 [] c x := by
  obtain ⟨HL, HW1, HW2, s, t, hs, ⟨en, tb, sh, n0⟩, ⟨nu, lt, br, le⟩, k, tx, T⟩ := c
  obtain ⟨m, pa, ⟨td, ah, d, nn⟩, p9, ⟨fo, re, ca, os, od⟩, spa, he⟩ := x
  replace hI : INVx K s hs k tx T m pa p9 := hI
  obtain ⟨hk, hT, htx, hr, hh, hb, hhb, hp9⟩ := id hI
  exact SIM.mk o ha ta L w1 w2 M y1 y2 b0 b1 b2 b3 bw u0 u1 Lm (nI T) HL HW1 HW2 s t hs en tb sh n0 nu lt br le k tx 0 m pa td ah d nn p9 fo re ca os od spa he ⟨hk, by decide, htx, hr, hh, hb.mono (by omega), hhb.mono (by omega), hp9⟩ (fun l D sz => ⟨_, _, by decide, by decide, c_X6_clearText l D sz o ha ta L w1 w2 M y1 y2 HL HW1 HW2 b0 b1 b2 b3 bw u0 u1 tx T s t hs en tb sh n0 nu lt br le k hk hT⟩) (fun l D sz => ⟨_, _, by decide, by decide, c_X7_clearText l D sz Lm _ _ _ _ _ _ _ _ _ _ _ _ _ _ _ _ _ _ _⟩)
theorem sim_readable {K : Nat} {c : DS} {x : MS} (hI : INV K c x) : SIM o ha ta L w1 w2 M y1 y2 b0 b1 b2 b3 bw u0 u1 Lm K yX6_readable cX6_readable 3 yX7_readable cX7_readable 2 [] c x := by
  obtain ⟨HL, HW1, HW2, s, t, hs, ⟨en, tb, sh, n0⟩, ⟨nu, lt, br, le⟩, k, tx, T⟩ := c
  obtain ⟨m, pa, ⟨td, ah, d, nn⟩, p9, ⟨fo, re, ca, os, od⟩, spa, he⟩ := x
  replace hI : INVx K s hs k tx T m pa p9 := hI
  obtain ⟨hk, hT, htx, hr, hh, hb, hhb, hp9⟩ := id hI
  obtain ⟨p, z, q, hok⟩ := hr.rok
  have e := hr.readable hok
  exact SIM.same o ha ta L w1 w2 M y1 y2 b0 b1 b2 b3 bw u0 u1 Lm hI (nI (rbF s 7 1)) (fun l D sz => ⟨_, _, by decide, by decide, c_X6_readable l D sz o ha ta L w1 w2 M y1 y2 HL HW1 HW2 b0 b1 b2 b3 bw u0 u1 tx T s t hs en tb sh n0 nu lt br le k hk hT⟩) (fun l D sz => ⟨0, 0, by decide, by decide, by (rw [e]; exact c_X7_readable l D sz Lm _ _ _ _ _ _ _ _ _ _ _ _ _ _ _ _ _ _ _ _ _ _ hok)⟩)
theorem sim_safeIn {K : Nat} {c : DS} {x : MS} (hI : INV K c x) : SIM o ha ta L w1 w2 M y1 y2 b0 b1 b2 b3 bw u0 u1 Lm K yX6_safeIn cX6_safeIn 3 yX7_safeIn cX7_safeIn 2 [] c x := by
  obtain ⟨HL, HW1, HW2, s, t, hs, ⟨en, tb, sh, n0⟩, ⟨nu, lt, br, le⟩, k, tx, T⟩ := c
  obtain ⟨m, pa, ⟨td, ah, d, nn⟩, p9, ⟨fo, re, ca, os, od⟩, spa, he⟩ := x
  replace hI : INVx K s hs k tx T m pa p9 := hI
  obtain ⟨hk, hT, htx, hr, hh, hb, hhb, hp9⟩ := id hI
  obtain ⟨p, z, q, hok⟩ := hr.rok
  have e := hr.safe hok
  exact SIM.same o ha ta L w1 w2 M y1 y2 b0 b1 b2 b3 bw u0 u1 Lm hI (sp_X6_safeIn s) (fun l D sz => ⟨_, _, by decide, by decide, c_X6_safeIn l D sz o ha ta L w1 w2 M y1 y2 HL HW1 HW2 b0 b1 b2 b3 bw u0 u1 tx T s t hs en tb sh n0 nu lt br le k hk hT⟩) (fun l D sz => ⟨0, 0, by decide, by decide, by (rw [e]; exact c_X7_safeIn l D sz Lm _ _ _ _ _ _ _ _ _ _ _ _ _ _ _ _ _ _ _ _ _ _ hok)⟩)
end SIM1
