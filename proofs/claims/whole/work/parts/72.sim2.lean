/-! the calls side by side: more -/
theorem nI_lt' {i j : Nat} (hi : i < 2147483648) (hj : j < 2147483648) : nI i < nI j ↔ i < j := by
  rw [Int32.lt_iff_toInt_lt, nI_int hi, nI_int hj]; omega
theorem ge_of {x : Int32} (h : ¬ x < 0) : ∃ q, q < 2147483648 ∧ x = nI q := by
  have h2 : ¬ sp_X7_in x (nI 0) (nI 2147483647) = 0 := by
    unfold sp_X7_in
    rw [if_neg (show ¬ x < nI 0 from h), if_neg (show ¬ nI 2147483647 < x from fun c => by
      rw [Int32.lt_iff_toInt_lt, nI_int (by decide)] at c
      have := Int32.toInt_lt x
      omega)]
    decide
  obtain ⟨k, hk, -, e⟩ := in_of (by decide) (by decide) h2
  exact ⟨k, hk, e⟩
theorem Rel.arv {s : ChS} {m : Row} (h : Rel s m) {a : Nat} (ha : a < 3) : sp_X6_bitOf s.ar (nI a) = m (40 + 9 * a + 6) := (h.2.1.2.2.2 a ha).2.2.1
theorem Rel.fv {s : ChS} {m : Row} (h : Rel s m) {i : Nat} (hi : i < 7) : s.f i = m (7 + i) := (h.1 i hi).2.1
section SIM2
variable (o ha ta : Nat) (L w1 w2 M y1 y2 : Nat → Nat) (b0 b1 b2 b3 : Nat) (bw : Nat → Nat) (u0 u1 : Nat) (Lm : Nat → Nat)
theorem sim_arm {K : Nat} {c : DS} {x : MS} (hI : INV K c x) (x0 x1 : Int32) : SIM o ha ta L w1 w2 M y1 y2 b0 b1 b2 b3 bw u0 u1 Lm K yX6_arm cX6_arm 3 yX7_arm cX7_arm 5 [.int x0, .int x1] c x := by
  obtain ⟨HL, HW1, HW2, s, t, hs, ⟨en, tb, sh, n0⟩, ⟨nu, lt, br, le⟩, k, tx, T⟩ := c
  obtain ⟨m, pa, ⟨td, ah, d, nn⟩, p9, ⟨fo, re, ca, os, od⟩, spa, he⟩ := x
  replace hI : INVx K s hs k tx T m pa p9 := hI
  obtain ⟨hk, hT, htx, hr, hh, hb, hhb, hp9⟩ := id hI
  by_cases g : (¬ sp_X7_isAlarm x0 = 0) ∧ ¬ sp_X7_in x1 (-1) 31 = 0
  · obtain ⟨g1, g2⟩ := id g
    obtain ⟨a, ha3, -, rfl⟩ := in_of (l := 0) (N := 2) (by decide) (by decide) g1
    rcases (in_iffM x1 31 (by decide)).mp g2 with rfl | ⟨v, hv, rfl⟩
    · obtain ⟨e, r'⟩ := hr.armM ha3
      exact SIM.chg o ha ta L w1 w2 M y1 y2 b0 b1 b2 b3 bw u0 u1 Lm hI ((sp_X0_changeMaskM s.ar a).1) (ChS.new s.v s.f s.g s.r s.av s.mk s.cm (sp_X0_changeMaskM s.ar a).2 s.fl s.en s.la s.zs s.se s.ph s.tk s.pc s.rc s.wc s.bc s.tc) en tb sh n0 nu lt br le ((sp_X7_armM m a).2) td ah d nn p9 fo re ca os od spa he (r') (hb.rel hr r' rfl rfl) hp9 (fun l D sz => ⟨_, _, by decide, by decide, c_X6_armM l D sz o ha ta L w1 w2 M y1 y2 HL HW1 HW2 b0 b1 b2 b3 bw u0 u1 tx T s t hs en tb sh n0 nu lt br le k hk hT a ha3 g1⟩) (fun l D sz => ⟨2, 42, by decide, by decide, by (rw [e]; exact c_X7_armM_0 l D sz Lm _ _ _ _ _ _ _ _ _ _ _ _ _ _ _ _ _ _ a ha3 hk)⟩)
    · obtain ⟨e, r'⟩ := hr.arm (y := v) ha3 hv
      exact SIM.chg o ha ta L w1 w2 M y1 y2 b0 b1 b2 b3 bw u0 u1 Lm hI ((sp_X0_changeMask s.mk s.ar a v).1) (ChS.new s.v s.f s.g s.r s.av (sp_X0_changeMask s.mk s.ar a v).2.1 s.cm (sp_X0_changeMask s.mk s.ar a v).2.2 s.fl s.en s.la s.zs s.se s.ph s.tk s.pc s.rc s.wc s.bc s.tc) en tb sh n0 nu lt br le ((sp_X7_arm m a v).2) td ah d nn p9 fo re ca os od spa he (r') (hb.rel hr r' rfl rfl) hp9 (fun l D sz => ⟨_, _, by decide, by decide, c_X6_arm l D sz o ha ta L w1 w2 M y1 y2 HL HW1 HW2 b0 b1 b2 b3 bw u0 u1 tx T s t hs en tb sh n0 nu lt br le k hk hT a v ha3 hv g1 g2⟩) (fun l D sz => ⟨2, 42, by decide, by decide, by (rw [e]; exact c_X7_arm_0 l D sz Lm _ _ _ _ _ _ _ _ _ _ _ _ _ _ _ _ _ _ a v ha3 hv hk)⟩)
  · by_cases g1 : sp_X7_isAlarm x0 = 0
    · exact SIM.same o ha ta L w1 w2 M y1 y2 b0 b1 b2 b3 bw u0 u1 Lm hI (-1000001) (fun l D sz => ⟨_, _, by decide, by decide, c_X6_armB l D sz o ha ta L w1 w2 M y1 y2 HL HW1 HW2 b0 b1 b2 b3 bw u0 u1 tx T s t hs en tb sh n0 nu lt br le k hk hT x0 x1 g1⟩) (fun l D sz => ⟨_, _, by decide, by decide, c_X7_arm_bad l D sz Lm _ _ _ _ _ _ _ _ _ _ _ _ _ _ _ _ _ _ _ x0 x1 g⟩)
    · exact SIM.same o ha ta L w1 w2 M y1 y2 b0 b1 b2 b3 bw u0 u1 Lm hI (-1000001) (fun l D sz => ⟨_, _, by decide, by decide, c_X6_armC l D sz o ha ta L w1 w2 M y1 y2 HL HW1 HW2 b0 b1 b2 b3 bw u0 u1 tx T s t hs en tb sh n0 nu lt br le k hk hT x0 x1 g1 (Classical.byContradiction fun q => g ⟨g1, q⟩)⟩) (fun l D sz => ⟨_, _, by decide, by decide, c_X7_arm_bad l D sz Lm _ _ _ _ _ _ _ _ _ _ _ _ _ _ _ _ _ _ _ x0 x1 g⟩)
theorem sim_fail {K : Nat} {c : DS} {x : MS} (hI : INV K c x) (x0 x1 x2 : Int32) : SIM o ha ta L w1 w2 M y1 y2 b0 b1 b2 b3 bw u0 u1 Lm K yX6_fail cX6_fail 4 yX7_fail cX7_fail 4 [.int x0, .int x1, .int x2] c x := by
  obtain ⟨HL, HW1, HW2, s, t, hs, ⟨en, tb, sh, n0⟩, ⟨nu, lt, br, le⟩, k, tx, T⟩ := c
  obtain ⟨m, pa, ⟨td, ah, d, nn⟩, p9, ⟨fo, re, ca, os, od⟩, spa, he⟩ := x
  replace hI : INVx K s hs k tx T m pa p9 := hI
  obtain ⟨hk, hT, htx, hr, hh, hb, hhb, hp9⟩ := id hI
  by_cases g : (¬ sp_X7_isRegister x0 = 0) ∧ (¬ sp_X7_in x1 0 7 = 0) ∧ ¬ sp_X7_in x2 0 1 = 0
  · obtain ⟨g1, g2, g3⟩ := id g
    have gc := ic1 g1 g2
    obtain ⟨i, hi, -, rfl⟩ := in_of (l := 0) (N := 6) (by decide) (by decide) g1
    obtain ⟨q, hq8, -, rfl⟩ := in_of (l := 0) (N := 7) (by decide) (by decide) g2
    obtain ⟨v, hv, -, rfl⟩ := in_of (l := 0) (N := 1) (by decide) (by decide) g3
    have hf := hr.fv hi
    by_cases c : (m (7 + i) >>> (nI q &&& 31)) &&& 1 = 1
    · exact SIM.same o ha ta L w1 w2 M y1 y2 b0 b1 b2 b3 bw u0 u1 Lm hI (-1000002) (fun l D sz => ⟨_, _, by decide, by decide, c_X6_failN l D sz o ha ta L w1 w2 M y1 y2 HL HW1 HW2 b0 b1 b2 b3 bw u0 u1 tx T s t hs en tb sh n0 nu lt br le k hk hT i q hi hq8 v hv gc g3 (fun w => (failed_iff s.f i q).mp w (by rw [hf]; exact c))⟩) (fun l D sz => ⟨_, _, by decide, by decide, c_X7_fail_np l D sz Lm _ _ _ _ _ _ _ _ _ _ _ _ _ _ _ _ _ _ _ i q v hi hq8 hv c⟩)
    · obtain ⟨e, r'⟩ := hr.fail hi hq8 hv c
      exact SIM.chg o ha ta L w1 w2 M y1 y2 b0 b1 b2 b3 bw u0 u1 Lm hI ((sp_X5_failCell s.v s.f s.g i q v).1) (ChS.new (sp_X5_failCell s.v s.f s.g i q v).2.1 (sp_X5_failCell s.v s.f s.g i q v).2.2.1 (sp_X5_failCell s.v s.f s.g i q v).2.2.2 s.r s.av s.mk s.cm s.ar s.fl s.en s.la s.zs s.se s.ph s.tk s.pc s.rc s.wc s.bc s.tc) en tb sh n0 nu lt br le ((sp_X7_fail m i q v).2) td ah d nn p9 fo re ca os od spa he (r') (hb.rel hr r' rfl rfl) hp9 (fun l D sz => ⟨_, _, by decide, by decide, c_X6_fail l D sz o ha ta L w1 w2 M y1 y2 HL HW1 HW2 b0 b1 b2 b3 bw u0 u1 tx T s t hs en tb sh n0 nu lt br le k hk hT i q hi hq8 v hv gc g3 ((failed_iff s.f i q).mpr (by rw [hf]; exact c))⟩) (fun l D sz => ⟨2, 42, by decide, by decide, by (rw [e]; exact c_X7_fail_0 l D sz Lm _ _ _ _ _ _ _ _ _ _ _ _ _ _ _ _ _ _ i q v hi hq8 hv hk c)⟩)
  · by_cases g1 : sp_X6_isCell x0 x1 = 0
    · exact SIM.same o ha ta L w1 w2 M y1 y2 b0 b1 b2 b3 bw u0 u1 Lm hI (-1000001) (fun l D sz => ⟨_, _, by decide, by decide, c_X6_failB l D sz o ha ta L w1 w2 M y1 y2 HL HW1 HW2 b0 b1 b2 b3 bw u0 u1 tx T s t hs en tb sh n0 nu lt br le k hk hT x0 x1 x2 g1⟩) (fun l D sz => ⟨_, _, by decide, by decide, c_X7_fail_bad l D sz Lm _ _ _ _ _ _ _ _ _ _ _ _ _ _ _ _ _ _ _ x0 x1 x2 g⟩)
    · exact SIM.same o ha ta L w1 w2 M y1 y2 b0 b1 b2 b3 bw u0 u1 Lm hI (-1000001) (fun l D sz => ⟨_, _, by decide, by decide, c_X6_failC l D sz o ha ta L w1 w2 M y1 y2 HL HW1 HW2 b0 b1 b2 b3 bw u0 u1 tx T s t hs en tb sh n0 nu lt br le k hk hT x0 x1 x2 g1 (Classical.byContradiction fun q => g1 (ic0 fun w => g ⟨w.1, w.2, q⟩))⟩) (fun l D sz => ⟨_, _, by decide, by decide, c_X7_fail_bad l D sz Lm _ _ _ _ _ _ _ _ _ _ _ _ _ _ _ _ _ _ _ x0 x1 x2 g⟩)
theorem sim_heal {K : Nat} {c : DS} {x : MS} (hI : INV K c x) (x0 x1 : Int32) : SIM o ha ta L w1 w2 M y1 y2 b0 b1 b2 b3 bw u0 u1 Lm K yX6_heal cX6_heal 3 yX7_heal cX7_heal 3 [.int x0, .int x1] c x := by
  obtain ⟨HL, HW1, HW2, s, t, hs, ⟨en, tb, sh, n0⟩, ⟨nu, lt, br, le⟩, k, tx, T⟩ := c
  obtain ⟨m, pa, ⟨td, ah, d, nn⟩, p9, ⟨fo, re, ca, os, od⟩, spa, he⟩ := x
  replace hI : INVx K s hs k tx T m pa p9 := hI
  obtain ⟨hk, hT, htx, hr, hh, hb, hhb, hp9⟩ := id hI
  by_cases g : (¬ sp_X7_isRegister x0 = 0) ∧ ¬ sp_X7_in x1 0 7 = 0
  · obtain ⟨g1, g2⟩ := id g
    have gc := ic1 g1 g2
    obtain ⟨i, hi, -, rfl⟩ := in_of (l := 0) (N := 6) (by decide) (by decide) g1
    obtain ⟨q, hq8, -, rfl⟩ := in_of (l := 0) (N := 7) (by decide) (by decide) g2
    have hf := hr.fv hi
    by_cases c : (m (7 + i) >>> (nI q &&& 31)) &&& 1 = 0
    · exact SIM.same o ha ta L w1 w2 M y1 y2 b0 b1 b2 b3 bw u0 u1 Lm hI (-1000002) (fun l D sz => ⟨_, _, by decide, by decide, c_X6_healN l D sz o ha ta L w1 w2 M y1 y2 HL HW1 HW2 b0 b1 b2 b3 bw u0 u1 tx T s t hs en tb sh n0 nu lt br le k hk hT i q hi hq8 gc ((failed_iff s.f i q).mpr (fun w => by rw [show sp_X6_bitOf (s.f i) (nI q) = 0 from (by rw [hf]; exact c)] at w; exact absurd w (by decide)))⟩) (fun l D sz => ⟨_, _, by decide, by decide, c_X7_heal_np l D sz Lm _ _ _ _ _ _ _ _ _ _ _ _ _ _ _ _ _ _ _ i q hi hq8 c⟩)
    · obtain ⟨e, r', hby⟩ := hr.heal hi hq8 c
      exact SIM.chg o ha ta L w1 w2 M y1 y2 b0 b1 b2 b3 bw u0 u1 Lm hI (cfN (sp_X5_healCell s.f s.g i q).1 7) (ChS.new s.v (sp_X5_healCell s.f s.g i q).1 (sp_X5_healCell s.f s.g i q).2 s.r s.av s.mk s.cm s.ar s.fl s.en s.la s.zs s.se s.ph s.tk s.pc s.rc s.wc s.bc s.tc) en tb sh n0 nu lt br le ((sp_X7_heal m i q).2) td ah d nn p9 fo re ca os od spa he (r') (hb.rel hr r' rfl rfl) hp9 (fun l D sz => ⟨_, _, by decide, by decide, c_X6_heal l D sz o ha ta L w1 w2 M y1 y2 HL HW1 HW2 b0 b1 b2 b3 bw u0 u1 tx T s t hs en tb sh n0 nu lt br le k hk hT i q hi hq8 gc (fun w => (failed_iff s.f i q).mp w ((bit01 (s.f i) (nI q)).resolve_left (fun u => c (by rw [← hf]; exact u))))⟩) (fun l D sz => ⟨2, 44, by decide, by decide, by (rw [e]; exact c_X7_heal_0 l D sz Lm _ _ _ _ _ _ _ _ _ _ _ _ _ _ _ _ _ _ i q hi hq8 hk c hby)⟩)
  · exact SIM.same o ha ta L w1 w2 M y1 y2 b0 b1 b2 b3 bw u0 u1 Lm hI (-1000001) (fun l D sz => ⟨_, _, by decide, by decide, c_X6_healB l D sz o ha ta L w1 w2 M y1 y2 HL HW1 HW2 b0 b1 b2 b3 bw u0 u1 tx T s t hs en tb sh n0 nu lt br le k hk hT x0 x1 (ic0 g)⟩) (fun l D sz => ⟨_, _, by decide, by decide, c_X7_heal_bad l D sz Lm _ _ _ _ _ _ _ _ _ _ _ _ _ _ _ _ _ _ _ x0 x1 g⟩)
theorem cs_bc (s : ChS) (i : Nat) (x : Int32) : (sp_X3_changeSetting s i x).2.bc = s.bc := by
  unfold sp_X3_changeSetting
  split <;> rfl
theorem cs_tc (s : ChS) (i : Nat) (x : Int32) : (sp_X3_changeSetting s i x).2.tc = s.tc := by
  unfold sp_X3_changeSetting
  split <;> rfl
theorem sim_set {K : Nat} {c : DS} {x : MS} (hI : INV K c x) (x0 x1 : Int32) : SIM o ha ta L w1 w2 M y1 y2 b0 b1 b2 b3 bw u0 u1 Lm K yX6_set cX6_set 3 yX7_set cX7_set 4 [.int x0, .int x1] c x := by
  obtain ⟨HL, HW1, HW2, s, t, hs, ⟨en, tb, sh, n0⟩, ⟨nu, lt, br, le⟩, k, tx, T⟩ := c
  obtain ⟨m, pa, ⟨td, ah, d, nn⟩, p9, ⟨fo, re, ca, os, od⟩, spa, he⟩ := x
  replace hI : INVx K s hs k tx T m pa p9 := hI
  obtain ⟨hk, hT, htx, hr, hh, hb, hhb, hp9⟩ := id hI
  by_cases g1 : sp_X7_in x0 0 2 = 0
  · exact SIM.same o ha ta L w1 w2 M y1 y2 b0 b1 b2 b3 bw u0 u1 Lm hI (-1000001) (fun l D sz => ⟨_, _, by decide, by decide, c_X6_setB l D sz o ha ta L w1 w2 M y1 y2 HL HW1 HW2 b0 b1 b2 b3 bw u0 u1 tx T s t hs en tb sh n0 nu lt br le k hk hT x0 x1 g1⟩) (fun l D sz => ⟨_, _, by decide, by decide, c_X7_set_bad l D sz Lm _ _ _ _ _ _ _ _ _ _ _ _ _ _ _ _ _ _ _ x0 x1 (fun w => w.1 g1)⟩)
  by_cases g : (¬ sp_X7_in x0 0 2 = 0) ∧ ¬ sp_X7_in x1 (if x0 = 2 then 4 else 0) (if x0 = 0 then 8 else if x0 = 1 then 1 else 60) = 0
  · have g2 := g.2
    obtain ⟨i, hi, -, rfl⟩ := in_of (l := 0) (N := 2) (by decide) (by decide) g1
    match i, hi with
    | 0, _ =>
      have g3 : ¬ sp_X7_in x1 0 8 = 0 := g2
      obtain ⟨v, hv, hv1, rfl⟩ := in_of (l := 0) (N := 8) (by decide) (by decide) g3
      obtain ⟨e, r'⟩ := hr.set (i := 0) (v := v) (by decide) (fun w => by omega) (fun w => by omega) (fun w => by omega)
      have rb : RB (K + 61) (setR m 0 (nI v)).2 := hb.rel hr r' (cs_bc _ _ _) (cs_tc _ _ _)
      exact SIM.chg o ha ta L w1 w2 M y1 y2 b0 b1 b2 b3 bw u0 u1 Lm hI ((sp_X3_changeSetting s 0 (nI v)).1) ((sp_X3_changeSetting s 0 (nI v)).2) en tb sh n0 nu lt br le ((setR m 0 (nI v)).2) td ah d nn p9 fo re ca os od spa he (r') (rb) hp9 (fun l D sz => ⟨_, _, by decide, by decide, c_X6_set l D sz o ha ta L w1 w2 M y1 y2 HL HW1 HW2 b0 b1 b2 b3 bw u0 u1 tx T s t hs en tb sh n0 nu lt br le k hk hT 0 (nI v) (by decide) g1 g3⟩) (fun l D sz => ⟨1, 22, by decide, by decide, by (rw [e]; exact c_X7_set0 l D sz Lm _ _ _ _ _ _ _ _ _ _ _ _ _ _ _ _ _ _ v hv1 (Nat.le_of_lt_succ hv) hk)⟩)
    | 1, _ =>
      have g3 : ¬ sp_X7_in x1 0 1 = 0 := g2
      obtain ⟨v, hv, hv1, rfl⟩ := in_of (l := 0) (N := 1) (by decide) (by decide) g3
      obtain ⟨e, r'⟩ := hr.set (i := 1) (v := v) (by decide) (fun w => by omega) (fun w => by omega) (fun w => by omega)
      have rb : RB (K + 61) (setR m 1 (nI v)).2 := hb.rel hr r' (cs_bc _ _ _) (cs_tc _ _ _)
      exact SIM.chg o ha ta L w1 w2 M y1 y2 b0 b1 b2 b3 bw u0 u1 Lm hI ((sp_X3_changeSetting s 1 (nI v)).1) ((sp_X3_changeSetting s 1 (nI v)).2) en tb sh n0 nu lt br le ((setR m 1 (nI v)).2) td ah d nn p9 fo re ca os od spa he (r') (rb) hp9 (fun l D sz => ⟨_, _, by decide, by decide, c_X6_set l D sz o ha ta L w1 w2 M y1 y2 HL HW1 HW2 b0 b1 b2 b3 bw u0 u1 tx T s t hs en tb sh n0 nu lt br le k hk hT 1 (nI v) (by decide) g1 g3⟩) (fun l D sz => ⟨1, 22, by decide, by decide, by (rw [e]; exact c_X7_set1 l D sz Lm _ _ _ _ _ _ _ _ _ _ _ _ _ _ _ _ _ _ v hv1 (Nat.le_of_lt_succ hv) hk)⟩)
    | 2, _ =>
      have g3 : ¬ sp_X7_in x1 4 60 = 0 := g2
      obtain ⟨v, hv, hv1, rfl⟩ := in_of (l := 4) (N := 60) (by decide) (by decide) g3
      obtain ⟨e, r'⟩ := hr.set (i := 2) (v := v) (by decide) (fun w => by omega) (fun w => by omega) (fun w => by omega)
      have rb : RB (K + 61) (setR m 2 (nI v)).2 := hb.rel hr r' (cs_bc _ _ _) (cs_tc _ _ _)
      exact SIM.chg o ha ta L w1 w2 M y1 y2 b0 b1 b2 b3 bw u0 u1 Lm hI ((sp_X3_changeSetting s 2 (nI v)).1) ((sp_X3_changeSetting s 2 (nI v)).2) en tb sh n0 nu lt br le ((setR m 2 (nI v)).2) td ah d nn p9 fo re ca os od spa he (r') (rb) hp9 (fun l D sz => ⟨_, _, by decide, by decide, c_X6_set l D sz o ha ta L w1 w2 M y1 y2 HL HW1 HW2 b0 b1 b2 b3 bw u0 u1 tx T s t hs en tb sh n0 nu lt br le k hk hT 2 (nI v) (by decide) g1 g3⟩) (fun l D sz => ⟨1, 22, by decide, by decide, by (rw [e]; exact c_X7_set2 l D sz Lm _ _ _ _ _ _ _ _ _ _ _ _ _ _ _ _ _ _ v hv1 (Nat.le_of_lt_succ hv) hk)⟩)
  · obtain ⟨i, hi, -, rfl⟩ := in_of (l := 0) (N := 2) (by decide) (by decide) g1
    match i, hi with
    | 0, _ =>
      have g3 : sp_X7_in x1 0 8 = 0 := Classical.byContradiction fun q => g ⟨g1, q⟩
      exact SIM.same o ha ta L w1 w2 M y1 y2 b0 b1 b2 b3 bw u0 u1 Lm hI (-1000001) (fun l D sz => ⟨_, _, by decide, by decide, c_X6_setC l D sz o ha ta L w1 w2 M y1 y2 HL HW1 HW2 b0 b1 b2 b3 bw u0 u1 tx T s t hs en tb sh n0 nu lt br le k hk hT 0 x1 (by decide) g1 g3⟩) (fun l D sz => ⟨_, _, by decide, by decide, c_X7_set_bad l D sz Lm _ _ _ _ _ _ _ _ _ _ _ _ _ _ _ _ _ _ _ (nI 0) x1 g⟩)
    | 1, _ =>
      have g3 : sp_X7_in x1 0 1 = 0 := Classical.byContradiction fun q => g ⟨g1, q⟩
      exact SIM.same o ha ta L w1 w2 M y1 y2 b0 b1 b2 b3 bw u0 u1 Lm hI (-1000001) (fun l D sz => ⟨_, _, by decide, by decide, c_X6_setC l D sz o ha ta L w1 w2 M y1 y2 HL HW1 HW2 b0 b1 b2 b3 bw u0 u1 tx T s t hs en tb sh n0 nu lt br le k hk hT 1 x1 (by decide) g1 g3⟩) (fun l D sz => ⟨_, _, by decide, by decide, c_X7_set_bad l D sz Lm _ _ _ _ _ _ _ _ _ _ _ _ _ _ _ _ _ _ _ (nI 1) x1 g⟩)
    | 2, _ =>
      have g3 : sp_X7_in x1 4 60 = 0 := Classical.byContradiction fun q => g ⟨g1, q⟩
      exact SIM.same o ha ta L w1 w2 M y1 y2 b0 b1 b2 b3 bw u0 u1 Lm hI (-1000001) (fun l D sz => ⟨_, _, by decide, by decide, c_X6_setC l D sz o ha ta L w1 w2 M y1 y2 HL HW1 HW2 b0 b1 b2 b3 bw u0 u1 tx T s t hs en tb sh n0 nu lt br le k hk hT 2 x1 (by decide) g1 g3⟩) (fun l D sz => ⟨_, _, by decide, by decide, c_X7_set_bad l D sz Lm _ _ _ _ _ _ _ _ _ _ _ _ _ _ _ _ _ _ _ (nI 2) x1 g⟩)
theorem sim_log {K : Nat} {c : DS} {x : MS} (hI : INV K c x) (x0 x1 : Int32) : SIM o ha ta L w1 w2 M y1 y2 b0 b1 b2 b3 bw u0 u1 Lm K yX6_log cX6_log 3 yX7_log cX7_log 3 [.int x0, .int x1] c x := by
  obtain ⟨HL, HW1, HW2, s, t, hs, ⟨en, tb, sh, n0⟩, ⟨nu, lt, br, le⟩, k, tx, T⟩ := c
  obtain ⟨m, pa, ⟨td, ah, d, nn⟩, p9, ⟨fo, re, ca, os, od⟩, spa, he⟩ := x
  replace hI : INVx K s hs k tx T m pa p9 := hI
  obtain ⟨hk, hT, htx, hr, hh, hb, hhb, hp9⟩ := id hI
  by_cases g : (¬ x0 < 0) ∧ ¬ sp_X7_in x1 0 9 = 0
  · obtain ⟨g1, g2⟩ := id g
    obtain ⟨q, hq, rfl⟩ := ge_of g1
    obtain ⟨w, hw, -, rfl⟩ := in_of (l := 0) (N := 9) (by decide) (by decide) g2
    obtain ⟨z1, z2, z3, z4⟩ := hr.ring
    obtain ⟨e, z, hz, hzs, h36⟩ := hr.told (q := q) z1 z2 hw
    by_cases c : q < z
    · have c2 : nI q < s.zs := by rw [hzs]; exact (nI_lt' hq (by omega)).mpr c
      exact SIM.same o ha ta L w1 w2 M y1 y2 b0 b1 b2 b3 bw u0 u1 Lm hI (s.en (agoA (nc s.la) q) w) (fun l D sz => ⟨_, _, by decide, by decide, c_X6_log l D sz o ha ta L w1 w2 M y1 y2 HL HW1 HW2 b0 b1 b2 b3 bw u0 u1 tx T s t hs en tb sh n0 nu lt br le k hk hT (nc s.la) z1 z2 q w (by omega) hw g2 c2⟩) (fun l D sz => ⟨1, 22, by decide, by decide, by (rw [e c2 hq]; exact c_X7_log_ok l D sz Lm _ _ _ _ _ _ _ _ _ _ _ _ _ _ _ _ _ _ _ q w hq hw z hz h36 c)⟩)
    · have c2 : ¬ nI q < s.zs := by rw [hzs]; exact fun u => c ((nI_lt' hq (by omega)).mp u)
      exact SIM.same o ha ta L w1 w2 M y1 y2 b0 b1 b2 b3 bw u0 u1 Lm hI (-1000004) (fun l D sz => ⟨_, _, by decide, by decide, c_X6_logN l D sz o ha ta L w1 w2 M y1 y2 HL HW1 HW2 b0 b1 b2 b3 bw u0 u1 tx T s t hs en tb sh n0 nu lt br le k hk hT (nI q) (nI w) g1 g2 c2⟩) (fun l D sz => ⟨_, _, by decide, by decide, c_X7_log_nf l D sz Lm _ _ _ _ _ _ _ _ _ _ _ _ _ _ _ _ _ _ _ q w hq hw z hz h36 (Nat.le_of_not_lt c)⟩)
  · by_cases g1 : x0 < 0
    · exact SIM.same o ha ta L w1 w2 M y1 y2 b0 b1 b2 b3 bw u0 u1 Lm hI (-1000001) (fun l D sz => ⟨_, _, by decide, by decide, c_X6_logB l D sz o ha ta L w1 w2 M y1 y2 HL HW1 HW2 b0 b1 b2 b3 bw u0 u1 tx T s t hs en tb sh n0 nu lt br le k hk hT x0 x1 g1⟩) (fun l D sz => ⟨_, _, by decide, by decide, c_X7_log_bad l D sz Lm _ _ _ _ _ _ _ _ _ _ _ _ _ _ _ _ _ _ _ x0 x1 g⟩)
    · exact SIM.same o ha ta L w1 w2 M y1 y2 b0 b1 b2 b3 bw u0 u1 Lm hI (-1000001) (fun l D sz => ⟨_, _, by decide, by decide, c_X6_logC l D sz o ha ta L w1 w2 M y1 y2 HL HW1 HW2 b0 b1 b2 b3 bw u0 u1 tx T s t hs en tb sh n0 nu lt br le k hk hT x0 x1 g1 (Classical.byContradiction fun q => g ⟨g1, q⟩)⟩) (fun l D sz => ⟨_, _, by decide, by decide, c_X7_log_bad l D sz Lm _ _ _ _ _ _ _ _ _ _ _ _ _ _ _ _ _ _ _ x0 x1 g⟩)
theorem sim_registerOf {K : Nat} {c : DS} {x : MS} (hI : INV K c x) (x0 x1 : Int32) : SIM o ha ta L w1 w2 M y1 y2 b0 b1 b2 b3 bw u0 u1 Lm K yX6_registerOf cX6_registerOf 5 yX7_registerOf cX7_registerOf 3 [.int x0, .int x1] c x := by
  obtain ⟨HL, HW1, HW2, s, t, hs, ⟨en, tb, sh, n0⟩, ⟨nu, lt, br, le⟩, k, tx, T⟩ := c
  obtain ⟨m, pa, ⟨td, ah, d, nn⟩, p9, ⟨fo, re, ca, os, od⟩, spa, he⟩ := x
  replace hI : INVx K s hs k tx T m pa p9 := hI
  obtain ⟨hk, hT, htx, hr, hh, hb, hhb, hp9⟩ := id hI
  by_cases g : (¬ sp_X7_isRegister x0 = 0) ∧ ¬ sp_X7_in x1 0 6 = 0
  · obtain ⟨g1, g2⟩ := id g
    obtain ⟨i, hi, -, rfl⟩ := in_of (l := 0) (N := 6) (by decide) (by decide) g1
    obtain ⟨w, hw, -, rfl⟩ := in_of (l := 0) (N := 6) (by decide) (by decide) g2
    obtain ⟨e0, e1, e2, e3, e4, e5, e6⟩ := hr.regs hi
    match w, hw with
    | 0, _ =>
      exact SIM.same o ha ta L w1 w2 M y1 y2 b0 b1 b2 b3 bw u0 u1 Lm hI (sp_X6_registerOf0 s i) (fun l D sz => ⟨_, _, by decide, by decide, c_X6_registerOf0 l D sz o ha ta L w1 w2 M y1 y2 HL HW1 HW2 b0 b1 b2 b3 bw u0 u1 tx T s t hs en tb sh n0 nu lt br le k hk hT i hi g1⟩) (fun l D sz => ⟨9, 194, by decide, by decide, by (rw [e0]; exact c_X7_registerOf l D sz Lm _ _ _ _ _ _ _ _ _ _ _ _ _ _ _ _ _ _ _ i 0 hi (by decide))⟩)
    | 1, _ =>
      exact SIM.same o ha ta L w1 w2 M y1 y2 b0 b1 b2 b3 bw u0 u1 Lm hI (sp_X6_registerOf1 s i) (fun l D sz => ⟨_, _, by decide, by decide, c_X6_registerOf1 l D sz o ha ta L w1 w2 M y1 y2 HL HW1 HW2 b0 b1 b2 b3 bw u0 u1 tx T s t hs en tb sh n0 nu lt br le k hk hT i hi g1⟩) (fun l D sz => ⟨9, 194, by decide, by decide, by (rw [e1]; exact c_X7_registerOf l D sz Lm _ _ _ _ _ _ _ _ _ _ _ _ _ _ _ _ _ _ _ i 1 hi (by decide))⟩)
    | 2, _ =>
      exact SIM.same o ha ta L w1 w2 M y1 y2 b0 b1 b2 b3 bw u0 u1 Lm hI (sp_X6_registerOf2 s i) (fun l D sz => ⟨_, _, by decide, by decide, c_X6_registerOf2 l D sz o ha ta L w1 w2 M y1 y2 HL HW1 HW2 b0 b1 b2 b3 bw u0 u1 tx T s t hs en tb sh n0 nu lt br le k hk hT i hi g1⟩) (fun l D sz => ⟨9, 194, by decide, by decide, by (rw [e2]; exact c_X7_registerOf l D sz Lm _ _ _ _ _ _ _ _ _ _ _ _ _ _ _ _ _ _ _ i 2 hi (by decide))⟩)
    | 3, _ =>
      exact SIM.same o ha ta L w1 w2 M y1 y2 b0 b1 b2 b3 bw u0 u1 Lm hI (sp_X6_registerOf3 s i) (fun l D sz => ⟨_, _, by decide, by decide, c_X6_registerOf3 l D sz o ha ta L w1 w2 M y1 y2 HL HW1 HW2 b0 b1 b2 b3 bw u0 u1 tx T s t hs en tb sh n0 nu lt br le k hk hT i hi g1⟩) (fun l D sz => ⟨9, 194, by decide, by decide, by (rw [e3]; exact c_X7_registerOf l D sz Lm _ _ _ _ _ _ _ _ _ _ _ _ _ _ _ _ _ _ _ i 3 hi (by decide))⟩)
    | 4, _ =>
      exact SIM.same o ha ta L w1 w2 M y1 y2 b0 b1 b2 b3 bw u0 u1 Lm hI (sp_X6_registerOf4 s i) (fun l D sz => ⟨_, _, by decide, by decide, c_X6_registerOf4 l D sz o ha ta L w1 w2 M y1 y2 HL HW1 HW2 b0 b1 b2 b3 bw u0 u1 tx T s t hs en tb sh n0 nu lt br le k hk hT i hi g1⟩) (fun l D sz => ⟨9, 194, by decide, by decide, by (rw [e4]; exact c_X7_registerOf l D sz Lm _ _ _ _ _ _ _ _ _ _ _ _ _ _ _ _ _ _ _ i 4 hi (by decide))⟩)
    | 5, _ =>
      exact SIM.same o ha ta L w1 w2 M y1 y2 b0 b1 b2 b3 bw u0 u1 Lm hI (sp_X6_registerOf5 s i) (fun l D sz => ⟨_, _, by decide, by decide, c_X6_registerOf5 l D sz o ha ta L w1 w2 M y1 y2 HL HW1 HW2 b0 b1 b2 b3 bw u0 u1 tx T s t hs en tb sh n0 nu lt br le k hk hT i hi g1⟩) (fun l D sz => ⟨9, 194, by decide, by decide, by (rw [e5]; exact c_X7_registerOf l D sz Lm _ _ _ _ _ _ _ _ _ _ _ _ _ _ _ _ _ _ _ i 5 hi (by decide))⟩)
    | 6, _ =>
      exact SIM.same o ha ta L w1 w2 M y1 y2 b0 b1 b2 b3 bw u0 u1 Lm hI (sp_X6_registerOf6 s i) (fun l D sz => ⟨_, _, by decide, by decide, c_X6_registerOf6 l D sz o ha ta L w1 w2 M y1 y2 HL HW1 HW2 b0 b1 b2 b3 bw u0 u1 tx T s t hs en tb sh n0 nu lt br le k hk hT i hi g1⟩) (fun l D sz => ⟨9, 194, by decide, by decide, by (rw [e6]; exact c_X7_registerOf l D sz Lm _ _ _ _ _ _ _ _ _ _ _ _ _ _ _ _ _ _ _ i 6 hi (by decide))⟩)
  · by_cases g1 : sp_X7_isRegister x0 = 0
    · exact SIM.same o ha ta L w1 w2 M y1 y2 b0 b1 b2 b3 bw u0 u1 Lm hI (-1000001) (fun l D sz => ⟨_, _, by decide, by decide, c_X6_registerOfB l D sz o ha ta L w1 w2 M y1 y2 HL HW1 HW2 b0 b1 b2 b3 bw u0 u1 tx T s t hs en tb sh n0 nu lt br le k hk hT x0 x1 g1⟩) (fun l D sz => ⟨_, _, by decide, by decide, c_X7_registerOf_bad l D sz Lm _ _ _ _ _ _ _ _ _ _ _ _ _ _ _ _ _ _ _ x0 x1 g⟩)
    · exact SIM.same o ha ta L w1 w2 M y1 y2 b0 b1 b2 b3 bw u0 u1 Lm hI (-1000001) (fun l D sz => ⟨_, _, by decide, by decide, c_X6_registerOfC l D sz o ha ta L w1 w2 M y1 y2 HL HW1 HW2 b0 b1 b2 b3 bw u0 u1 tx T s t hs en tb sh n0 nu lt br le k hk hT x0 x1 g1 (Classical.byContradiction fun q => g ⟨g1, q⟩)⟩) (fun l D sz => ⟨_, _, by decide, by decide, c_X7_registerOf_bad l D sz Lm _ _ _ _ _ _ _ _ _ _ _ _ _ _ _ _ _ _ _ x0 x1 g⟩)
theorem sim_alarmOf {K : Nat} {c : DS} {x : MS} (hI : INV K c x) (x0 x1 : Int32) : SIM o ha ta L w1 w2 M y1 y2 b0 b1 b2 b3 bw u0 u1 Lm K yX6_alarmOf cX6_alarmOf 4 yX7_alarmOf cX7_alarmOf 3 [.int x0, .int x1] c x := by
  obtain ⟨HL, HW1, HW2, s, t, hs, ⟨en, tb, sh, n0⟩, ⟨nu, lt, br, le⟩, k, tx, T⟩ := c
  obtain ⟨m, pa, ⟨td, ah, d, nn⟩, p9, ⟨fo, re, ca, os, od⟩, spa, he⟩ := x
  replace hI : INVx K s hs k tx T m pa p9 := hI
  obtain ⟨hk, hT, htx, hr, hh, hb, hhb, hp9⟩ := id hI
  by_cases g : (¬ sp_X7_isAlarm x0 = 0) ∧ ¬ sp_X7_in x1 0 9 = 0
  · obtain ⟨g1, g2⟩ := id g
    obtain ⟨a, ha3, -, rfl⟩ := in_of (l := 0) (N := 2) (by decide) (by decide) g1
    obtain ⟨w, hw, -, rfl⟩ := in_of (l := 0) (N := 9) (by decide) (by decide) g2
    obtain ⟨e0, e1, e2, e3, e4, e5, e6, e7, e8, e9⟩ := hr.als ha3
    match w, hw with
    | 0, _ =>
      exact SIM.same o ha ta L w1 w2 M y1 y2 b0 b1 b2 b3 bw u0 u1 Lm hI (sp_X6_alarmOf0 s a) (fun l D sz => ⟨_, _, by decide, by decide, c_X6_alarmOf0 l D sz o ha ta L w1 w2 M y1 y2 HL HW1 HW2 b0 b1 b2 b3 bw u0 u1 tx T s t hs en tb sh n0 nu lt br le k hk hT a ha3 g1⟩) (fun l D sz => ⟨2, 44, by decide, by decide, by (rw [e0]; exact c_X7_alarmOf l D sz Lm _ _ _ _ _ _ _ _ _ _ _ _ _ _ _ _ _ _ _ a 0 ha3 (by decide))⟩)
    | 1, _ =>
      exact SIM.same o ha ta L w1 w2 M y1 y2 b0 b1 b2 b3 bw u0 u1 Lm hI (sp_X6_alarmOf1 s a) (fun l D sz => ⟨_, _, by decide, by decide, c_X6_alarmOf1 l D sz o ha ta L w1 w2 M y1 y2 HL HW1 HW2 b0 b1 b2 b3 bw u0 u1 tx T s t hs en tb sh n0 nu lt br le k hk hT a ha3 g1⟩) (fun l D sz => ⟨2, 44, by decide, by decide, by (rw [e1]; exact c_X7_alarmOf l D sz Lm _ _ _ _ _ _ _ _ _ _ _ _ _ _ _ _ _ _ _ a 1 ha3 (by decide))⟩)
    | 2, _ =>
      exact SIM.same o ha ta L w1 w2 M y1 y2 b0 b1 b2 b3 bw u0 u1 Lm hI (sp_X6_alarmOf2 s a) (fun l D sz => ⟨_, _, by decide, by decide, c_X6_alarmOf2 l D sz o ha ta L w1 w2 M y1 y2 HL HW1 HW2 b0 b1 b2 b3 bw u0 u1 tx T s t hs en tb sh n0 nu lt br le k hk hT a ha3 g1⟩) (fun l D sz => ⟨2, 44, by decide, by decide, by (rw [e2]; exact c_X7_alarmOf l D sz Lm _ _ _ _ _ _ _ _ _ _ _ _ _ _ _ _ _ _ _ a 2 ha3 (by decide))⟩)
    | 3, _ =>
      exact SIM.same o ha ta L w1 w2 M y1 y2 b0 b1 b2 b3 bw u0 u1 Lm hI (sp_X6_alarmOf3 s a) (fun l D sz => ⟨_, _, by decide, by decide, c_X6_alarmOf3 l D sz o ha ta L w1 w2 M y1 y2 HL HW1 HW2 b0 b1 b2 b3 bw u0 u1 tx T s t hs en tb sh n0 nu lt br le k hk hT a ha3 g1⟩) (fun l D sz => ⟨2, 44, by decide, by decide, by (rw [e3]; exact c_X7_alarmOf l D sz Lm _ _ _ _ _ _ _ _ _ _ _ _ _ _ _ _ _ _ _ a 3 ha3 (by decide))⟩)
    | 4, _ =>
      exact SIM.same o ha ta L w1 w2 M y1 y2 b0 b1 b2 b3 bw u0 u1 Lm hI (sp_X6_alarmOf4 s a) (fun l D sz => ⟨_, _, by decide, by decide, c_X6_alarmOf4 l D sz o ha ta L w1 w2 M y1 y2 HL HW1 HW2 b0 b1 b2 b3 bw u0 u1 tx T s t hs en tb sh n0 nu lt br le k hk hT a ha3 g1⟩) (fun l D sz => ⟨2, 44, by decide, by decide, by (rw [e4]; exact c_X7_alarmOf l D sz Lm _ _ _ _ _ _ _ _ _ _ _ _ _ _ _ _ _ _ _ a 4 ha3 (by decide))⟩)
    | 5, _ =>
      exact SIM.same o ha ta L w1 w2 M y1 y2 b0 b1 b2 b3 bw u0 u1 Lm hI (sp_X6_alarmOf5 s a) (fun l D sz => ⟨_, _, by decide, by decide, c_X6_alarmOf5 l D sz o ha ta L w1 w2 M y1 y2 HL HW1 HW2 b0 b1 b2 b3 bw u0 u1 tx T s t hs en tb sh n0 nu lt br le k hk hT a ha3 g1⟩) (fun l D sz => ⟨2, 44, by decide, by decide, by (rw [e5]; exact c_X7_alarmOf l D sz Lm _ _ _ _ _ _ _ _ _ _ _ _ _ _ _ _ _ _ _ a 5 ha3 (by decide))⟩)
    | 6, _ =>
      exact SIM.same o ha ta L w1 w2 M y1 y2 b0 b1 b2 b3 bw u0 u1 Lm hI (sp_X6_alarmOf6 s a) (fun l D sz => ⟨_, _, by decide, by decide, c_X6_alarmOf6 l D sz o ha ta L w1 w2 M y1 y2 HL HW1 HW2 b0 b1 b2 b3 bw u0 u1 tx T s t hs en tb sh n0 nu lt br le k hk hT a ha3 g1⟩) (fun l D sz => ⟨2, 44, by decide, by decide, by (rw [e6]; exact c_X7_alarmOf l D sz Lm _ _ _ _ _ _ _ _ _ _ _ _ _ _ _ _ _ _ _ a 6 ha3 (by decide))⟩)
    | 7, _ =>
      exact SIM.same o ha ta L w1 w2 M y1 y2 b0 b1 b2 b3 bw u0 u1 Lm hI (sp_X6_alarmOf7 s a) (fun l D sz => ⟨_, _, by decide, by decide, c_X6_alarmOf7 l D sz o ha ta L w1 w2 M y1 y2 HL HW1 HW2 b0 b1 b2 b3 bw u0 u1 tx T s t hs en tb sh n0 nu lt br le k hk hT a ha3 g1⟩) (fun l D sz => ⟨2, 44, by decide, by decide, by (rw [e7]; exact c_X7_alarmOf l D sz Lm _ _ _ _ _ _ _ _ _ _ _ _ _ _ _ _ _ _ _ a 7 ha3 (by decide))⟩)
    | 8, _ =>
      exact SIM.same o ha ta L w1 w2 M y1 y2 b0 b1 b2 b3 bw u0 u1 Lm hI (sp_X6_alarmOf8 s a) (fun l D sz => ⟨_, _, by decide, by decide, c_X6_alarmOf8 l D sz o ha ta L w1 w2 M y1 y2 HL HW1 HW2 b0 b1 b2 b3 bw u0 u1 tx T s t hs en tb sh n0 nu lt br le k hk hT a ha3 g1⟩) (fun l D sz => ⟨2, 44, by decide, by decide, by (rw [e8]; exact c_X7_alarmOf l D sz Lm _ _ _ _ _ _ _ _ _ _ _ _ _ _ _ _ _ _ _ a 8 ha3 (by decide))⟩)
    | 9, _ =>
      exact SIM.same o ha ta L w1 w2 M y1 y2 b0 b1 b2 b3 bw u0 u1 Lm hI (sp_X6_alarmOf9 s a) (fun l D sz => ⟨_, _, by decide, by decide, c_X6_alarmOf9 l D sz o ha ta L w1 w2 M y1 y2 HL HW1 HW2 b0 b1 b2 b3 bw u0 u1 tx T s t hs en tb sh n0 nu lt br le k hk hT a ha3 g1⟩) (fun l D sz => ⟨2, 44, by decide, by decide, by (rw [e9]; exact c_X7_alarmOf l D sz Lm _ _ _ _ _ _ _ _ _ _ _ _ _ _ _ _ _ _ _ a 9 ha3 (by decide))⟩)
  · by_cases g1 : sp_X7_isAlarm x0 = 0
    · exact SIM.same o ha ta L w1 w2 M y1 y2 b0 b1 b2 b3 bw u0 u1 Lm hI (-1000001) (fun l D sz => ⟨_, _, by decide, by decide, c_X6_alarmOfB l D sz o ha ta L w1 w2 M y1 y2 HL HW1 HW2 b0 b1 b2 b3 bw u0 u1 tx T s t hs en tb sh n0 nu lt br le k hk hT x0 x1 g1⟩) (fun l D sz => ⟨_, _, by decide, by decide, c_X7_alarmOf_bad l D sz Lm _ _ _ _ _ _ _ _ _ _ _ _ _ _ _ _ _ _ _ x0 x1 g⟩)
    · exact SIM.same o ha ta L w1 w2 M y1 y2 b0 b1 b2 b3 bw u0 u1 Lm hI (-1000001) (fun l D sz => ⟨_, _, by decide, by decide, c_X6_alarmOfC l D sz o ha ta L w1 w2 M y1 y2 HL HW1 HW2 b0 b1 b2 b3 bw u0 u1 tx T s t hs en tb sh n0 nu lt br le k hk hT x0 x1 g1 (Classical.byContradiction fun q => g ⟨g1, q⟩)⟩) (fun l D sz => ⟨_, _, by decide, by decide, c_X7_alarmOf_bad l D sz Lm _ _ _ _ _ _ _ _ _ _ _ _ _ _ _ _ _ _ _ x0 x1 g⟩)
theorem sim_date {K : Nat} {c : DS} {x : MS} (hI : INV K c x) (x0 : Int32) : SIM o ha ta L w1 w2 M y1 y2 b0 b1 b2 b3 bw u0 u1 Lm K yX6_date cX6_date 3 yX7_date cX7_date 3 [.int x0] c x := by
  obtain ⟨HL, HW1, HW2, s, t, hs, ⟨en, tb, sh, n0⟩, ⟨nu, lt, br, le⟩, k, tx, T⟩ := c
  obtain ⟨m, pa, ⟨td, ah, d, nn⟩, p9, ⟨fo, re, ca, os, od⟩, spa, he⟩ := x
  replace hI : INVx K s hs k tx T m pa p9 := hI
  obtain ⟨hk, hT, htx, hr, hh, hb, hhb, hp9⟩ := id hI
  by_cases g : ¬ sp_X7_in x0 0 4 = 0
  · obtain ⟨w, hw, -, rfl⟩ := in_of (l := 0) (N := 4) (by decide) (by decide) g
    match w, hw with
    | 0, _ =>
      by_cases c : sp_X5_isDateRight s.v = 0
      · exact SIM.same o ha ta L w1 w2 M y1 y2 b0 b1 b2 b3 bw u0 u1 Lm hI (-1000004) (fun l D sz => ⟨_, _, by decide, by decide, c_X6_dateN l D sz o ha ta L w1 w2 M y1 y2 HL HW1 HW2 b0 b1 b2 b3 bw u0 u1 tx T s t hs en tb sh n0 nu lt br le k hk hT (nI 0) g (by decide) c⟩) (fun l D sz => ⟨_, _, by decide, by decide, c_X7_date_nf l D sz Lm _ _ _ _ _ _ _ _ _ _ _ _ _ _ _ _ _ _ _ 0 (by decide) (by decide) (Classical.byContradiction fun q => hr.right.mp q c)⟩)
      · obtain ⟨Mo, o1, o2, o3, o4⟩ := hr.month c
        obtain ⟨e0, e1, e2, e4⟩ := hr.date o4 o2 o3
        exact SIM.same o ha ta L w1 w2 M y1 y2 b0 b1 b2 b3 bw u0 u1 Lm hI (sp_X6_date0 s Mo) (fun l D sz => ⟨_, _, by decide, by decide, c_X6_date0 l D sz o ha ta L w1 w2 M y1 y2 HL HW1 HW2 b0 b1 b2 b3 bw u0 u1 tx T s t hs en tb sh n0 nu lt br le k hk hT c Mo o1 o2 o3⟩) (fun l D sz => ⟨6, 129, by decide, by decide, by (rw [e0]; exact c_X7_date0 l D sz Lm _ _ _ _ _ _ _ _ _ _ _ _ _ _ _ _ _ _ _ (hr.right.mpr c) Mo o4 o2 o3)⟩)
    | 1, _ =>
      by_cases c : sp_X5_isDateRight s.v = 0
      · exact SIM.same o ha ta L w1 w2 M y1 y2 b0 b1 b2 b3 bw u0 u1 Lm hI (-1000004) (fun l D sz => ⟨_, _, by decide, by decide, c_X6_dateN l D sz o ha ta L w1 w2 M y1 y2 HL HW1 HW2 b0 b1 b2 b3 bw u0 u1 tx T s t hs en tb sh n0 nu lt br le k hk hT (nI 1) g (by decide) c⟩) (fun l D sz => ⟨_, _, by decide, by decide, c_X7_date_nf l D sz Lm _ _ _ _ _ _ _ _ _ _ _ _ _ _ _ _ _ _ _ 1 (by decide) (by decide) (Classical.byContradiction fun q => hr.right.mp q c)⟩)
      · obtain ⟨Mo, o1, o2, o3, o4⟩ := hr.month c
        obtain ⟨e0, e1, e2, e4⟩ := hr.date o4 o2 o3
        exact SIM.same o ha ta L w1 w2 M y1 y2 b0 b1 b2 b3 bw u0 u1 Lm hI (sp_X6_date1 s Mo) (fun l D sz => ⟨_, _, by decide, by decide, c_X6_date1 l D sz o ha ta L w1 w2 M y1 y2 HL HW1 HW2 b0 b1 b2 b3 bw u0 u1 tx T s t hs en tb sh n0 nu lt br le k hk hT c Mo o1 o2 o3⟩) (fun l D sz => ⟨6, 129, by decide, by decide, by (rw [e1]; exact c_X7_date1 l D sz Lm _ _ _ _ _ _ _ _ _ _ _ _ _ _ _ _ _ _ _ (hr.right.mpr c) Mo o4 o2 o3)⟩)
    | 2, _ =>
      by_cases c : sp_X5_isDateRight s.v = 0
      · exact SIM.same o ha ta L w1 w2 M y1 y2 b0 b1 b2 b3 bw u0 u1 Lm hI (-1000004) (fun l D sz => ⟨_, _, by decide, by decide, c_X6_dateN l D sz o ha ta L w1 w2 M y1 y2 HL HW1 HW2 b0 b1 b2 b3 bw u0 u1 tx T s t hs en tb sh n0 nu lt br le k hk hT (nI 2) g (by decide) c⟩) (fun l D sz => ⟨_, _, by decide, by decide, c_X7_date_nf l D sz Lm _ _ _ _ _ _ _ _ _ _ _ _ _ _ _ _ _ _ _ 2 (by decide) (by decide) (Classical.byContradiction fun q => hr.right.mp q c)⟩)
      · obtain ⟨Mo, o1, o2, o3, o4⟩ := hr.month c
        obtain ⟨e0, e1, e2, e4⟩ := hr.date o4 o2 o3
        exact SIM.same o ha ta L w1 w2 M y1 y2 b0 b1 b2 b3 bw u0 u1 Lm hI (sp_X6_date2 s Mo) (fun l D sz => ⟨_, _, by decide, by decide, c_X6_date2 l D sz o ha ta L w1 w2 M y1 y2 HL HW1 HW2 b0 b1 b2 b3 bw u0 u1 tx T s t hs en tb sh n0 nu lt br le k hk hT c Mo o1 o2 o3⟩) (fun l D sz => ⟨6, 129, by decide, by decide, by (rw [e2]; exact c_X7_date2 l D sz Lm _ _ _ _ _ _ _ _ _ _ _ _ _ _ _ _ _ _ _ (hr.right.mpr c) Mo o4 o2 o3)⟩)
    | 3, _ =>
      exact SIM.same o ha ta L w1 w2 M y1 y2 b0 b1 b2 b3 bw u0 u1 Lm hI (sp_X6_date3 s) (fun l D sz => ⟨_, _, by decide, by decide, c_X6_date3 l D sz o ha ta L w1 w2 M y1 y2 HL HW1 HW2 b0 b1 b2 b3 bw u0 u1 tx T s t hs en tb sh n0 nu lt br le k hk hT⟩) (fun l D sz => ⟨4, 86, by decide, by decide, by (rw [hr.date3]; exact c_X7_date3 l D sz Lm _ _ _ _ _ _ _ _ _ _ _ _ _ _ _ _ _ _ _)⟩)
    | 4, _ =>
      by_cases c : sp_X5_isDateRight s.v = 0
      · exact SIM.same o ha ta L w1 w2 M y1 y2 b0 b1 b2 b3 bw u0 u1 Lm hI (-1000004) (fun l D sz => ⟨_, _, by decide, by decide, c_X6_dateN l D sz o ha ta L w1 w2 M y1 y2 HL HW1 HW2 b0 b1 b2 b3 bw u0 u1 tx T s t hs en tb sh n0 nu lt br le k hk hT (nI 4) g (by decide) c⟩) (fun l D sz => ⟨_, _, by decide, by decide, c_X7_date_nf l D sz Lm _ _ _ _ _ _ _ _ _ _ _ _ _ _ _ _ _ _ _ 4 (by decide) (by decide) (Classical.byContradiction fun q => hr.right.mp q c)⟩)
      · obtain ⟨Mo, o1, o2, o3, o4⟩ := hr.month c
        obtain ⟨e0, e1, e2, e4⟩ := hr.date o4 o2 o3
        exact SIM.same o ha ta L w1 w2 M y1 y2 b0 b1 b2 b3 bw u0 u1 Lm hI (sp_X6_date4 s Mo) (fun l D sz => ⟨_, _, by decide, by decide, c_X6_date4 l D sz o ha ta L w1 w2 M y1 y2 HL HW1 HW2 b0 b1 b2 b3 bw u0 u1 tx T s t hs en tb sh n0 nu lt br le k hk hT c Mo o1 o2 o3⟩) (fun l D sz => ⟨6, 129, by decide, by decide, by (rw [e4]; exact c_X7_date4 l D sz Lm _ _ _ _ _ _ _ _ _ _ _ _ _ _ _ _ _ _ _ (hr.right.mpr c) Mo o4 o2 o3)⟩)
  · exact SIM.same o ha ta L w1 w2 M y1 y2 b0 b1 b2 b3 bw u0 u1 Lm hI (-1000001) (fun l D sz => ⟨_, _, by decide, by decide, c_X6_dateB l D sz o ha ta L w1 w2 M y1 y2 HL HW1 HW2 b0 b1 b2 b3 bw u0 u1 tx T s t hs en tb sh n0 nu lt br le k hk hT x0 (not_not' g)⟩) (fun l D sz => ⟨_, _, by decide, by decide, c_X7_date_bad l D sz Lm _ _ _ _ _ _ _ _ _ _ _ _ _ _ _ _ _ _ _ x0 g⟩)
theorem Rel.zs36 {s : ChS} {m : Row} (h : Rel s m) : s.zs = m 36 := by
  obtain ⟨-, -, ⟨a, z, -, -, e1, -, e2, -⟩, -⟩ := h
  rw [e1, e2]
theorem sim_count {K : Nat} {c : DS} {x : MS} (hI : INV K c x) (x0 : Int32) : SIM o ha ta L w1 w2 M y1 y2 b0 b1 b2 b3 bw u0 u1 Lm K yX6_count cX6_count 2 yX7_count cX7_count 2 [.int x0] c x := by
  obtain ⟨HL, HW1, HW2, s, t, hs, ⟨en, tb, sh, n0⟩, ⟨nu, lt, br, le⟩, k, tx, T⟩ := c
  obtain ⟨m, pa, ⟨td, ah, d, nn⟩, p9, ⟨fo, re, ca, os, od⟩, spa, he⟩ := x
  replace hI : INVx K s hs k tx T m pa p9 := hI
  obtain ⟨hk, hT, htx, hr, hh, hb, hhb, hp9⟩ := id hI
  by_cases g0 : x0 = 0
  · subst g0
    have e : sp_X6_count0 s k T = sp_X7_count m (nI k) (nI T) 0 := (show sp_X6_count0 s k T = _ from hr.2.2.2.2.2.2.1).trans (cnt_0 m (nI k) (nI T)).symm
    exact SIM.same o ha ta L w1 w2 M y1 y2 b0 b1 b2 b3 bw u0 u1 Lm hI (sp_X6_count0 s k T) (fun l D sz => ⟨_, _, by decide, by decide, c_X6_count0 l D sz o ha ta L w1 w2 M y1 y2 HL HW1 HW2 b0 b1 b2 b3 bw u0 u1 tx T s t hs en tb sh n0 nu lt br le k hk hT⟩) (fun l D sz => ⟨7, 151, by decide, by decide, by (rw [e]; exact c_X7_count l D sz Lm _ _ _ _ _ _ _ _ _ _ _ _ _ _ _ _ _ _ _ hr.1.bytes _)⟩)
  by_cases g1 : x0 = 1
  · subst g1
    have e : sp_X6_count1 s k T = sp_X7_count m (nI k) (nI T) 1 := (show sp_X6_count1 s k T = _ from hr.2.2.2.2.2.2.2.1).trans (cnt_1 m (nI k) (nI T)).symm
    exact SIM.same o ha ta L w1 w2 M y1 y2 b0 b1 b2 b3 bw u0 u1 Lm hI (sp_X6_count1 s k T) (fun l D sz => ⟨_, _, by decide, by decide, c_X6_count1 l D sz o ha ta L w1 w2 M y1 y2 HL HW1 HW2 b0 b1 b2 b3 bw u0 u1 tx T s t hs en tb sh n0 nu lt br le k hk hT⟩) (fun l D sz => ⟨7, 151, by decide, by decide, by (rw [e]; exact c_X7_count l D sz Lm _ _ _ _ _ _ _ _ _ _ _ _ _ _ _ _ _ _ _ hr.1.bytes _)⟩)
  by_cases g2 : x0 = 2
  · subst g2
    have e : sp_X6_count2 s k T = sp_X7_count m (nI k) (nI T) 2 := (show sp_X6_count2 s k T = _ from hr.wrongs).trans (cnt_2 m (nI k) (nI T)).symm
    exact SIM.same o ha ta L w1 w2 M y1 y2 b0 b1 b2 b3 bw u0 u1 Lm hI (sp_X6_count2 s k T) (fun l D sz => ⟨_, _, by decide, by decide, c_X6_count2 l D sz o ha ta L w1 w2 M y1 y2 HL HW1 HW2 b0 b1 b2 b3 bw u0 u1 tx T s t hs en tb sh n0 nu lt br le k hk hT⟩) (fun l D sz => ⟨7, 151, by decide, by decide, by (rw [e]; exact c_X7_count l D sz Lm _ _ _ _ _ _ _ _ _ _ _ _ _ _ _ _ _ _ _ hr.1.bytes _)⟩)
  by_cases g3 : x0 = 3
  · subst g3
    have e : sp_X6_count3 s k T = sp_X7_count m (nI k) (nI T) 3 := (show sp_X6_count3 s k T = _ from hr.flags).trans (cnt_3 m (nI k) (nI T)).symm
    exact SIM.same o ha ta L w1 w2 M y1 y2 b0 b1 b2 b3 bw u0 u1 Lm hI (sp_X6_count3 s k T) (fun l D sz => ⟨_, _, by decide, by decide, c_X6_count3 l D sz o ha ta L w1 w2 M y1 y2 HL HW1 HW2 b0 b1 b2 b3 bw u0 u1 tx T s t hs en tb sh n0 nu lt br le k hk hT⟩) (fun l D sz => ⟨7, 151, by decide, by decide, by (rw [e]; exact c_X7_count l D sz Lm _ _ _ _ _ _ _ _ _ _ _ _ _ _ _ _ _ _ _ hr.1.bytes _)⟩)
  by_cases g4 : x0 = 4
  · subst g4
    have e : sp_X6_count4 s k T = sp_X7_count m (nI k) (nI T) 4 := (show sp_X6_count4 s k T = _ from hr.2.1.2.2.1).trans (cnt_4 m (nI k) (nI T)).symm
    exact SIM.same o ha ta L w1 w2 M y1 y2 b0 b1 b2 b3 bw u0 u1 Lm hI (sp_X6_count4 s k T) (fun l D sz => ⟨_, _, by decide, by decide, c_X6_count4 l D sz o ha ta L w1 w2 M y1 y2 HL HW1 HW2 b0 b1 b2 b3 bw u0 u1 tx T s t hs en tb sh n0 nu lt br le k hk hT⟩) (fun l D sz => ⟨7, 151, by decide, by decide, by (rw [e]; exact c_X7_count l D sz Lm _ _ _ _ _ _ _ _ _ _ _ _ _ _ _ _ _ _ _ hr.1.bytes _)⟩)
  by_cases g5 : x0 = 5
  · subst g5
    have e : sp_X6_count5 s k T = sp_X7_count m (nI k) (nI T) 5 := (show sp_X6_count5 s k T = _ from hr.1.count).trans (cnt_5 m (nI k) (nI T)).symm
    exact SIM.same o ha ta L w1 w2 M y1 y2 b0 b1 b2 b3 bw u0 u1 Lm hI (sp_X6_count5 s k T) (fun l D sz => ⟨_, _, by decide, by decide, c_X6_count5 l D sz o ha ta L w1 w2 M y1 y2 HL HW1 HW2 b0 b1 b2 b3 bw u0 u1 tx T s t hs en tb sh n0 nu lt br le k hk hT⟩) (fun l D sz => ⟨7, 151, by decide, by decide, by (rw [e]; exact c_X7_count l D sz Lm _ _ _ _ _ _ _ _ _ _ _ _ _ _ _ _ _ _ _ hr.1.bytes _)⟩)
  by_cases g6 : x0 = 6
  · subst g6
    have e : sp_X6_count6 s k T = sp_X7_count m (nI k) (nI T) 6 := (show sp_X6_count6 s k T = _ from hr.2.2.2.2.2.2.2.2.2.2.2.1).trans (cnt_6 m (nI k) (nI T)).symm
    exact SIM.same o ha ta L w1 w2 M y1 y2 b0 b1 b2 b3 bw u0 u1 Lm hI (sp_X6_count6 s k T) (fun l D sz => ⟨_, _, by decide, by decide, c_X6_count6 l D sz o ha ta L w1 w2 M y1 y2 HL HW1 HW2 b0 b1 b2 b3 bw u0 u1 tx T s t hs en tb sh n0 nu lt br le k hk hT⟩) (fun l D sz => ⟨7, 151, by decide, by decide, by (rw [e]; exact c_X7_count l D sz Lm _ _ _ _ _ _ _ _ _ _ _ _ _ _ _ _ _ _ _ hr.1.bytes _)⟩)
  by_cases g7 : x0 = 7
  · subst g7
    have e : sp_X6_count7 s k T = sp_X7_count m (nI k) (nI T) 7 := (show sp_X6_count7 s k T = _ from hr.2.2.2.2.2.2.2.2.2.2.2.2.1).trans (cnt_7 m (nI k) (nI T)).symm
    exact SIM.same o ha ta L w1 w2 M y1 y2 b0 b1 b2 b3 bw u0 u1 Lm hI (sp_X6_count7 s k T) (fun l D sz => ⟨_, _, by decide, by decide, c_X6_count7 l D sz o ha ta L w1 w2 M y1 y2 HL HW1 HW2 b0 b1 b2 b3 bw u0 u1 tx T s t hs en tb sh n0 nu lt br le k hk hT⟩) (fun l D sz => ⟨7, 151, by decide, by decide, by (rw [e]; exact c_X7_count l D sz Lm _ _ _ _ _ _ _ _ _ _ _ _ _ _ _ _ _ _ _ hr.1.bytes _)⟩)
  by_cases g8 : x0 = 8
  · subst g8
    have e : sp_X6_count8 s k T = sp_X7_count m (nI k) (nI T) 8 := (show sp_X6_count8 s k T = _ from hr.2.2.2.2.2.2.2.2.2.1).trans (cnt_8 m (nI k) (nI T)).symm
    exact SIM.same o ha ta L w1 w2 M y1 y2 b0 b1 b2 b3 bw u0 u1 Lm hI (sp_X6_count8 s k T) (fun l D sz => ⟨_, _, by decide, by decide, c_X6_count8 l D sz o ha ta L w1 w2 M y1 y2 HL HW1 HW2 b0 b1 b2 b3 bw u0 u1 tx T s t hs en tb sh n0 nu lt br le k hk hT⟩) (fun l D sz => ⟨7, 151, by decide, by decide, by (rw [e]; exact c_X7_count l D sz Lm _ _ _ _ _ _ _ _ _ _ _ _ _ _ _ _ _ _ _ hr.1.bytes _)⟩)
  by_cases g9 : x0 = 9
  · subst g9
    have e : sp_X6_count9 s k T = sp_X7_count m (nI k) (nI T) 9 := (show sp_X6_count9 s k T = _ from hr.2.2.2.2.2.2.2.2.2.2.1).trans (cnt_9 m (nI k) (nI T)).symm
    exact SIM.same o ha ta L w1 w2 M y1 y2 b0 b1 b2 b3 bw u0 u1 Lm hI (sp_X6_count9 s k T) (fun l D sz => ⟨_, _, by decide, by decide, c_X6_count9 l D sz o ha ta L w1 w2 M y1 y2 HL HW1 HW2 b0 b1 b2 b3 bw u0 u1 tx T s t hs en tb sh n0 nu lt br le k hk hT⟩) (fun l D sz => ⟨7, 151, by decide, by decide, by (rw [e]; exact c_X7_count l D sz Lm _ _ _ _ _ _ _ _ _ _ _ _ _ _ _ _ _ _ _ hr.1.bytes _)⟩)
  by_cases g10 : x0 = 10
  · subst g10
    have e : sp_X6_count10 s k T = sp_X7_count m (nI k) (nI T) 10 := (show sp_X6_count10 s k T = _ from hr.2.2.2.2.2.2.2.2.1).trans (cnt_10 m (nI k) (nI T)).symm
    exact SIM.same o ha ta L w1 w2 M y1 y2 b0 b1 b2 b3 bw u0 u1 Lm hI (sp_X6_count10 s k T) (fun l D sz => ⟨_, _, by decide, by decide, c_X6_count10 l D sz o ha ta L w1 w2 M y1 y2 HL HW1 HW2 b0 b1 b2 b3 bw u0 u1 tx T s t hs en tb sh n0 nu lt br le k hk hT⟩) (fun l D sz => ⟨7, 151, by decide, by decide, by (rw [e]; exact c_X7_count l D sz Lm _ _ _ _ _ _ _ _ _ _ _ _ _ _ _ _ _ _ _ hr.1.bytes _)⟩)
  by_cases g11 : x0 = 11
  · subst g11
    have e : sp_X6_count11 s k T = sp_X7_count m (nI k) (nI T) 11 := (show sp_X6_count11 s k T = _ from hr.zs36).trans (cnt_11 m (nI k) (nI T)).symm
    exact SIM.same o ha ta L w1 w2 M y1 y2 b0 b1 b2 b3 bw u0 u1 Lm hI (sp_X6_count11 s k T) (fun l D sz => ⟨_, _, by decide, by decide, c_X6_count11 l D sz o ha ta L w1 w2 M y1 y2 HL HW1 HW2 b0 b1 b2 b3 bw u0 u1 tx T s t hs en tb sh n0 nu lt br le k hk hT⟩) (fun l D sz => ⟨7, 151, by decide, by decide, by (rw [e]; exact c_X7_count l D sz Lm _ _ _ _ _ _ _ _ _ _ _ _ _ _ _ _ _ _ _ hr.1.bytes _)⟩)
  by_cases g12 : x0 = 12
  · subst g12
    have e : sp_X6_count12 s k T = sp_X7_count m (nI k) (nI T) 12 := (show sp_X6_count12 s k T = _ from rfl).trans (cnt_12 m (nI k) (nI T)).symm
    exact SIM.same o ha ta L w1 w2 M y1 y2 b0 b1 b2 b3 bw u0 u1 Lm hI (sp_X6_count12 s k T) (fun l D sz => ⟨_, _, by decide, by decide, c_X6_count12 l D sz o ha ta L w1 w2 M y1 y2 HL HW1 HW2 b0 b1 b2 b3 bw u0 u1 tx T s t hs en tb sh n0 nu lt br le k hk hT⟩) (fun l D sz => ⟨7, 151, by decide, by decide, by (rw [e]; exact c_X7_count l D sz Lm _ _ _ _ _ _ _ _ _ _ _ _ _ _ _ _ _ _ _ hr.1.bytes _)⟩)
  by_cases g13 : x0 = 13
  · subst g13
    have e : sp_X6_count13 s k T = sp_X7_count m (nI k) (nI T) 13 := (show sp_X6_count13 s k T = _ from rfl).trans (cnt_13 m (nI k) (nI T)).symm
    exact SIM.same o ha ta L w1 w2 M y1 y2 b0 b1 b2 b3 bw u0 u1 Lm hI (sp_X6_count13 s k T) (fun l D sz => ⟨_, _, by decide, by decide, c_X6_count13 l D sz o ha ta L w1 w2 M y1 y2 HL HW1 HW2 b0 b1 b2 b3 bw u0 u1 tx T s t hs en tb sh n0 nu lt br le k hk hT⟩) (fun l D sz => ⟨7, 151, by decide, by decide, by (rw [e]; exact c_X7_count l D sz Lm _ _ _ _ _ _ _ _ _ _ _ _ _ _ _ _ _ _ _ hr.1.bytes _)⟩)
  by_cases g20 : x0 = 20
  · subst g20
    have e : sp_X6_count20 s k T = sp_X7_count m (nI k) (nI T) 20 := (show sp_X6_count20 s k T = _ from hr.2.2.2.1).trans (cnt_20 m (nI k) (nI T)).symm
    exact SIM.same o ha ta L w1 w2 M y1 y2 b0 b1 b2 b3 bw u0 u1 Lm hI (sp_X6_count20 s k T) (fun l D sz => ⟨_, _, by decide, by decide, c_X6_count20 l D sz o ha ta L w1 w2 M y1 y2 HL HW1 HW2 b0 b1 b2 b3 bw u0 u1 tx T s t hs en tb sh n0 nu lt br le k hk hT⟩) (fun l D sz => ⟨7, 151, by decide, by decide, by (rw [e]; exact c_X7_count l D sz Lm _ _ _ _ _ _ _ _ _ _ _ _ _ _ _ _ _ _ _ hr.1.bytes _)⟩)
  by_cases g21 : x0 = 21
  · subst g21
    have e : sp_X6_count21 s k T = sp_X7_count m (nI k) (nI T) 21 := (show sp_X6_count21 s k T = _ from hr.2.2.2.2.1).trans (cnt_21 m (nI k) (nI T)).symm
    exact SIM.same o ha ta L w1 w2 M y1 y2 b0 b1 b2 b3 bw u0 u1 Lm hI (sp_X6_count21 s k T) (fun l D sz => ⟨_, _, by decide, by decide, c_X6_count21 l D sz o ha ta L w1 w2 M y1 y2 HL HW1 HW2 b0 b1 b2 b3 bw u0 u1 tx T s t hs en tb sh n0 nu lt br le k hk hT⟩) (fun l D sz => ⟨7, 151, by decide, by decide, by (rw [e]; exact c_X7_count l D sz Lm _ _ _ _ _ _ _ _ _ _ _ _ _ _ _ _ _ _ _ hr.1.bytes _)⟩)
  by_cases g22 : x0 = 22
  · subst g22
    have e : sp_X6_count22 s k T = sp_X7_count m (nI k) (nI T) 22 := (show sp_X6_count22 s k T = _ from hr.2.2.2.2.2.1).trans (cnt_22 m (nI k) (nI T)).symm
    exact SIM.same o ha ta L w1 w2 M y1 y2 b0 b1 b2 b3 bw u0 u1 Lm hI (sp_X6_count22 s k T) (fun l D sz => ⟨_, _, by decide, by decide, c_X6_count22 l D sz o ha ta L w1 w2 M y1 y2 HL HW1 HW2 b0 b1 b2 b3 bw u0 u1 tx T s t hs en tb sh n0 nu lt br le k hk hT⟩) (fun l D sz => ⟨7, 151, by decide, by decide, by (rw [e]; exact c_X7_count l D sz Lm _ _ _ _ _ _ _ _ _ _ _ _ _ _ _ _ _ _ _ hr.1.bytes _)⟩)
  have g : sp_X6_isWithin x0 20 22 = 0 := Classical.byContradiction fun q => by
    obtain ⟨w, h1, h2, e⟩ := in_of (l := 20) (N := 22) (by decide) (by decide) q
    rcases (show w = 20 ∨ w = 21 ∨ w = 22 by omega) with u | u | u
    · exact g20 (by rw [e, u]; rfl)
    · exact g21 (by rw [e, u]; rfl)
    · exact g22 (by rw [e, u]; rfl)
  have e := cnt_bad (m := m) (P := nI k) (ty := nI T) g0 g1 g2 g3 g4 g5 g6 g7 g8 g9 g10 g11 g12 g13 g20 g21 g22
  exact SIM.same o ha ta L w1 w2 M y1 y2 b0 b1 b2 b3 bw u0 u1 Lm hI (-1000001) (fun l D sz => ⟨_, _, by decide, by decide, c_X6_countB l D sz o ha ta L w1 w2 M y1 y2 HL HW1 HW2 b0 b1 b2 b3 bw u0 u1 tx T s t hs en tb sh n0 nu lt br le k hk hT x0 g g0 g1 g2 g3 g4 g5 g6 g7 g8 g9 g10 g11 g12 g13⟩) (fun l D sz => ⟨7, 151, by decide, by decide, by (rw [← e]; exact c_X7_count l D sz Lm _ _ _ _ _ _ _ _ _ _ _ _ _ _ _ _ _ _ _ hr.1.bytes _)⟩)
theorem sim_undo {K : Nat} {c : DS} {x : MS} (hI : INV K c x) : SIM o ha ta L w1 w2 M y1 y2 b0 b1 b2 b3 bw u0 u1 Lm K yX6_undo cX6_undo 2 yX7_undo cX7_undo 2 [] c x := by
  obtain ⟨HL, HW1, HW2, s, t, hs, ⟨en, tb, sh, n0⟩, ⟨nu, lt, br, le⟩, k, tx, T⟩ := c
  obtain ⟨m, pa, ⟨td, ah, d, nn⟩, p9, ⟨fo, re, ca, os, od⟩, spa, he⟩ := x
  replace hI : INVx K s hs k tx T m pa p9 := hI
  obtain ⟨hk, hT, htx, hr, hh, hb, hhb, hp9⟩ := id hI
  by_cases c : k = 0
  · subst c
    exact SIM.same o ha ta L w1 w2 M y1 y2 b0 b1 b2 b3 bw u0 u1 Lm hI (-1000002) (fun l D sz => ⟨_, _, by decide, by decide, c_X6_undoN l D sz o ha ta L w1 w2 M y1 y2 HL HW1 HW2 b0 b1 b2 b3 bw u0 u1 tx T s t hs en tb sh n0 nu lt br le 0 hk hT⟩) (fun l D sz => ⟨_, _, by decide, by decide, c_X7_undo_np l D sz Lm _ _ _ _ _ _ _ _ _ _ _ _ _ _ _ _ _ _⟩)
  · have c1 : 1 ≤ k := by omega
    obtain ⟨r', h'⟩ := hh.undo (s := s) (m := m) c1
    have rb : RB K (fun i => pa (127 * (k - 1) + i)) := hhb (k - 1) (by omega)
    exact SIM.mk o ha ta L w1 w2 M y1 y2 b0 b1 b2 b3 bw u0 u1 Lm (nI (k - 1)) HL HW1 HW2 (cpC s (hs (k - 1))) t hs en tb sh n0 nu lt br le (k - 1) tx T (va_cpy (fun i => pa (127 * (k - 1) + i)) m 0 0 127) pa td ah d nn p9 fo re ca os od spa he ⟨by omega, hT, htx, r', h', (rb.mono (by omega)).congr (cpy_lt (by decide)) (cpy_lt (by decide)), fun j hj => (hhb j (by omega)).mono (by omega), hp9⟩ (fun l D sz => ⟨_, _, by decide, by decide, c_X6_undo l D sz o ha ta L w1 w2 M y1 y2 HL HW1 HW2 b0 b1 b2 b3 bw u0 u1 tx T s t hs en tb sh n0 nu lt br le k hk hT c1⟩) (fun l D sz => ⟨_, _, by decide, by decide, c_X7_undo l D sz Lm _ _ _ _ _ _ _ _ _ _ _ _ _ _ _ _ _ _ _ c1 hk⟩)
theorem sim_type {K : Nat} {c : DS} {x : MS} (hI : INV K c x) (x0 : Int32) : SIM o ha ta L w1 w2 M y1 y2 b0 b1 b2 b3 bw u0 u1 Lm K yX6_type cX6_type 2 yX7_type cX7_type 2 [.int x0] c x := by
  obtain ⟨HL, HW1, HW2, s, t, hs, ⟨en, tb, sh, n0⟩, ⟨nu, lt, br, le⟩, k, tx, T⟩ := c
  obtain ⟨m, pa, ⟨td, ah, d, nn⟩, p9, ⟨fo, re, ca, os, od⟩, spa, he⟩ := x
  replace hI : INVx K s hs k tx T m pa p9 := hI
  obtain ⟨hk, hT, htx, hr, hh, hb, hhb, hp9⟩ := id hI
  by_cases g : ¬ sp_X7_in x0 32 126 = 0
  · obtain ⟨w, hw, hw1, rfl⟩ := in_of (l := 32) (N := 126) (by decide) (by decide) g
    by_cases c : T < 60
    · have ht' : ∀ j, ∃ v, v < 127 ∧ upd tx T (nI w) j = nI v := fun j => by
        by_cases e : j = T
        · rw [e]; exact ⟨w, by omega, upd_eq _ _ _⟩
        · rw [upd_ne _ _ e]; exact htx j
      exact SIM.mk o ha ta L w1 w2 M y1 y2 b0 b1 b2 b3 bw u0 u1 Lm (nI (T + 1)) HL HW1 HW2 s t hs en tb sh n0 nu lt br le k (upd tx T (nI w)) (T + 1) m pa td ah d nn p9 fo re ca os od spa he ⟨hk, by omega, ht', hr, hh, hb.mono (by omega), hhb.mono (by omega), hp9⟩ (fun l D sz => ⟨_, _, by decide, by decide, c_X6_type l D sz o ha ta L w1 w2 M y1 y2 HL HW1 HW2 b0 b1 b2 b3 bw u0 u1 tx T s t hs en tb sh n0 nu lt br le k hk hT w hw1 (by omega) c g⟩) (fun l D sz => ⟨_, _, by decide, by decide, c_X7_type l D sz Lm _ _ _ _ _ _ _ _ _ _ _ _ _ _ _ _ _ _ _ w hw1 (by omega) c⟩)
    · have c2 : T = 60 := by omega
      subst c2
      exact SIM.same o ha ta L w1 w2 M y1 y2 b0 b1 b2 b3 bw u0 u1 Lm hI (-1000003) (fun l D sz => ⟨_, _, by decide, by decide, c_X6_typeN l D sz o ha ta L w1 w2 M y1 y2 HL HW1 HW2 b0 b1 b2 b3 bw u0 u1 tx s t hs en tb sh n0 nu lt br le k hk (nI w) g⟩) (fun l D sz => ⟨_, _, by decide, by decide, c_X7_type_lr l D sz Lm _ _ _ _ _ _ _ _ _ _ _ _ _ _ _ _ _ _ _ w hw1 (by omega) rfl⟩)
  · exact SIM.same o ha ta L w1 w2 M y1 y2 b0 b1 b2 b3 bw u0 u1 Lm hI (-1000001) (fun l D sz => ⟨_, _, by decide, by decide, c_X6_typeB l D sz o ha ta L w1 w2 M y1 y2 HL HW1 HW2 b0 b1 b2 b3 bw u0 u1 tx T s t hs en tb sh n0 nu lt br le k hk hT x0 (not_not' g)⟩) (fun l D sz => ⟨_, _, by decide, by decide, c_X7_type_bad l D sz Lm _ _ _ _ _ _ _ _ _ _ _ _ _ _ _ _ _ _ _ x0 g⟩)
end SIM2
