theorem INVx.change' {K : Nat} {s : ChS} {hs : Nat → ChS} {k : Nat} {tx : Row} {T : Nat} {m pa : Row} {p9 : Nat} (h : INVx (K + 61) s hs k tx T m pa p9) {s' : ChS} {m' : Row} (hr : Rel s' m') (hb : RB (K + 61) m') : (pushR m pa k).2 = khN k ∧ INVx (K + 61) (s') (khS k hs s) (khN k) tx T m' (pushR m pa k).1 p9 := by
  obtain ⟨h1, h2, h3, h4, h5, h6, h7, h8⟩ := h
  obtain ⟨p1, p2, p3⟩ := h5.push h1 h4
  exact ⟨p1, p3, h2, h3, hr, p2, hb, h7.push h1 h6, h8⟩
/-! the calls side by side: bursts, trials, texts -/
section SIM3
variable (o ha ta : Nat) (L w1 w2 M y1 y2 : Nat → Nat) (b0 b1 b2 b3 : Nat) (bw : Nat → Nat) (u0 u1 : Nat) (Lm : Nat → Nat)
theorem sim_burst {K : Nat} {c : DS} {x : MS} (hI : INV K c x) (x0 : Int32) : SIM o ha ta L w1 w2 M y1 y2 b0 b1 b2 b3 bw u0 u1 Lm K yX6_burst cX6_burst 2 yX7_burst cX7_burst 2 [.int x0] c x := by
  obtain ⟨HL, HW1, HW2, s, t, hs, ⟨en, tb, sh, n0⟩, ⟨nu, lt, br, le⟩, k, tx, T⟩ := c
  obtain ⟨m, pa, ⟨td, ah, d, nn⟩, p9, ⟨fo, re, ca, os, od⟩, spa, he⟩ := x
  replace hI : INVx K s hs k tx T m pa p9 := hI
  obtain ⟨hk, hT, htx, hr, hh, hb, hhb, hp9⟩ := id hI
  by_cases g : ¬ sp_X7_in x0 0 2 = 0
  · obtain ⟨v, hv, -, rfl⟩ := in_of (l := 0) (N := 2) (by decide) (by decide) g
    obtain ⟨p, z, q, hok⟩ := hr.rok
    obtain ⟨z1, z2, z3, z4⟩ := hr.ring
    have hq := hok.q37
    obtain ⟨e, r', -⟩ := hr.burst hok hv z1 z2 z3 z4 en tb sh td ah d
    have rb := (hb.burst hr hok hv td ah d).mono (show K + 1 ≤ K + 61 by omega)
    exact SIM.chg o ha ta L w1 w2 M y1 y2 b0 b1 b2 b3 bw u0 u1 Lm hI (mkE (nI v) (mkR (nI v) q en tb sh s) 8) (lgC (mkR (nI v) q en tb sh s).2.2.2.2 (mkE (nI v) (mkR (nI v) q en tb sh s)) (nc s.la) (nc s.zs)) ((mkE (nI v) (mkR (nI v) q en tb sh s))) ((mkR (nI v) q en tb sh s).2.1) ((mkR (nI v) q en tb sh s).2.2.2.1.1) (nI (mkR (nI v) q en tb sh s).2.2.2.1.2) nu lt br le (buS m td ah d q v) ((buR m td ah d q v).1.2.1) ((buR m td ah d q v).1.2.2.1) ((buR m td ah d q v).1.2.2.2.1) (nI (buR m td ah d q v).1.2.2.2.2) p9 fo re ca os od spa he (r') (rb) hp9 (fun l D sz => ⟨_, _, by decide, by decide, c_X6_burst l D sz o ha ta L w1 w2 M y1 y2 HL HW1 HW2 b0 b1 b2 b3 bw u0 u1 tx T s t hs en tb sh n0 nu lt br le k hk hT q (nc s.la) (nc s.zs) hq.1 (hr.se0.trans hq.2) z1 z3 z2 z4 (nI v) g⟩) (fun l D sz => ⟨14, 308, by decide, by decide, by (rw [e]; exact c_X7_burst_0 l D sz Lm _ _ _ _ _ _ _ _ _ _ _ _ _ _ _ _ _ _ _ _ _ _ hk hok hv)⟩)
  · exact SIM.same o ha ta L w1 w2 M y1 y2 b0 b1 b2 b3 bw u0 u1 Lm hI (-1000001) (fun l D sz => ⟨_, _, by decide, by decide, c_X6_burstB l D sz o ha ta L w1 w2 M y1 y2 HL HW1 HW2 b0 b1 b2 b3 bw u0 u1 tx T s t hs en tb sh n0 nu lt br le k hk hT x0 (not_not' g)⟩) (fun l D sz => ⟨_, _, by decide, by decide, c_X7_burst_bad l D sz Lm _ _ _ _ _ _ _ _ _ _ _ _ _ _ _ _ _ _ _ x0 g⟩)
theorem sim_ifBurst {K : Nat} {c : DS} {x : MS} (hI : INV K c x) (x0 x1 : Int32) : SIM o ha ta L w1 w2 M y1 y2 b0 b1 b2 b3 bw u0 u1 Lm K yX6_ifBurst cX6_ifBurst 3 yX7_ifBurst cX7_ifBurst 5 [.int x0, .int x1] c x := by
  obtain ⟨HL, HW1, HW2, s, t, hs, ⟨en, tb, sh, n0⟩, ⟨nu, lt, br, le⟩, k, tx, T⟩ := c
  obtain ⟨m, pa, ⟨td, ah, d, nn⟩, p9, ⟨fo, re, ca, os, od⟩, spa, he⟩ := x
  replace hI : INVx K s hs k tx T m pa p9 := hI
  obtain ⟨hk, hT, htx, hr, hh, hb, hhb, hp9⟩ := id hI
  by_cases g : (¬ sp_X7_in x0 0 2 = 0) ∧ ¬ sp_X7_in x1 0 9 = 0
  · obtain ⟨g1, g2⟩ := id g
    obtain ⟨v, hv, -, rfl⟩ := in_of (l := 0) (N := 2) (by decide) (by decide) g1
    obtain ⟨w, hw, -, rfl⟩ := in_of (l := 0) (N := 9) (by decide) (by decide) g2
    obtain ⟨p, z, q, hok⟩ := hr.rok
    obtain ⟨z1, z2, z3, z4⟩ := hr.ring
    have hq := hok.q37
    obtain ⟨-, -, e⟩ := (hr.copy (s := t)).burst hok hv (show (cpC t s).la = nI (nc s.la) from z1) z2 (show (cpC t s).zs = nI (nc s.zs) from z3) z4 en tb sh td ah d
    have em : ∀ j, j < 127 → va_cpy (va_cpy m spa 0 0 127) (buS m td ah d q v) 0 0 127 j = m j := fun j hj => by rw [cpy_lt hj, cpy_lt hj]
    exact SIM.mk o ha ta L w1 w2 M y1 y2 b0 b1 b2 b3 bw u0 u1 Lm ((mkE (nI v) (mkR (nI v) q en tb sh (cpC t s))) w) HL HW1 HW2 s (lgC (mkR (nI v) q en tb sh (cpC t s)).2.2.2.2 (mkE (nI v) (mkR (nI v) q en tb sh (cpC t s))) (nc s.la) (nc s.zs)) hs ((mkE (nI v) (mkR (nI v) q en tb sh (cpC t s)))) ((mkR (nI v) q en tb sh (cpC t s)).2.1) ((mkR (nI v) q en tb sh (cpC t s)).2.2.2.1.1) (nI (mkR (nI v) q en tb sh (cpC t s)).2.2.2.1.2) nu lt br le k tx T (va_cpy (va_cpy m spa 0 0 127) (buS m td ah d q v) 0 0 127) pa ((buR m td ah d q v).1.2.1) ((buR m td ah d q v).1.2.2.1) ((buR m td ah d q v).1.2.2.2.1) (nI (buR m td ah d q v).1.2.2.2.2) p9 fo re ca os od (va_cpy m spa 0 0 127) he ⟨hk, hT, htx, hr.congr em, hh, (hb.mono (by omega)).congr (em 32 (by decide)) (em 31 (by decide)), hhb.mono (by omega), hp9⟩ (fun l D sz => ⟨_, _, by decide, by decide, c_X6_ifBurst l D sz o ha ta L w1 w2 M y1 y2 HL HW1 HW2 b0 b1 b2 b3 bw u0 u1 tx T s t hs en tb sh n0 nu lt br le k hk hT q (nc s.la) (nc s.zs) hq.1 (hr.se0.trans hq.2) z1 z3 z2 z4 (nI v) w hw g1 g2⟩) (fun l D sz => ⟨14, 308, by decide, by decide, by (rw [e w hw]; exact c_X7_ifBurst l D sz Lm _ _ _ _ _ _ _ _ _ _ _ _ _ _ _ _ _ _ _ _ _ _ _ _ hok hv hw)⟩)
  · by_cases g1 : sp_X7_in x0 0 2 = 0
    · exact SIM.same o ha ta L w1 w2 M y1 y2 b0 b1 b2 b3 bw u0 u1 Lm hI (-1000001) (fun l D sz => ⟨_, _, by decide, by decide, c_X6_ifBurstB l D sz o ha ta L w1 w2 M y1 y2 HL HW1 HW2 b0 b1 b2 b3 bw u0 u1 tx T s t hs en tb sh n0 nu lt br le k hk hT x0 x1 g1⟩) (fun l D sz => ⟨_, _, by decide, by decide, c_X7_ifBurst_bad l D sz Lm _ _ _ _ _ _ _ _ _ _ _ _ _ _ _ _ _ _ _ x0 x1 g⟩)
    · exact SIM.same o ha ta L w1 w2 M y1 y2 b0 b1 b2 b3 bw u0 u1 Lm hI (-1000001) (fun l D sz => ⟨_, _, by decide, by decide, c_X6_ifBurstC l D sz o ha ta L w1 w2 M y1 y2 HL HW1 HW2 b0 b1 b2 b3 bw u0 u1 tx T s t hs en tb sh n0 nu lt br le k hk hT x0 x1 g1 (Classical.byContradiction fun q => g ⟨g1, q⟩)⟩) (fun l D sz => ⟨_, _, by decide, by decide, c_X7_ifBurst_bad l D sz Lm _ _ _ _ _ _ _ _ _ _ _ _ _ _ _ _ _ _ _ x0 x1 g⟩)
theorem sim_comesIn {K : Nat} {c : DS} {x : MS} (hI : INV K c x) (x0 : Int32) : SIM o ha ta L w1 w2 M y1 y2 b0 b1 b2 b3 bw u0 u1 Lm K yX6_comesIn cX6_comesIn 3 yX7_comesIn cX7_comesIn 4 [.int x0] c x := by
  obtain ⟨HL, HW1, HW2, s, t, hs, ⟨en, tb, sh, n0⟩, ⟨nu, lt, br, le⟩, k, tx, T⟩ := c
  obtain ⟨m, pa, ⟨td, ah, d, nn⟩, p9, ⟨fo, re, ca, os, od⟩, spa, he⟩ := x
  replace hI : INVx K s hs k tx T m pa p9 := hI
  obtain ⟨hk, hT, htx, hr, hh, hb, hhb, hp9⟩ := id hI
  by_cases g : ¬ sp_X7_isAlarm x0 = 0
  · obtain ⟨a, ha3, -, rfl⟩ := in_of (l := 0) (N := 2) (by decide) (by decide) g
    have hA := hr.arv ha3
    by_cases c : sp_X6_bitOf s.ar (nI a) = 0
    · exact SIM.same o ha ta L w1 w2 M y1 y2 b0 b1 b2 b3 bw u0 u1 Lm hI (-1000002) (fun l D sz => ⟨_, _, by decide, by decide, c_X6_comesInN l D sz o ha ta L w1 w2 M y1 y2 HL HW1 HW2 b0 b1 b2 b3 bw u0 u1 tx T s t hs en tb sh n0 nu lt br le k hk hT (nI a) g c⟩) (fun l D sz => ⟨_, _, by decide, by decide, c_X7_comesIn_np l D sz Lm _ _ _ _ _ _ _ _ _ _ _ _ _ _ _ _ _ _ _ a ha3 (hA.symm.trans c)⟩)
    · obtain ⟨e, -⟩ := hr.comes (t := t) ha3 ((bit01 _ _).resolve_left c)
      have em : ∀ j, j < 127 → va_cpy (va_cpy m spa 0 0 127) (cmR a (m (40 + 9 * a + 8)) 4000 0 m).2 0 0 127 j = m j := fun j hj => by rw [cpy_lt hj, cpy_lt hj]
      exact SIM.mk o ha ta L w1 w2 M y1 y2 b0 b1 b2 b3 bw u0 u1 Lm ((ciR s a (va_cpy s.f t.f 0 0 7) (va_cpy s.g t.g 0 0 7) 4000 1 (va_cpy s.v t.v 0 0 7, va_cpy s.r t.r 0 0 7)).1) HL HW1 HW2 s (ChS.new (ciR s a (va_cpy s.f t.f 0 0 7) (va_cpy s.g t.g 0 0 7) 4000 1 (va_cpy s.v t.v 0 0 7, va_cpy s.r t.r 0 0 7)).2.1 (va_cpy s.f t.f 0 0 7) (va_cpy s.g t.g 0 0 7) (ciR s a (va_cpy s.f t.f 0 0 7) (va_cpy s.g t.g 0 0 7) 4000 1 (va_cpy s.v t.v 0 0 7, va_cpy s.r t.r 0 0 7)).2.2 t.av t.mk t.cm t.ar t.fl t.en t.la t.zs t.se t.ph t.tk t.pc t.rc t.wc t.bc t.tc) hs en tb sh n0 nu lt br le k tx T (va_cpy (va_cpy m spa 0 0 127) (cmR a (m (40 + 9 * a + 8)) 4000 0 m).2 0 0 127) pa td ah d nn p9 fo re ca os od (va_cpy m spa 0 0 127) he ⟨hk, hT, htx, hr.congr em, hh, (hb.mono (by omega)).congr (em 32 (by decide)) (em 31 (by decide)), hhb.mono (by omega), hp9⟩ (fun l D sz => ⟨_, _, by decide, by decide, c_X6_comesIn l D sz o ha ta L w1 w2 M y1 y2 HL HW1 HW2 b0 b1 b2 b3 bw u0 u1 tx T s t hs en tb sh n0 nu lt br le k hk hT a ha3 g c _ _ _ _ rfl rfl rfl rfl⟩) (fun l D sz => ⟨10, 217, by decide, by decide, by (rw [e]; exact c_X7_comesIn l D sz Lm _ _ _ _ _ _ _ _ _ _ _ _ _ _ _ _ _ _ _ a ha3 (fun u => c (hA.trans u)))⟩)
  · exact SIM.same o ha ta L w1 w2 M y1 y2 b0 b1 b2 b3 bw u0 u1 Lm hI (-1000001) (fun l D sz => ⟨_, _, by decide, by decide, c_X6_comesInB l D sz o ha ta L w1 w2 M y1 y2 HL HW1 HW2 b0 b1 b2 b3 bw u0 u1 tx T s t hs en tb sh n0 nu lt br le k hk hT x0 (not_not' g)⟩) (fun l D sz => ⟨_, _, by decide, by decide, c_X7_comesIn_bad l D sz Lm _ _ _ _ _ _ _ _ _ _ _ _ _ _ _ _ _ _ _ x0 g⟩)
theorem sim_share {K : Nat} {c : DS} {x : MS} (hI : INV K c x) (hK : K < 16777216) : SIM o ha ta L w1 w2 M y1 y2 b0 b1 b2 b3 bw u0 u1 Lm K yX6_share cX6_share 1 yX7_share cX7_share 3 [] c x := by
  obtain ⟨HL, HW1, HW2, s, t, hs, ⟨en, tb, sh, n0⟩, ⟨nu, lt, br, le⟩, k, tx, T⟩ := c
  obtain ⟨m, pa, ⟨td, ah, d, nn⟩, p9, ⟨fo, re, ca, os, od⟩, spa, he⟩ := x
  replace hI : INVx K s hs k tx T m pa p9 := hI
  obtain ⟨hk, hT, htx, hr, hh, hb, hhb, hp9⟩ := id hI
  obtain ⟨tt, b, h32, h31, hle, hlK⟩ := id hb
  have ebc : s.bc = m 31 := hr.2.2.2.2.2.2.2.2.2.2.2.1
  have etc : s.tc = m 32 := hr.2.2.2.2.2.2.2.2.2.2.2.2.1
  by_cases c : m 31 = 0
  · exact SIM.same o ha ta L w1 w2 M y1 y2 b0 b1 b2 b3 bw u0 u1 Lm hI (-1000004) (fun l D sz => ⟨_, _, by decide, by decide, c_X6_shareN l D sz o ha ta L w1 w2 M y1 y2 HL HW1 HW2 b0 b1 b2 b3 bw u0 u1 tx T s t hs en tb sh n0 nu lt br le k hk hT (ebc.trans c)⟩) (fun l D sz => ⟨_, _, by decide, by decide, c_X7_share_nf l D sz Lm _ _ _ _ _ _ _ _ _ _ _ _ _ _ _ _ _ _ _ c⟩)
  · have b1' : 1 ≤ b := by
      rcases Nat.eq_zero_or_pos b with u | u
      · exact absurd (by rw [h31, u]; rfl) c
      · exact u
    obtain ⟨n, hn, hz⟩ := share_q (t := tt) (b := b) hle b1' (by omega)
    exact SIM.same o ha ta L w1 w2 M y1 y2 b0 b1 b2 b3 bw u0 u1 Lm hI (nI n) (fun l D sz => ⟨_, _, by decide, by decide, c_X6_share l D sz o ha ta L w1 w2 M y1 y2 HL HW1 HW2 b0 b1 b2 b3 bw u0 u1 tx T s t hs en tb sh n0 nu lt br le k hk hT (fun u => c (ebc.symm.trans u)) n (by rw [etc, ebc, h32, h31]; exact hn) hz⟩) (fun l D sz => ⟨_, _, by decide, by decide, c_X7_share l D sz Lm _ _ _ _ _ _ _ _ _ _ _ _ _ _ _ _ _ _ _ c n (by rw [h32, h31]; exact hn) hz⟩)
theorem sim_fault {K : Nat} {c : DS} {x : MS} (hI : INV K c x) (x0 : Int32) : SIM o ha ta L w1 w2 M y1 y2 b0 b1 b2 b3 bw u0 u1 Lm K yX6_fault cX6_fault 3 yX7_fault cX7_fault 3 [.int x0] c x := by
  obtain ⟨HL, HW1, HW2, s, t, hs, ⟨en, tb, sh, n0⟩, ⟨nu, lt, br, le⟩, k, tx, T⟩ := c
  obtain ⟨m, pa, ⟨td, ah, d, nn⟩, p9, ⟨fo, re, ca, os, od⟩, spa, he⟩ := x
  replace hI : INVx K s hs k tx T m pa p9 := hI
  obtain ⟨hk, hT, htx, hr, hh, hb, hhb, hp9⟩ := id hI
  by_cases g : ¬ sp_X7_in x0 0 2 = 0
  · obtain ⟨w, hw, -, rfl⟩ := in_of (l := 0) (N := 2) (by decide) (by decide) g
    obtain ⟨p, z, q, hok⟩ := hr.rok
    have hch := tx_ok htx
    have hle : (plR q tx T 61 ((m, td, ah, d, nn), nu, 0, 0, re, ca, 0, od)).2.2.2.1 ≤ 60 := plR_le hT 61 _ (Nat.zero_le 60)
    obtain ⟨P, hP⟩ : ∃ P, plR q tx T 61 ((m, td, ah, d, nn), nu, 0, 0, re, ca, 0, od) = P := ⟨_, rfl⟩
    obtain ⟨F9, hF9⟩ : ∃ F, ffR tx T 60 0 (nu, lt, br, le) = F := ⟨_, rfl⟩
    have key := txt (q := q) (z := z) (tx := tx) (T := T) 60 0 nu m s td ah d nn 0 re ca 0 od p K 0 (by omega) (Nat.zero_le _) hr hok hb rfl
    rw [show plR q tx T (60 + 1) ((m, td, ah, d, nn), nu, 0, 0, re, ca, 0, od) = P from hP] at key
    rw [hP] at hle
    have em : ∀ j, j < 127 → va_cpy (va_cpy m he 0 0 127) P.2.1.1 0 0 127 j = m j := fun j hj => by rw [cpy_lt hj, cpy_lt hj]
    have hI2 : INVx (K + 61) s hs k tx T (va_cpy (va_cpy m he 0 0 127) P.2.1.1 0 0 127) pa P.2.2.2.1 := ⟨hk, hT, htx, hr.congr em, hh, (hb.mono (by omega)).congr (em 32 (by decide)) (em 31 (by decide)), hhb.mono (by omega), hle⟩
    have hnu : P.2.2.1 = F9.2.1 := by
      rcases key with ⟨-, -, -, -, k5⟩ | ⟨-, k5⟩
      · obtain ⟨-, k6, -⟩ := k5 (en, tb, sh, n0) (nu, lt, br, le) rfl
        rw [hF9] at k6; exact k6.symm
      · obtain ⟨w, -, -, k6, -⟩ := k5 (nu, lt, br, le) rfl
        rw [hF9] at k6; exact k6.symm
    have hft : 0 ≤ F9.1 → ∀ i, faC i F9 = faR i P := fun h0 i => by
      rcases key with ⟨-, -, -, -, k5⟩ | ⟨k1, k5⟩
      · obtain ⟨k6, -⟩ := k5 (en, tb, sh, n0) (nu, lt, br, le) rfl
        rw [hF9] at k6; rw [k6] at h0; exact absurd h0 (by decide)
      · obtain ⟨w, -, k6, -, k7, k8, k9⟩ := k5 (nu, lt, br, le) rfl
        rw [hF9] at k6 k8 k9
        unfold faC faR
        rw [if_pos k1, k6, k7, k8, k9]
    have hfn : ¬ 0 ≤ F9.1 → ∀ i, (-1000004 : Int32) = faR i P := fun h0 i => by
      rcases key with ⟨k1, -⟩ | ⟨-, k5⟩
      · unfold faR
        rw [if_neg (show ¬ P.1 = 0 by rw [k1]; decide)]
      · obtain ⟨w, hwT, k6, -⟩ := k5 (nu, lt, br, le) rfl
        rw [hF9] at k6
        exact absurd (by rw [k6, Int32.le_iff_toInt_le, nI_int (by omega)]; exact Int.natCast_nonneg w) h0
    match w, hw with
    | 0, _ =>
      by_cases h0 : 0 ≤ F9.1
      · have e : faC 0 F9 = faR 0 P := hft h0 0
        exact SIM.mk o ha ta L w1 w2 M y1 y2 b0 b1 b2 b3 bw u0 u1 Lm (faC 0 F9) HL HW1 HW2 s t hs en tb sh n0 (P.2.2.1) (F9.2.2.1) (F9.2.2.2.1) (F9.2.2.2.2) k tx T (va_cpy (va_cpy m he 0 0 127) P.2.1.1 0 0 127) pa (P.2.1.2.1) (P.2.1.2.2.1) (P.2.1.2.2.2.1) (P.2.1.2.2.2.2) (P.2.2.2.1) (P.2.2.2.2.1) (P.2.2.2.2.2.1) (P.2.2.2.2.2.2.1) (P.2.2.2.2.2.2.2.1) (P.2.2.2.2.2.2.2.2) spa (va_cpy m he 0 0 127) hI2 (fun l D sz => ⟨5, 107, by decide, by decide, by rw [hnu]; exact c_X6_fault0 l D sz o ha ta L w1 w2 M y1 y2 HL HW1 HW2 b0 b1 b2 b3 bw u0 u1 tx T s t hs en tb sh n0 nu lt br le k hk hT hch F9 hF9 (fun u => u h0)⟩) (fun l D sz => ⟨17, 372, by decide, by decide, by have u := c_X7_fault l D sz Lm m pa k td ah d nn tx T nu p9 fo re ca os od spa he hT hp9 p z q hk hok 0 (by decide); rw [hP] at u; rw [e]; exact u⟩)
      · have e : (-1000004 : Int32) = faR 0 P := hfn h0 0
        exact SIM.mk o ha ta L w1 w2 M y1 y2 b0 b1 b2 b3 bw u0 u1 Lm (-1000004) HL HW1 HW2 s t hs en tb sh n0 (P.2.2.1) (F9.2.2.1) (F9.2.2.2.1) (F9.2.2.2.2) k tx T (va_cpy (va_cpy m he 0 0 127) P.2.1.1 0 0 127) pa (P.2.1.2.1) (P.2.1.2.2.1) (P.2.1.2.2.2.1) (P.2.1.2.2.2.2) (P.2.2.2.1) (P.2.2.2.2.1) (P.2.2.2.2.2.1) (P.2.2.2.2.2.2.1) (P.2.2.2.2.2.2.2.1) (P.2.2.2.2.2.2.2.2) spa (va_cpy m he 0 0 127) hI2 (fun l D sz => ⟨5, 107, by decide, by decide, by rw [hnu]; exact c_X6_faultN0 l D sz o ha ta L w1 w2 M y1 y2 HL HW1 HW2 b0 b1 b2 b3 bw u0 u1 tx T s t hs en tb sh n0 nu lt br le k hk hT hch F9 hF9 h0⟩) (fun l D sz => ⟨17, 372, by decide, by decide, by have u := c_X7_fault l D sz Lm m pa k td ah d nn tx T nu p9 fo re ca os od spa he hT hp9 p z q hk hok 0 (by decide); rw [hP] at u; rw [e]; exact u⟩)
    | 1, _ =>
      by_cases h0 : 0 ≤ F9.1
      · have e : faC 1 F9 = faR 1 P := hft h0 1
        exact SIM.mk o ha ta L w1 w2 M y1 y2 b0 b1 b2 b3 bw u0 u1 Lm (faC 1 F9) HL HW1 HW2 s t hs en tb sh n0 (P.2.2.1) (F9.2.2.1) (F9.2.2.2.1) (F9.2.2.2.2) k tx T (va_cpy (va_cpy m he 0 0 127) P.2.1.1 0 0 127) pa (P.2.1.2.1) (P.2.1.2.2.1) (P.2.1.2.2.2.1) (P.2.1.2.2.2.2) (P.2.2.2.1) (P.2.2.2.2.1) (P.2.2.2.2.2.1) (P.2.2.2.2.2.2.1) (P.2.2.2.2.2.2.2.1) (P.2.2.2.2.2.2.2.2) spa (va_cpy m he 0 0 127) hI2 (fun l D sz => ⟨5, 107, by decide, by decide, by rw [hnu]; exact c_X6_fault1 l D sz o ha ta L w1 w2 M y1 y2 HL HW1 HW2 b0 b1 b2 b3 bw u0 u1 tx T s t hs en tb sh n0 nu lt br le k hk hT hch F9 hF9 (fun u => u h0)⟩) (fun l D sz => ⟨17, 372, by decide, by decide, by have u := c_X7_fault l D sz Lm m pa k td ah d nn tx T nu p9 fo re ca os od spa he hT hp9 p z q hk hok 1 (by decide); rw [hP] at u; rw [e]; exact u⟩)
      · have e : (-1000004 : Int32) = faR 1 P := hfn h0 1
        exact SIM.mk o ha ta L w1 w2 M y1 y2 b0 b1 b2 b3 bw u0 u1 Lm (-1000004) HL HW1 HW2 s t hs en tb sh n0 (P.2.2.1) (F9.2.2.1) (F9.2.2.2.1) (F9.2.2.2.2) k tx T (va_cpy (va_cpy m he 0 0 127) P.2.1.1 0 0 127) pa (P.2.1.2.1) (P.2.1.2.2.1) (P.2.1.2.2.2.1) (P.2.1.2.2.2.2) (P.2.2.2.1) (P.2.2.2.2.1) (P.2.2.2.2.2.1) (P.2.2.2.2.2.2.1) (P.2.2.2.2.2.2.2.1) (P.2.2.2.2.2.2.2.2) spa (va_cpy m he 0 0 127) hI2 (fun l D sz => ⟨5, 107, by decide, by decide, by rw [hnu]; exact c_X6_faultN1 l D sz o ha ta L w1 w2 M y1 y2 HL HW1 HW2 b0 b1 b2 b3 bw u0 u1 tx T s t hs en tb sh n0 nu lt br le k hk hT hch F9 hF9 h0⟩) (fun l D sz => ⟨17, 372, by decide, by decide, by have u := c_X7_fault l D sz Lm m pa k td ah d nn tx T nu p9 fo re ca os od spa he hT hp9 p z q hk hok 1 (by decide); rw [hP] at u; rw [e]; exact u⟩)
    | 2, _ =>
      by_cases h0 : 0 ≤ F9.1
      · have e : faC 2 F9 = faR 2 P := hft h0 2
        exact SIM.mk o ha ta L w1 w2 M y1 y2 b0 b1 b2 b3 bw u0 u1 Lm (faC 2 F9) HL HW1 HW2 s t hs en tb sh n0 (P.2.2.1) (F9.2.2.1) (F9.2.2.2.1) (F9.2.2.2.2) k tx T (va_cpy (va_cpy m he 0 0 127) P.2.1.1 0 0 127) pa (P.2.1.2.1) (P.2.1.2.2.1) (P.2.1.2.2.2.1) (P.2.1.2.2.2.2) (P.2.2.2.1) (P.2.2.2.2.1) (P.2.2.2.2.2.1) (P.2.2.2.2.2.2.1) (P.2.2.2.2.2.2.2.1) (P.2.2.2.2.2.2.2.2) spa (va_cpy m he 0 0 127) hI2 (fun l D sz => ⟨5, 107, by decide, by decide, by rw [hnu]; exact c_X6_fault2 l D sz o ha ta L w1 w2 M y1 y2 HL HW1 HW2 b0 b1 b2 b3 bw u0 u1 tx T s t hs en tb sh n0 nu lt br le k hk hT hch F9 hF9 (fun u => u h0)⟩) (fun l D sz => ⟨17, 372, by decide, by decide, by have u := c_X7_fault l D sz Lm m pa k td ah d nn tx T nu p9 fo re ca os od spa he hT hp9 p z q hk hok 2 (by decide); rw [hP] at u; rw [e]; exact u⟩)
      · have e : (-1000004 : Int32) = faR 2 P := hfn h0 2
        exact SIM.mk o ha ta L w1 w2 M y1 y2 b0 b1 b2 b3 bw u0 u1 Lm (-1000004) HL HW1 HW2 s t hs en tb sh n0 (P.2.2.1) (F9.2.2.1) (F9.2.2.2.1) (F9.2.2.2.2) k tx T (va_cpy (va_cpy m he 0 0 127) P.2.1.1 0 0 127) pa (P.2.1.2.1) (P.2.1.2.2.1) (P.2.1.2.2.2.1) (P.2.1.2.2.2.2) (P.2.2.2.1) (P.2.2.2.2.1) (P.2.2.2.2.2.1) (P.2.2.2.2.2.2.1) (P.2.2.2.2.2.2.2.1) (P.2.2.2.2.2.2.2.2) spa (va_cpy m he 0 0 127) hI2 (fun l D sz => ⟨5, 107, by decide, by decide, by rw [hnu]; exact c_X6_faultN2 l D sz o ha ta L w1 w2 M y1 y2 HL HW1 HW2 b0 b1 b2 b3 bw u0 u1 tx T s t hs en tb sh n0 nu lt br le k hk hT hch F9 hF9 h0⟩) (fun l D sz => ⟨17, 372, by decide, by decide, by have u := c_X7_fault l D sz Lm m pa k td ah d nn tx T nu p9 fo re ca os od spa he hT hp9 p z q hk hok 2 (by decide); rw [hP] at u; rw [e]; exact u⟩)
  · exact SIM.same o ha ta L w1 w2 M y1 y2 b0 b1 b2 b3 bw u0 u1 Lm hI (-1000001) (fun l D sz => ⟨_, _, by decide, by decide, c_X6_faultB l D sz o ha ta L w1 w2 M y1 y2 HL HW1 HW2 b0 b1 b2 b3 bw u0 u1 tx T s t hs en tb sh n0 nu lt br le k hk hT x0 (not_not' g)⟩) (fun l D sz => ⟨_, _, by decide, by decide, c_X7_fault_bad l D sz Lm _ _ _ _ _ _ _ _ _ _ _ _ _ _ _ _ _ _ _ x0 g⟩)
theorem sim_play {K : Nat} {c : DS} {x : MS} (hI : INV K c x) : SIM o ha ta L w1 w2 M y1 y2 b0 b1 b2 b3 bw u0 u1 Lm K yX6_play cX6_play 4 yX7_play cX7_play 2 [] c x := by
  obtain ⟨HL, HW1, HW2, s, t, hs, ⟨en, tb, sh, n0⟩, ⟨nu, lt, br, le⟩, k, tx, T⟩ := c
  obtain ⟨m, pa, ⟨td, ah, d, nn⟩, p9, ⟨fo, re, ca, os, od⟩, spa, he⟩ := x
  replace hI : INVx K s hs k tx T m pa p9 := hI
  obtain ⟨hk, hT, htx, hr, hh, hb, hhb, hp9⟩ := id hI
  obtain ⟨p, z, q, hok⟩ := hr.rok
  have hch := tx_ok htx
  have hle : (plR q tx T 61 ((m, td, ah, d, nn), nu, 0, 0, re, ca, 0, od)).2.2.2.1 ≤ 60 := plR_le hT 61 _ (Nat.zero_le 60)
  obtain ⟨P, hP⟩ : ∃ P, plR q tx T 61 ((m, td, ah, d, nn), nu, 0, 0, re, ca, 0, od) = P := ⟨_, rfl⟩
  obtain ⟨F9, hF9⟩ : ∃ F, ffR tx T 60 0 (nu, lt, br, le) = F := ⟨_, rfl⟩
  have key := txt (q := q) (z := z) (tx := tx) (T := T) 60 0 nu m s td ah d nn 0 re ca 0 od p K 0 (by omega) (Nat.zero_le _) hr hok hb rfl
  rw [show plR q tx T (60 + 1) ((m, td, ah, d, nn), nu, 0, 0, re, ca, 0, od) = P from hP] at key
  rw [hP] at hle
  have em : ∀ j, j < 127 → va_cpy (va_cpy m he 0 0 127) P.2.1.1 0 0 127 j = m j := fun j hj => by rw [cpy_lt hj, cpy_lt hj]
  have hI2 : INVx (K + 61) s hs k tx T (va_cpy (va_cpy m he 0 0 127) P.2.1.1 0 0 127) pa P.2.2.2.1 := ⟨hk, hT, htx, hr.congr em, hh, (hb.mono (by omega)).congr (em 32 (by decide)) (em 31 (by decide)), hhb.mono (by omega), hle⟩
  have hnu : P.2.2.1 = F9.2.1 := by
    rcases key with ⟨-, -, -, -, k5⟩ | ⟨-, k5⟩
    · obtain ⟨-, k6, -⟩ := k5 (en, tb, sh, n0) (nu, lt, br, le) rfl
      rw [hF9] at k6; exact k6.symm
    · obtain ⟨w, -, -, k6, -⟩ := k5 (nu, lt, br, le) rfl
      rw [hF9] at k6; exact k6.symm
  rcases key with ⟨k1, k2, k3, k4, k5⟩ | ⟨k1, k5⟩
  · obtain ⟨k6, -⟩ := k5 (en, tb, sh, n0) (nu, lt, br, le) rfl
    have kF := k6
    rw [hF9] at k6
    have hle2 : (plR q tx T 61 ((va_cpy (va_cpy m he 0 0 127) P.2.1.1 0 0 127, P.2.1.2.1, P.2.1.2.2.1, P.2.1.2.2.2.1, P.2.1.2.2.2.2), P.2.2.1, 0, 0, P.2.2.2.2.2.1, P.2.2.2.2.2.2.1, 0, P.2.2.2.2.2.2.2.2)).2.2.2.1 ≤ 60 := plR_le hT 61 _ (Nat.zero_le 60)
    obtain ⟨Q, hQ⟩ : ∃ Q, plR q tx T 61 ((va_cpy (va_cpy m he 0 0 127) P.2.1.1 0 0 127, P.2.1.2.1, P.2.1.2.2.1, P.2.1.2.2.2.1, P.2.1.2.2.2.2), P.2.2.1, 0, 0, P.2.2.2.2.2.1, P.2.2.2.2.2.2.1, 0, P.2.2.2.2.2.2.2.2) = Q := ⟨_, rfl⟩
    have key2 := txt (q := q) (z := z) (tx := tx) (T := T) 60 0 P.2.2.1 (va_cpy (va_cpy m he 0 0 127) P.2.1.1 0 0 127) s P.2.1.2.1 P.2.1.2.2.1 P.2.1.2.2.2.1 P.2.1.2.2.2.2 0 P.2.2.2.2.2.1 P.2.2.2.2.2.2.1 0 P.2.2.2.2.2.2.2.2 p K 0 (by omega) (Nat.zero_le _) (hr.congr em) (rOK_c hok (fun j h1 h2 => em j (by omega))) (hb.congr (em 32 (by decide)) (em 31 (by decide))) rfl
    rw [show plR q tx T (60 + 1) ((va_cpy (va_cpy m he 0 0 127) P.2.1.1 0 0 127, P.2.1.2.1, P.2.1.2.2.1, P.2.1.2.2.2.1, P.2.1.2.2.2.2), P.2.2.1, 0, 0, P.2.2.2.2.2.1, P.2.2.2.2.2.2.1, 0, P.2.2.2.2.2.2.2.2) = Q from hQ] at key2
    rw [hQ] at hle2
    rcases key2 with ⟨j1, j2, j3, -, j5⟩ | ⟨-, j5⟩
    · obtain ⟨-, -, j7, j8, j9⟩ := j5 (en, tb, sh, n0) F9.2 hnu.symm
      obtain ⟨e9, i1, i2, i3, i4, i5, i6, i7, i8⟩ := hI2.change' (s' := (pyR q tx T 60 0 ((s, en, tb, sh, n0), F9.2, 0)).1.1) (m' := Q.2.1.1) j7 (j3.mono (by omega))
      refine ⟨nI (pyR q tx T 60 0 ((s, en, tb, sh, n0), F9.2, 0)).2.2, (roN k HL, roN k HW1, roN k HW2, (pyR q tx T 60 0 ((s, en, tb, sh, n0), F9.2, 0)).1.1, t, khS k hs s, ((pyR q tx T 60 0 ((s, en, tb, sh, n0), F9.2, 0)).1.2.1, (pyR q tx T 60 0 ((s, en, tb, sh, n0), F9.2, 0)).1.2.2.1, (pyR q tx T 60 0 ((s, en, tb, sh, n0), F9.2, 0)).1.2.2.2.1, (pyR q tx T 60 0 ((s, en, tb, sh, n0), F9.2, 0)).1.2.2.2.2), (Q.2.2.1, (pyR q tx T 60 0 ((s, en, tb, sh, n0), F9.2, 0)).2.1.2.1, (pyR q tx T 60 0 ((s, en, tb, sh, n0), F9.2, 0)).2.1.2.2.1, (pyR q tx T 60 0 ((s, en, tb, sh, n0), F9.2, 0)).2.1.2.2.2), khN k, tx, T), (Q.2.1.1, (pushR (va_cpy (va_cpy m he 0 0 127) P.2.1.1 0 0 127) pa k).1, (Q.2.1.2.1, Q.2.1.2.2.1, Q.2.1.2.2.2.1, Q.2.1.2.2.2.2), Q.2.2.2.1, (Q.2.2.2.2.1, Q.2.2.2.2.2.1, Q.2.2.2.2.2.2.1, nI (pyR q tx T 60 0 ((s, en, tb, sh, n0), F9.2, 0)).2.2, Q.2.2.2.2.2.2.2.2), spa, va_cpy m he 0 0 127), ⟨i1, i2, i3, i4, i5, i6, i7, hle2⟩, (fun l D sz => ⟨6, 135, by decide, by decide, ?_⟩), (fun l D sz => ⟨17, 372, by decide, by decide, ?_⟩)⟩
      · have u := c_X6_play l D sz o ha ta L w1 w2 M y1 y2 HL HW1 HW2 b0 b1 b2 b3 bw u0 u1 tx T s t hs en tb sh n0 nu lt br le k hk hT q (hr.cOK hok) hch F9 hF9 (by rw [k6]; decide) (by rw [← hnu]; exact j2)
        rw [j8] at u
        exact u
      · have u := c_X7_play_ok l D sz Lm m pa k td ah d nn tx T nu p9 fo re ca os od spa he hT hp9 p z q hk hok (by rw [hP, k1]; decide)
        rw [hP, hQ, e9, j9, if_neg (show ¬ Q.1 = 0 by rw [j1]; decide)] at u
        exact u
    · obtain ⟨w, hwT, j6, -⟩ := j5 F9.2 hnu.symm
      exact absurd (j6.symm.trans ((ff_ind 60 0 _ (nu, lt, br, le)).trans kF)) (by intro u; have := congrArg Int32.toInt u; rw [nI_int (by omega), show (-1 : Int32).toInt = -1 from rfl] at this; omega)
  · obtain ⟨w, hwT, k6, -⟩ := k5 (nu, lt, br, le) rfl
    rw [hF9] at k6
    exact SIM.mk o ha ta L w1 w2 M y1 y2 b0 b1 b2 b3 bw u0 u1 Lm (-1000002) HL HW1 HW2 s t hs en tb sh n0 (P.2.2.1) (F9.2.2.1) (F9.2.2.2.1) (F9.2.2.2.2) k tx T (va_cpy (va_cpy m he 0 0 127) P.2.1.1 0 0 127) pa (P.2.1.2.1) (P.2.1.2.2.1) (P.2.1.2.2.2.1) (P.2.1.2.2.2.2) (P.2.2.2.1) (P.2.2.2.2.1) (P.2.2.2.2.2.1) (P.2.2.2.2.2.2.1) (P.2.2.2.2.2.2.2.1) (P.2.2.2.2.2.2.2.2) spa (va_cpy m he 0 0 127) hI2 (fun l D sz => ⟨5, 107, by decide, by decide, by rw [hnu]; exact c_X6_playN l D sz o ha ta L w1 w2 M y1 y2 HL HW1 HW2 b0 b1 b2 b3 bw u0 u1 tx T s t hs en tb sh n0 nu lt br le k hk hT hch F9 hF9 (by rw [k6, Int32.lt_iff_toInt_lt, nI_int (by omega)]; exact fun u => absurd u (Int.not_lt.mpr (Int.natCast_nonneg w)))⟩) (fun l D sz => ⟨17, 372, by decide, by decide, by have u := c_X7_play_np l D sz Lm m pa k td ah d nn tx T nu p9 fo re ca os od spa he hT hp9 p z q hk hok (by rw [hP]; exact k1); rw [hP] at u; exact u⟩)
end SIM3
