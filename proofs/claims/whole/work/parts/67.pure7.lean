/-! what orders do, compared; texts -/
theorem ph_b (m : Row) {j : Nat} (hj : j = 31 ∨ j = 32) : (sp_X7_phase m).2 j = m j := phase_ne m (by omega) (by omega) (by omega) (by omega) (fun a ha => by omega) (by omega) (by omega)
theorem phF_b (m : Row) {j : Nat} (hj : j = 31 ∨ j = 32) : ∀ n, phF m n j = m j
  | 0 => rfl
  | n + 1 => (ph_b _ hj).trans (phF_b m hj n)
theorem rdPh_bb (k : Nat) (y : Row × Row × Nat) {j : Nat} (hj : j = 31 ∨ j = 32) : (rdPh k y).1 j = y.1 j := by
  unfold rdPh
  split
  · exact ph_b _ hj
  · split
    · exact ph_b _ hj
    · exact ph_b _ hj
theorem rdIn_bb (k : Nat) (y : Row × Row × Nat) {j : Nat} (hj : j = 31 ∨ j = 32) : ∀ f, (rdIn k y f).1 j = y.1 j
  | 0 => rfl
  | f + 1 => (rdPh_bb k _ hj).trans (rdIn_bb k y hj f)
theorem rdK_bb (m td d : Row) (q : Nat) {j : Nat} (hj : j = 31 ∨ j = 32) : ∀ k, (rdK m td d q k).1 j = m j
  | 0 => rfl
  | k + 1 => (rdIn_bb k _ hj q).trans (rdK_bb m td d q hj k)
theorem agR_b (q : Nat) {j : Nat} (hj : j = 31 ∨ j = 32) : ∀ (f n : Nat) (x : BS), (agR q f n x).1.1 j = x.1 j
  | 0, n, x => rfl
  | f + 1, n, x => by
    have e : (agS q x).1 j = x.1 j := rdK_bb _ _ _ q hj 7
    unfold agR
    split
    · exact e
    · split
      · exact (agR_b q hj f (n + 1) (agS q x)).trans e
      · exact e
theorem buR_b (m td ah d : Row) (q md : Nat) {j : Nat} (hj : j = 31 ∨ j = 32) : (buR m td ah d q md).1.1 j = m j := by
  unfold buR
  split
  · exact rdK_bb _ _ _ q hj 7
  · split
    · exact phF_b m hj _
    · exact (agR_b q hj 4 1 (rdB m td ah d q)).trans (rdK_bb _ _ _ q hj 7)
theorem RB.burst {K : Nat} {s : ChS} {m : Row} (hb : RB K m) (h : Rel s m) {p z q md : Nat} (hok : rOK m p z q) (hmd : md < 3) (td ah d : Row) : RB (K + 1) (buS m td ah d q md) := by
  obtain ⟨⟨r1, -⟩, -⟩ := mk_bu h hok hmd z0 z0 (fun _ => z0) td ah d
  obtain ⟨-, -, ⟨a, k, -, -, -, g4, g5, -⟩, -⟩ := r1
  have hS : buS m td ah d q md = bLog (buR m td ah d q md).1.1 (buR m td ah d q md).1.2.1 (nI md) (bTorn (buR m td ah d q md).1) (nI (buR m td ah d q md).2) := rfl
  have b31 := buR_b m td ah d q md (j := 31) (Or.inl rfl)
  have b32 := buR_b m td ah d q md (j := 32) (Or.inr rfl)
  obtain ⟨t, b, h1, h2, h3, h4⟩ := hb
  rw [hS]
  generalize buR m td ah d q md = B at g5 b31 b32
  have e1 : bLog B.1.1 B.1.2.1 (nI md) (bTorn B.1) (nI B.2) 31 = nI (b + 1) := by
    rw [bl_at _ _ _ _ _ g4 g5 31, if_pos rfl, b31, h2]
    exact (nI_succ b).symm
  have e2 : bLog B.1.1 B.1.2.1 (nI md) (bTorn B.1) (nI B.2) 32 = nI t + bTorn B.1 := by
    rw [bl_at _ _ _ _ _ g4 g5 32, if_neg (by decide), if_pos rfl, b32, h1]
  rcases torn01 B.1 with c | c
  · refine ⟨t, b + 1, by rw [e2, c]; exact Int32.add_zero _, e1, by omega, by omega⟩
  · refine ⟨t + 1, b + 1, by rw [e2, c]; exact (nI_succ t).symm, e1, by omega, by omega⟩
theorem Rel.ring {s : ChS} {m : Row} (h : Rel s m) : s.la = nI (nc s.la) ∧ nc s.la < 6 ∧ s.zs = nI (nc s.zs) ∧ nc s.zs ≤ 6 := by
  obtain ⟨-, -, ⟨a, z, g1, g2, g3, g4, -, -⟩, -⟩ := h
  have e1 : nc s.la = a := by rw [g1]; exact nc_nI (by omega)
  have e2 : nc s.zs = z := by rw [g3]; exact nc_nI (by omega)
  rw [e1, e2]
  exact ⟨g1, g2, g3, g4⟩
theorem Rel.cOK {s : ChS} {m : Row} (h : Rel s m) {p z q : Nat} (hok : rOK m p z q) : cOK q s := by
  obtain ⟨n1, n2, n3, n4⟩ := Rel.ring h
  exact ⟨hok.2.2.2.2.2.2, h.2.2.2.1.trans hok.2.2.1, n1, n3, n2, n4⟩
theorem in_n {x : Int32} {k l N : Nat} (e : x = nI k) (h1 : l ≤ k) (h2 : k ≤ N) (hN : N < 2147483648) : ¬ sp_X7_in x (nI l) (nI N) = 0 := by
  rw [e]; exact in_okL k l N h1 h2 hN
/-- an order that may be done -/
theorem order_ok {s : ChS} {m : Row} (h : Rel s m) {p z q K : Nat} (hok : rOK m p z q) (hb : RB K m) {nu : Row} {lt : Int32} (hm : ¬ sp_X6_mayDo nu lt = 0) (ub : UB) (td ah d : Row) (n0 : Int32) :
    (¬ (doR q lt nu (m, td, ah, d, n0)).1 < 0) ∧ Rel (pyS q lt nu (s, ub)).1 (doR q lt nu (m, td, ah, d, n0)).2.1 ∧ RB (K + 1) (doR q lt nu (m, td, ah, d, n0)).2.1 := by
  by_cases c1 : lt = 97
  · obtain ⟨k, i, y, hk, hi, hy, e0, e1, e2⟩ := may_a c1 hm
    have eD : doR q lt nu (m, td, ah, d, n0) = ((sp_X7_alarm m k i y).1, (sp_X7_alarm m k i y).2, td, ah, d, n0) := by
      unfold doR
      rw [if_pos c1, if_pos ⟨in_n (l := 0) (N := 2) e0 (by omega) (by omega) (by decide), in_n (l := 0) (N := 4) e1 (by omega) (by omega) (by decide), in_n (l := 0) (N := 255) e2 (by omega) (by omega) (by decide)⟩, e0, e1, e2, nc_nI (by omega), nc_nI (by omega), nc_nI (by omega)]
    have eP : pyS q lt nu (s, ub) = (ChS.new s.v s.f s.g s.r (upR s.av k (upd (s.av k) i (nI y))) s.mk s.cm s.ar s.fl s.en s.la s.zs s.se s.ph s.tk s.pc s.rc s.wc s.bc s.tc, ub) := by
      unfold pyS
      rw [if_pos c1, e0, e1, e2, nc_nI (by omega), nc_nI (by omega)]
    rw [eD, eP]
    refine ⟨byte_pos ((h.2.1.2.2.2 k hk).1 i hi).2, Rel.setal h hk hi ⟨y, hy, rfl⟩, (hb.mono (Nat.le_succ K)).congr (upd_ne _ _ (by omega)) (upd_ne _ _ (by omega))⟩
  · by_cases c2 : lt = 98
    · obtain ⟨k, hk, e0⟩ := may_b c2 hm
      have eD : doR q lt nu (m, td, ah, d, n0) = (bTorn (buR m td ah d q k).1, buS m td ah d q k, (buR m td ah d q k).1.2.1, (buR m td ah d q k).1.2.2.1, (buR m td ah d q k).1.2.2.2.1, nI (buR m td ah d q k).1.2.2.2.2) := by
        unfold doR
        rw [if_neg c1, if_pos c2, if_pos (show ¬ sp_X7_in (nu 0) 0 2 = 0 from in_n (l := 0) (N := 2) e0 (by omega) (by omega) (by decide)), e0, nc_nI (by omega)]
      have eP : (pyS q lt nu (s, ub)).1 = lgC (mkR (nI k) q ub.1 ub.2.1 ub.2.2.1 s).2.2.2.2 (mkE (nI k) (mkR (nI k) q ub.1 ub.2.1 ub.2.2.1 s)) (nc s.la) (nc s.zs) := by
        unfold pyS
        rw [if_neg c1, if_pos c2, e0]
      obtain ⟨n1, n2, n3, n4⟩ := Rel.ring h
      rw [eD, eP]
      refine ⟨?_, (Rel.burst h hok hk n1 n2 n3 n4 _ _ _ td ah d).2.1, hb.burst h hok hk td ah d⟩
      rcases torn01 (buR m td ah d q k).1 with c | c
      · dsimp only; rw [c]; decide
      · dsimp only; rw [c]; decide
    · by_cases c3 : lt = 112
      · obtain ⟨k, hk, hk1, e0⟩ := may_p c3 hm
        have eD : doR q lt nu (m, td, ah, d, n0) = (phN m k, phF m k, td, ah, d, n0) := by
          unfold doR
          rw [if_neg c1, if_neg c2, if_pos c3, if_pos (show ¬ sp_X7_in (nu 0) 1 9999 = 0 from in_n (l := 1) (N := 9999) e0 hk1 (by omega) (by decide)), e0, nc_nI (by omega)]
        have eP : (pyS q lt nu (s, ub)).1 = (ppF s k).2 := by
          unfold pyS
          rw [if_neg c1, if_neg c2, if_pos c3, e0, nc_nI (by omega)]
        rw [eD, eP]
        exact ⟨phN_nlt m k (by omega), (Rel.phases h k).2, (hb.mono (Nat.le_succ K)).congr (phF_b m (Or.inr rfl) k) (phF_b m (Or.inl rfl) k)⟩
      · by_cases c4 : lt = 114
        · obtain ⟨k, hk, e0⟩ := may_r c4 hm
          have eD : doR q lt nu (m, td, ah, d, n0) = ((sp_X7_read m k q).1, (sp_X7_read m k q).2, td, ah, d, n0) := by
            unfold doR
            rw [if_neg c1, if_neg c2, if_neg c3, if_pos c4, if_pos (show ¬ sp_X7_isRegister (nu 0) = 0 from in_n (l := 0) (N := 6) e0 (by omega) (by omega) (by decide)), e0, nc_nI (by omega)]
          have eP : (pyS q lt nu (s, ub)).1 = (sp_X3_readRegister s k q).2 := by
            unfold pyS
            rw [if_neg c1, if_neg c2, if_neg c3, if_pos c4, e0, nc_nI (by omega)]
          obtain ⟨r1, r2⟩ := Rel.read h (q := q) hk
          rw [eD, eP]
          refine ⟨?_, r2, (hb.mono (Nat.le_succ K)).congr ((phF_b _ (Or.inr rfl) q).trans (upd_ne _ _ (by decide))) ((phF_b _ (Or.inl rfl) q).trans (upd_ne _ _ (by decide)))⟩
          dsimp only
          rw [← r1, (h.1 k hk).1]
          exact byte_pos (h.1 k hk).2.2.2.2.1
        · by_cases c5 : lt = 119
          · obtain ⟨k, y, hk, hy, e0, e1⟩ := may_w c5 hm
            have eD : doR q lt nu (m, td, ah, d, n0) = ((sp_X7_write m k y).1, (sp_X7_write m k y).2, td, ah, d, n0) := by
              unfold doR
              rw [if_neg c1, if_neg c2, if_neg c3, if_neg c4, if_pos c5, if_pos ⟨in_n (l := 0) (N := 6) e0 (by omega) (by omega) (by decide), in_n (l := 0) (N := 255) e1 (by omega) (by omega) (by decide)⟩, e0, e1, nc_nI (by omega), nc_nI (by omega)]
            have eP : (pyS q lt nu (s, ub)).1 = (sp_X3_writeRegister s k (nI y)).2 := by
              unfold pyS
              rw [if_neg c1, if_neg c2, if_neg c3, if_neg c4, if_pos c5, e0, e1, nc_nI (by omega)]
            obtain ⟨r1, r2⟩ := Rel.write h hk hy
            rw [eD, eP]
            have lo : ∀ j, 28 ≤ j → j ≠ 34 → (sp_X7_write m k y).2 j = m j := fun j a1 a2 => (upd_ne _ _ a2).trans (puts_ne _ _ _ (by omega))
            refine ⟨?_, r2, (hb.mono (Nat.le_succ K)).congr (lo 32 (by decide) (by decide)) (lo 31 (by decide) (by decide))⟩
            dsimp only
            have hv := (r2.1 k hk).2.2.2.2.1
            exact byte_pos hv
          · obtain ⟨k, y, hk, hy, e0, e1⟩ := may_m c1 c2 c3 c4 c5 hm
            have hneg : ¬ nu 1 = -1 := fun g => absurd (show nI y < 0 from by rw [← e1, g]; decide) (nI_pos (by omega))
            have eD : doR q lt nu (m, td, ah, d, n0) = ((sp_X7_arm m k y).1, (sp_X7_arm m k y).2, td, ah, d, n0) := by
              unfold doR
              rw [if_neg c1, if_neg c2, if_neg c3, if_neg c4, if_neg c5, if_pos ⟨in_n (l := 0) (N := 2) e0 (by omega) (by omega) (by decide), by rw [e1]; exact in_okM y 31 (by omega) (by decide)⟩, if_neg hneg, e0, e1, nc_nI (by omega), nc_nI (by omega)]
            have eP : pyS q lt nu (s, ub) = (ChS.new s.v s.f s.g s.r s.av (sp_X0_changeMask s.mk s.ar k y).2.1 s.cm (sp_X0_changeMask s.mk s.ar k y).2.2 s.fl s.en s.la s.zs s.se s.ph s.tk s.pc s.rc s.wc s.bc s.tc, ub) := by
              unfold pyS
              rw [if_neg c1, if_neg c2, if_neg c3, if_neg c4, if_neg c5, e0, e1, nc_nI (by omega), nc_nI (by omega)]
            obtain ⟨r1, r2⟩ := Rel.arm h hk hy
            rw [eD, eP]
            have lo : ∀ j, j < 40 → (sp_X7_arm m k y).2 j = m j := fun j a1 => (upd_ne _ _ (by omega)).trans (upd_ne _ _ (by omega))
            refine ⟨?_, r2, (hb.mono (Nat.le_succ K)).congr (lo 32 (by decide)) (lo 31 (by decide))⟩
            dsimp only
            rw [← r1]
            have e : (sp_X0_changeMask s.mk s.ar k y).1 = sp_X6_bitOf s.ar (nI k) := by
              unfold sp_X0_changeMask
              split <;> rfl
            rw [e]
            rcases bit01 s.ar (nI k) with g | g
            · rw [g]; decide
            · rw [g]; decide
theorem order_bad {q : Nat} {nu : Row} {lt : Int32} (hm : sp_X6_mayDo nu lt = 0) (h1 : lt = 97 ∨ lt = 98 ∨ lt = 112 ∨ lt = 114 ∨ lt = 119 ∨ okN (nu 1)) (x : XS) : doR q lt nu x = (-1000001, x) := by
  unfold sp_X6_mayDo at hm
  unfold doR
  by_cases c1 : lt = 97
  · rw [if_pos c1] at hm ⊢
    refine if_neg ?_
    rintro ⟨a1, a2, a3⟩
    unfold sp_X6_mayChangeAlarm at hm
    rw [if_neg (show ¬ sp_X6_isAlarm (nu 0) = 0 from a1), if_neg (show ¬ sp_X6_isWithin (nu 1) 0 4 = 0 from a2), if_neg (show ¬ sp_X6_isWithin (nu 2) 0 255 = 0 from a3)] at hm
    exact absurd hm (by decide)
  · rw [if_neg c1] at hm ⊢
    by_cases c2 : lt = 98
    · rw [if_pos c2] at hm ⊢
      exact if_neg (fun g => g hm)
    · rw [if_neg c2] at hm ⊢
      by_cases c3 : lt = 112
      · rw [if_pos c3] at hm ⊢
        exact if_neg (fun g => g hm)
      · rw [if_neg c3] at hm ⊢
        by_cases c4 : lt = 114
        · rw [if_pos c4] at hm ⊢
          exact if_neg (fun g => g hm)
        · rw [if_neg c4] at hm ⊢
          by_cases c5 : lt = 119
          · rw [if_pos c5] at hm ⊢
            refine if_neg ?_
            rintro ⟨a1, a2⟩
            unfold sp_X6_mayWrite at hm
            rw [if_neg (show ¬ sp_X6_isRegister (nu 0) = 0 from a1), if_neg (show ¬ sp_X6_isWithin (nu 1) 0 255 = 0 from a2)] at hm
            exact absurd hm (by decide)
          · rw [if_neg c5] at hm ⊢
            refine if_neg ?_
            rintro ⟨a1, a2⟩
            obtain ⟨y, hy, e1⟩ : okN (nu 1) := by
              rcases h1 with g | g | g | g | g | g
              · exact absurd g c1
              · exact absurd g c2
              · exact absurd g c3
              · exact absurd g c4
              · exact absurd g c5
              · exact g
            have a3 : ¬ sp_X6_isWithin (nu 1) 0 31 = 0 := by
              rcases (in_iffM (nu 1) 31 (by decide)).mp a2 with g | ⟨k, hk, g⟩
              · rw [e1] at g
                exact absurd (show nI y < 0 from by rw [g]; decide) (nI_pos (by omega))
              · exact in_n (l := 0) (N := 31) g (by omega) (by omega) (by decide)
            rw [if_neg (show ¬ sp_X6_isAlarm (nu 0) = 0 from a1), if_neg a3] at hm
            exact absurd hm (by decide)
theorem plS_b {q : Nat} {tx : Row} {T : Nat} {x : XS} {nu : Row} {p : Nat} {fo re ca os od : Int32} (h : (rdR tx T p nu).1 = 0) : plS q tx T (x, nu, p, fo, re, ca, os, od) = (0, x, (rdR tx T p nu).2.2, (rdR tx T p nu).2.1, nI p, 1, nI ((rdR tx T p nu).2.1 - p), os + 1, rdO tx T p) := if_pos h
theorem plS_n {q : Nat} {tx : Row} {T : Nat} {x : XS} {nu : Row} {p : Nat} {fo re ca os od : Int32} (h : ¬ (rdR tx T p nu).1 = 0) (h2 : (doR q (rdO tx T p) (rdR tx T p nu).2.2 x).1 < 0) : plS q tx T (x, nu, p, fo, re, ca, os, od) = (0, (doR q (rdO tx T p) (rdR tx T p nu).2.2 x).2, (rdR tx T p nu).2.2, (rdR tx T p nu).2.1, nI p, 2, (doR q (rdO tx T p) (rdR tx T p nu).2.2 x).1, os + 1, rdO tx T p) := (if_neg h).trans (if_pos h2)
theorem plS_s {q : Nat} {tx : Row} {T : Nat} {x : XS} {nu : Row} {p : Nat} {fo re ca os od : Int32} (h : ¬ (rdR tx T p nu).1 = 0) (h2 : ¬ (doR q (rdO tx T p) (rdR tx T p nu).2.2 x).1 < 0) : plS q tx T (x, nu, p, fo, re, ca, os, od) = (1, (doR q (rdO tx T p) (rdR tx T p nu).2.2 x).2, (rdR tx T p nu).2.2, (rdR tx T p nu).2.1, nI p, 2, (doR q (rdO tx T p) (rdR tx T p nu).2.2 x).1, os + 1, rdO tx T p) := (if_neg h).trans (if_neg h2)
/-- a text without a fault: what it does; a text with one: where, why -/
def TXg (q : Nat) (tx : Row) (T f p : Nat) (nu : Row) (s : ChS) (K z j : Nat) (P : Int32 × YS) : Prop :=
  P.1 = 1 ∧ okP tx T f p nu ∧ RB (K + f) P.2.1.1 ∧ (∃ p', rOK P.2.1.1 p' z q) ∧ ∀ (ub : UB) (o : OS), o.1 = nu → (ffR tx T f p o).1 = -1 ∧ (ffR tx T f p o).2.1 = P.2.2.1 ∧ Rel (pyR q tx T f p ((s, ub), o, j)).1.1 P.2.1.1 ∧ (pyR q tx T f p ((s, ub), o, j)).2.1.1 = P.2.2.1 ∧ P.2.2.2.2.2.2.2.1 = nI (pyR q tx T f p ((s, ub), o, j)).2.2
def TXb (tx : Row) (T f p : Nat) (nu : Row) (P : Int32 × YS) : Prop :=
  P.1 = 0 ∧ ∀ o : OS, o.1 = nu → ∃ w, w < T ∧ (ffR tx T f p o).1 = nI w ∧ (ffR tx T f p o).2.1 = P.2.2.1 ∧ P.2.2.2.2.1 = nI w ∧ P.2.2.2.2.2.1 = (if (ffR tx T f p o).2.2.2.1 = 0 then 2 else 1) ∧ P.2.2.2.2.2.2.1 = (if (ffR tx T f p o).2.2.2.1 = 0 then -1000001 else (ffR tx T f p o).2.2.2.2)
theorem txt {q z : Nat} {tx : Row} {T : Nat} : ∀ (f p : Nat) (nu m : Row) (s : ChS) (td ah d : Row) (n0 fo re ca os od : Int32) (pp K j : Nat), T ≤ p + f → p ≤ T → Rel s m → rOK m pp z q → RB K m → os = nI j →
    TXg q tx T f p nu s K z j (plR q tx T (f + 1) ((m, td, ah, d, n0), nu, p, fo, re, ca, os, od)) ∨ TXb tx T f p nu (plR q tx T (f + 1) ((m, td, ah, d, n0), nu, p, fo, re, ca, os, od)) := by
  intro f
  induction f with
  | zero =>
    intro p nu m s td ah d n0 fo re ca os od pp K j hT hp hR hok hb hos
    left
    have e : plR q tx T (0 + 1) ((m, td, ah, d, n0), nu, p, fo, re, ca, os, od) = (1, (m, td, ah, d, n0), nu, p, fo, re, ca, os, od) := if_pos (show T ≤ p from by omega)
    rw [e]
    exact ⟨rfl, trivial, hb, ⟨pp, hok⟩, fun ub o ho => ⟨rfl, ho, hR, ho, hos⟩⟩
  | succ f ih =>
    intro p nu m s td ah d n0 fo re ca os od pp K j hT hp hR hok hb hos
    by_cases c0 : T ≤ p
    · left
      have e : plR q tx T (f + 1 + 1) ((m, td, ah, d, n0), nu, p, fo, re, ca, os, od) = (1, (m, td, ah, d, n0), nu, p, fo, re, ca, os, od) := if_pos c0
      rw [e]
      refine ⟨rfl, fun g => absurd c0 g, hb.mono (by omega), ⟨pp, hok⟩, fun ub o ho => ?_⟩
      rw [ffR_T c0, pyR_T c0]
      exact ⟨rfl, ho, hR, ho, hos⟩
    · have hpT : p < T := by omega
      obtain ⟨k1, k2⟩ := pso_rdR (tx := tx) hpT nu
      have k3 := fun g => pso_okN (tx := tx) hpT nu g
      have pb := pso_b tx nu hpT
      have ePl : plR q tx T (f + 1 + 1) ((m, td, ah, d, n0), nu, p, fo, re, ca, os, od) = if (plS q tx T ((m, td, ah, d, n0), nu, p, fo, re, ca, os, od)).1 = 0 then (0, (plS q tx T ((m, td, ah, d, n0), nu, p, fo, re, ca, os, od)).2) else plR q tx T (f + 1) (plS q tx T ((m, td, ah, d, n0), nu, p, fo, re, ca, os, od)).2 := if_neg c0
      by_cases c1 : (rdR tx T p nu).1 = 0
      · right
        rw [ePl, plS_b c1, if_pos rfl]
        rw [if_pos c1] at k1
        have b1 : ¬ (pso tx T p nu).1 = 0 := by rw [k1]; exact (show ¬ (1 : Int32) = 0 from by decide)
        refine ⟨rfl, fun o ho => ⟨p, hpT, ?_⟩⟩
        rw [← ho] at b1
        rw [ffR_b c0 b1, ho]
        unfold ffO
        rw [k1]
        dsimp only
        refine ⟨rfl, rfl, rfl, ?_, ?_⟩
        · rw [if_neg (by decide)]
        · rw [if_neg (by decide)]
      · rw [if_neg c1] at k1
        obtain ⟨k4, k5⟩ := k2 c1
        have b0 : (pso tx T p nu).1 = 0 := by rw [k1]
        have e22 : (pso tx T p nu).2.2 = (rdR tx T p nu).2.2 := by rw [k1]
        have e21 : (pso tx T p nu).2.1 = (rdR tx T p nu).2.1 := by rw [k1]
        have hnum := k3 b0
        rw [e22] at hnum
        by_cases c2 : sp_X6_mayDo (rdR tx T p nu).2.2 (tx p) = 0
        · right
          have hD := order_bad (q := q) c2 (by
            rcases nb_val k5 with ⟨g, n⟩ | ⟨g, n⟩ | ⟨g, n⟩ | ⟨g, n⟩ | ⟨g, n⟩ | ⟨g, n⟩
            · exact Or.inl g
            · exact Or.inr (Or.inl g)
            · exact Or.inr (Or.inr (Or.inr (Or.inr (Or.inr (hnum 1 (by omega))))))
            · exact Or.inr (Or.inr (Or.inl g))
            · exact Or.inr (Or.inr (Or.inr (Or.inl g)))
            · exact Or.inr (Or.inr (Or.inr (Or.inr (Or.inl g))))) (m, td, ah, d, n0)
          rw [← k4] at hD
          have hD1 : (doR q (rdO tx T p) (rdR tx T p nu).2.2 (m, td, ah, d, n0)).1 < 0 := by rw [hD]; exact (show (-1000001 : Int32) < 0 from by decide)
          rw [ePl, plS_n c1 hD1, if_pos rfl, hD]
          refine ⟨rfl, fun o ho => ⟨p, hpT, ?_⟩⟩
          rw [ffR_n c0 (by rw [ho]; exact b0) (by rw [ho, e22]; exact c2), ho]
          unfold ffO
          rw [k1]
          dsimp only
          refine ⟨rfl, rfl, rfl, ?_, ?_⟩
          · rw [if_pos rfl]
          · rw [if_pos rfl]
        · obtain ⟨o1, o2, o3⟩ := order_ok hR hok hb c2 (z0, z0, (fun _ => z0), 0) td ah d n0
          obtain ⟨p2, o4⟩ := doR_ok (q := q) (tx p) (rdR tx T p nu).2.2 (m, td, ah, d, n0) hok
          have oS := fun ub => (order_ok hR hok hb c2 ub td ah d n0).2.1
          rw [← k4] at o1 o2 o3 o4 oS
          rw [ePl, plS_s c1 o1, if_neg (show ¬ (1 : Int32) = 0 from by decide)]
          dsimp only
          have hend : p < (rdR tx T p nu).2.1 ∧ (rdR tx T p nu).2.1 ≤ T := by rw [← e21]; exact ⟨pb.2.2 b0, pb.2.1⟩
          have hpy : ∀ ub, (pyS q (rdO tx T p) (rdR tx T p nu).2.2 (s, ub)).1 = (pyS q (rdO tx T p) (rdR tx T p nu).2.2 (s, ub)).1 := fun _ => rfl
          generalize hDD : doR q (rdO tx T p) (rdR tx T p nu).2.2 (m, td, ah, d, n0) = DD at o1 o2 o3 o4 oS
          obtain ⟨DD1, m2, td2, ah2, d2, n2⟩ := DD
          dsimp only at o2 o3 o4 oS ⊢
          have hos2 : os + 1 = nI (j + 1) := by rw [hos]; exact (nI_succ j).symm
          have key := fun (s2 : ChS) (hs2 : Rel s2 m2) => ih (rdR tx T p nu).2.1 (rdR tx T p nu).2.2 m2 s2 td2 ah2 d2 n2 (nI p) 2 DD1 (os + 1) (rdO tx T p) p2 (K + 1) (j + 1) (by omega) hend.2 hs2 o4 o3 hos2
          generalize hPP : plR q tx T (f + 1) ((m2, td2, ah2, d2, n2), (rdR tx T p nu).2.2, (rdR tx T p nu).2.1, nI p, 2, DD1, os + 1, rdO tx T p) = P at key
          have hff : ∀ o : OS, o.1 = nu → ffR tx T (f + 1) p o = ffR tx T f (rdR tx T p nu).2.1 (ffO tx T p nu) ∧ (ffO tx T p nu).1 = (rdR tx T p nu).2.2 := by
            intro o ho
            rw [ffR_s c0 (by rw [ho]; exact b0) (by rw [ho, e22]; exact c2), ho, e21]
            exact ⟨rfl, e22⟩
          by_cases cg : P.1 = 0
          · right
            refine ⟨cg, fun o ho => ?_⟩
            obtain ⟨f1, f2⟩ := hff o ho
            rw [f1]
            rcases key _ o2 with g | g
            · exact absurd cg (by rw [g.1]; decide)
            · exact g.2 (ffO tx T p nu) f2
          · left
            have kg := fun s2 hs2 => (key s2 hs2).resolve_right (fun g => cg g.1)
            obtain ⟨g1, g2, g3, g4, -⟩ := kg _ o2
            refine ⟨g1, fun _ => ⟨b0, by rw [e22]; exact c2, by rw [e21, e22]; exact g2⟩, g3.mono (by omega), g4, fun ub o ho => ?_⟩
            obtain ⟨f1, f2⟩ := hff o ho
            rw [f1]
            have ePy : pyR q tx T (f + 1) p ((s, ub), o, j) = pyR q tx T f (rdR tx T p nu).2.1 ((pyS q (rdO tx T p) (rdR tx T p nu).2.2 (s, ub)), ffO tx T p nu, j + 1) := by
              rw [pyR_s c0]
              dsimp only
              rw [ho, e21, e22, k4]
            rw [ePy]
            obtain ⟨-, -, -, -, g5⟩ := kg _ (oS ub)
            exact g5 _ _ f2
