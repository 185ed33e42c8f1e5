/-! bursts compared -/
def RSh (sh : Nat → Row) (c : Nat) (d : Row) : Prop := ∀ j, j < c → ∀ r, r < 7 → sh j r = d (7 * j + r)
theorem RSh.add {sh : Nat → Row} {c : Nat} {d v m : Row} (h : RSh sh c d) (hv : ∀ r, r < 7 → v r = m (0 + r)) : RSh (upR sh c (va_cpy v (sh c) 0 0 7)) (c + 1) (va_cpy m d 0 (7 * c) 7) := by
  intro j hj r hr
  show va_up sh c (va_cpy v (sh c) 0 0 7) j r = _
  by_cases cj : j = c
  · subst cj
    rw [va_up_self, cpy_lt hr, cpy_at, if_pos (by omega), hv r hr]
    exact congrArg m (by omega)
  · rw [va_up_ne _ _ cj, cpy_at, if_neg (by omega)]
    exact h j (by omega) r hr
theorem ks_add {x : (Nat → Row) × Nat} (v : Row) (h : x.2 < 13) : ksP x v = (upR x.1 x.2 (va_cpy v (x.1 x.2) 0 0 7), x.2 + 1) := if_neg (by omega)
/-- within a burst: what was shown, the chip; what the reference has of it -/
def RI (x : ((Nat → Row) × Nat) × ChS) (y : Row × Row × Nat) : Prop := x.1.2 = y.2.2 ∧ RSh x.1.1 x.1.2 y.2.1 ∧ Rel x.2 y.1
theorem RI.step {t : Nat} {x : ((Nat → Row) × Nat) × ChS} {y : Row × Row × Nat} (h : RI x y) (hb : (rdPh t y).2.2 ≤ 13) : RI (riS t x) (rdPh t y) := by
  obtain ⟨h1, h2, h3⟩ := h
  obtain ⟨p1, p2⟩ := Rel.phase h3
  have e1 : riS t x = (if (sp_X3_passPhase x.2).1 = 0 then x.1 else (if 6 ≤ t then x.1 else ksP x.1 (sp_X3_passPhase x.2).2.v), (sp_X3_passPhase x.2).2) := rfl
  rw [e1, p1]
  generalize sp_X3_passPhase x.2 = X at p1 p2
  unfold rdPh at hb ⊢
  generalize sp_X7_phase y.1 = Y at p1 p2 hb ⊢
  by_cases c1 : Y.1 = 0
  · rw [if_pos c1, if_pos c1]
    exact ⟨h1, h2, p2⟩
  · rw [if_neg c1] at hb
    rw [if_neg c1, if_neg c1]
    by_cases c2 : 6 ≤ t
    · rw [if_pos c2, if_pos c2]
      exact ⟨h1, h2, p2⟩
    · rw [if_neg c2] at hb
      rw [if_neg c2, if_neg c2]
      dsimp only at hb
      rw [ks_add _ (by omega)]
      refine ⟨by show x.1.2 + 1 = y.2.2 + 1; rw [h1], ?_, p2⟩
      show RSh (upR x.1.1 x.1.2 (va_cpy X.2.v (x.1.1 x.1.2) 0 0 7)) (x.1.2 + 1) (va_cpy Y.2 y.2.1 0 (7 * y.2.2) 7)
      rw [← h1]
      exact h2.add (fun r hr => (p2.1 r hr).1)
theorem rdPh_mono (k : Nat) (y : Row × Row × Nat) : y.2.2 ≤ (rdPh k y).2.2 := by
  unfold rdPh
  split
  · exact Nat.le_refl _
  · split
    · exact Nat.le_refl _
    · exact Nat.le_succ _
theorem RI.steps {t : Nat} {x : ((Nat → Row) × Nat) × ChS} {y : Row × Row × Nat} (h : RI x y) : ∀ f, (rdIn t y f).2.2 ≤ 13 → RI (riI t x f) (rdIn t y f)
  | 0, _ => h
  | f + 1, hb => RI.step (RI.steps h f (Nat.le_trans (rdPh_mono t _) hb)) hb
/-- the registers told so far -/
def CV (s : ChS) (t r : Nat) : Prop := if s.se 1 = 0 then r < t else 7 ≤ r + t
theorem CV.step {s : ChS} {t r : Nat} (h : CV s (t + 1) r) (ht : t < 7) (hr : r < 7) (hn : r ≠ (if s.se 1 = 0 then t else 6 - t)) : CV s t r := by
  unfold CV at h ⊢
  by_cases c : s.se 1 = 0
  · rw [if_pos c] at h hn ⊢
    omega
  · rw [if_neg c] at h hn ⊢
    omega
theorem readO {s : ChS} {m : Row} (h : Rel s m) {p z q : Nat} (hok : rOK m p z q) (en : Row) (sh : Nat → Row) (td d : Row) : ∀ t, t ≤ 7 → RI (riO q (en, ksP (sh, 0) s.v, s) t).2 ((rdK m td d q t).1, (rdK m td d q t).2.2.1, (rdK m td d q t).2.2.2) ∧ ∀ r, r < 7 → CV s t r → (riO q (en, ksP (sh, 0) s.v, s) t).1 r = (rdK m td d q t).2.1 r
  | 0, _ => by
    refine ⟨?_, fun r hr hc => ?_⟩
    · show RI (ksP (sh, 0) s.v, s) (m, va_cpy m d 0 (7 * 0) 7, 1)
      rw [ks_add (x := (sh, 0)) _ (show (0 : Nat) < 13 from by decide)]
      exact ⟨rfl, RSh.add (fun j hj => absurd hj (Nat.not_lt_zero j)) (fun r hr => (h.1 r hr).1), h⟩
    · unfold CV at hc
      split at hc <;> omega
  | t + 1, ht => by
    obtain ⟨k1, k2⟩ := readO h hok en sh td d t (by omega)
    obtain ⟨p', -, -, -, hb⟩ := rdK_ok (td := td) (sh := d) hok (t + 1) ht
    have hse : (riO q (en, ksP (sh, 0) s.v, s) t).2.2.se = s.se := riO_se q _ t
    have hR : Rel (riO q (en, ksP (sh, 0) s.v, s) t).2.2 (rdK m td d q t).1 := k1.2.2
    have h38 : (rdK m td d q t).1 38 = s.se 1 := by
      rw [← hR.2.2.2.2.1, hse]
    have hg : rgO (riO q (en, ksP (sh, 0) s.v, s) t).2.2 t = (if s.se 1 = 0 then t else 6 - t) := by
      unfold rgO
      rw [hse]
    have hg7 : (if s.se 1 = 0 then t else 6 - t) < 7 := by split <;> omega
    have eC : riO q (en, ksP (sh, 0) s.v, s) (t + 1) = (upd (riO q (en, ksP (sh, 0) s.v, s) t).1 (rgO (riO q (en, ksP (sh, 0) s.v, s) t).2.2 t) ((riO q (en, ksP (sh, 0) s.v, s) t).2.2.v (rgO (riO q (en, ksP (sh, 0) s.v, s) t).2.2 t)), riI t (riO q (en, ksP (sh, 0) s.v, s) t).2 q) := rfl
    have eR : rdK m td d q (t + 1) = ((rdIn t ((rdK m td d q t).1, (rdK m td d q t).2.2.1, (rdK m td d q t).2.2.2) q).1, upd (rdK m td d q t).2.1 (if (rdK m td d q t).1 38 = 0 then t else 6 - t) ((rdK m td d q t).1 (0 + (if (rdK m td d q t).1 38 = 0 then t else 6 - t))), (rdIn t ((rdK m td d q t).1, (rdK m td d q t).2.2.1, (rdK m td d q t).2.2.2) q).2.1, (rdIn t ((rdK m td d q t).1, (rdK m td d q t).2.2.1, (rdK m td d q t).2.2.2) q).2.2) := rfl
    rw [h38] at eR
    rw [hg] at eC
    rw [eR] at hb
    rw [eC, eR]
    generalize riO q (en, ksP (sh, 0) s.v, s) t = C at k1 k2 hR
    generalize rdK m td d q t = K at k1 k2 hR hb
    generalize hG : (if s.se 1 = 0 then t else 6 - t) = G at hg7
    refine ⟨RI.steps k1 q hb, fun r hr hc => ?_⟩
    show upd C.1 G (C.2.2.v G) r = upd K.2.1 G (K.1 (0 + G)) r
    by_cases cr : r = G
    · subst cr
      rw [upd_eq, upd_eq]
      exact (hR.1 r hr).1
    · rw [upd_ne _ _ cr, upd_ne _ _ cr]
      exact k2 r hr (hc.step (by omega) hr (by rw [hG]; exact cr))
/-- a burst read in turn: the chip, what is told, what was shown -/
def RY (Y : BX) (Z : Row × Row × Row × Nat) : Prop := Rel Y.2.2 Z.1 ∧ (∀ r, r < 7 → Y.1 r = Z.2.1 r) ∧ Y.2.1.2 = Z.2.2.2 ∧ RSh Y.2.1.1 Y.2.1.2 Z.2.2.1
theorem readT {s : ChS} {m : Row} (h : Rel s m) {p z q : Nat} (hok : rOK m p z q) (en : Row) (sh : Nat → Row) (c : Nat) (td d : Row) : RY (riT q (en, (sh, c), s)) (rdK m td d q 7) := by
  obtain ⟨⟨k1, k2, k3⟩, k4⟩ := readO h hok en sh td d 7 (Nat.le_refl 7)
  refine ⟨k3, fun r hr => k4 r hr ?_, k1, k2⟩
  unfold CV
  split <;> omega
theorem told_eq {en y td ah : Row} (h1 : ∀ r, r < 7 → en r = td r) (h2 : ∀ r, r < 7 → y r = ah r) : sp_X1_isTold en y = sp_X7_isAsAhead td ah := by
  unfold sp_X1_isTold sp_X7_isAsAhead
  exact bI_c ⟨fun q r hr => by rw [← h1 r hr, ← h2 r hr]; exact (q r hr).symm, fun q r hr => by rw [h1 r hr, h2 r hr]; exact (q r hr).symm⟩
theorem torn_eq {en td d : Row} {sh : Nat → Row} {c : Nat} (h1 : ∀ r, r < 7 → en r = td r) (h2 : RSh sh c d) : (if sp_X1_isTorn en sh c = 0 then (0 : Int32) else 1) = if sp_X7_wasShown td d c = 0 then 1 else 0 := by
  have e : sp_X1_isTorn en sh c = 0 ↔ ¬ sp_X7_wasShown td d c = 0 := by
    unfold sp_X1_isTorn sp_X7_wasShown
    rw [bI_0, bI_n]
    constructor
    · intro q
      refine Classical.byContradiction (fun k => q (fun j hj => ?_))
      unfold sp_X1_isTold
      rw [bI_0]
      intro w
      exact k ⟨j, hj, fun r hr => by rw [← h1 r hr, ← h2 j hj r hr]; exact (w r hr).symm⟩
    · rintro ⟨j, hj, w⟩ q
      have := q j hj
      unfold sp_X1_isTold at this
      rw [bI_0] at this
      exact this (fun r hr => by rw [h1 r hr, h2 j hj r hr]; exact (w r hr).symm)
  by_cases c1 : sp_X7_wasShown td d c = 0
  · rw [if_pos c1, if_neg (fun q => (e.mp q) c1)]
  · rw [if_neg c1, if_pos (e.mpr c1)]
/-- bursts again, until two are alike -/
theorem again_s {z q f j : Nat} {tb : Row} {Y : BX} {x : BS} {p : Nat} (hf : f + j = 4) (hok : rOK x.1 p z q) (hR : Rel Y.2.2 x.1) (ht : ∀ r, r < 7 → Y.1 r = x.2.1 r)
    (ih : ∀ (g : Nat), f = g + 1 → ∀ (j : Nat) (tb : Row) (Y : BX) (x : BS) (p : Nat), g + j = 4 → rOK x.1 p z q → Rel Y.2.2 x.1 → (∀ r, r < 7 → Y.1 r = x.2.1 r) → RY (mkL q (g + 1) j 0 tb Y).2.2 ((agR q (g + 1) j x).1.1, (agR q (g + 1) j x).1.2.1, (agR q (g + 1) j x).1.2.2.2.1, (agR q (g + 1) j x).1.2.2.2.2) ∧ (mkL q (g + 1) j 0 tb Y).1 = (agR q (g + 1) j x).2) :
    RY (mkL q (f + 1) j 0 tb Y).2.2 ((agR q (f + 1) j x).1.1, (agR q (f + 1) j x).1.2.1, (agR q (f + 1) j x).1.2.2.2.1, (agR q (f + 1) j x).1.2.2.2.2) ∧ (mkL q (f + 1) j 0 tb Y).1 = (agR q (f + 1) j x).2 := by
    have r1 := readT hR hok Y.1 Y.2.1.1 0 x.2.1 x.2.2.2.1
    obtain ⟨p2, hok2⟩ := (rdK_7 x.2.1 x.2.2.2.1 hok).1
    have e1 : mkL q (f + 1) j 0 tb Y = mkL q f (j + 1) (sp_X1_isTold (riT q (Y.1, (Y.2.1.1, 0), Y.2.2)).1 (va_cpy Y.1 tb 0 0 7)) (va_cpy Y.1 tb 0 0 7) (riT q (Y.1, (Y.2.1.1, 0), Y.2.2)) := if_pos rfl
    have e2 : agR q (f + 1) j x = if 5 ≤ j + 1 then (agS q x, j + 1) else (if sp_X7_isAsAhead (agS q x).2.1 (agS q x).2.2.1 = 0 then agR q f (j + 1) (agS q x) else (agS q x, j + 1)) := rfl
    have hS : agS q x = ((rdK x.1 x.2.1 x.2.2.2.1 q 7).1, (rdK x.1 x.2.1 x.2.2.2.1 q 7).2.1, va_cpy x.2.1 x.2.2.1 0 0 7, (rdK x.1 x.2.1 x.2.2.2.1 q 7).2.2.1, (rdK x.1 x.2.1 x.2.2.2.1 q 7).2.2.2) := rfl
    have htl : sp_X1_isTold (riT q (Y.1, (Y.2.1.1, 0), Y.2.2)).1 (va_cpy Y.1 tb 0 0 7) = sp_X7_isAsAhead (agS q x).2.1 (agS q x).2.2.1 := by
      rw [hS]
      refine told_eq r1.2.1 (fun r hr => ?_)
      show va_cpy Y.1 tb 0 0 7 r = va_cpy x.2.1 x.2.2.1 0 0 7 r
      rw [cpy_lt hr, cpy_lt hr]
      exact ht r hr
    rw [e1, e2, htl]
    have r2 : RY (riT q (Y.1, (Y.2.1.1, 0), Y.2.2)) ((agS q x).1, (agS q x).2.1, (agS q x).2.2.2.1, (agS q x).2.2.2.2) := by rw [hS]; exact r1
    have hok3 : rOK (agS q x).1 p2 z q := by rw [hS]; exact hok2
    generalize riT q (Y.1, (Y.2.1.1, 0), Y.2.2) = Y2 at r2
    generalize agS q x = x2 at r2 hok3
    by_cases c1 : 5 ≤ j + 1
    · rw [if_pos c1, mkL_z (by omega)]
      exact ⟨r2, rfl⟩
    · rw [if_neg c1]
      by_cases c2 : sp_X7_isAsAhead x2.2.1 x2.2.2.1 = 0
      · rw [if_pos c2, c2]
        obtain ⟨g, rfl⟩ : ∃ g, f = g + 1 := ⟨f - 1, by omega⟩
        exact ih g rfl (j + 1) (va_cpy Y.1 tb 0 0 7) Y2 x2 p2 (by omega) hok3 r2.1 r2.2.1
      · rw [if_neg c2, mkL_ne c2]
        exact ⟨r2, rfl⟩
theorem again {z q : Nat} (f : Nat) : ∀ (j : Nat) (tb : Row) (Y : BX) (x : BS) (p : Nat), f + j = 4 → rOK x.1 p z q → Rel Y.2.2 x.1 → (∀ r, r < 7 → Y.1 r = x.2.1 r) → RY (mkL q (f + 1) j 0 tb Y).2.2 ((agR q (f + 1) j x).1.1, (agR q (f + 1) j x).1.2.1, (agR q (f + 1) j x).1.2.2.2.1, (agR q (f + 1) j x).1.2.2.2.2) ∧ (mkL q (f + 1) j 0 tb Y).1 = (agR q (f + 1) j x).2 := by
  induction f with
  | zero => intro j tb Y x p h1 h2 h3 h4; exact again_s h1 h2 h3 h4 (fun g hg => absurd hg (by omega))
  | succ f ih =>
    intro j tb Y x p h1 h2 h3 h4
    refine again_s h1 h2 h3 h4 (fun g hg => ?_)
    have e : g = f := by omega
    subst e
    exact ih
/-- a burst of a mode: what it reads -/
theorem mk_bu {s : ChS} {m : Row} (h : Rel s m) {p z q md : Nat} (hok : rOK m p z q) (hmd : md < 3) (en tb : Row) (sh : Nat → Row) (td ah d : Row) :
    RY (mkR (nI md) q en tb sh s).2.2 ((buR m td ah d q md).1.1, (buR m td ah d q md).1.2.1, (buR m td ah d q md).1.2.2.2.1, (buR m td ah d q md).1.2.2.2.2) ∧ (mkR (nI md) q en tb sh s).1 = (buR m td ah d q md).2 := by
  have r1 := readT h hok en sh 0 td d
  obtain ⟨p2, hok2⟩ := (rdK_7 td d hok).1
  unfold mkR buR
  match md, hmd with
  | 0, _ =>
    rw [if_neg (show ¬ nI 0 = 1 from by decide), if_neg (show ¬ nI 0 = 2 from by decide), if_pos rfl, mkL_ne (by decide)]
    exact ⟨r1, rfl⟩
  | 1, _ =>
    rw [if_pos (show nI 1 = 1 from rfl), if_neg (by decide), if_pos rfl]
    refine ⟨⟨(h.phases (7 * q)).2, fun r hr => ?_, ?_, ?_⟩, rfl⟩
    · show va_cpy s.v en 0 0 7 r = va_cpy m td 0 0 7 r
      rw [cpy_lt hr, cpy_lt hr, (h.1 r hr).1, Nat.zero_add]
    · show (ksP (sh, 0) s.v).2 = 1
      rw [ks_add (x := (sh, 0)) _ (show (0 : Nat) < 13 from by decide)]
    · show RSh (ksP (sh, 0) s.v).1 (ksP (sh, 0) s.v).2 (va_cpy m d 0 (7 * 0) 7)
      rw [ks_add (x := (sh, 0)) _ (show (0 : Nat) < 13 from by decide)]
      exact RSh.add (fun j hj => absurd hj (Nat.not_lt_zero j)) (fun r hr => (h.1 r hr).1)
  | 2, _ =>
    rw [if_neg (show ¬ nI 2 = 1 from by decide), if_pos (show nI 2 = 2 from rfl), if_neg (by decide), if_neg (by decide)]
    exact again 3 1 tb _ (rdB m td ah d q) p2 rfl hok2 r1.1 r1.2.1
/-- a burst is logged -/
theorem bl_at (m td : Row) (md tn mk : Int32) {z : Nat} (hz : z ≤ 6) (h36 : m 36 = nI z) : ∀ j, bLog m td md tn mk j = if j = 31 then m 31 + 1 else (if j = 32 then m 32 + tn else (if j = 36 then nI (nxZ z) else (if j = 74 then md else (if j = 75 then tn else (if j = 76 then mk else (if 67 ≤ j ∧ j < 74 then td (j - 67) else (if 77 ≤ j ∧ j < 127 then m (j - 10) else m j))))))) := by
  obtain ⟨N, hN⟩ : ∃ N, N = upd (upd (upd (va_cpy td (va_cpy m m 67 77 50) 0 67 7) 74 md) 75 tn) 76 mk := ⟨_, rfl⟩
  have nlo : ∀ j, j < 67 → N j = m j := by
    intro j hj
    rw [hN, upd_ne _ _ (by omega), upd_ne _ _ (by omega), upd_ne _ _ (by omega), cpy_at, if_neg (by omega), cpy_at, if_neg (by omega)]
  have nb : bL3 N = upd N 36 (nI (nxZ z)) := by
    unfold bL3 nxZ
    rw [nlo 36 (by decide), h36]
    congr 1
    by_cases c : 6 ≤ z
    · rw [if_pos c, if_pos (show (6 : Int32) ≤ nI z from (nI_leI (a := 6) (by decide) (by omega)).mpr c)]
      exact Int32.add_zero _
    · rw [if_neg c, if_neg (fun k : (6 : Int32) ≤ nI z => c ((nI_leI (a := 6) (by decide) (by omega)).mp k))]
      exact (nI_succ z).symm
  have e : bLog m td md tn mk = upd (upd (upd N 36 (nI (nxZ z))) 31 ((upd N 36 (nI (nxZ z))) 31 + 1)) 32 ((upd (upd N 36 (nI (nxZ z))) 31 ((upd N 36 (nI (nxZ z))) 31 + 1)) 32 + tn) := by
    unfold bLog
    rw [← hN, nb]
  intro j
  rw [e]
  by_cases c1 : j = 31
  · rw [if_pos c1, c1, upd_ne _ _ (by decide), upd_eq, upd_ne _ _ (by decide), nlo 31 (by decide)]
  · rw [if_neg c1]
    by_cases c2 : j = 32
    · rw [if_pos c2, c2, upd_eq, upd_ne _ _ (by decide), upd_ne _ _ (by decide), nlo 32 (by decide)]
    · rw [if_neg c2, upd_ne _ _ c2, upd_ne _ _ c1]
      by_cases c3 : j = 36
      · rw [if_pos c3, c3, upd_eq]
      · rw [if_neg c3, upd_ne _ _ c3, hN]
        by_cases c6 : j = 76
        · rw [if_neg (by omega), if_neg (by omega), if_pos c6, c6, upd_eq]
        · rw [upd_ne _ _ c6]
          by_cases c5 : j = 75
          · rw [if_neg (by omega), if_pos c5, c5, upd_eq]
          · rw [upd_ne _ _ c5]
            by_cases c4 : j = 74
            · rw [if_pos c4, c4, upd_eq]
            · rw [upd_ne _ _ c4, if_neg c4, if_neg c5, if_neg c6, cpy_at]
              by_cases c7 : 67 ≤ j ∧ j < 74
              · rw [if_pos c7, if_pos (by omega), Nat.zero_add]
              · rw [if_neg c7, if_neg (by omega), cpy_at]
                by_cases c8 : 77 ≤ j ∧ j < 127
                · rw [if_pos c8, if_pos (by omega)]
                  exact congrArg m (by omega)
                · rw [if_neg c8, if_neg (by omega)]
theorem Rel.log {s : ChS} {m : Row} (h : Rel s m) {x td : Row} {md tn mk : Int32} {a z : Nat} (hx : ∀ r, r < 7 → x r = td r) (x7 : x 7 = md) (x8 : x 8 = tn) (x9 : x 9 = mk) (hla : s.la = nI a) (ha : a < 6) (hzs : s.zs = nI z) (hz : z ≤ 6) : Rel (lgC s x a z) (bLog m td md tn mk) ∧ ∀ w, w < 10 → x w = bLog m td md tn mk (67 + w) := by
  obtain ⟨hV, hA, ⟨a', z', g1, g2, g3, g4, g5, g6⟩, hT⟩ := h
  have ea : a' = a := (nI_eq (by omega) (by omega)).mp (g1.symm.trans hla)
  have ez : z' = z := (nI_eq (by omega) (by omega)).mp (g3.symm.trans hzs)
  subst ea
  subst ez
  have B := bl_at m td md tn mk hz g5
  have lo : ∀ j, j ≠ 31 → j ≠ 32 → j ≠ 36 → j < 67 → bLog m td md tn mk j = m j := by
    intro j a1 a2 a3 a4
    rw [B j, if_neg a1, if_neg a2, if_neg a3, if_neg (by omega), if_neg (by omega), if_neg (by omega), if_neg (by omega), if_neg (by omega)]
  have top : ∀ w, w < 10 → x w = bLog m td md tn mk (67 + w) := by
    intro w hw
    rw [B (67 + w), if_neg (by omega), if_neg (by omega), if_neg (by omega)]
    by_cases c7 : w = 7
    · subst c7; rw [if_pos rfl]; exact x7
    · by_cases c8 : w = 8
      · subst c8; rw [if_neg (by decide), if_pos rfl]; exact x8
      · by_cases c9 : w = 9
        · subst c9; rw [if_neg (by decide), if_neg (by decide), if_pos rfl]; exact x9
        · rw [if_neg (by omega), if_neg (by omega), if_neg (by omega), if_pos (by omega), hx w (by omega)]
          exact congrArg td (by omega)
  obtain ⟨t1, t2, t3, t4, t5, t6, t7, t8, t9, t10, p, zz, q, hok⟩ := hT
  refine ⟨?_, top⟩
  unfold lgC
  refine Rel.new (hV.congr (fun j hj => lo j (by omega) (by omega) (by omega) (by omega))) (hA.congr (fun j hj => lo j (by omega) (by omega) (by omega) (by omega))) ⟨nxA a', nxZ z', rfl, nxA_lt a' ha, rfl, nxZ_le z' hz, ?_, fun k hk w hw => ?_⟩ ⟨t1.trans (lo 37 (by decide) (by decide) (by decide) (by decide)).symm, t2.trans (lo 38 (by decide) (by decide) (by decide) (by decide)).symm, t3.trans (lo 39 (by decide) (by decide) (by decide) (by decide)).symm, t4.trans (lo 28 (by decide) (by decide) (by decide) (by decide)).symm, t5.trans (lo 29 (by decide) (by decide) (by decide) (by decide)).symm, t6.trans (lo 35 (by decide) (by decide) (by decide) (by decide)).symm, t7.trans (lo 33 (by decide) (by decide) (by decide) (by decide)).symm, t8.trans (lo 34 (by decide) (by decide) (by decide) (by decide)).symm, ?_, ?_, p, zz, q, rOK_of hok (lo 28 (by decide) (by decide) (by decide) (by decide)) (lo 39 (by decide) (by decide) (by decide) (by decide)) (lo 37 (by decide) (by decide) (by decide) (by decide))⟩
  · rw [B 36, if_neg (by decide), if_neg (by decide), if_pos rfl]
  · have hn : nxA a' < 6 := nxA_lt a' ha
    match k with
    | 0 =>
      rw [show agoA (nxA a') 0 = nxA a' from by unfold agoA; rw [if_pos (by omega)]; omega]
      show va_up s.en (nxA a') _ (nxA a') w = _
      rw [va_up_self, cpy_lt hw, top w hw]
    | k + 1 =>
      have hk5 : k < z' ∧ k < 5 := by
        unfold nxZ at hk
        split at hk <;> omega
      have e1 : agoA (nxA a') (k + 1) = agoA a' k := by
        unfold agoA nxA
        (repeat' split) <;> omega
      have e2 : agoA a' k ≠ nxA a' := by
        unfold agoA nxA
        (repeat' split) <;> omega
      rw [e1]
      show va_up s.en (nxA a') _ (agoA a' k) w = _
      rw [va_up_ne _ _ e2, B, if_neg (by omega), if_neg (by omega), if_neg (by omega), if_neg (by omega), if_neg (by omega), if_neg (by omega), if_neg (by omega), if_pos (by omega), g6 k hk5.1 w hw]
      exact congrArg m (by omega)
  · rw [B 31, if_pos rfl, t9]
  · rw [B 32, if_neg (by decide), if_pos rfl, t10, x8]
theorem Rel.burst {s : ChS} {m : Row} (h : Rel s m) {p z q md a k : Nat} (hok : rOK m p z q) (hmd : md < 3) (hla : s.la = nI a) (ha : a < 6) (hzs : s.zs = nI k) (hk : k ≤ 6) (en tb : Row) (sh : Nat → Row) (td ah d : Row) :
    mkE (nI md) (mkR (nI md) q en tb sh s) 8 = bTorn (buR m td ah d q md).1 ∧ Rel (lgC (mkR (nI md) q en tb sh s).2.2.2.2 (mkE (nI md) (mkR (nI md) q en tb sh s)) a k) (buS m td ah d q md) ∧ ∀ w, w < 10 → mkE (nI md) (mkR (nI md) q en tb sh s) w = buS m td ah d q md (67 + w) := by
  obtain ⟨⟨r1, r2, r3, r4⟩, r5⟩ := mk_bu h hok hmd en tb sh td ah d
  obtain ⟨e1, e2, e3⟩ := mkR_se (nI md) q en tb sh s
  have hS : buS m td ah d q md = bLog (buR m td ah d q md).1.1 (buR m td ah d q md).1.2.1 (nI md) (bTorn (buR m td ah d q md).1) (nI (buR m td ah d q md).2) := rfl
  rw [hS]
  generalize buR m td ah d q md = B at r1 r2 r3 r4 r5
  generalize mkR (nI md) q en tb sh s = R at r1 r2 r3 r4 r5 e2 e3
  have u7 : ∀ r, r < 7 → upd R.2.2.1 7 (nI md) r = B.1.2.1 r := fun r hr => (upd_ne _ _ (by omega)).trans (r2 r hr)
  have x8 : mkE (nI md) R 8 = bTorn B.1 := by
    unfold mkE
    rw [upd_ne _ _ (by decide), upd_eq]
    unfold bTorn
    dsimp only at r3 r4
    rw [← r3]
    exact torn_eq u7 r4
  have xr : ∀ r, r < 7 → mkE (nI md) R r = B.1.2.1 r := fun r hr => by
    unfold mkE
    rw [upd_ne _ _ (by omega), upd_ne _ _ (by omega)]
    exact u7 r hr
  have x7 : mkE (nI md) R 7 = nI md := by
    unfold mkE
    rw [upd_ne _ _ (by decide), upd_ne _ _ (by decide), upd_eq]
  have x9 : mkE (nI md) R 9 = nI B.2 := by
    unfold mkE
    rw [upd_eq, r5]
  obtain ⟨l1, l2⟩ := Rel.log r1 (a := a) (z := k) xr x7 x8 x9 (e2.trans hla) ha (e3.trans hzs) hk
  exact ⟨x8, l1, l2⟩
theorem torn01 (x : BS) : bTorn x = 0 ∨ bTorn x = 1 := by
  unfold bTorn
  split
  · exact Or.inr rfl
  · exact Or.inl rfl
