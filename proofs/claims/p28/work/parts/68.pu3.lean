/-! bursts compared -/
theorem cpy_lt {f g : Row} {n j : Nat} (h : j < n) : va_cpy f g 0 0 n j = f j := by
  unfold va_cpy
  rw [if_pos (by omega)]
  exact congrArg f (by omega)
theorem cpy_ge {f g : Row} {n j : Nat} (h : ¬ j < n) : va_cpy f g 0 0 n j = g j := by
  unfold va_cpy
  rw [if_neg (by omega)]
theorem cpy_at {f g : Row} {sp dp n j : Nat} : va_cpy f g sp dp n j = if dp ≤ j ∧ j < dp + n then f (sp + (j - dp)) else g j := rfl
def RSh (sh : Nat → Row) (c : Nat) (d : Row) : Prop := ∀ j, j < c → ∀ r, r < 7 → sh j r = d (7 * j + r)
theorem RSh.add {sh : Nat → Row} {c : Nat} {d v m : Row} (h : RSh sh c d) (hv : ∀ r, r < 7 → v r = m r) : RSh (upR sh c (va_cpy v (sh c) 0 0 7)) (c + 1) (va_cpy m d 0 (7 * c) 7) := by
  intro j hj r hr
  show va_up sh c (va_cpy v (sh c) 0 0 7) j r = _
  by_cases cj : j = c
  · subst cj
    rw [va_up_self, cpy_lt hr, cpy_at, if_pos (by omega), hv r hr]
    exact congrArg m (by omega)
  · rw [va_up_ne _ _ cj, cpy_at, if_neg (by omega)]
    exact h j (by omega) r hr

theorem ks_add {x : (Nat → Row) × Nat} (v : Row) (h : x.2 < 13) : ksP x v = (upR x.1 x.2 (va_cpy v (x.1 x.2) 0 0 7), x.2 + 1) := if_neg (by omega)
/-- within a burst: what was shown, the chip; what the law has of it -/
def RI (K : Nat) (xb xg : Row) (x : ((Nat → Row) × Nat) × ChS) (y : LRs × Row × Nat) : Prop := x.1.2 = y.2.2 ∧ RSh x.1.1 x.1.2 y.2.1 ∧ LR K xb xg x.2 y.1
theorem RI.step {K t : Nat} {xb xg : Row} {x : ((Nat → Row) × Nat) × ChS} {y : LRs × Row × Nat} (h : RI K xb xg x y) (hb : (rdP xb xg t y).2.2 ≤ 9) : RI K xb xg (riS t x) (rdP xb xg t y) := by
  obtain ⟨h1, h2, h3⟩ := h
  obtain ⟨p1, p2⟩ := LR.phase h3
  have e1 : riS t x = (if (sp_X3_passPhase x.2).1 = 0 then x.1 else (if 6 ≤ t then x.1 else ksP x.1 (sp_X3_passPhase x.2).2.v), (sp_X3_passPhase x.2).2) := rfl
  rw [e1, p1]
  generalize sp_X3_passPhase x.2 = X at p1 p2
  unfold rdP at hb ⊢
  generalize phL xb xg y.1 = Y at p1 p2 hb ⊢
  by_cases c1 : Y.1 = 0
  · rw [if_pos c1, if_pos c1]
    exact ⟨h1, h2, p2⟩
  · rw [if_neg c1] at hb
    rw [if_neg c1, if_neg c1]
    by_cases c2 : 6 ≤ t
    · rw [if_pos c2, if_pos c2]
      exact ⟨h1, h2, p2⟩
    · rw [if_neg c2] at hb
      rw [if_neg c2, if_neg c2]
      dsimp only at hb
      rw [ks_add _ (by omega)]
      refine ⟨by show x.1.2 + 1 = y.2.2 + 1; rw [h1], ?_, p2⟩
      show RSh (upR x.1.1 x.1.2 (va_cpy X.2.v (x.1.1 x.1.2) 0 0 7)) (x.1.2 + 1) (va_cpy Y.2.1 y.2.1 0 (7 * y.2.2) 7)
      rw [← h1]
      exact h2.add (fun r hr => (p2.1 r hr).1)
theorem rdP_mono (xb xg : Row) (k : Nat) (y : LRs × Row × Nat) : y.2.2 ≤ (rdP xb xg k y).2.2 := by
  unfold rdP
  split
  · exact Nat.le_refl _
  · split
    · exact Nat.le_refl _
    · exact Nat.le_succ _
theorem RI.steps {K t : Nat} {xb xg : Row} {x : ((Nat → Row) × Nat) × ChS} {y : LRs × Row × Nat} (h : RI K xb xg x y) : ∀ f, (rdI xb xg t y f).2.2 ≤ 9 → RI K xb xg (riI t x f) (rdI xb xg t y f)
  | 0, _ => h
  | f + 1, hb => RI.step (RI.steps h f (Nat.le_trans (rdP_mono xb xg t _) hb)) hb

/-- the registers told so far -/
def CV (s : ChS) (t r : Nat) : Prop := if s.se 1 = 0 then r < t else 7 ≤ r + t
theorem CV.step {s : ChS} {t r : Nat} (h : CV s (t + 1) r) (ht : t < 7) (hr : r < 7) (hn : r ≠ (if s.se 1 = 0 then t else 6 - t)) : CV s t r := by
  unfold CV at h ⊢
  by_cases c : s.se 1 = 0
  · rw [if_pos c] at h hn ⊢
    omega
  · rw [if_neg c] at h hn ⊢
    omega
theorem mkL_se (n : Nat) : ∀ (f j : Nat) (b : Int32) (tb : Row) (Y : BX), (mkL n f j b tb Y).2.2.2.2.se = Y.2.2.se ∧ (mkL n f j b tb Y).2.2.2.2.la = Y.2.2.la ∧ (mkL n f j b tb Y).2.2.2.2.zs = Y.2.2.zs
  | 0, _, _, _, _ => ⟨rfl, rfl, rfl⟩
  | f + 1, j, b, tb, Y => by
    unfold mkL
    split
    · obtain ⟨g1, g2, g3⟩ := mkL_se n f (j + 1) (sp_X1_isTold (riT n (Y.1, (Y.2.1.1, 0), Y.2.2)).1 (va_cpy Y.1 tb 0 0 7)) (va_cpy Y.1 tb 0 0 7) (riT n (Y.1, (Y.2.1.1, 0), Y.2.2))
      exact ⟨g1.trans (riT_se n _), g2.trans (riT_la n _), g3.trans (riT_zs n _)⟩
    · exact ⟨rfl, rfl, rfl⟩
theorem mkR_se (md : Int32) (n : Nat) (en tb : Row) (sh : Nat → Row) (s : ChS) : (mkR md n en tb sh s).2.2.2.2.se = s.se ∧ (mkR md n en tb sh s).2.2.2.2.la = s.la ∧ (mkR md n en tb sh s).2.2.2.2.zs = s.zs := by
  unfold mkR
  split
  · exact ⟨ppF_se s _, ppF_la s _, ppF_zs s _⟩
  · obtain ⟨g1, g2, g3⟩ := mkL_se n 4 1 (if md = 2 then 0 else 1) tb (riT n (en, (sh, 0), s))
    exact ⟨g1.trans (riT_se n _), g2.trans (riT_la n _), g3.trans (riT_zs n _)⟩
theorem rgL_lt (xt : Row) {t : Nat} (ht : t < 7) : rgL xt t < 7 := by unfold rgL; split <;> omega
theorem rdO_s (xb xg : Row) (x : LRs) (xw xq : Row) (q t : Nat) : rdO xb xg x xw xq q (t + 1) = ((rdI xb xg t ((rdO xb xg x xw xq q t).1, (rdO xb xg x xw xq q t).2.2.1, (rdO xb xg x xw xq q t).2.2.2) q).1, upd (rdO xb xg x xw xq q t).2.1 (rgL (rdO xb xg x xw xq q t).1.2.2.1 t) ((rdO xb xg x xw xq q t).1.1 (rgL (rdO xb xg x xw xq q t).1.2.2.1 t)), (rdI xb xg t ((rdO xb xg x xw xq q t).1, (rdO xb xg x xw xq q t).2.2.1, (rdO xb xg x xw xq q t).2.2.2) q).2.1, (rdI xb xg t ((rdO xb xg x xw xq q t).1, (rdO xb xg x xw xq q t).2.2.1, (rdO xb xg x xw xq q t).2.2.2) q).2.2) := rfl
theorem rdO_hi (xb xg : Row) (x : LRs) (xw xq : Row) (q : Nat) {j : Nat} (hj : 7 ≤ j) : ∀ t, t ≤ 7 → (rdO xb xg x xw xq q t).2.1 j = xq j
  | 0, _ => rfl
  | t + 1, ht => by
    rw [rdO_s]
    show upd _ _ _ j = _
    have := rgL_lt (rdO xb xg x xw xq q t).1.2.2.1 (t := t) (by omega)
    rw [upd_ne _ _ (by omega)]
    exact rdO_hi xb xg x xw xq q hj t (by omega)
theorem readO {K : Nat} {xb xg : Row} {s : ChS} {x : LRs} (h : LR K xb xg s x) {p z q : Nat} (hok : lOK x.2.2.1 p z q) (hq : 6 * q < 8 * z) (en : Row) (sh : Nat → Row) (xw xq : Row) : ∀ t, t ≤ 7 → RI K xb xg (riO q (en, ksP (sh, 0) s.v, s) t).2 ((rdO xb xg x xw xq q t).1, (rdO xb xg x xw xq q t).2.2.1, (rdO xb xg x xw xq q t).2.2.2) ∧ ∀ r, r < 7 → CV s t r → (riO q (en, ksP (sh, 0) s.v, s) t).1 r = (rdO xb xg x xw xq q t).2.1 r
  | 0, _ => by
    refine ⟨?_, fun r hr hc => ?_⟩
    · show RI K xb xg (ksP (sh, 0) s.v, s) (x, va_cpy x.1 xw 0 0 7, 1)
      rw [ks_add (x := (sh, 0)) _ (show (0 : Nat) < 13 from by decide)]
      exact ⟨rfl, RSh.add (c := 0) (fun j hj => absurd hj (Nat.not_lt_zero j)) (fun r hr => (h.1 r hr).1), h⟩
    · unfold CV at hc
      split at hc <;> omega
  | t + 1, ht => by
    obtain ⟨k1, k2⟩ := readO h hok hq en sh xw xq t (by omega)
    obtain ⟨p', -, -, -, hb⟩ := rdO_ok (xb := xb) (xg := xg) (xw := xw) (xq := xq) hok hq (t + 1) ht
    have hse : (riO q (en, ksP (sh, 0) s.v, s) t).2.2.se = s.se := riO_se q _ t
    have hR : LR K xb xg (riO q (en, ksP (sh, 0) s.v, s) t).2.2 (rdO xb xg x xw xq q t).1 := k1.2.2
    have h38 : (rdO xb xg x xw xq q t).1.2.2.1 9 = s.se 1 := by
      rw [← hR.2.2.2.2.1, hse]
    have hg : rgO (riO q (en, ksP (sh, 0) s.v, s) t).2.2 t = (if s.se 1 = 0 then t else 6 - t) := by
      unfold rgO
      rw [hse]
    have hg2 : rgL (rdO xb xg x xw xq q t).1.2.2.1 t = (if s.se 1 = 0 then t else 6 - t) := by
      unfold rgL
      rw [h38]
    have hg7 : (if s.se 1 = 0 then t else 6 - t) < 7 := by split <;> omega
    have eC : riO q (en, ksP (sh, 0) s.v, s) (t + 1) = (upd (riO q (en, ksP (sh, 0) s.v, s) t).1 (rgO (riO q (en, ksP (sh, 0) s.v, s) t).2.2 t) ((riO q (en, ksP (sh, 0) s.v, s) t).2.2.v (rgO (riO q (en, ksP (sh, 0) s.v, s) t).2.2 t)), riI t (riO q (en, ksP (sh, 0) s.v, s) t).2 q) := rfl
    have eR := rdO_s xb xg x xw xq q t
    rw [hg2] at eR
    rw [hg] at eC
    rw [eR] at hb
    rw [eC, eR]
    generalize riO q (en, ksP (sh, 0) s.v, s) t = C at k1 k2 hR
    generalize rdO xb xg x xw xq q t = K at k1 k2 hR hb
    generalize hG : (if s.se 1 = 0 then t else 6 - t) = G at hg7
    refine ⟨RI.steps k1 q hb, fun r hr hc => ?_⟩
    show upd C.1 G (C.2.2.v G) r = upd K.2.1 G (K.1.1 G) r
    by_cases cr : r = G
    · subst cr
      rw [upd_eq, upd_eq]
      exact (hR.1 r hr).1
    · rw [upd_ne _ _ cr, upd_ne _ _ cr]
      exact k2 r hr (hc.step (by omega) hr (by rw [hG]; exact cr))
/-- what the law has of a burst: its rows, what is told, what was shown, how often -/
abbrev LX : Type := LRs × Row × Row × Nat
/-- a burst read in turn: the chip, what is told, what was shown -/
def RY (K : Nat) (xb xg : Row) (Y : BX) (Z : LX) : Prop := LR K xb xg Y.2.2 Z.1 ∧ (∀ r, r < 7 → Y.1 r = Z.2.1 r) ∧ Y.2.1.2 = Z.2.2.2 ∧ RSh Y.2.1.1 Y.2.1.2 Z.2.2.1
theorem readT {K : Nat} {xb xg : Row} {s : ChS} {x : LRs} (h : LR K xb xg s x) {p z q : Nat} (hok : lOK x.2.2.1 p z q) (hq : 6 * q < 8 * z) (en : Row) (sh : Nat → Row) (c : Nat) (xw xq : Row) : RY K xb xg (riT q (en, (sh, c), s)) (rdO xb xg x xw xq q 7) := by
  obtain ⟨⟨k1, k2, k3⟩, k4⟩ := readO h hok hq en sh xw xq 7 (Nat.le_refl 7)
  refine ⟨k3, fun r hr => k4 r hr ?_, k1, k2⟩
  unfold CV
  split <;> omega
/-- whether what is told is as it was told ahead -/
noncomputable def alkL (Q : Row) : Int32 := bI (∀ r, r < 7 → Q r = Q (7 + r))
theorem told_eq {en y Q : Row} (h1 : ∀ r, r < 7 → en r = Q r) (h2 : ∀ r, r < 7 → y r = Q (7 + r)) : sp_X1_isTold en y = alkL Q := by
  unfold sp_X1_isTold alkL
  exact bI_c ⟨fun q r hr => by rw [← h1 r hr, ← h2 r hr]; exact (q r hr).symm, fun q r hr => by rw [h1 r hr, h2 r hr]; exact (q r hr).symm⟩
theorem torn_eq {en Q d : Row} {sh : Nat → Row} {c : Nat} (h1 : ∀ r, r < 7 → en r = Q r) (h2 : RSh sh c d) : sp_X1_isTorn en sh c = tnL Q d c := by
  unfold sp_X1_isTorn tnL
  refine bI_c ⟨fun q j hj w => ?_, fun q j hj => ?_⟩
  · have := q j hj
    unfold sp_X1_isTold at this
    rw [bI_0] at this
    exact this (fun r hr => by rw [h1 r hr, h2 j hj r hr]; exact (w r hr).symm)
  · unfold sp_X1_isTold
    rw [bI_0]
    exact fun w => q j hj (fun r hr => by rw [← h1 r hr, ← h2 j hj r hr]; exact (w r hr).symm)
/-- once more -/
noncomputable def agS (xb xg : Row) (q : Nat) (X : LX) : LX := rdO xb xg X.1 X.2.2.1 (va_cpy X.2.1 X.2.1 0 7 7) q 7
/-- again, until two are alike -/
noncomputable def agL (xb xg : Row) (q : Nat) : Nat → Nat → Int32 → LX → LX × Nat
  | 0, j, _, X => (X, j)
  | f + 1, j, b, X => if b = 0 then agL xb xg q f (j + 1) (alkL (agS xb xg q X).2.1) (agS xb xg q X) else (X, j)
theorem again {K : Nat} {xb xg : Row} {z q : Nat} (hq : 6 * q < 8 * z) : ∀ (f j : Nat) (b : Int32) (tb : Row) (Y : BX) (X : LX) (p : Nat), lOK X.1.2.2.1 p z q → RY K xb xg Y X → RY K xb xg (mkL q f j b tb Y).2.2 (agL xb xg q f j b X).1 ∧ (mkL q f j b tb Y).1 = (agL xb xg q f j b X).2 ∧ ∃ p', lOK (agL xb xg q f j b X).1.1.2.2.1 p' z q
  | 0, j, b, tb, Y, X, p, hok, h => by rw [mkL_z rfl]; exact ⟨h, rfl, p, hok⟩
  | f + 1, j, b, tb, Y, X, p, hok, h => by
    by_cases c : b = 0
    · rw [mkL_s c, show agL xb xg q (f + 1) j b X = agL xb xg q f (j + 1) (alkL (agS xb xg q X).2.1) (agS xb xg q X) from if_pos c]
      have r1 := readT (K := K) h.1 hok hq Y.1 Y.2.1.1 0 X.2.2.1 (va_cpy X.2.1 X.2.1 0 7 7)
      obtain ⟨p2, hok2, -⟩ := rdO_ok (xb := xb) (xg := xg) (xw := X.2.2.1) (xq := va_cpy X.2.1 X.2.1 0 7 7) hok hq 7 (Nat.le_refl 7)
      have e : sp_X1_isTold (riT q (Y.1, (Y.2.1.1, 0), Y.2.2)).1 (va_cpy Y.1 tb 0 0 7) = alkL (agS xb xg q X).2.1 := by
        refine told_eq r1.2.1 (fun r hr => ?_)
        show _ = (rdO xb xg X.1 X.2.2.1 (va_cpy X.2.1 X.2.1 0 7 7) q 7).2.1 (7 + r)
        rw [rdO_hi _ _ _ _ _ _ (by omega) 7 (Nat.le_refl 7), cpy_lt hr, cpy_at, if_pos (by omega), h.2.1 r hr]
        exact congrArg X.2.1 (by omega)
      rw [e]
      exact again hq f (j + 1) _ _ _ (agS xb xg q X) p2 hok2 r1
    · rw [mkL_ne c, show agL xb xg q (f + 1) j b X = (X, j) from if_neg c]
      exact ⟨h, rfl, p, hok⟩
/-- a burst by the law: what it reads, how many; whether it is torn -/
noncomputable def buL (xb xg : Row) (y : LRs) (xw xq : Row) (q md : Nat) : LX × Nat := if md = 1 then ((phF xb xg y (7 * q), va_cpy y.1 xq 0 0 7, xw, 0), 1) else agL xb xg q 4 1 (if md = 0 then 1 else 0) (rdO xb xg y xw xq q 7)
noncomputable def toL (md : Nat) (X : LX) : Int32 := if md = 1 then 0 else tnL X.2.1 X.2.2.1 X.2.2.2
theorem mk_bu {K : Nat} {xb xg : Row} {s : ChS} {y : LRs} (h : LR K xb xg s y) {p z q md : Nat} (hok : lOK y.2.2.1 p z q) (hq : 6 * q < 8 * z) (hmd : md < 3) (en tb : Row) (sh : Nat → Row) (xw xq : Row) :
    LR K xb xg (mkR (nI md) q en tb sh s).2.2.2.2 (buL xb xg y xw xq q md).1.1 ∧ (∀ r, r < 7 → (mkR (nI md) q en tb sh s).2.2.1 r = (buL xb xg y xw xq q md).1.2.1 r) ∧ (mkR (nI md) q en tb sh s).1 = (buL xb xg y xw xq q md).2 ∧
    (∀ E : Row, (∀ r, r < 7 → E r = (buL xb xg y xw xq q md).1.2.1 r) → (if sp_X1_isTorn E (mkR (nI md) q en tb sh s).2.2.2.1.1 (mkR (nI md) q en tb sh s).2.2.2.1.2 = 0 then (0 : Int32) else 1) = toL md (buL xb xg y xw xq q md).1) := by
  have fixT : ∀ (x : Int32), (x = 0 ∨ x = 1) → (if x = 0 then (0 : Int32) else 1) = x := by
    intro x hx
    rcases hx with rfl | rfl
    · rfl
    · rfl
  by_cases c1 : md = 1
  · subst c1
    unfold mkR buL
    rw [if_pos (show nI 1 = 1 from rfl), if_pos rfl]
    refine ⟨(h.phases (7 * q)).2, fun r hr => ?_, rfl, fun E hE => ?_⟩
    · show va_cpy s.v en 0 0 7 r = va_cpy y.1 xq 0 0 7 r
      rw [cpy_lt hr, cpy_lt hr, (h.1 r hr).1]
    · show (if sp_X1_isTorn E (ksP (sh, 0) s.v).1 (ksP (sh, 0) s.v).2 = 0 then (0 : Int32) else 1) = toL 1 _
      unfold toL
      rw [if_pos rfl, ks_add (x := (sh, 0)) _ (show (0 : Nat) < 13 from by decide)]
      refine if_pos ?_
      unfold sp_X1_isTorn
      rw [bI_0]
      intro w
      have := w 0 (show (0 : Nat) < 0 + 1 from by decide)
      unfold sp_X1_isTold at this
      rw [bI_0] at this
      refine this (fun r hr => ?_)
      show upR sh 0 (va_cpy s.v (sh 0) 0 0 7) 0 r = E r
      rw [show upR sh 0 (va_cpy s.v (sh 0) 0 0 7) 0 = va_cpy s.v (sh 0) 0 0 7 from va_up_self .., cpy_lt hr, hE r hr]
      show s.v r = va_cpy y.1 xq 0 0 7 r
      rw [cpy_lt hr, (h.1 r hr).1]
  · have e1 : mkR (nI md) q en tb sh s = mkL q 4 1 (if md = 0 then 1 else 0) tb (riT q (en, (sh, 0), s)) := by
      unfold mkR
      match md, hmd, c1 with
      | 0, _, _ => rw [if_neg (show ¬ nI 0 = 1 from by decide), if_neg (show ¬ nI 0 = 2 from by decide), if_pos rfl]
      | 2, _, _ => rw [if_neg (show ¬ nI 2 = 1 from by decide), if_pos (show nI 2 = 2 from rfl), if_neg (by decide)]
    have e2 : buL xb xg y xw xq q md = agL xb xg q 4 1 (if md = 0 then 1 else 0) (rdO xb xg y xw xq q 7) := if_neg c1
    obtain ⟨p2, hok2, -⟩ := rdO_ok (xb := xb) (xg := xg) (xw := xw) (xq := xq) hok hq 7 (Nat.le_refl 7)
    obtain ⟨⟨a1, a2, a3, a4⟩, a5, -⟩ := again (K := K) hq 4 1 (if md = 0 then 1 else 0) tb _ _ p2 hok2 (readT h hok hq en sh 0 xw xq)
    rw [e1, e2]
    refine ⟨a1, a2, a5, fun E hE => ?_⟩
    unfold toL
    rw [if_neg c1, ← a3, ← torn_eq hE a4]
    exact fixT _ (bI_b _)
/-- a burst logged: the law's accounts move -/
theorem LR.burst {K : Nat} {xb xg : Row} {s : ChS} {y : LRs} (h : LR K xb xg s y) {p z q md a k : Nat} (hok : lOK y.2.2.1 p z q) (hq : 6 * q < 8 * z) (hmd : md < 3) (hla : s.la = nI a) (ha : a < 6) (hzs : s.zs = nI k) (hk : k ≤ 6) (hK : K < 1000) (en tb : Row) (sh : Nat → Row) (xw xq : Row) (X : LX) (M : Nat) (hX : buL xb xg y xw xq q md = (X, M)) :
    mkE (nI md) (mkR (nI md) q en tb sh s) 8 = toL md X ∧ LR (K + 1) xb xg (lgC (mkR (nI md) q en tb sh s).2.2.2.2 (mkE (nI md) (mkR (nI md) q en tb sh s)) a k) (X.1.1, X.1.2.1, upd (upd X.1.2.2.1 5 (X.1.2.2.1 5 + 1)) 6 ((upd X.1.2.2.1 5 (X.1.2.2.1 5 + 1)) 6 + toL md X), X.1.2.2.2) ∧
    (∀ r, r < 7 → mkE (nI md) (mkR (nI md) q en tb sh s) r = X.2.1 r) ∧ mkE (nI md) (mkR (nI md) q en tb sh s) 7 = nI md ∧ mkE (nI md) (mkR (nI md) q en tb sh s) 9 = nI M := by
  obtain ⟨r1, r2, r3, r4⟩ := mk_bu h hok hq hmd en tb sh xw xq
  obtain ⟨e1, e2, e3⟩ := mkR_se (nI md) q en tb sh s
  rw [hX] at r1 r2 r3 r4
  dsimp only at r1 r2 r3 r4
  generalize mkR (nI md) q en tb sh s = R at r1 r2 r3 r4 e2 e3
  have u7 : ∀ r, r < 7 → upd R.2.2.1 7 (nI md) r = X.2.1 r := fun r hr => (upd_ne _ _ (by omega)).trans (r2 r hr)
  have x8 : mkE (nI md) R 8 = toL md X := by
    unfold mkE
    rw [upd_ne _ _ (by decide), upd_eq]
    exact r4 _ u7
  have xr : ∀ r, r < 7 → mkE (nI md) R r = X.2.1 r := fun r hr => by
    unfold mkE
    rw [upd_ne _ _ (by omega), upd_ne _ _ (by omega)]
    exact u7 r hr
  have x7 : mkE (nI md) R 7 = nI md := by
    unfold mkE
    rw [upd_ne _ _ (by decide), upd_ne _ _ (by decide), upd_eq]
  have x9 : mkE (nI md) R 9 = nI M := by
    unfold mkE
    rw [upd_eq, r3]
  refine ⟨x8, ?_, xr, x7, x9⟩
  obtain ⟨hV, hA, ⟨a', B, g1, g2, g3, g4, g5⟩, ⟨t1, t2', t3, t4', t5, t6, t7, t8, t9, t10, p', z', q', o1, o2, o3, o4⟩⟩ := r1
  generalize hN : upd (upd X.1.2.2.1 5 (X.1.2.2.1 5 + 1)) 6 ((upd X.1.2.2.1 5 (X.1.2.2.1 5 + 1)) 6 + toL md X) = N
  have ne : ∀ j, j ≠ 5 → j ≠ 6 → N j = X.1.2.2.1 j := fun j h1 h2 => by rw [← hN, upd_ne _ _ h2, upd_ne _ _ h1]
  have n5 : N 5 = X.1.2.2.1 5 + 1 := by rw [← hN, upd_ne _ _ (by decide), upd_eq]
  have n6 : N 6 = X.1.2.2.1 6 + toL md X := by rw [← hN, upd_eq, upd_ne _ _ (by decide)]
  have hkB : k = if B < 6 then B else 6 := (nI_eq (by omega) (by split <;> omega)).mp (hzs.symm.trans (e3.symm.trans g3))
  unfold lgC
  refine LR.new hV (by rw [ne 7 (by decide) (by decide)]; exact hA) ⟨nxA a, B + 1, rfl, nxA_lt a ha, ?_, ?_, by omega⟩ ⟨?_, ?_, ?_, ?_, ?_, ?_, ?_, ?_, ?_, ?_, p', z', q', ?_, ?_, ?_, o4⟩
  · rw [hkB]
    unfold nxZ
    congr 1
    (repeat' split) <;> omega
  · rw [g4]; exact nI_add B 1
  · rw [ne 8 (by decide) (by decide)]; exact t1
  · rw [ne 9 (by decide) (by decide)]; exact t2'
  · rw [ne 10 (by decide) (by decide)]; exact t3
  · rw [ne 0 (by decide) (by decide)]; exact t4'
  · rw [ne 1 (by decide) (by decide)]; exact t5
  · rw [ne 2 (by decide) (by decide)]; exact t6
  · rw [ne 3 (by decide) (by decide)]; exact t7
  · rw [ne 4 (by decide) (by decide)]; exact t8
  · rw [n5, t9]
  · rw [n6, t10, x8]
  · rw [ne 0 (by decide) (by decide)]; exact o1
  · rw [ne 10 (by decide) (by decide)]; exact o2
  · rw [ne 8 (by decide) (by decide)]; exact o3

