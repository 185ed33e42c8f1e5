/-! the calls that change, beside the law: what they answer, what stands behind them -/
theorem bit_no_all : ∀ fb : Fin 8, ∀ i : Fin 3, ∀ a : Fin 3, sp_X6_bitOf (nI fb.1 &&& (((1 : Int32) <<< (nI i.1 &&& 31)) ^^^ (-1))) (nI a.1) = (if a = i then 0 else sp_X6_bitOf (nI fb.1) (nI a.1)) := by decide +kernel
theorem bit_no_lt : ∀ fb : Fin 8, ∀ i : Fin 3, ∃ c : Fin 8, nI fb.1 &&& (((1 : Int32) <<< (nI i.1 &&& 31)) ^^^ (-1)) = nI c.1 := by decide +kernel
/-- cells that fail, cells that heal -/
theorem fail_all : ∀ b : Fin 256, ∀ k : Fin 8, ¬ (nI b.1 >>> (nI k.1 &&& 31)) &&& 1 = 1 → nI b.1 + ((1 : Int32) <<< (nI k.1 &&& 31)) = nI b.1 ||| ((1 : Int32) <<< (nI k.1 &&& 31)) ∧ (255 - ((1 : Int32) <<< (nI k.1 &&& 31))) &&& (nI b.1 ||| ((1 : Int32) <<< (nI k.1 &&& 31))) = nI b.1 ∧ (∀ v : Fin 2, (nI v.1 <<< (nI k.1 &&& 31)) &&& (nI b.1 ||| ((1 : Int32) <<< (nI k.1 &&& 31))) = nI v.1 <<< (nI k.1 &&& 31)) := by decide +kernel
theorem one_byte : ∀ v : Fin 2, ∀ k : Fin 8, (nI v.1 <<< (nI k.1 &&& 31)) &&& 255 = nI v.1 <<< (nI k.1 &&& 31) := by decide +kernel
theorem one_byte1 : ∀ k : Fin 8, ((1 : Int32) <<< (nI k.1 &&& 31)) &&& 255 = (1 : Int32) <<< (nI k.1 &&& 31) := by decide +kernel
theorem heal_all : ∀ b : Fin 256, ∀ k : Fin 8, ¬ (nI b.1 >>> (nI k.1 &&& 31)) &&& 1 = 0 → nI b.1 - ((1 : Int32) <<< (nI k.1 &&& 31)) = nI b.1 &&& (((1 : Int32) <<< (nI k.1 &&& 31)) ^^^ (-1)) := by decide +kernel
theorem mayW {i v : Nat} (hi : i < 7) (hv : v < 256) : ¬ sp_X6_mayWrite (nI i) (nI v) = 0 := (show ∀ i : Fin 7, ∀ v : Fin 256, ¬ sp_X6_mayWrite (nI i.1) (nI v.1) = 0 from by decide +kernel) ⟨i, hi⟩ ⟨v, hv⟩
theorem mayP {n : Nat} (h : n < 400) : ¬ sp_X6_mayPass (nI (1 + n)) = 0 := (show ∀ i : Fin 400, ¬ sp_X6_mayPass (nI (1 + i.1)) = 0 from by decide +kernel) ⟨n, h⟩
theorem mayA {a i v : Nat} (ha : a < 3) (hi : i < 5) (hv : v < 256) : ¬ sp_X6_mayChangeAlarm (nI a) (nI i) (nI v) = 0 := (show ∀ a : Fin 3, ∀ i : Fin 5, ∀ v : Fin 256, ¬ sp_X6_mayChangeAlarm (nI a.1) (nI i.1) (nI v.1) = 0 from by decide +kernel) ⟨a, ha⟩ ⟨i, hi⟩ ⟨v, hv⟩
theorem isM31 {y : Nat} (h : y < 32) : ¬ sp_X6_isWithin (nI y) (-1) 31 = 0 := (show ∀ y : Fin 32, ¬ sp_X6_isWithin (nI y.1) (-1) 31 = 0 from by decide +kernel) ⟨y, h⟩
theorem isC {i k : Nat} (hi : i < 7) (hk : k < 8) : ¬ sp_X6_isCell (nI i) (nI k) = 0 := (show ∀ i : Fin 7, ∀ k : Fin 8, ¬ sp_X6_isCell (nI i.1) (nI k.1) = 0 from by decide +kernel) ⟨i, hi⟩ ⟨k, hk⟩
theorem is01 {x : Nat} (h : x < 2) : ¬ sp_X6_isWithin (nI x) 0 1 = 0 := (show ∀ x : Fin 2, ¬ sp_X6_isWithin (nI x.1) 0 1 = 0 from by decide +kernel) ⟨x, h⟩
theorem isW9 {w : Nat} (h : w < 10) : ¬ sp_X6_isWithin (nI w) 0 9 = 0 := (show ∀ w : Fin 10, ¬ sp_X6_isWithin (nI w.1) 0 9 = 0 from by decide +kernel) ⟨w, h⟩
theorem isMd {m : Nat} (h : m < 3) : ¬ sp_X6_isMode (nI m) = 0 := (show ∀ m : Fin 3, ¬ sp_X6_isMode (nI m.1) = 0 from by decide +kernel) ⟨m, h⟩
theorem isS {i : Nat} (h : i < 3) : ¬ sp_X6_isWithin (nI i) 0 2 = 0 := (show ∀ i : Fin 3, ¬ sp_X6_isWithin (nI i.1) 0 2 = 0 from by decide +kernel) ⟨i, h⟩
theorem isSv {i v : Nat} (h : i < 3) (h0 : i = 0 → v < 9) (h1 : i = 1 → v < 2) (h2 : i = 2 → 4 ≤ v ∧ v < 61) : ¬ sp_X6_isWithin (nI v) (kf k_least i) (kf k_most i) = 0 := by
  match i, h with
  | 0, _ => exact (show ∀ v : Fin 9, ¬ sp_X6_isWithin (nI v.1) (kf k_least 0) (kf k_most 0) = 0 from by decide +kernel) ⟨v, h0 rfl⟩
  | 1, _ => exact (show ∀ v : Fin 2, ¬ sp_X6_isWithin (nI v.1) (kf k_least 1) (kf k_most 1) = 0 from by decide +kernel) ⟨v, h1 rfl⟩
  | 2, _ => exact (show ∀ v : Fin 61, 4 ≤ v.1 → ¬ sp_X6_isWithin (nI v.1) (kf k_least 2) (kf k_most 2) = 0 from by decide +kernel) ⟨v, (h2 rfl).2⟩ (h2 rfl).1
theorem lOK_c {t t' : Row} {p z q : Nat} (h : lOK t p z q) (e0 : t' 0 = t 0) (e1 : t' 10 = t 10) (e2 : t' 8 = t 8) : lOK t' p z q := ⟨e0.trans h.1, e1.trans h.2.1, e2.trans h.2.2.1, h.2.2.2⟩
section KL
variable {K : Nat} {xb xg xv xn xt xa : Row} {s : ChS} {z : OX}
theorem LR.write (h : LR K xb xg s (xv, xn, xt, xa)) {i v : Nat} (hi : i < 7) (hv : v < 256) : (sp_X3_writeRegister s i (nI v)).1 = upd xv i (puN (xb i) (xg i) (nI v) 8) i ∧ LR K xb xg (sp_X3_writeRegister s i (nI v)).2 (upd xv i (puN (xb i) (xg i) (nI v) 8), xn, upd xt 4 (xt 4 + 1), xa) := by
  obtain ⟨hV, hA, hG, t1, t2', t3, t4', t5, t6, t7, t8, t9, t10, p, zz, q, hok⟩ := h
  have hV' := hV.put hi (x := nI v) ⟨v, hv, rfl⟩
  have ne : ∀ j, j ≠ 4 → upd xt 4 (xt 4 + 1) j = xt j := fun j hj => upd_ne _ _ hj
  refine ⟨?_, LR.new hV' (by rw [ne 7 (by decide)]; exact hA) hG ⟨?_, ?_, ?_, ?_, ?_, ?_, ?_, ?_, ?_, ?_, p, zz, q, lOK_c hok (ne 0 (by decide)) (ne 10 (by decide)) (ne 8 (by decide))⟩⟩
  · exact (hV' i hi).1
  · rw [ne 8 (by decide)]; exact t1
  · rw [ne 9 (by decide)]; exact t2'
  · rw [ne 10 (by decide)]; exact t3
  · rw [ne 0 (by decide)]; exact t4'
  · rw [ne 1 (by decide)]; exact t5
  · rw [ne 2 (by decide)]; exact t6
  · rw [ne 3 (by decide)]; exact t7
  · rw [upd_eq]; exact congrArg (· + 1) t8
  · rw [ne 5 (by decide)]; exact t9
  · rw [ne 6 (by decide)]; exact t10
theorem LR.reads (h : LR K xb xg s (xv, xn, xt, xa)) : LR K xb xg (ChS.new s.v s.f s.g s.r s.av s.mk s.cm s.ar s.fl s.en s.la s.zs s.se s.ph s.tk s.pc (s.rc + 1) s.wc s.bc s.tc) (xv, xn, upd xt 3 (xt 3 + 1), xa) := by
  obtain ⟨hV, hA, hG, t1, t2', t3, t4', t5, t6, t7, t8, t9, t10, p, zz, q, hok⟩ := h
  have ne : ∀ j, j ≠ 3 → upd xt 3 (xt 3 + 1) j = xt j := fun j hj => upd_ne _ _ hj
  refine LR.new hV (by rw [ne 7 (by decide)]; exact hA) hG ⟨?_, ?_, ?_, ?_, ?_, ?_, ?_, ?_, ?_, ?_, p, zz, q, lOK_c hok (ne 0 (by decide)) (ne 10 (by decide)) (ne 8 (by decide))⟩
  · rw [ne 8 (by decide)]; exact t1
  · rw [ne 9 (by decide)]; exact t2'
  · rw [ne 10 (by decide)]; exact t3
  · rw [ne 0 (by decide)]; exact t4'
  · rw [ne 1 (by decide)]; exact t5
  · rw [ne 2 (by decide)]; exact t6
  · rw [upd_eq]; exact congrArg (· + 1) t7
  · rw [ne 4 (by decide)]; exact t8
  · rw [ne 5 (by decide)]; exact t9
  · rw [ne 6 (by decide)]; exact t10
theorem LR.alarms (h : LR K xb xg s (xv, xn, xt, xa)) {av : Nat → Row} {mk cm : Row} {ar fl : Int32} {xa' : Row} (hA : RA av mk cm ar fl (xt 7) xa') : LR K xb xg (ChS.new s.v s.f s.g s.r av mk cm ar fl s.en s.la s.zs s.se s.ph s.tk s.pc s.rc s.wc s.bc s.tc) (xv, xn, xt, xa') := ⟨h.1, hA, h.2.2.1, h.2.2.2⟩
theorem RA.value {av : Nat → Row} {mk cm : Row} {ar fl t7 : Int32} (h : RA av mk cm ar fl t7 xa) {a i v : Nat} (ha : a < 3) (hi : i < 5) (hv : v < 256) : av a i = xa (9 * a + i) ∧ RA (upR av a (upd (av a) i (nI v))) mk cm ar fl t7 (upd xa (9 * a + i) (nI v)) := by
  obtain ⟨h1, h2, h3, h4⟩ := h
  refine ⟨((h4 a ha).1 i hi).1, h1, h2, h3, fun b hb => ?_⟩
  obtain ⟨g1, g2, g3, g4, g5⟩ := h4 b hb
  have ne : ∀ j, j ≠ 9 * a + i → upd xa (9 * a + i) (nI v) j = xa j := fun j hj => upd_ne _ _ hj
  refine ⟨fun r hr => ?_, by rw [ne _ (by omega)]; exact g2, by rw [ne _ (by omega)]; exact g3, by rw [ne _ (by omega)]; exact g4, by rw [ne _ (by omega)]; exact g5⟩
  show va_up av a (upd (av a) i (nI v)) b r = _ ∧ _
  by_cases cb : b = a
  · subst cb
    rw [va_up_self]
    by_cases cr : r = i
    · subst cr
      rw [upd_eq, upd_eq]
      exact ⟨rfl, v, hv, rfl⟩
    · rw [upd_ne _ _ cr, ne _ (by omega)]
      exact g1 r hr
  · rw [va_up_ne _ _ cb, ne _ (by omega)]
    exact g1 r hr
theorem RA.arm {av : Nat → Row} {mk cm : Row} {ar fl t7 : Int32} (h : RA av mk cm ar fl t7 xa) {a y : Nat} (ha : a < 3) (hy : y < 32) : (sp_X0_changeMask mk ar a y).1 = xa (9 * a + 6) ∧ RA av (sp_X0_changeMask mk ar a y).2.1 cm (sp_X0_changeMask mk ar a y).2.2 fl t7 (upd (upd xa (9 * a + 6) 1) (9 * a + 5) (nI y)) := by
  obtain ⟨⟨ab, hab, h1⟩, h2, h3, h4⟩ := h
  have e1 : sp_X0_changeMask mk ar a y = (sp_X6_bitOf ar (nI a), upd mk a (nI y), ar ||| ((1 : Int32) <<< ((nI a) &&& 31))) := if_neg (fun q => absurd (show nI y < 0 from by rw [q]; decide) (nI_pos (by omega)))
  have ne : ∀ j, j ≠ 9 * a + 6 → j ≠ 9 * a + 5 → upd (upd xa (9 * a + 6) 1) (9 * a + 5) (nI y) j = xa j := fun j a1 a2 => (upd_ne _ _ a2).trans (upd_ne _ _ a1)
  have n6 : upd (upd xa (9 * a + 6) 1) (9 * a + 5) (nI y) (9 * a + 6) = 1 := (upd_ne _ _ (by omega)).trans (upd_eq _ _ _)
  have n5 : upd (upd xa (9 * a + 6) 1) (9 * a + 5) (nI y) (9 * a + 5) = nI y := upd_eq _ _ _
  generalize upd (upd xa (9 * a + 6) 1) (9 * a + 5) (nI y) = M at ne n6 n5
  rw [e1]
  dsimp only
  refine ⟨(h4 a ha).2.2.1, ?_, h2, h3, fun b hb => ?_⟩
  · obtain ⟨c, hc⟩ := bit_or_lt ⟨ab, hab⟩ ⟨a, ha⟩
    exact ⟨c.1, c.2, by rw [h1]; exact hc⟩
  · obtain ⟨g1, g2, g3, g4, g5⟩ := h4 b hb
    have hbit := bit_or_all ⟨ab, hab⟩ ⟨a, ha⟩ ⟨b, hb⟩
    refine ⟨fun k hk => by rw [ne _ (by omega) (by omega)]; exact g1 k hk, ?_, ?_, by rw [ne _ (by omega) (by omega)]; exact g4, by rw [ne _ (by omega) (by omega)]; exact g5⟩
    · by_cases cb : b = a
      · subst cb
        rw [n5, upd_eq]
      · rw [ne _ (by omega) (by omega), upd_ne _ _ cb]; exact g2
    · rw [h1]
      refine hbit.trans ?_
      by_cases cb : b = a
      · subst cb
        rw [if_pos rfl, n6]
      · rw [if_neg (fun q => cb (Fin.mk.inj q)), ne _ (by omega) (by omega), ← h1]; exact g3
theorem RA.armM {av : Nat → Row} {mk cm : Row} {ar fl t7 : Int32} (h : RA av mk cm ar fl t7 xa) {a : Nat} (ha : a < 3) : (sp_X0_changeMaskM ar a).1 = xa (9 * a + 6) ∧ RA av mk cm (sp_X0_changeMaskM ar a).2 fl t7 (upd (upd xa (9 * a + 6) 0) (9 * a + 5) ((upd xa (9 * a + 6) 0) (9 * a + 5))) := by
  obtain ⟨⟨ab, hab, h1⟩, h2, h3, h4⟩ := h
  have e1 : sp_X0_changeMaskM ar a = (sp_X6_bitOf ar (nI a), ar &&& (((1 : Int32) <<< ((nI a) &&& 31)) ^^^ (-1))) := rfl
  have ne : ∀ j, j ≠ 9 * a + 6 → upd (upd xa (9 * a + 6) 0) (9 * a + 5) ((upd xa (9 * a + 6) 0) (9 * a + 5)) j = xa j := by
    intro j a1
    by_cases c : j = 9 * a + 5
    · subst c
      rw [upd_eq]; exact upd_ne _ _ a1
    · exact (upd_ne _ _ c).trans (upd_ne _ _ a1)
  have n6 : upd (upd xa (9 * a + 6) 0) (9 * a + 5) ((upd xa (9 * a + 6) 0) (9 * a + 5)) (9 * a + 6) = 0 := (upd_ne _ _ (by omega)).trans (upd_eq _ _ _)
  generalize upd (upd xa (9 * a + 6) 0) (9 * a + 5) ((upd xa (9 * a + 6) 0) (9 * a + 5)) = M at ne n6
  rw [e1]
  dsimp only
  refine ⟨(h4 a ha).2.2.1, ?_, h2, h3, fun b hb => ?_⟩
  · obtain ⟨c, hc⟩ := bit_no_lt ⟨ab, hab⟩ ⟨a, ha⟩
    exact ⟨c.1, c.2, by rw [h1]; exact hc⟩
  · obtain ⟨g1, g2, g3, g4, g5⟩ := h4 b hb
    have hbit := bit_no_all ⟨ab, hab⟩ ⟨a, ha⟩ ⟨b, hb⟩
    refine ⟨fun k hk => by rw [ne _ (by omega)]; exact g1 k hk, by rw [ne _ (by omega)]; exact g2, ?_, by rw [ne _ (by omega)]; exact g4, by rw [ne _ (by omega)]; exact g5⟩
    rw [h1]
    refine hbit.trans ?_
    by_cases cb : b = a
    · subst cb
      rw [if_pos rfl, n6]
    · rw [if_neg (fun q => cb (Fin.mk.inj q)), ne _ (by omega), ← h1]; exact g3
theorem cl_all : ∀ fb : Fin 8, (sp_X6_bitOf (nI fb.1) (nI 0) + 2 * sp_X6_bitOf (nI fb.1) (nI 1)) + 4 * sp_X6_bitOf (nI fb.1) (nI 2) = nI fb.1 := by decide +kernel
theorem cl_at (m : Row) (j : Nat) : upd (upd (upd m 7 0) 16 0) 25 0 j = if j = 7 ∨ j = 16 ∨ j = 25 then 0 else m j := by
  by_cases c1 : j = 25
  · rw [if_pos (Or.inr (Or.inr c1)), c1, upd_eq]
  · rw [upd_ne _ _ c1]
    by_cases c2 : j = 16
    · rw [if_pos (Or.inr (Or.inl c2)), c2, upd_eq]
    · rw [upd_ne _ _ c2]
      by_cases c3 : j = 7
      · rw [if_pos (Or.inl c3), c3, upd_eq]
      · rw [upd_ne _ _ c3, if_neg (by omega)]
theorem RA.clear {av : Nat → Row} {mk cm : Row} {ar fl t7 : Int32} (h : RA av mk cm ar fl t7 xa) : fl = (xa 7 + 2 * xa 16) + 4 * xa 25 ∧ RA av mk cm ar 0 t7 (upd (upd (upd xa 7 0) 16 0) 25 0) := by
  obtain ⟨h1, ⟨fb, hfb, h2⟩, h3, h4⟩ := h
  have ne : ∀ j, j ≠ 7 → j ≠ 16 → j ≠ 25 → upd (upd (upd xa 7 0) 16 0) 25 0 j = xa j := fun j a1 a2 a3 => by rw [cl_at, if_neg (by omega)]
  constructor
  · have a0 : _ = xa 7 := (h4 0 (by decide)).2.2.2.1
    have a1 : _ = xa 16 := (h4 1 (by decide)).2.2.2.1
    have a2 : _ = xa 25 := (h4 2 (by decide)).2.2.2.1
    rw [← a0, ← a1, ← a2, h2]
    exact (cl_all ⟨fb, hfb⟩).symm
  · refine ⟨h1, ⟨0, by decide, rfl⟩, h3, fun b hb => ?_⟩
    obtain ⟨g1, g2, g3, g4, g5⟩ := h4 b hb
    refine ⟨fun k hk => by rw [ne _ (by omega) (by omega) (by omega)]; exact g1 k hk, by rw [ne _ (by omega) (by omega) (by omega)]; exact g2, by rw [ne _ (by omega) (by omega) (by omega)]; exact g3, ?_, by rw [ne _ (by omega) (by omega) (by omega)]; exact g5⟩
    rw [cl_at, if_pos (by omega)]
    match b, hb with
    | 0, _ => decide
    | 1, _ => decide
    | 2, _ => decide
/-- the bit's row after a cell failed -/
theorem gs_all : ∀ G : Fin 256, ∀ k : Fin 8, ∀ x : Fin 2, nI G.1 + (nI x.1 - ((nI G.1 >>> ((nI k.1) &&& 31)) &&& 1)) * ((1 : Int32) <<< ((nI k.1) &&& 31)) = (nI G.1 &&& (255 - ((1 : Int32) <<< ((nI k.1) &&& 31)))) ||| (nI x.1 <<< ((nI k.1) &&& 31)) := by decide +kernel
theorem failed_iff (f : Row) (i k : Nat) : sp_X5_hasFailed f i k = 0 ↔ ¬ (f i >>> ((nI k) &&& 31)) &&& 1 = 1 := by
  unfold sp_X5_hasFailed sp_X6_bitOf
  by_cases c : (f i >>> ((nI k) &&& 31)) &&& 1 = 1
  · rw [if_pos c]; exact ⟨fun q => absurd q (by decide), fun q => absurd c q⟩
  · rw [if_neg c]; exact ⟨fun _ => c, fun _ => rfl⟩
abbrev fbL (xb : Row) (i k : Nat) : Row := upd xb i (xb i + ((1 : Int32) <<< ((nI k) &&& 31)))
abbrev fgL (xg : Row) (i k x : Nat) : Row := upd xg i (xg i + (nI x - ((xg i >>> ((nI k) &&& 31)) &&& 1)) * ((1 : Int32) <<< ((nI k) &&& 31)))
theorem RV.fail {v f g r : Row} (h : RV v f g r xv xb xg xn) {i k x : Nat} (hi : i < 7) (hk : k < 8) (hx : x < 2) (hb : ¬ (xb i >>> ((nI k) &&& 31)) &&& 1 = 1) : (sp_X5_failCell v f g i k x).1 = upd xv i (puN (fbL xb i k i) (fgL xg i k x i) (xv i) 8) i ∧ RV (sp_X5_failCell v f g i k x).2.1 (sp_X5_failCell v f g i k x).2.2.1 (sp_X5_failCell v f g i k x).2.2.2 r (upd xv i (puN (fbL xb i k i) (fgL xg i k x i) (xv i) 8)) (fbL xb i k) (fgL xg i k x) xn := by
  obtain ⟨v1, v2, v3, v4, v5, ⟨b, hbb, v6⟩, ⟨G, hG, v7⟩⟩ := h i hi
  have GS := gs_all ⟨G, hG⟩ ⟨k, hk⟩ ⟨x, hx⟩
  rw [← v7] at GS
  unfold fbL fgL
  rw [GS]
  obtain ⟨B, hB⟩ : ∃ B, B = (1 : Int32) <<< ((nI k) &&& 31) := ⟨_, rfl⟩
  obtain ⟨V, hVV⟩ : ∃ V, V = nI x <<< ((nI k) &&& 31) := ⟨_, rfl⟩
  have F := fail_all ⟨b, hbb⟩ ⟨k, hk⟩ (by rw [← v6]; exact hb)
  rw [← v6, ← hB] at F
  obtain ⟨F1, F2, F3⟩ := F
  have F4 := F3 ⟨x, hx⟩
  rw [← hVV] at F4
  have bB : byte B := byte_of (by rw [hB]; exact one_byte1 ⟨k, hk⟩)
  have bV : byte V := byte_of (by rw [hVV]; exact one_byte ⟨x, hx⟩ ⟨k, hk⟩)
  have e2 : sp_X5_failCell v f g i k x = ((upd v i (sp_X5_withCells (upd f i (f i ||| B)) (upd g i (g i ||| V)) i (v i))) i, upd v i (sp_X5_withCells (upd f i (f i ||| B)) (upd g i (g i ||| V)) i (v i)), upd f i (f i ||| B), upd g i (g i ||| V)) := by rw [hB, hVV]; rfl
  rw [e2, ← hB, ← hVV, F1]
  have hV1 : RV v (upd f i (f i ||| B)) (upd g i (g i ||| V)) r xv (upd xb i (xb i ||| B)) (upd xg i ((xg i &&& (255 - B)) ||| V)) xn := by
    intro j hj
    obtain ⟨w1, w2, w3, w4, w5, w6, w7⟩ := h j hj
    by_cases c : j = i
    · subst c
      rw [upd_eq, upd_eq, upd_eq, upd_eq]
      refine ⟨w1, by rw [w2], ?_, w4, w5, byte_or w6 bB, byte_or (byte_andr w7) bV⟩
      rw [i_dist, F4, Int32.and_assoc, F2, w3]
    · rw [upd_ne _ _ c, upd_ne _ _ c, upd_ne _ _ c, upd_ne _ _ c]
      exact ⟨w1, w2, w3, w4, w5, w6, w7⟩
  have hp := hV1.put hi (x := v i) (by rw [v1]; exact v5)
  rw [v1] at hp ⊢
  exact ⟨(hp i hi).1, hp⟩
/-- failed cells, all -/
def bsN (xb : Row) : Nat → Int32
  | 0 => 0
  | k + 1 => bsN xb k + btN (xb k) 8
theorem RV.count {v f g r : Row} (h : RV v f g r xv xb xg xn) : cfN f 7 = bsN xb 7 := by
  have k : ∀ i, i ≤ 7 → cfN f i = bsN xb i := by
    intro i
    induction i with
    | zero => intro _; rfl
    | succ i ih =>
      intro hi
      obtain ⟨-, h2, -, -, -, h6, -⟩ := h i (by omega)
      show cfN f i + sp_J6_bitCount_0f7a4 (f i) = bsN xb i + btN (xb i) 8
      rw [ih (by omega), h2, bc_eq h6]
  exact k 7 (Nat.le_refl 7)
abbrev hbL (xb : Row) (i k : Nat) : Row := upd xb i (xb i - ((1 : Int32) <<< ((nI k) &&& 31)))
theorem RV.heal {v f g r : Row} (h : RV v f g r xv xb xg xn) {i k : Nat} (hi : i < 7) (hk : k < 8) (hb : (xb i >>> ((nI k) &&& 31)) &&& 1 = 1) : RV v (sp_X5_healCell f g i k).1 (sp_X5_healCell f g i k).2 r xv (hbL xb i k) xg xn := by
  obtain ⟨v1, v2, v3, v4, v5, ⟨b, hbb, v6⟩, v7⟩ := h i hi
  have F := heal_all ⟨b, hbb⟩ ⟨k, hk⟩ (by rw [← v6, hb]; decide)
  rw [← v6] at F
  unfold hbL
  rw [F]
  show RV v (upd f i (f i &&& (((1 : Int32) <<< ((nI k) &&& 31)) ^^^ (-1)))) (upd g i (g i &&& (((1 : Int32) <<< ((nI k) &&& 31)) ^^^ (-1)))) r xv _ xg xn
  intro j hj
  obtain ⟨w1, w2, w3, w4, w5, w6, w7⟩ := h j hj
  by_cases c : j = i
  · subst c
    rw [upd_eq, upd_eq, upd_eq]
    exact ⟨w1, by rw [w2], by rw [w3, Int32.and_assoc], w4, w5, byte_andr w6, w7⟩
  · rw [upd_ne _ _ c, upd_ne _ _ c, upd_ne _ _ c]
    exact ⟨w1, w2, w3, w4, w5, w6, w7⟩
abbrev seL (xt : Row) (i v : Nat) : Row := upd xt (8 + i) (nI v)
theorem LR.set (h : LR K xb xg s (xv, xn, xt, xa)) {i v : Nat} (hi : i < 3) (h0 : i = 0 → v < 9) (h1 : i = 1 → v < 2) (h2 : i = 2 → 4 ≤ v ∧ v < 61) : (sp_X3_changeSetting s i (nI v)).1 = xt (8 + i) ∧ LR K xb xg (sp_X3_changeSetting s i (nI v)).2 (xv, xn, upd (seL xt i v) 0 (if seL xt i v 10 ≤ seL xt i v 0 then seL xt i v 10 - 1 else seL xt i v 0), xa) := by
  obtain ⟨hV, hA, hG, t1, t2', t3, t4', t5, t6, t7, t8, t9, t10, p, zz, q, o1, o2, o3, o4, o5, o6, o7⟩ := h
  dsimp only at t1 t2' t3 t4' t5 t6 t7 t8 t9 t10 o1 o2 o3
  have hN : ∃ N, N = seL xt i v := ⟨_, rfl⟩
  obtain ⟨N, hN⟩ := hN
  have ne : ∀ j, j ≠ 8 + i → N j = xt j := fun j hj => by rw [hN]; exact upd_ne _ _ hj
  have n0 : N 0 = nI p := (ne 0 (by omega)).trans o1
  have nse : ∀ k, k < 3 → upd s.se i (nI v) k = N (8 + k) := by
    intro k hk
    rw [hN]
    by_cases c : k = i
    · subst c; rw [upd_eq]; exact (upd_eq _ _ _).symm
    · rw [upd_ne _ _ c]
      show _ = upd xt (8 + i) (nI v) (8 + k)
      rw [upd_ne _ _ (by omega)]
      match k, hk with
      | 0, _ => exact t1
      | 1, _ => exact t2'
      | 2, _ => exact t3
  obtain ⟨z', hz, hz4, hz6⟩ : ∃ z', N 10 = nI z' ∧ 4 ≤ z' ∧ z' ≤ 60 := by
    by_cases c : i = 2
    · exact ⟨v, by rw [hN, c]; exact upd_eq _ _ _, (h2 c).1, by have := (h2 c).2; omega⟩
    · exact ⟨zz, by rw [ne 10 (by omega)]; exact o2, o5, o6⟩
  obtain ⟨q', hq, hq8⟩ : ∃ q', N 8 = nI q' ∧ q' ≤ 8 := by
    by_cases c : i = 0
    · exact ⟨v, by rw [hN, c]; exact upd_eq _ _ _, by have := h0 c; omega⟩
    · exact ⟨q, by rw [ne 8 (by omega)]; exact o3, o7⟩
  have ans : s.se i = xt (8 + i) := by
    match i, hi with
    | 0, _ => exact t1
    | 1, _ => exact t2'
    | 2, _ => exact t3
  have hc : s.ph < upd s.se i (nI v) 2 ↔ ¬ N 10 ≤ N 0 := by
    rw [nse 2 (by decide), show 8 + 2 = 10 from rfl, hz, n0, t4', o1, nI_ltI (by omega) (by omega), nI_leI (by omega) (by omega)]
    omega
  have fin : ∀ (P : Row) (pp : Nat), P 0 = nI pp → pp < z' → (∀ j, j ≠ 0 → P j = N j) → ∀ ph : Int32, ph = P 0 → LR K xb xg (ChS.new s.v s.f s.g s.r s.av s.mk s.cm s.ar s.fl s.en s.la s.zs (upd s.se i (nI v)) ph s.tk s.pc s.rc s.wc s.bc s.tc) (xv, xn, P, xa) := by
    intro P pp p1 p2 p3 ph p4
    have nj : ∀ j, j ≠ 0 → j ≠ 8 + i → P j = xt j := fun j a1 a2 => (p3 j a1).trans (ne j a2)
    refine LR.new hV (by rw [nj 7 (by decide) (by omega)]; exact hA) hG ⟨?_, ?_, ?_, p4, t5.trans (nj 1 (by decide) (by omega)).symm, t6.trans (nj 2 (by decide) (by omega)).symm, t7.trans (nj 3 (by decide) (by omega)).symm, t8.trans (nj 4 (by decide) (by omega)).symm, t9.trans (nj 5 (by decide) (by omega)).symm, t10.trans (nj 6 (by decide) (by omega)).symm, pp, z', q', p1, (p3 10 (by decide)).trans hz, (p3 8 (by decide)).trans hq, p2, hz4, hz6, hq8⟩
    · rw [nse 0 (by decide)]; exact (p3 8 (by decide)).symm
    · rw [nse 1 (by decide)]; exact (p3 9 (by decide)).symm
    · rw [nse 2 (by decide)]; exact (p3 10 (by decide)).symm
  rw [← hN]
  by_cases c : N 10 ≤ N 0
  · have e9 : sp_X3_changeSetting s i (nI v) = (s.se i, (ChS.new s.v s.f s.g s.r s.av s.mk s.cm s.ar s.fl s.en s.la s.zs (upd s.se i (nI v)) (((upd s.se i (nI v)) 2) - 1) s.tk s.pc s.rc s.wc s.bc s.tc)) := if_neg (fun k => (hc.mp k) c)
    rw [if_pos c, e9]
    dsimp only
    refine ⟨ans, fin _ (z' - 1) ?_ (by omega) (fun j hj => upd_ne _ _ hj) _ ?_⟩
    · rw [upd_eq, hz]
      obtain ⟨y, rfl⟩ : ∃ y, z' = y + 1 := ⟨z' - 1, by omega⟩
      exact nI_pred y
    · rw [upd_eq, nse 2 (by decide)]
  · have e9 : sp_X3_changeSetting s i (nI v) = (s.se i, (ChS.new s.v s.f s.g s.r s.av s.mk s.cm s.ar s.fl s.en s.la s.zs (upd s.se i (nI v)) s.ph s.tk s.pc s.rc s.wc s.bc s.tc)) := if_pos (hc.mpr c)
    rw [if_neg c, e9]
    dsimp only
    refine ⟨ans, fin _ p ?_ ?_ (fun j hj => upd_ne _ _ hj) _ ?_⟩
    · rw [upd_eq]; exact n0
    · rw [hz, n0, nI_leI (by omega) (by omega)] at c
      omega
    · rw [upd_eq, n0, t4', o1]
theorem lg_top (s : ChS) (x : Row) (a z w : Nat) (hw : w < 10) : (lgC s x a z).en (agoA (nxA a) 0) w = x w := by
  rw [show agoA (nxA a) 0 = nxA a from by unfold agoA; rw [if_pos (Nat.zero_le _), Nat.sub_zero]]
  show va_up s.en (nxA a) _ (nxA a) w = _
  rw [va_up_self, cpy_lt hw]
end KL

section KC
variable {K : Nat} {xb xg xv xn xt xa : Row} {s : ChS} {z : OX} (o : Nat)
theorem k_writeL (h : LR K xb xg s (xv, xn, xt, xa)) (hz : zOK z) {i v : Nat} (hi : i < 7) (hv : v < 256) : ∃ (z' : OX) (s' : ChS), zOK z' ∧ LR K xb xg s' (upd xv i (puN (xb i) (xg i) (nI v) 8), xn, upd xt 4 (xt 4 + 1), xa) ∧ ∀ (l : Launch) (D : va_G) (sz : Nat), MI l yX6_write cX6_write 3 (some .int) 4 125 D sz [.ref o, .int (nI i), .int (nI v)] (OB D o z s) (upd xv i (puN (xb i) (xg i) (nI v) 8) i) (OB D o z' s') := by
  obtain ⟨ha, hL'⟩ := h.write hi hv
  exact ⟨zK z s, _, zK_ok hz s, hL', fun l D sz => by rw [← ha]; exact k_write l D sz o z s hz i (nI v) hi (mayW hi hv)⟩
theorem k_passL (h : LR K xb xg s (xv, xn, xt, xa)) (hz : zOK z) {n : Nat} (hn : n < 400) : ∃ (z' : OX) (s' : ChS), zOK z' ∧ LR K xb xg s' (phF xb xg (xv, xn, xt, xa) (1 + n)) ∧ ∀ (l : Launch) (D : va_G) (sz : Nat), MI l yX6_pass cX6_pass 2 (some .int) 5 125 D sz [.ref o, .int (nI (1 + n))] (OB D o z s) (phN xb xg (xv, xn, xt, xa) (1 + n)) (OB D o z' s') := by
  obtain ⟨ha, hL'⟩ := h.phases (1 + n)
  exact ⟨zK z s, _, zK_ok hz s, hL', fun l D sz => by rw [← ha]; exact k_pass l D sz o z s hz (1 + n) (by omega) (mayP hn)⟩
theorem k_readL (h : LR K xb xg s (xv, xn, xt, xa)) (hz : zOK z) {i q : Nat} (hi : i < 7) (hq : q ≤ 8) (hse : xt 8 = nI q) : ∃ (z' : OX) (s' : ChS), zOK z' ∧ LR K xb xg s' (phF xb xg (xv, xn, upd xt 3 (xt 3 + 1), xa) q) ∧ ∀ (l : Launch) (D : va_G) (sz : Nat), MI l yX6_read cX6_read 2 (some .int) 6 132 D sz [.ref o, .int (nI i)] (OB D o z s) (xv i) (OB D o z' s') := by
  obtain ⟨a, B, g1, g2, g3, g4, g5⟩ := h.2.2.1
  have ha : s.v i = xv i := (h.1 i hi).1
  have hL' := (h.reads.phases q).2
  exact ⟨zK z s, _, zK_ok hz s, hL', fun l D sz => by rw [← ha]; exact k_read l D sz o z s hz q a (if B < 6 then B else 6) hq (h.2.2.2.1.trans hse) g1 g3 g2 (by split <;> omega) i hi (isR hi)⟩
theorem k_alarmL (h : LR K xb xg s (xv, xn, xt, xa)) (hz : zOK z) {a i v : Nat} (ha3 : a < 3) (hi : i < 5) (hv : v < 256) : ∃ (z' : OX) (s' : ChS), zOK z' ∧ LR K xb xg s' (xv, xn, xt, upd xa (9 * a + i) (nI v)) ∧ ∀ (l : Launch) (D : va_G) (sz : Nat), MI l yX6_alarm cX6_alarm 4 (some .int) 4 125 D sz [.ref o, .int (nI a), .int (nI i), .int (nI v)] (OB D o z s) (xa (9 * a + i)) (OB D o z' s') := by
  obtain ⟨ha, hA⟩ := h.2.1.value ha3 hi hv
  have hL' := h.alarms hA
  exact ⟨zK z s, _, zK_ok hz s, hL', fun l D sz => by rw [← (show s.av a i = xa (9 * a + i) from ha)]; exact k_alarm l D sz o z s hz a i (nI v) ha3 hi (mayA ha3 hi hv)⟩
theorem k_armL (h : LR K xb xg s (xv, xn, xt, xa)) (hz : zOK z) {a y : Nat} (ha3 : a < 3) (hy : y < 32) : ∃ (z' : OX) (s' : ChS), zOK z' ∧ LR K xb xg s' (xv, xn, xt, upd (upd xa (9 * a + 6) 1) (9 * a + 5) (nI y)) ∧ ∀ (l : Launch) (D : va_G) (sz : Nat), MI l yX6_arm cX6_arm 3 (some .int) 4 125 D sz [.ref o, .int (nI a), .int (nI y)] (OB D o z s) (xa (9 * a + 6)) (OB D o z' s') := by
  obtain ⟨ha, hA⟩ := h.2.1.arm ha3 hy
  have hL' := h.alarms hA
  exact ⟨zK z s, _, zK_ok hz s, hL', fun l D sz => by rw [← (show _ = xa (9 * a + 6) from ha)]; exact k_arm l D sz o z s hz a y ha3 hy (isA ha3) (isM31 hy)⟩
theorem k_armML (h : LR K xb xg s (xv, xn, xt, xa)) (hz : zOK z) {a : Nat} (ha3 : a < 3) : ∃ (z' : OX) (s' : ChS), zOK z' ∧ LR K xb xg s' (xv, xn, xt, upd (upd xa (9 * a + 6) 0) (9 * a + 5) ((upd xa (9 * a + 6) 0) (9 * a + 5))) ∧ ∀ (l : Launch) (D : va_G) (sz : Nat), MI l yX6_arm cX6_arm 3 (some .int) 4 125 D sz [.ref o, .int (nI a), .int (-1)] (OB D o z s) (xa (9 * a + 6)) (OB D o z' s') := by
  obtain ⟨ha, hA⟩ := h.2.1.armM ha3
  have hL' := h.alarms hA
  exact ⟨zK z s, _, zK_ok hz s, hL', fun l D sz => by rw [← (show _ = xa (9 * a + 6) from ha)]; exact k_armM l D sz o z s hz a ha3 (isA ha3)⟩
theorem k_clearL (h : LR K xb xg s (xv, xn, xt, xa)) (hz : zOK z)  : ∃ (z' : OX) (s' : ChS), zOK z' ∧ LR K xb xg s' (xv, xn, xt, upd (upd (upd xa 7 0) 16 0) 25 0) ∧ ∀ (l : Launch) (D : va_G) (sz : Nat), MI l yX6_clear cX6_clear 2 (some .int) 4 125 D sz [.ref o] (OB D o z s) ((xa 7 + 2 * xa 16) + 4 * xa 25) (OB D o z' s') := by
  obtain ⟨ha, hA⟩ := h.2.1.clear
  have hL' := h.alarms hA
  exact ⟨zK z s, _, zK_ok hz s, hL', fun l D sz => by rw [← (show s.fl = _ from ha)]; exact k_clear l D sz o z s hz⟩
theorem k_failL (h : LR K xb xg s (xv, xn, xt, xa)) (hz : zOK z) {i k x : Nat} (hi : i < 7) (hk : k < 8) (hx : x < 2) (hb : ¬ (xb i >>> ((nI k) &&& 31)) &&& 1 = 1) : ∃ (z' : OX) (s' : ChS), zOK z' ∧ LR K (fbL xb i k) (fgL xg i k x) s' (upd xv i (puN (fbL xb i k i) (fgL xg i k x i) (xv i) 8), xn, xt, xa) ∧ ∀ (l : Launch) (D : va_G) (sz : Nat), MI l yX6_fail cX6_fail 4 (some .int) 4 125 D sz [.ref o, .int (nI i), .int (nI k), .int (nI x)] (OB D o z s) (upd xv i (puN (fbL xb i k i) (fgL xg i k x i) (xv i) 8) i) (OB D o z' s') := by
  obtain ⟨ha, hV⟩ := h.1.fail hi hk hx hb
  have hL' : LR K (fbL xb i k) (fgL xg i k x) (ChS.new (sp_X5_failCell s.v s.f s.g i k x).2.1 (sp_X5_failCell s.v s.f s.g i k x).2.2.1 (sp_X5_failCell s.v s.f s.g i k x).2.2.2 s.r s.av s.mk s.cm s.ar s.fl s.en s.la s.zs s.se s.ph s.tk s.pc s.rc s.wc s.bc s.tc) (upd xv i (puN (fbL xb i k i) (fgL xg i k x i) (xv i) 8), xn, xt, xa) := ⟨hV, h.2⟩
  exact ⟨zK z s, _, zK_ok hz s, hL', fun l D sz => by rw [← ha]; exact k_fail l D sz o z s hz i k hi hk x hx (isC hi hk) (is01 hx) ((failed_iff s.f i k).mpr (by rw [(h.1 i hi).2.1]; exact hb))⟩
theorem k_failNL (h : LR K xb xg s (xv, xn, xt, xa)) (hz : zOK z) {i k x : Nat} (hi : i < 7) (hk : k < 8) (hx : x < 2) (hb : (xb i >>> ((nI k) &&& 31)) &&& 1 = 1) : ∃ (z' : OX) (s' : ChS), zOK z' ∧ LR K xb xg s' (xv, xn, xt, xa) ∧ ∀ (l : Launch) (D : va_G) (sz : Nat), MI l yX6_fail cX6_fail 4 (some .int) 3 63 D sz [.ref o, .int (nI i), .int (nI k), .int (nI x)] (OB D o z s) (-1000002) (OB D o z' s') := by
  have hL' := h
  have ha : (-1000002 : Int32) = -1000002 := rfl
  exact ⟨z, s, hz, hL', fun l D sz => by rw [← ha]; exact k_failN l D sz o z s hz i k hi hk x hx (isC hi hk) (is01 hx) (fun w => (failed_iff s.f i k).mp w (by rw [(h.1 i hi).2.1]; exact hb))⟩
theorem k_healL (h : LR K xb xg s (xv, xn, xt, xa)) (hz : zOK z) {i k : Nat} (hi : i < 7) (hk : k < 8) (hb : (xb i >>> ((nI k) &&& 31)) &&& 1 = 1) : ∃ (z' : OX) (s' : ChS), zOK z' ∧ LR K (hbL xb i k) xg s' (xv, xn, xt, xa) ∧ ∀ (l : Launch) (D : va_G) (sz : Nat), MI l yX6_heal cX6_heal 3 (some .int) 4 125 D sz [.ref o, .int (nI i), .int (nI k)] (OB D o z s) (bsN (hbL xb i k) 7) (OB D o z' s') := by
  have hV := h.1.heal hi hk hb
  have ha := hV.count
  have hL' : LR K (hbL xb i k) xg (ChS.new s.v (sp_X5_healCell s.f s.g i k).1 (sp_X5_healCell s.f s.g i k).2 s.r s.av s.mk s.cm s.ar s.fl s.en s.la s.zs s.se s.ph s.tk s.pc s.rc s.wc s.bc s.tc) (xv, xn, xt, xa) := ⟨hV, h.2⟩
  exact ⟨zK z s, _, zK_ok hz s, hL', fun l D sz => by rw [← ha]; exact k_heal l D sz o z s hz i k hi hk (isC hi hk) (fun w => (failed_iff s.f i k).mp w (by rw [(h.1 i hi).2.1]; exact hb))⟩
theorem k_healNL (h : LR K xb xg s (xv, xn, xt, xa)) (hz : zOK z) {i k : Nat} (hi : i < 7) (hk : k < 8) (hb : ¬ (xb i >>> ((nI k) &&& 31)) &&& 1 = 1) : ∃ (z' : OX) (s' : ChS), zOK z' ∧ LR K xb xg s' (xv, xn, xt, xa) ∧ ∀ (l : Launch) (D : va_G) (sz : Nat), MI l yX6_heal cX6_heal 3 (some .int) 3 63 D sz [.ref o, .int (nI i), .int (nI k)] (OB D o z s) (-1000002) (OB D o z' s') := by
  have hL' := h
  have ha : (-1000002 : Int32) = -1000002 := rfl
  exact ⟨z, s, hz, hL', fun l D sz => by rw [← ha]; exact k_healN l D sz o z s hz i k hi hk (isC hi hk) ((failed_iff s.f i k).mpr (by rw [(h.1 i hi).2.1]; exact hb))⟩
theorem k_setL (h : LR K xb xg s (xv, xn, xt, xa)) (hz : zOK z) {i v : Nat} (hi : i < 3) (h0 : i = 0 → v < 9) (h1 : i = 1 → v < 2) (h2 : i = 2 → 4 ≤ v ∧ v < 61) : ∃ (z' : OX) (s' : ChS), zOK z' ∧ LR K xb xg s' (xv, xn, upd (seL xt i v) 0 (if seL xt i v 10 ≤ seL xt i v 0 then seL xt i v 10 - 1 else seL xt i v 0), xa) ∧ ∀ (l : Launch) (D : va_G) (sz : Nat), MI l yX6_set cX6_set 3 (some .int) 4 125 D sz [.ref o, .int (nI i), .int (nI v)] (OB D o z s) (xt (8 + i)) (OB D o z' s') := by
  obtain ⟨ha, hL'⟩ := h.set hi h0 h1 h2
  exact ⟨zK z s, _, zK_ok hz s, hL', fun l D sz => by rw [← ha]; exact k_set l D sz o z s hz i (nI v) hi (isS hi) (isSv hi h0 h1 h2)⟩
theorem k_burstL {y : LRs} (h : LR K xb xg s y) (hz : zOK z) {p zz q md : Nat} (hok : lOK y.2.2.1 p zz q) (hq : 6 * q < 8 * zz) (hmd : md < 3) (hK : K < 1000) {xw xq : Row} {X : LX} {M : Nat} (hX : buL xb xg y xw xq q md = (X, M)) : ∃ (z' : OX) (s' : ChS), zOK z' ∧ LR (K + 1) xb xg s' (X.1.1, X.1.2.1, upd (upd X.1.2.2.1 5 (X.1.2.2.1 5 + 1)) 6 ((upd X.1.2.2.1 5 (X.1.2.2.1 5 + 1)) 6 + toL md X), X.1.2.2.2) ∧ (∃ a', s'.la = nI a' ∧ a' < 6 ∧ nI 0 < s'.zs ∧ (∀ r, r < 7 → s'.en (agoA a' 0) r = X.2.1 r) ∧ s'.en (agoA a' 0) 7 = nI md ∧ s'.en (agoA a' 0) 8 = toL md X ∧ s'.en (agoA a' 0) 9 = nI M) ∧ ∀ (l : Launch) (D : va_G) (sz : Nat), MI l yX6_burst cX6_burst 2 (some .int) 6 135 D sz [.ref o, .int (nI md)] (OB D o z s) (toL md X) (OB D o z' s') := by
  obtain ⟨a, B, g1, g2, g3, g4, g5⟩ := id h.2.2.1
  have hk : (if B < 6 then B else 6) ≤ 6 := by split <;> omega
  obtain ⟨f1, f2, f3, f4, f5⟩ := h.burst hok hq hmd g1 g2 g3 hk hK z.2.2.2.2.2.2.2.2.2.2.2.2.2.2.2.2.2.2.2.2.2.2.1 z.2.2.2.2.2.2.2.2.2.2.2.2.2.2.2.2.2.2.2.2.2.2.2.1 z.2.2.2.2.2.2.2.2.2.2.2.2.2.2.2.2.2.2.2.2.2.2.2.2.1 xw xq X M hX
  refine ⟨zB z s (nI md) q, _, zB_ok hz s (nI md) q, f2, ⟨nxA a, rfl, nxA_lt a g2, ?_, ?_, ?_, ?_, ?_⟩, fun l D sz => by rw [← f1]; exact k_burst l D sz o z s hz q a (if B < 6 then B else 6) hok.2.2.2.2.2.2 (h.2.2.2.1.trans hok.2.2.1) g1 g3 g2 hk (nI md) (isMd hmd)⟩
  · show nI 0 < nI (nxZ (if B < 6 then B else 6))
    rw [nI_ltI (by decide) (by have := nxZ_le (if B < 6 then B else 6) hk; omega)]
    generalize (if B < 6 then B else 6) = Z
    unfold nxZ
    split <;> omega
  · intro r hr
    rw [lg_top _ _ _ _ _ (by omega)]; exact f3 r hr
  · rw [lg_top _ _ _ _ _ (by decide)]; exact f4
  · rw [lg_top _ _ _ _ _ (by decide)]; exact f1
  · rw [lg_top _ _ _ _ _ (by decide)]; exact f5
end KC
