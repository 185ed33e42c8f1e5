/-! settings, reads, copies, what is told -/
theorem cpy_lt {f g : Row} {n j : Nat} (h : j < n) : va_cpy f g 0 0 n j = f j := by
  unfold va_cpy
  rw [if_pos (by omega)]
  exact congrArg f (by omega)
theorem cpy_ge {f g : Row} {n j : Nat} (h : ¬ j < n) : va_cpy f g 0 0 n j = g j := by
  unfold va_cpy
  rw [if_neg (by omega)]
noncomputable def setR (m : Row) (i : Nat) (v : Int32) : Int32 × Row := if upd m (37 + i) v 39 ≤ upd m (37 + i) v 28 then (m (37 + i), upd (upd m (37 + i) v) 28 (upd m (37 + i) v 39 - 1)) else (m (37 + i), upd (upd m (37 + i) v) 28 (upd m (37 + i) v 28))
theorem Rel.set {s : ChS} {m : Row} (h : Rel s m) {i v : Nat} (hi : i < 3) (h0 : i = 0 → v ≤ 8) (h1 : i = 1 → v ≤ 1) (h2 : i = 2 → 4 ≤ v ∧ v ≤ 60) : (sp_X3_changeSetting s i (nI v)).1 = (setR m i (nI v)).1 ∧ Rel (sp_X3_changeSetting s i (nI v)).2 (setR m i (nI v)).2 := by
  obtain ⟨hV, hA, hG, hT⟩ := h
  obtain ⟨t1, t2, t3, t4, t5, t6, t7, t8, t9, t10, p, z, q, o1, o2, o3, o4, o5, o6, o7⟩ := hT
  obtain ⟨N, hN⟩ : ∃ N, N = upd m (37 + i) (nI v) := ⟨_, rfl⟩
  have n28 : N 28 = nI p := by rw [hN, upd_ne _ _ (by omega)]; exact o1
  have nse : ∀ k, k < 3 → upd s.se i (nI v) k = N (37 + k) := by
    intro k hk
    rw [hN]
    by_cases c : k = i
    · subst c; rw [upd_eq, upd_eq]
    · rw [upd_ne _ _ c, upd_ne _ _ (by omega)]
      match k, hk with
      | 0, _ => exact t1
      | 1, _ => exact t2
      | 2, _ => exact t3
  obtain ⟨z', hz, hz4, hz6⟩ : ∃ z', N 39 = nI z' ∧ 4 ≤ z' ∧ z' ≤ 60 := by
    by_cases c : i = 2
    · exact ⟨v, by rw [hN, c]; exact upd_eq _ _ _, (h2 c).1, (h2 c).2⟩
    · exact ⟨z, by rw [hN, upd_ne _ _ (by omega)]; exact o2, o5, o6⟩
  obtain ⟨q', hq, hq8⟩ : ∃ q', N 37 = nI q' ∧ q' ≤ 8 := by
    by_cases c : i = 0
    · exact ⟨v, by rw [hN, c]; exact upd_eq _ _ _, h0 c⟩
    · exact ⟨q, by rw [hN, upd_ne _ _ (by omega)]; exact o3, o7⟩
  have ne : ∀ j, j ≠ 37 + i → N j = m j := fun j hj => by rw [hN]; exact upd_ne _ _ hj
  have ans : s.se i = m (37 + i) := by
    match i, hi with
    | 0, _ => exact t1
    | 1, _ => exact t2
    | 2, _ => exact t3
  have hc : s.ph < upd s.se i (nI v) 2 ↔ ¬ N 39 ≤ N 28 := by
    rw [nse 2 (by decide), show 37 + 2 = 39 from rfl, hz, n28, t4, o1, nI_ltI (by omega) (by omega), nI_leI (by omega) (by omega)]
    omega
  have fin : ∀ P pp, P 28 = nI pp → pp < z' → (∀ j, j ≠ 28 → P j = N j) → ∀ ph, ph = P 28 → Rel (ChS.new s.v s.f s.g s.r s.av s.mk s.cm s.ar s.fl s.en s.la s.zs (upd s.se i (nI v)) ph s.tk s.pc s.rc s.wc s.bc s.tc) P := by
    intro P pp p1 p2 p3 ph p4
    have nj : ∀ j, j ≠ 28 → j ≠ 37 + i → P j = m j := fun j a1 a2 => (p3 j a1).trans (ne j a2)
    refine Rel.new (hV.congr (fun j hj => nj j (by omega) (by omega))) (hA.congr (fun j hj => nj j (by omega) (by omega))) (hG.congr (fun j hj => nj j (by omega) (by omega))) ⟨?_, ?_, ?_, p4, t5.trans (nj 29 (by omega) (by omega)).symm, t6.trans (nj 35 (by omega) (by omega)).symm, t7.trans (nj 33 (by omega) (by omega)).symm, t8.trans (nj 34 (by omega) (by omega)).symm, t9.trans (nj 31 (by omega) (by omega)).symm, t10.trans (nj 32 (by omega) (by omega)).symm, pp, z', q', p1, (p3 39 (by decide)).trans hz, (p3 37 (by decide)).trans hq, p2, hz4, hz6, hq8⟩
    · rw [nse 0 (by decide)]; exact (p3 37 (by decide)).symm
    · rw [nse 1 (by decide)]; exact (p3 38 (by decide)).symm
    · rw [nse 2 (by decide)]; exact (p3 39 (by decide)).symm
  unfold setR
  rw [← hN]
  by_cases c : N 39 ≤ N 28
  · have e9 : sp_X3_changeSetting s i (nI v) = (s.se i, (ChS.new s.v s.f s.g s.r s.av s.mk s.cm s.ar s.fl s.en s.la s.zs (upd s.se i (nI v)) (((upd s.se i (nI v)) 2) - 1) s.tk s.pc s.rc s.wc s.bc s.tc)) := if_neg (fun k => (hc.mp k) c)
    rw [if_pos c, e9]
    dsimp only
    refine ⟨ans, fin _ (z' - 1) ?_ (by omega) (fun j hj => upd_ne _ _ hj) _ ?_⟩
    · rw [upd_eq, hz]
      obtain ⟨y, rfl⟩ : ∃ y, z' = y + 1 := ⟨z' - 1, by omega⟩
      exact nI_pred y
    · rw [upd_eq, nse 2 (by decide)]
  · have e9 : sp_X3_changeSetting s i (nI v) = (s.se i, (ChS.new s.v s.f s.g s.r s.av s.mk s.cm s.ar s.fl s.en s.la s.zs (upd s.se i (nI v)) s.ph s.tk s.pc s.rc s.wc s.bc s.tc)) := if_pos (hc.mpr c)
    rw [if_neg c, e9]
    dsimp only
    refine ⟨ans, fin _ p ?_ ?_ (fun j hj => upd_ne _ _ hj) _ ?_⟩
    · rw [upd_eq]; exact n28
    · rw [hz, n28, nI_leI (by omega) (by omega)] at c
      omega
    · rw [upd_eq, n28, t4, o1]
theorem Rel.read {s : ChS} {m : Row} (h : Rel s m) {i q : Nat} (hi : i < 7) : s.v i = (sp_X7_read m i q).1 ∧ Rel (sp_X3_readRegister s i q).2 (sp_X7_read m i q).2 := by
  obtain ⟨hV, hA, hG, hT⟩ := h
  have ne : ∀ j, j ≠ 33 → upd m 33 (m 33 + 1) j = m j := fun j hj => upd_ne _ _ hj
  have h1 : Rel (ChS.new s.v s.f s.g s.r s.av s.mk s.cm s.ar s.fl s.en s.la s.zs s.se s.ph s.tk s.pc (s.rc + 1) s.wc s.bc s.tc) (upd m 33 (m 33 + 1)) := by
    obtain ⟨t1, t2, t3, t4, t5, t6, t7, t8, t9, t10, p, z, q, hok⟩ := hT
    exact Rel.new (hV.congr (fun j hj => ne j (by omega))) (hA.congr (fun j hj => ne j (by omega))) (hG.congr (fun j hj => ne j (by omega))) ⟨t1.trans (ne 37 (by decide)).symm, t2.trans (ne 38 (by decide)).symm, t3.trans (ne 39 (by decide)).symm, t4.trans (ne 28 (by decide)).symm, t5.trans (ne 29 (by decide)).symm, t6.trans (ne 35 (by decide)).symm, by rw [upd_eq, t7], t8.trans (ne 34 (by decide)).symm, t9.trans (ne 31 (by decide)).symm, t10.trans (ne 32 (by decide)).symm, p, z, q, rOK_of hok (ne 28 (by decide)) (ne 39 (by decide)) (ne 37 (by decide))⟩
  have e1 : sp_X3_readRegister s i q = (s.v i, (ppF (ChS.new s.v s.f s.g s.r s.av s.mk s.cm s.ar s.fl s.en s.la s.zs s.se s.ph s.tk s.pc (s.rc + 1) s.wc s.bc s.tc) q).2) := rfl
  have e2 : sp_X7_read m i q = (upd m 33 (m 33 + 1) (0 + i), phF (upd m 33 (m 33 + 1)) q) := rfl
  rw [e1, e2]
  dsimp only
  exact ⟨by rw [ne _ (by omega)]; exact (hV i hi).1, (h1.phases q).2⟩
theorem cpR_lt {f g : Nat → Row} {n i j : Nat} (h : j < i) {k : Nat} (hk : k < n) : cpR f g n i j k = f j k := by
  show (if j < i then va_cpy (f j) (g j) 0 0 n else g j) k = f j k
  rw [if_pos h]
  exact cpy_lt hk
theorem RV.of {v f g r v' f' g' r' m : Row} (h : RV v f g r m) (e : ∀ i, i < 7 → v' i = v i ∧ f' i = f i ∧ g' i = g i ∧ r' i = r i) : RV v' f' g' r' m := by
  intro i hi
  obtain ⟨e1, e2, e3, e4⟩ := e i hi
  rw [e1, e2, e3, e4]
  exact h i hi
/-- a chip copied over another -/
theorem Rel.copy {s t : ChS} {m : Row} (h : Rel t m) : Rel (cpC s t) m := by
  obtain ⟨hV, ⟨h1, h2, h3, h4⟩, ⟨a, z, g1, g2, g3, g4, g5, g6⟩, hT⟩ := h
  unfold cpC
  refine Rel.new (hV.of (fun i hi => ⟨cpy_lt hi, cpy_lt hi, cpy_lt hi, cpy_lt hi⟩)) ⟨h1, h2, ?_, fun b hb => ?_⟩ ⟨a, z, g1, g2, g3, g4, g5, fun k hk w hw => ?_⟩ ?_
  · rw [← h3]
    show ((0 + va_cpy t.cm s.cm 0 0 3 0) + va_cpy t.cm s.cm 0 0 3 1) + va_cpy t.cm s.cm 0 0 3 2 = _
    rw [cpy_lt (by decide), cpy_lt (by decide), cpy_lt (by decide)]
    rfl
  · obtain ⟨k1, k2, k3, k4, k5⟩ := h4 b hb
    refine ⟨fun k hk => ?_, ?_, k3, k4, ?_⟩
    · rw [cpR_lt hb hk]; exact k1 k hk
    · rw [cpy_lt hb]; exact k2
    · rw [cpy_lt hb]; exact k5
  · have hl : agoA a k < 6 := by unfold agoA; split <;> omega
    rw [cpR_lt hl hw]; exact g6 k hk w hw
  · obtain ⟨t1, t2, t3, t4⟩ := hT
    exact ⟨(cpy_lt (by decide)).trans t1, (cpy_lt (by decide)).trans t2, (cpy_lt (by decide)).trans t3, t4⟩
/-- the states kept: the program's chips, and the reference's row of rows -/
def HR (k : Nat) (hs : Nat → ChS) (pa : Row) : Prop := ∀ j, j < k → Rel (hs j) (fun i => pa (127 * j + i))
theorem cpy_at {f g : Row} {sp dp n j : Nat} : va_cpy f g sp dp n j = if dp ≤ j ∧ j < dp + n then f (sp + (j - dp)) else g j := rfl
theorem HR.push {k : Nat} {hs : Nat → ChS} {pa : Row} {s : ChS} {m : Row} (h : HR k hs pa) (hk : k ≤ 4) (hr : Rel s m) : (pushR m pa k).2 = khN k ∧ HR (khN k) (khS k hs s) (pushR m pa k).1 ∧ khN k ≤ 4 := by
  unfold pushR khN khS
  by_cases c : k = 4
  · rw [if_pos c, if_pos c, if_pos c]
    subst c
    refine ⟨rfl, fun j hj => ?_, by decide⟩
    dsimp only
    by_cases cj : j = 3
    · subst cj
      rw [va_up_self]
      refine Rel.congr (Rel.copy hr) (fun i hi => ?_)
      rw [cpy_at, if_pos (by omega)]
      exact congrArg m (by omega)
    · rw [va_up_ne _ _ cj, show (j + 1) % 4 = j + 1 from by omega]
      refine (h (j + 1) (by omega)).congr (fun i hi => ?_)
      rw [cpy_at, if_neg (by omega), cpy_at, if_pos (by omega)]
      exact congrArg pa (by omega)
  · rw [if_neg c, if_neg c, if_neg c]
    refine ⟨rfl, fun j hj => ?_, by omega⟩
    dsimp only
    by_cases cj : j = k
    · subst cj
      rw [va_up_self]
      refine Rel.congr (Rel.copy hr) (fun i hi => ?_)
      rw [cpy_at, if_pos (by omega)]
      exact congrArg m (by omega)
    · rw [va_up_ne _ _ cj]
      refine (h j (by omega)).congr (fun i hi => ?_)
      rw [cpy_at, if_neg (by omega)]
theorem HR.undo {k : Nat} {hs : Nat → ChS} {pa : Row} {s : ChS} {m : Row} (h : HR k hs pa) (hk : 1 ≤ k) : Rel (cpC s (hs (k - 1))) (va_cpy (fun i => pa (127 * (k - 1) + i)) m 0 0 127) ∧ HR (k - 1) hs pa :=
  ⟨Rel.congr (Rel.copy (h (k - 1) (by omega))) (fun i hi => cpy_lt hi), fun j hj => h j (by omega)⟩
/-- the bursts counted: torn ones, all; at most so many -/
def RB (K : Nat) (m : Row) : Prop := ∃ t b, m 32 = nI t ∧ m 31 = nI b ∧ t ≤ b ∧ b ≤ K
theorem RB.mono {K K' : Nat} {m : Row} (h : RB K m) (hk : K ≤ K') : RB K' m := by
  obtain ⟨t, b, h1, h2, h3, h4⟩ := h
  exact ⟨t, b, h1, h2, h3, Nat.le_trans h4 hk⟩
theorem RB.congr {K : Nat} {m m' : Row} (h : RB K m) (e1 : m' 32 = m 32) (e2 : m' 31 = m 31) : RB K m' := by
  obtain ⟨t, b, h1, h2, h3, h4⟩ := h
  exact ⟨t, b, e1.trans h1, e2.trans h2, h3, h4⟩
def HB (K k : Nat) (pa : Row) : Prop := ∀ j, j < k → RB K (fun i => pa (127 * j + i))
theorem HB.push {K k : Nat} {pa m : Row} (h : HB K k pa) (hk : k ≤ 4) (hr : RB K m) : HB K (khN k) (pushR m pa k).1 := by
  unfold pushR khN
  by_cases c : k = 4
  · rw [if_pos c, if_pos c]
    subst c
    intro j hj
    dsimp only
    by_cases cj : j = 3
    · subst cj
      refine hr.congr ?_ ?_
      · rw [cpy_at, if_pos (by omega)]
      · rw [cpy_at, if_pos (by omega)]
    · refine (h (j + 1) (by omega)).congr ?_ ?_
      · rw [cpy_at, if_neg (by omega), cpy_at, if_pos (by omega)]; exact congrArg pa (by omega)
      · rw [cpy_at, if_neg (by omega), cpy_at, if_pos (by omega)]; exact congrArg pa (by omega)
  · rw [if_neg c, if_neg c]
    intro j hj
    dsimp only
    by_cases cj : j = k
    · subst cj
      refine hr.congr ?_ ?_
      · rw [cpy_at, if_pos (by omega)]; exact congrArg m (by omega)
      · rw [cpy_at, if_pos (by omega)]; exact congrArg m (by omega)
    · refine (h j (by omega)).congr ?_ ?_
      · rw [cpy_at, if_neg (by omega)]
      · rw [cpy_at, if_neg (by omega)]
theorem HB.mono {K K' k : Nat} {pa : Row} (h : HB K k pa) (hk : K ≤ K') : HB K' k pa := fun j hj => (h j hj).mono hk
