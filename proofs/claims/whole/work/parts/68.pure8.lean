/-! what is told, compared -/
theorem Rel.regs {s : ChS} {m : Row} (h : Rel s m) {i : Nat} (hi : i < 7) : sp_X6_registerOf0 s i = sp_X7_registerOf m i 0 ∧ sp_X6_registerOf1 s i = sp_X7_registerOf m i 1 ∧ sp_X6_registerOf2 s i = sp_X7_registerOf m i 2 ∧ sp_X6_registerOf3 s i = sp_X7_registerOf m i 3 ∧ sp_X6_registerOf4 s i = sp_X7_registerOf m i 4 ∧ sp_X6_registerOf5 s i = sp_X7_registerOf m i 5 ∧ sp_X6_registerOf6 s i = sp_X7_registerOf m i 6 := by
  have hV := h.1
  obtain ⟨h1, h2, h3, h4, -, -, -⟩ := hV i hi
  obtain ⟨n1, n2, -⟩ := next_eq hV hi
  refine ⟨?_, ?_, ?_, ?_, ?_, ?_, ?_⟩
  · unfold sp_X7_registerOf
    rw [if_pos (by decide)]; exact h1
  · unfold sp_X7_registerOf
    rw [if_neg (by decide), if_pos (by decide)]; exact num_eq hV hi
  · unfold sp_X7_registerOf
    rw [if_neg (by decide), if_neg (by decide), if_pos (by decide)]; exact why_eq hV hi
  · unfold sp_X7_registerOf
    rw [if_neg (by decide), if_neg (by decide), if_neg (by decide), if_pos (by decide)]; exact last_eq hV hi
  · unfold sp_X7_registerOf
    rw [if_neg (by decide), if_neg (by decide), if_neg (by decide), if_neg (by decide), if_pos (by decide)]; exact h2
  · unfold sp_X7_registerOf
    rw [if_neg (by decide), if_neg (by decide), if_neg (by decide), if_neg (by decide), if_neg (by decide), if_pos (by decide)]; exact h4
  · unfold sp_X7_registerOf
    rw [if_neg (by decide), if_neg (by decide), if_neg (by decide), if_neg (by decide), if_neg (by decide), if_neg (by decide)]
    unfold sp_X6_registerOf6 sp_X7_wouldStep
    rw [n1]
    exact (put_eq hV hi n2).1
theorem Rel.als {s : ChS} {m : Row} (h : Rel s m) {a : Nat} (ha : a < 3) : sp_X6_alarmOf0 s a = sp_X7_alarmOf m a 0 ∧ sp_X6_alarmOf1 s a = sp_X7_alarmOf m a 1 ∧ sp_X6_alarmOf2 s a = sp_X7_alarmOf m a 2 ∧ sp_X6_alarmOf3 s a = sp_X7_alarmOf m a 3 ∧ sp_X6_alarmOf4 s a = sp_X7_alarmOf m a 4 ∧ sp_X6_alarmOf5 s a = sp_X7_alarmOf m a 5 ∧ sp_X6_alarmOf6 s a = sp_X7_alarmOf m a 6 ∧ sp_X6_alarmOf7 s a = sp_X7_alarmOf m a 7 ∧ sp_X6_alarmOf8 s a = sp_X7_alarmOf m a 8 ∧ sp_X6_alarmOf9 s a = sp_X7_alarmOf m a 9 := by
  obtain ⟨g1, g2, g3, g4, g5⟩ := h.2.1.2.2.2 a ha
  have lo : ∀ w, w < 9 → sp_X7_alarmOf m a w = m (40 + 9 * a + w) := fun w hw => if_neg (by omega)
  refine ⟨(g1 0 (by decide)).1.trans (lo 0 (by decide)).symm, (g1 1 (by decide)).1.trans (lo 1 (by decide)).symm, (g1 2 (by decide)).1.trans (lo 2 (by decide)).symm, (g1 3 (by decide)).1.trans (lo 3 (by decide)).symm, (g1 4 (by decide)).1.trans (lo 4 (by decide)).symm, g2.trans (lo 5 (by decide)).symm, g3.trans (lo 6 (by decide)).symm, g4.trans (lo 7 (by decide)).symm, g5.trans (lo 8 (by decide)).symm, ?_⟩
  have e : sp_X7_alarmOf m a 9 = if (sp_X7_matches m a) = 0 then 0 else 1 := if_pos (by decide)
  rw [e]
  unfold sp_X6_alarmOf9
  rw [match_eq h.2.1 (fun r hr => (h.1 r (by omega)).1) ha]
theorem Rel.told {s : ChS} {m : Row} (h : Rel s m) {a q w : Nat} (hla : s.la = nI a) (ha : a < 6) (hw : w < 10) : (nI q < s.zs → q < 2147483648 → s.en (agoA a q) w = m (67 + 10 * q + w)) ∧ ∃ z, z ≤ 6 ∧ s.zs = nI z ∧ m 36 = nI z := by
  obtain ⟨-, -, ⟨a', z, g1, g2, g3, g4, g5, g6⟩, -⟩ := h
  have ea : a' = a := (nI_eq (by omega) (by omega)).mp (g1.symm.trans hla)
  subst ea
  refine ⟨fun hq hq2 => ?_, z, g4, g3, g5⟩
  rw [g3] at hq
  exact g6 q ((nI_ltI hq2 (by omega)).mp hq) w hw
theorem Rel.readable {s : ChS} {m : Row} (h : Rel s m) {p z q : Nat} (hok : rOK m p z q) : rbF s 7 1 = rblR p q z 6 1 := by
  obtain ⟨t1, -, t3, t4, -⟩ := h.2.2.2
  obtain ⟨o1, o2, o3, o4, o5, o6, o7⟩ := hok
  have k : ∀ f r, r + f = 7 → rbF s (f + 1) r = rblR p q z f r := by
    intro f
    induction f with
    | zero =>
      intro r hr
      rw [rbF_x (Or.inl (by omega))]
      rfl
    | succ f ih =>
      intro r hr
      have hc : s.se 2 - s.ph ≤ nI r * s.se 0 ↔ z ≤ p + r * q := by
        have hrq : r * q ≤ 7 * 8 := Nat.mul_le_mul (by omega) o7
        rw [t1, t3, t4, o1, o2, o3, pk_sub (by omega), pk_mul, nI_leI (by omega) (by omega)]
        omega
      by_cases c : z ≤ p + r * q
      · rw [rbF_x (Or.inr (hc.mpr c))]
        exact (if_pos c).symm
      · rw [rbF_s (by omega) (fun g => c (hc.mp g)), ih (r + 1) (by omega)]
        exact (if_neg c).symm
  exact k 6 1 rfl
theorem Rel.safe {s : ChS} {m : Row} (h : Rel s m) {p z q : Nat} (hok : rOK m p z q) : sp_X6_safeIn s = sp_X7_safeIn p z q := by
  obtain ⟨t1, -, t3, t4, -⟩ := h.2.2.2
  obtain ⟨o1, o2, o3, o4, o5, o6, o7⟩ := hok
  unfold sp_X6_safeIn sp_X7_safeIn
  rw [t1, t3, t4, o1, o2, o3, show (6 : Int32) = nI 6 from rfl, pk_mul, nI_add]
  by_cases c1 : z ≤ p + 6 * q
  · rw [if_pos c1, if_pos ((nI_leI (by omega) (by omega)).mpr c1)]
    by_cases c2 : z ≤ 6 * q
    · rw [if_pos c2, if_pos ((nI_leI (by omega) (by omega)).mpr c2)]
    · rw [if_neg c2, if_neg (fun g => c2 ((nI_leI (by omega) (by omega)).mp g)), pk_sub (by omega)]
  · rw [if_neg c1, if_neg (fun g => c1 ((nI_leI (by omega) (by omega)).mp g))]
/-- when an alarm comes -/
theorem cmS_at (av : Nat → Row) (mk v : Row) (ar : Int32) (x : Row × Int32) (i a : Nat) : (cmS av mk v ar x i).1 a = if i = a ∧ sp_X6_bitOf ar (nI a) = 1 ∧ ¬ sp_X0_matches av mk v a = 0 then x.1 a + 1 else x.1 a := by
  unfold cmS
  by_cases ci : i = a
  · subst ci
    by_cases c1 : sp_X6_bitOf ar (nI i) = 1
    · rw [if_pos c1]
      by_cases c2 : sp_X0_matches av mk v i = 0
      · rw [if_pos c2, if_neg (fun g => g.2.2 c2)]
      · rw [if_neg c2, if_pos ⟨rfl, c1, c2⟩]
        exact upd_eq _ _ _
    · rw [if_neg c1, if_neg (fun g => c1 g.2.1)]
  · refine Eq.trans ?_ (if_neg (fun g : i = a ∧ sp_X6_bitOf ar (nI a) = 1 ∧ ¬ sp_X0_matches av mk v a = 0 => ci g.1)).symm
    split
    · split
      · rfl
      · exact upd_ne _ _ (fun g => ci g.symm)
    · rfl
theorem cmF_at (av : Nat → Row) (mk v : Row) (ar : Int32) (x : Row × Int32) {a : Nat} (ha : a < 3) : (cmF av mk v ar x 3).1 a = if sp_X6_bitOf ar (nI a) = 1 ∧ ¬ sp_X0_matches av mk v a = 0 then x.1 a + 1 else x.1 a := by
  show (cmS av mk v ar (cmS av mk v ar (cmS av mk v ar x 0) 1) 2).1 a = _
  rw [cmS_at, cmS_at, cmS_at]
  by_cases c : sp_X6_bitOf ar (nI a) = 1 ∧ ¬ sp_X0_matches av mk v a = 0
  · rw [if_pos c]
    match a, ha with
    | 0, _ => rw [if_neg (fun g => absurd g.1 (by decide)), if_neg (fun g => absurd g.1 (by decide)), if_pos ⟨rfl, c⟩]
    | 1, _ => rw [if_neg (fun g => absurd g.1 (by decide)), if_pos ⟨rfl, c⟩, if_neg (fun g => absurd g.1 (by decide))]
    | 2, _ => rw [if_pos ⟨rfl, c⟩, if_neg (fun g => absurd g.1 (by decide)), if_neg (fun g => absurd g.1 (by decide))]
  · rw [if_neg c, if_neg (fun g => c g.2), if_neg (fun g => c g.2), if_neg (fun g => c g.2)]
theorem inc_ne (x : Int32) : ¬ x + 1 = x := by
  intro g
  have : x + 1 - x = x - x := by rw [g]
  rw [Int32.sub_self, Int32.add_comm, Int32.add_sub_cancel] at this
  exact absurd this (by decide)
theorem cmR_ne {a : Nat} {cm : Int32} {f n : Nat} {M : Row} (h : ¬ M (40 + 9 * a + 8) = cm) : cmR a cm f n M = (n, M) := by
  cases f with
  | zero => rfl
  | succ f => exact if_neg h
theorem comes_sim {s : ChS} {a : Nat} (ha : a < 3) {f9 g9 : Row} (har : sp_X6_bitOf s.ar (nI a) = 1) : ∀ (f n : Nat) (x : Row × Row) (M cm0 : Row) (fl0 : Int32), RV x.1 f9 g9 x.2 M → RA s.av s.mk cm0 s.ar fl0 M →
    ((ciR s a f9 g9 f (n + 1) x).1 = -1000004 ∧ (cmR a (cm0 a) f n M).2 (40 + 9 * a + 8) = cm0 a) ∨ ((ciR s a f9 g9 f (n + 1) x).1 = nI (cmR a (cm0 a) f n M).1 ∧ ¬ (cmR a (cm0 a) f n M).2 (40 + 9 * a + 8) = cm0 a) := by
  intro f
  induction f with
  | zero => intro n x M cm0 fl0 hV hA; exact Or.inl ⟨rfl, (hA.2.2.2 a ha).2.2.2.2.symm⟩
  | succ f ih =>
    intro n x M cm0 fl0 hV hA
    have h8 : M (40 + 9 * a + 8) = cm0 a := (hA.2.2.2 a ha).2.2.2.2.symm
    have e1 : cmR a (cm0 a) (f + 1) n M = cmR a (cm0 a) f (n + 1) (sp_X7_tick M) := if_pos h8
    obtain ⟨w1, w2⟩ := tick_sim (s := ChS.new x.1 f9 g9 x.2 s.av s.mk cm0 s.ar fl0 s.en s.la s.zs s.se s.ph s.tk s.pc s.rc s.wc s.bc s.tc) hV hA
    have w1 : RV (sp_X5_tick x.1 f9 g9 x.2).1 f9 g9 (sp_X5_tick x.1 f9 g9 x.2).2 (sp_X7_tick M) := w1
    have w2 : RA s.av s.mk (cmF s.av s.mk (sp_X5_tick x.1 f9 g9 x.2).1 s.ar (cm0, fl0) 3).1 s.ar (cmF s.av s.mk (sp_X5_tick x.1 f9 g9 x.2).1 s.ar (cm0, fl0) 3).2 (sp_X7_tick M) := w2
    have hat := cmF_at s.av s.mk (sp_X5_tick x.1 f9 g9 x.2).1 s.ar (cm0, fl0) ha
    have h8' : sp_X7_tick M (40 + 9 * a + 8) = (cmF s.av s.mk (sp_X5_tick x.1 f9 g9 x.2).1 s.ar (cm0, fl0) 3).1 a := (w2.2.2.2 a ha).2.2.2.2.symm
    rw [e1]
    by_cases c : sp_X0_matches s.av s.mk (sp_X5_tick x.1 f9 g9 x.2).1 a = 0
    · rw [ciR_s c]
      rw [if_neg (fun g => g.2 c)] at hat
      have k := ih (n + 1) (sp_X5_tick x.1 f9 g9 x.2) (sp_X7_tick M) (cmF s.av s.mk (sp_X5_tick x.1 f9 g9 x.2).1 s.ar (cm0, fl0) 3).1 (cmF s.av s.mk (sp_X5_tick x.1 f9 g9 x.2).1 s.ar (cm0, fl0) 3).2 w1 w2
      rw [hat] at k
      exact k
    · rw [ciR_n c]
      rw [if_pos ⟨har, c⟩] at hat
      have hn : ¬ sp_X7_tick M (40 + 9 * a + 8) = cm0 a := by rw [h8', hat]; exact inc_ne _
      rw [cmR_ne hn]
      dsimp only
      exact Or.inr ⟨rfl, hn⟩
theorem Rel.comes {s t : ChS} {m : Row} (h : Rel s m) {a : Nat} (ha : a < 3) (har : sp_X6_bitOf s.ar (nI a) = 1) : (ciR s a (va_cpy s.f t.f 0 0 7) (va_cpy s.g t.g 0 0 7) 4000 1 (va_cpy s.v t.v 0 0 7, va_cpy s.r t.r 0 0 7)).1 = sp_X7_comesIn m a ∧ ∀ j, j < 127 → va_cpy (va_cpy m z0 0 0 127) (cmR a (m (40 + 9 * a + 8)) 4000 0 m).2 0 0 127 j = m j := by
  obtain ⟨hV, hA, -, -⟩ := h
  have hV2 : RV (va_cpy s.v t.v 0 0 7) (va_cpy s.f t.f 0 0 7) (va_cpy s.g t.g 0 0 7) (va_cpy s.r t.r 0 0 7) m := hV.of (fun i hi => ⟨cpy_lt hi, cpy_lt hi, cpy_lt hi, cpy_lt hi⟩)
  have h8 : m (40 + 9 * a + 8) = s.cm a := (hA.2.2.2 a ha).2.2.2.2.symm
  have k := comes_sim ha har 4000 0 (va_cpy s.v t.v 0 0 7, va_cpy s.r t.r 0 0 7) m s.cm s.fl hV2 hA
  refine ⟨?_, fun j hj => by rw [cpy_lt hj, cpy_lt hj]⟩
  unfold sp_X7_comesIn
  rw [h8]
  rcases k with ⟨k1, k2⟩ | ⟨k1, k2⟩
  · rw [if_pos k2]; exact k1
  · rw [if_neg k2]; exact k1
/-- registers that are not right -/
theorem w03_all : ∀ t ∈ lasts, ∀ b : Fin 256, wB (nI b.1) t.1 t.2.2 = 0 ∨ wB (nI b.1) t.1 t.2.2 = 1 ∨ wB (nI b.1) t.1 t.2.2 = 2 ∨ wB (nI b.1) t.1 t.2.2 = 3 := by decide +kernel
theorem wrong_v {v f g r m : Row} (h : RV v f g r m) {i : Nat} (hi : i < 7) : sp_X7_wrong m i = 0 ∨ sp_X7_wrong m i = 1 ∨ sp_X7_wrong m i = 2 ∨ sp_X7_wrong m i = 3 := by
  obtain ⟨-, -, -, -, ⟨b, hb, e⟩, -, -⟩ := h i hi
  obtain ⟨hl, hf⟩ := last_in h hi
  have a2 : sp_X7_wrong m i = wB (m (0 + i)) (kf k_first i) (sp_X7_last m i) := by
    unfold sp_X7_wrong
    rw [hf]; rfl
  rw [a2, e]
  exact w03_all _ hl ⟨b, hb⟩
theorem Rel.wrongs {s : ChS} {m : Row} (h : Rel s m) : cwN s.v 7 = wrN m 7 := by
  have k : ∀ i, i ≤ 7 → cwN s.v i = wrN m i := by
    intro i
    induction i with
    | zero => intro _; rfl
    | succ i ih =>
      intro hi
      show (if sp_X5_whyWrong s.v i = 0 then cwN s.v i else cwN s.v i ||| (1 : Int32) <<< (nI i &&& 31)) = wrN m i ||| (if sp_X7_wrong m i ≤ 0 then 0 else (1 : Int32) <<< (nI i &&& 31))
      rw [ih (by omega), why_eq h.1 (by omega)]
      rcases wrong_v h.1 (i := i) (by omega) with e | e | e | e
      · rw [e, if_pos rfl, if_pos (by decide)]; exact (Int32.or_zero).symm
      · rw [e, if_neg (by decide), if_neg (by decide)]
      · rw [e, if_neg (by decide), if_neg (by decide)]
      · rw [e, if_neg (by decide), if_neg (by decide)]
  exact k 7 (Nat.le_refl 7)
/-- the date -/
theorem Rel.right {s : ChS} {m : Row} (h : Rel s m) : (¬ 0 < (sp_X7_wrong m 4 + sp_X7_wrong m 5) + sp_X7_wrong m 6) ↔ ¬ sp_X5_isDateRight s.v = 0 := by
  unfold sp_X5_isDateRight
  rw [why_eq h.1 (by decide), why_eq h.1 (by decide), why_eq h.1 (by decide)]
  rcases wrong_v h.1 (i := 4) (by decide) with e | e | e | e <;> rcases wrong_v h.1 (i := 5) (by decide) with e2 | e2 | e2 | e2 <;> rcases wrong_v h.1 (i := 6) (by decide) with e3 | e3 | e3 | e3 <;> (rw [e, e2, e3]; decide)
theorem mon_all : ∀ b : Fin 256, wB (nI b.1) 1 12 = 0 → ∃ k : Fin 13, 1 ≤ k.1 ∧ sp_X6_numberOf (nI b.1) = nI k.1 := by decide +kernel
theorem Rel.month {s : ChS} {m : Row} (h : Rel s m) (hr : ¬ sp_X5_isDateRight s.v = 0) : ∃ Mo, sp_X6_numberOf (s.v 5) = nI Mo ∧ 1 ≤ Mo ∧ Mo ≤ 12 ∧ sp_X7_number m 5 = nI Mo := by
  have w5 : sp_X7_wrong m 5 = 0 := by
    apply Classical.byContradiction
    intro g
    apply hr
    unfold sp_X5_isDateRight
    rw [why_eq h.1 (i := 5) (by decide)]
    rw [if_neg g]
    split <;> rfl
  obtain ⟨h1, -, -, -, ⟨b, hb, e⟩, -, -⟩ := h.1 5 (by decide)
  have a2 : sp_X7_wrong m 5 = wB (nI b) 1 12 := by
    rw [← e]; rfl
  obtain ⟨k, k1, k2⟩ := mon_all ⟨b, hb⟩ (by rw [← a2]; exact w5)
  have e5 : sp_X6_numberOf (s.v 5) = nI k.1 := by rw [h1, e]; exact k2
  exact ⟨k.1, e5, k1, Nat.le_of_lt_succ k.2, (num_eq h.1 (by decide)).symm.trans e5⟩
noncomputable def sumL (lp : Int32) : Nat → Int32
  | 0 => 0
  | j + 1 => sumL lp j + sp_X7_lengthOf (nI (j + 1)) lp
theorem daN_sum (m : Row) (lp : Int32) : ∀ j, daN m lp j = (sp_X7_number m 4 - 1) + sumL lp j
  | 0 => (Int32.add_zero _).symm
  | j + 1 => by
    show daN m lp j + sp_X7_lengthOf (nI (j + 1)) lp = (sp_X7_number m 4 - 1) + (sumL lp j + sp_X7_lengthOf (nI (j + 1)) lp)
    rw [daN_sum m lp j, Int32.add_assoc]
theorem sum_all : ∀ lp ∈ [(0 : Int32), 1], ∀ j : Fin 12, sumL lp j.1 = kf k_days j.1 + (if j.1 + 1 ≤ 2 then 0 else lp) := by decide +kernel
theorem ahead_eq {s : ChS} {m : Row} (h : Rel s m) {Mo : Nat} (h5 : sp_X7_number m 5 = nI Mo) (h1 : 1 ≤ Mo) (h2 : Mo ≤ 12) : sp_X5_dayOfYear s.v Mo = sp_X7_daysAhead m (sp_X7_isLeap m) := by
  unfold sp_X7_daysAhead
  rw [h5, nI_clamp (by omega), daN_sum]
  have hs := sum_all (sp_X7_isLeap m) (by
    rcases bo_X7_isLeap m with q | q
    · rw [q]; exact List.mem_cons_self
    · rw [q]; exact List.mem_cons_of_mem _ List.mem_cons_self) ⟨Mo - 1, by omega⟩
  dsimp only at hs
  rw [hs]
  unfold sp_X5_dayOfYear
  rw [leap_eq h.1, num_eq h.1 (i := 4) (by decide)]
  generalize sp_X7_number m 4 = N
  generalize kf k_days (Mo - 1) = K
  by_cases c : Mo ≤ 2
  · rw [if_pos c, if_pos (show Mo - 1 + 1 ≤ 2 from by omega)]
    grind
  · rw [if_neg c, if_neg (show ¬ Mo - 1 + 1 ≤ 2 from by omega)]
    rcases bo_X7_isLeap m with q | q
    · rw [q, if_pos rfl]; grind
    · rw [q, if_neg (by decide)]; grind
theorem Rel.date {s : ChS} {m : Row} (h : Rel s m) {Mo : Nat} (h5 : sp_X7_number m 5 = nI Mo) (h1 : 1 ≤ Mo) (h2 : Mo ≤ 12) : sp_X6_date0 s Mo = sp_X7_date0 m ∧ sp_X6_date1 s Mo = sp_X7_date1 m ∧ sp_X6_date2 s Mo = sp_X7_date2 m ∧ sp_X6_date4 s Mo = sp_X7_date4 m := by
  have e := ahead_eq h h5 h1 h2
  have ed : sp_X5_daysFromStart s.v Mo = sp_X7_daysBehind m := by
    unfold sp_X5_daysFromStart sp_X7_daysBehind
    rw [e, num_eq h.1 (i := 6) (by decide)]
  have ew : sp_X5_weekdayByDate s.v Mo = (((sp_X7_daysBehind m) + 5) - ((sp_X7_daysBehind m) + 5) / 7 * 7) + 1 := by
    unfold sp_X5_weekdayByDate
    rw [ed, show sp_X7_daysBehind m + 6 - 1 = sp_X7_daysBehind m + 5 from by grind]
  refine ⟨ed, ew, ?_, ?_⟩
  · unfold sp_X6_date2 sp_X7_date2
    rw [ew, num_eq h.1 (i := 3) (by decide)]
  · unfold sp_X6_date4 sp_X7_date4 sp_X5_daysOfYear
    rw [e, leap_eq h.1]
    split
    · rfl
    · rfl
theorem Rel.date3 {s : ChS} {m : Row} (h : Rel s m) : sp_X6_date3 s = sp_X7_date3 m := last_eq h.1 (i := 4) (by decide)
/-- counts -/
theorem cnt_bad {m : Row} {P ty x : Int32} (g0 : ¬ x = 0) (g1 : ¬ x = 1) (g2 : ¬ x = 2) (g3 : ¬ x = 3) (g4 : ¬ x = 4) (g5 : ¬ x = 5) (g6 : ¬ x = 6) (g7 : ¬ x = 7) (g8 : ¬ x = 8) (g9 : ¬ x = 9) (g10 : ¬ x = 10) (g11 : ¬ x = 11) (g12 : ¬ x = 12) (g13 : ¬ x = 13) (g20 : ¬ x = 20) (g21 : ¬ x = 21) (g22 : ¬ x = 22) : sp_X7_count m P ty x = -1000001 := by
  unfold sp_X7_count
  rw [if_neg g0, if_neg g1, if_neg g2, if_neg g3, if_neg g4, if_neg g5, if_neg g6, if_neg g7, if_neg g8, if_neg g9, if_neg g10, if_neg g11, if_neg g12, if_neg g13]
  (repeat' split) <;> first | rfl | contradiction
theorem cnt_0 (m : Row) (P ty : Int32) : sp_X7_count m P ty 0 = m 28 := by
  unfold sp_X7_count
  rw [if_pos rfl]
theorem cnt_1 (m : Row) (P ty : Int32) : sp_X7_count m P ty 1 = m 29 := by
  unfold sp_X7_count
  rw [if_neg (by decide), if_pos rfl]
theorem cnt_2 (m : Row) (P ty : Int32) : sp_X7_count m P ty 2 = wrN m 7 := by
  unfold sp_X7_count
  rw [if_neg (by decide), if_neg (by decide), if_pos rfl]
theorem cnt_3 (m : Row) (P ty : Int32) : sp_X7_count m P ty 3 = sp_X7_flags m := by
  unfold sp_X7_count
  rw [if_neg (by decide), if_neg (by decide), if_neg (by decide), if_pos rfl]
theorem cnt_4 (m : Row) (P ty : Int32) : sp_X7_count m P ty 4 = m 30 := by
  unfold sp_X7_count
  rw [if_neg (by decide), if_neg (by decide), if_neg (by decide), if_neg (by decide), if_pos rfl]
theorem cnt_5 (m : Row) (P ty : Int32) : sp_X7_count m P ty 5 = failN m 7 := by
  unfold sp_X7_count
  rw [if_neg (by decide), if_neg (by decide), if_neg (by decide), if_neg (by decide), if_neg (by decide), if_pos rfl]
theorem cnt_6 (m : Row) (P ty : Int32) : sp_X7_count m P ty 6 = m 31 := by
  unfold sp_X7_count
  rw [if_neg (by decide), if_neg (by decide), if_neg (by decide), if_neg (by decide), if_neg (by decide), if_neg (by decide), if_pos rfl]
theorem cnt_7 (m : Row) (P ty : Int32) : sp_X7_count m P ty 7 = m 32 := by
  unfold sp_X7_count
  rw [if_neg (by decide), if_neg (by decide), if_neg (by decide), if_neg (by decide), if_neg (by decide), if_neg (by decide), if_neg (by decide), if_pos rfl]
theorem cnt_8 (m : Row) (P ty : Int32) : sp_X7_count m P ty 8 = m 33 := by
  unfold sp_X7_count
  rw [if_neg (by decide), if_neg (by decide), if_neg (by decide), if_neg (by decide), if_neg (by decide), if_neg (by decide), if_neg (by decide), if_neg (by decide), if_pos rfl]
theorem cnt_9 (m : Row) (P ty : Int32) : sp_X7_count m P ty 9 = m 34 := by
  unfold sp_X7_count
  rw [if_neg (by decide), if_neg (by decide), if_neg (by decide), if_neg (by decide), if_neg (by decide), if_neg (by decide), if_neg (by decide), if_neg (by decide), if_neg (by decide), if_pos rfl]
theorem cnt_10 (m : Row) (P ty : Int32) : sp_X7_count m P ty 10 = m 35 := by
  unfold sp_X7_count
  rw [if_neg (by decide), if_neg (by decide), if_neg (by decide), if_neg (by decide), if_neg (by decide), if_neg (by decide), if_neg (by decide), if_neg (by decide), if_neg (by decide), if_neg (by decide), if_pos rfl]
theorem cnt_11 (m : Row) (P ty : Int32) : sp_X7_count m P ty 11 = m 36 := by
  unfold sp_X7_count
  rw [if_neg (by decide), if_neg (by decide), if_neg (by decide), if_neg (by decide), if_neg (by decide), if_neg (by decide), if_neg (by decide), if_neg (by decide), if_neg (by decide), if_neg (by decide), if_neg (by decide), if_pos rfl]
theorem cnt_12 (m : Row) (P ty : Int32) : sp_X7_count m P ty 12 = P := by
  unfold sp_X7_count
  rw [if_neg (by decide), if_neg (by decide), if_neg (by decide), if_neg (by decide), if_neg (by decide), if_neg (by decide), if_neg (by decide), if_neg (by decide), if_neg (by decide), if_neg (by decide), if_neg (by decide), if_neg (by decide), if_pos rfl]
theorem cnt_13 (m : Row) (P ty : Int32) : sp_X7_count m P ty 13 = ty := by
  unfold sp_X7_count
  rw [if_neg (by decide), if_neg (by decide), if_neg (by decide), if_neg (by decide), if_neg (by decide), if_neg (by decide), if_neg (by decide), if_neg (by decide), if_neg (by decide), if_neg (by decide), if_neg (by decide), if_neg (by decide), if_neg (by decide), if_pos rfl]
theorem cnt_20 (m : Row) (P ty : Int32) : sp_X7_count m P ty 20 = m 37 := by
  unfold sp_X7_count
  rw [if_neg (by decide), if_neg (by decide), if_neg (by decide), if_neg (by decide), if_neg (by decide), if_neg (by decide), if_neg (by decide), if_neg (by decide), if_neg (by decide), if_neg (by decide), if_neg (by decide), if_neg (by decide), if_neg (by decide), if_neg (by decide), if_neg (by decide), if_neg (by decide), if_neg (by decide), if_neg (by decide), if_neg (by decide), if_neg (by decide), if_pos rfl]
theorem cnt_21 (m : Row) (P ty : Int32) : sp_X7_count m P ty 21 = m 38 := by
  unfold sp_X7_count
  rw [if_neg (by decide), if_neg (by decide), if_neg (by decide), if_neg (by decide), if_neg (by decide), if_neg (by decide), if_neg (by decide), if_neg (by decide), if_neg (by decide), if_neg (by decide), if_neg (by decide), if_neg (by decide), if_neg (by decide), if_neg (by decide), if_neg (by decide), if_neg (by decide), if_neg (by decide), if_neg (by decide), if_neg (by decide), if_neg (by decide), if_neg (by decide), if_pos rfl]
theorem cnt_22 (m : Row) (P ty : Int32) : sp_X7_count m P ty 22 = m 39 := by
  unfold sp_X7_count
  rw [if_neg (by decide), if_neg (by decide), if_neg (by decide), if_neg (by decide), if_neg (by decide), if_neg (by decide), if_neg (by decide), if_neg (by decide), if_neg (by decide), if_neg (by decide), if_neg (by decide), if_neg (by decide), if_neg (by decide), if_neg (by decide), if_neg (by decide), if_neg (by decide), if_neg (by decide), if_neg (by decide), if_neg (by decide), if_neg (by decide), if_neg (by decide), if_neg (by decide), if_pos rfl]
