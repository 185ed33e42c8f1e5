/-! alarms, log, accounts; a phase -/
def RA (av : Nat → Row) (mk cm : Row) (ar fl : Int32) (m : Row) : Prop := (∃ b, b < 8 ∧ ar = nI b) ∧ (∃ b, b < 8 ∧ fl = nI b) ∧ caN cm 3 = m 30 ∧
  ∀ a, a < 3 → (∀ r, r < 5 → av a r = m (40 + 9 * a + r) ∧ byte (m (40 + 9 * a + r))) ∧ mk a = m (40 + 9 * a + 5) ∧ sp_X6_bitOf ar (nI a) = m (40 + 9 * a + 6) ∧ sp_X6_bitOf fl (nI a) = m (40 + 9 * a + 7) ∧ cm a = m (40 + 9 * a + 8)
def RG (en : Nat → Row) (la zs : Int32) (m : Row) : Prop := ∃ a z, la = nI a ∧ a < 6 ∧ zs = nI z ∧ z ≤ 6 ∧ m 36 = nI z ∧ ∀ k, k < z → ∀ w, w < 10 → en (agoA a k) w = m (67 + 10 * k + w)
def RT (se : Row) (ph tk pc rc wc bc tc : Int32) (m : Row) : Prop := se 0 = m 37 ∧ se 1 = m 38 ∧ se 2 = m 39 ∧ ph = m 28 ∧ tk = m 29 ∧ pc = m 35 ∧ rc = m 33 ∧ wc = m 34 ∧ bc = m 31 ∧ tc = m 32 ∧ ∃ p z q, rOK m p z q
def Rel (s : ChS) (m : Row) : Prop := RV s.v s.f s.g s.r m ∧ RA s.av s.mk s.cm s.ar s.fl m ∧ RG s.en s.la s.zs m ∧ RT s.se s.ph s.tk s.pc s.rc s.wc s.bc s.tc m
theorem Rel.new {v f g r : Row} {av : Nat → Row} {mk cm : Row} {ar fl : Int32} {en : Nat → Row} {la zs : Int32} {se : Row} {ph tk pc rc wc bc tc : Int32} {m : Row} (h1 : RV v f g r m) (h2 : RA av mk cm ar fl m) (h3 : RG en la zs m) (h4 : RT se ph tk pc rc wc bc tc m) : Rel (ChS.new v f g r av mk cm ar fl en la zs se ph tk pc rc wc bc tc) m := ⟨h1, h2, h3, h4⟩
theorem RA.congr {av : Nat → Row} {mk cm : Row} {ar fl : Int32} {m m' : Row} (h : RA av mk cm ar fl m) (e : ∀ j, j = 30 ∨ (40 ≤ j ∧ j < 67) → m' j = m j) : RA av mk cm ar fl m' := by
  obtain ⟨h1, h2, h3, h4⟩ := h
  refine ⟨h1, h2, by rw [e 30 (Or.inl rfl)]; exact h3, fun a ha => ?_⟩
  obtain ⟨g1, g2, g3, g4, g5⟩ := h4 a ha
  refine ⟨fun r hr => by rw [e _ (by omega)]; exact g1 r hr, by rw [e _ (by omega)]; exact g2, by rw [e _ (by omega)]; exact g3, by rw [e _ (by omega)]; exact g4, by rw [e _ (by omega)]; exact g5⟩
theorem RG.congr {en : Nat → Row} {la zs : Int32} {m m' : Row} (h : RG en la zs m) (e : ∀ j, j = 36 ∨ (67 ≤ j ∧ j < 127) → m' j = m j) : RG en la zs m' := by
  obtain ⟨a, z, h1, h2, h3, h4, h5, h6⟩ := h
  exact ⟨a, z, h1, h2, h3, h4, by rw [e 36 (Or.inl rfl)]; exact h5, fun k hk w hw => by rw [e _ (by omega)]; exact h6 k hk w hw⟩
theorem rOK_c {m m' : Row} {p z q : Nat} (h : rOK m p z q) (e : ∀ j, 28 ≤ j → j < 40 → m' j = m j) : rOK m' p z q := rOK_of h (e 28 (by decide) (by decide)) (e 39 (by decide) (by decide)) (e 37 (by decide) (by decide))
/-- the accounts and settings where no number of them has changed -/
theorem RT.congr {se : Row} {ph tk pc rc wc bc tc : Int32} {m m' : Row} (h : RT se ph tk pc rc wc bc tc m) (e : ∀ j, 28 ≤ j → j < 40 → m' j = m j) : RT se ph tk pc rc wc bc tc m' := by
  obtain ⟨h1, h2, h3, h4, h5, h6, h7, h8, h9, h10, p, z, q, h11⟩ := h
  exact ⟨by rw [h1, e 37 (by decide) (by decide)], by rw [h2, e 38 (by decide) (by decide)], by rw [h3, e 39 (by decide) (by decide)], by rw [h4, e 28 (by decide) (by decide)], by rw [h5, e 29 (by decide) (by decide)], by rw [h6, e 35 (by decide) (by decide)], by rw [h7, e 33 (by decide) (by decide)], by rw [h8, e 34 (by decide) (by decide)], by rw [h9, e 31 (by decide) (by decide)], by rw [h10, e 32 (by decide) (by decide)], p, z, q, rOK_c h11 e⟩
/-- the reference's row may be copied as far as it goes -/
theorem Rel.congr {s : ChS} {m m' : Row} (h : Rel s m) (e : ∀ j, j < 127 → m' j = m j) : Rel s m' := by
  obtain ⟨h1, h2, h3, h4⟩ := h
  exact ⟨h1.congr (fun j hj => e j (by omega)), h2.congr (fun j hj => e j (by omega)), h3.congr (fun j hj => e j (by omega)), h4.congr (fun j _ hj => e j (by omega))⟩
theorem match_eq {av : Nat → Row} {mk cm v : Row} {ar fl : Int32} {m : Row} (h : RA av mk cm ar fl m) (hv : ∀ r, r < 5 → v r = m (0 + r)) {a : Nat} (ha : a < 3) : sp_X0_matches av mk v a = sp_X7_matches m a := by
  obtain ⟨g1, g2, -, -, -⟩ := h.2.2.2 a ha
  unfold sp_X0_matches sp_X7_matches
  refine bI_c ⟨fun q r hr => ?_, fun q r hr => ?_⟩
  · rcases q r hr with q | q
    · left
      rw [← g2]; exact q
    · right
      rw [← (g1 r hr).1, ← hv r hr]; exact q.symm
  · rcases q r hr with q | q
    · left
      show sp_X6_bitOf (mk a) (nI r) = 1
      rw [g2]; exact q
    · right
      rw [(g1 r hr).1, hv r hr]; exact q.symm
theorem bit_or_all : ∀ fb : Fin 8, ∀ i : Fin 3, ∀ a : Fin 3, sp_X6_bitOf (nI fb.1 ||| (1 : Int32) <<< (nI i.1 &&& 31)) (nI a.1) = (if a = i then 1 else sp_X6_bitOf (nI fb.1) (nI a.1)) := by decide +kernel
theorem bit_or_lt : ∀ fb : Fin 8, ∀ i : Fin 3, ∃ c : Fin 8, nI fb.1 ||| (1 : Int32) <<< (nI i.1 &&& 31) = nI c.1 := by decide +kernel
theorem ca_inc (cm : Row) {i : Nat} (hi : i < 3) : caN (upd cm i (cm i + 1)) 3 = caN cm 3 + 1 := by
  match i, hi with
  | 0, _ =>
    show ((0 + (cm 0 + 1)) + cm 1) + cm 2 = ((0 + cm 0) + cm 1) + cm 2 + 1
    grind
  | 1, _ =>
    show ((0 + cm 0) + (cm 1 + 1)) + cm 2 = ((0 + cm 0) + cm 1) + cm 2 + 1
    grind
  | 2, _ =>
    show ((0 + cm 0) + cm 1) + (cm 2 + 1) = ((0 + cm 0) + cm 1) + cm 2 + 1
    grind
theorem RA.al {av : Nat → Row} {mk cm v : Row} {ar fl : Int32} {m : Row} (h : RA av mk cm ar fl m) (hv : ∀ r, r < 5 → v r = m (0 + r)) {i : Nat} (hi : i < 3) : RA av mk (cmS av mk v ar (cm, fl) i).1 ar (cmS av mk v ar (cm, fl) i).2 (alStep m i) := by
  have hm := match_eq h hv hi
  obtain ⟨g1, g2, g3, g4, g5⟩ := h.2.2.2 i hi
  unfold cmS alStep
  dsimp only
  rw [g3, hm]
  by_cases c1 : m (40 + 9 * i + 6) = 1
  · rw [if_pos c1, if_pos c1]
    by_cases c2 : sp_X7_matches m i = 0
    · rw [if_pos c2, if_pos c2]; exact h
    · rw [if_neg c2, if_neg c2]
      obtain ⟨h1, ⟨fb, hfb, h2⟩, h3, h4⟩ := h
      generalize hM : upd (upd (upd m (40 + 9 * i + 7) 1) (40 + 9 * i + 8) ((upd m (40 + 9 * i + 7) 1) (40 + 9 * i + 8) + 1)) 30 ((upd (upd m (40 + 9 * i + 7) 1) (40 + 9 * i + 8) ((upd m (40 + 9 * i + 7) 1) (40 + 9 * i + 8) + 1)) 30 + 1) = M
      have e30 : M 30 = m 30 + 1 := by
        rw [← hM, upd_eq, upd_ne _ _ (by omega), upd_ne _ _ (by omega)]
      have e8 : M (40 + 9 * i + 8) = m (40 + 9 * i + 8) + 1 := by
        rw [← hM, upd_ne _ _ (by omega), upd_eq, upd_ne _ _ (by omega)]
      have e7 : M (40 + 9 * i + 7) = 1 := by
        rw [← hM, upd_ne _ _ (by omega), upd_ne _ _ (by omega), upd_eq]
      have ej : ∀ j, j ≠ 30 → j ≠ 40 + 9 * i + 7 → j ≠ 40 + 9 * i + 8 → M j = m j := by
        intro j a1 a2 a3
        rw [← hM, upd_ne _ _ a1, upd_ne _ _ a3, upd_ne _ _ a2]
      refine ⟨h1, ?_, ?_, ?_⟩
      · obtain ⟨c, hc⟩ := bit_or_lt ⟨fb, hfb⟩ ⟨i, hi⟩
        exact ⟨c.1, c.2, by rw [h2]; exact hc⟩
      · rw [e30, ← h3]; exact ca_inc cm hi
      · intro a ha
        obtain ⟨k1, k2, k3, k4, k5⟩ := h4 a ha
        have hb := bit_or_all ⟨fb, hfb⟩ ⟨i, hi⟩ ⟨a, ha⟩
        refine ⟨fun r hr => ?_, ?_, ?_, ?_, ?_⟩
        · rw [ej _ (by omega) (by omega) (by omega)]; exact k1 r hr
        · rw [ej _ (by omega) (by omega) (by omega)]; exact k2
        · rw [ej _ (by omega) (by omega) (by omega)]; exact k3
        · rw [h2]
          refine hb.trans ?_
          by_cases ca : a = i
          · subst ca
            rw [if_pos rfl, e7]
          · rw [if_neg (fun q => ca (Fin.mk.inj q)), ej _ (by omega) (by omega) (by omega), ← h2]
            exact k4
        · by_cases ca : a = i
          · subst ca
            rw [e8, ← k5]; exact upd_eq cm a (cm a + 1)
          · rw [ej _ (by omega) (by omega) (by omega), ← k5]
            exact upd_ne cm (cm i + 1) ca
  · rw [if_neg c1, if_neg c1]; exact h
theorem alStep_lo (m : Row) (a : Nat) {j : Nat} (h : j < 28) : alStep m a j = m j := alStep_ne m a (by omega) (by omega) (by omega)
theorem RA.als {av : Nat → Row} {mk cm v : Row} {ar fl : Int32} {m : Row} (h : RA av mk cm ar fl m) (hv : ∀ r, r < 5 → v r = m (0 + r)) : RA av mk (cmF av mk v ar (cm, fl) 3).1 ar (cmF av mk v ar (cm, fl) 3).2 (alF m 3) := by
  have k : ∀ i, i ≤ 3 → RA av mk (cmF av mk v ar (cm, fl) i).1 ar (cmF av mk v ar (cm, fl) i).2 (alF m i) ∧ ∀ r, r < 5 → v r = alF m i (0 + r) := by
    intro i
    induction i with
    | zero => intro _; exact ⟨h, hv⟩
    | succ i ih =>
      intro hi
      obtain ⟨k1, k2⟩ := ih (by omega)
      refine ⟨k1.al k2 (by omega), fun r hr => ?_⟩
      show v r = alStep (alF m i) i (0 + r)
      rw [alStep_lo _ _ (by omega)]
      exact k2 r hr
  exact (k 3 (Nat.le_refl 3)).1
theorem tickR_29 (m : Row) : sp_X7_tickR m 29 = m 29 + 1 := by
  unfold sp_X7_tickR
  (repeat' split) <;> simp (disch := omega) only [steps_ne, upd_eq]
theorem tick_29 (m : Row) : sp_X7_tick m 29 = m 29 + 1 := by
  unfold sp_X7_tick
  rw [alF_ne _ (by decide) (fun a _ => by omega) 3 (Nat.le_refl 3)]
  exact tickR_29 m
theorem phase_if (m : Row) : sp_X7_phase m = if m 28 + 1 = m 39 then (1, sp_X7_tick (upd (upd (upd m 35 (m 35 + 1)) 28 (m 28 + 1)) 28 0)) else (0, upd (upd m 35 (m 35 + 1)) 28 (m 28 + 1)) := by
  unfold sp_X7_phase
  rw [upd_eq, upd_ne (upd m 35 (m 35 + 1)) _ (show (39 : Nat) ≠ 28 from by decide), upd_ne m _ (show (39 : Nat) ≠ 35 from by decide), upd_ne m _ (show (28 : Nat) ≠ 35 from by decide)]
/-- a tick of registers and alarms -/
theorem tick_sim {s : ChS} {m : Row} (hV : RV s.v s.f s.g s.r m) (hA : RA s.av s.mk s.cm s.ar s.fl m) : RV (sp_X5_tick s.v s.f s.g s.r).1 s.f s.g (sp_X5_tick s.v s.f s.g s.r).2 (sp_X7_tick m) ∧ RA s.av s.mk (cmF s.av s.mk (sp_X5_tick s.v s.f s.g s.r).1 s.ar (s.cm, s.fl) 3).1 s.ar (cmF s.av s.mk (sp_X5_tick s.v s.f s.g s.r).1 s.ar (s.cm, s.fl) 3).2 (sp_X7_tick m) := by
  have t := hV.tick
  have a0 : RA s.av s.mk s.cm s.ar s.fl (sp_X7_tickR m) := hA.congr (fun j hj => tickR_ne m (by omega) (by omega) (by omega))
  refine ⟨t.congr (fun j hj => ?_), a0.als (fun r hr => (t r (by omega)).1)⟩
  unfold sp_X7_tick
  exact alF_ne _ (by omega) (fun a ha => by omega) 3 (Nat.le_refl 3)
theorem pp_t {s : ChS} (h : s.se 2 ≤ s.ph + 1) : sp_X3_passPhase s = (1, ChS.new (sp_X5_tick s.v s.f s.g s.r).1 s.f s.g (sp_X5_tick s.v s.f s.g s.r).2 s.av s.mk (cmF s.av s.mk (sp_X5_tick s.v s.f s.g s.r).1 s.ar (s.cm, s.fl) 3).1 s.ar (cmF s.av s.mk (sp_X5_tick s.v s.f s.g s.r).1 s.ar (s.cm, s.fl) 3).2 s.en s.la s.zs s.se 0 (s.tk + 1) (s.pc + 1) s.rc s.wc s.bc s.tc) := if_pos h
theorem pp_f {s : ChS} (h : ¬ s.se 2 ≤ s.ph + 1) : sp_X3_passPhase s = (0, ChS.new s.v s.f s.g s.r s.av s.mk s.cm s.ar s.fl s.en s.la s.zs s.se (s.ph + 1) s.tk (s.pc + 1) s.rc s.wc s.bc s.tc) := if_neg h
theorem Rel.phase {s : ChS} {m : Row} (h : Rel s m) : (sp_X3_passPhase s).1 = (sp_X7_phase m).1 ∧ Rel (sp_X3_passPhase s).2 (sp_X7_phase m).2 := by
  obtain ⟨hV, hA, hG, hT⟩ := h
  obtain ⟨t1, t2, t3, t4, t5, t6, t7, t8, t9, t10, p, z, q, hok⟩ := hT
  have hok' := phase_ok hok
  have hr : ∃ p' z' q', rOK (sp_X7_phase m).2 p' z' q' := by
    rcases hok' with ⟨-, e⟩ | ⟨-, e, -⟩
    · exact ⟨_, _, _, e⟩
    · exact ⟨_, _, _, e⟩
  have hne := fun j (a1 : 30 < j) (a2 : j ≠ 35) (a3 : j < 40 ∨ 67 ≤ j) => phase_ne m (j := j) (by omega) (by omega) (by omega) (by omega) (fun a ha => by omega) (by omega) a2
  have hG' : RG s.en s.la s.zs (sp_X7_phase m).2 := hG.congr (fun j hj => hne j (by omega) (by omega) (by omega))
  obtain ⟨o1, o2, o3, o4, o5, o6, o7⟩ := hok
  have hc : s.se 2 ≤ s.ph + 1 ↔ m 28 + 1 = m 39 := by
    rw [t3, t4, o1, o2, show nI p + 1 = nI (p + 1) from (nI_succ p).symm, nI_leI (by omega) (by omega), nI_eq (by omega) (by omega)]
    omega
  have n37 := hne 37 (by decide) (by decide) (by decide)
  have n38 := hne 38 (by decide) (by decide) (by decide)
  have n39 := hne 39 (by decide) (by decide) (by decide)
  have n33 := hne 33 (by decide) (by decide) (by decide)
  have n34 := hne 34 (by decide) (by decide) (by decide)
  have n31 := hne 31 (by decide) (by decide) (by decide)
  have n32 := hne 32 (by decide) (by decide) (by decide)
  rw [phase_if] at hr hG' n37 n38 n39 n33 n34 n31 n32 ⊢
  by_cases c : m 28 + 1 = m 39
  · have e9 := pp_t (hc.mpr c)
    rw [if_pos c] at hr hG' n37 n38 n39 n33 n34 n31 n32 ⊢
    dsimp only at hr hG' n37 n38 n39 n33 n34 n31 n32
    have hV2 : RV s.v s.f s.g s.r (upd (upd (upd m 35 (m 35 + 1)) 28 (m 28 + 1)) 28 0) := hV.congr (fun j hj => by rw [upd_ne _ _ (by omega), upd_ne _ _ (by omega), upd_ne _ _ (by omega)])
    have hA2 : RA s.av s.mk s.cm s.ar s.fl (upd (upd (upd m 35 (m 35 + 1)) 28 (m 28 + 1)) 28 0) := hA.congr (fun j hj => by rw [upd_ne _ _ (by omega), upd_ne _ _ (by omega), upd_ne _ _ (by omega)])
    obtain ⟨w1, w2⟩ := tick_sim hV2 hA2
    have w4 : RT s.se 0 (s.tk + 1) (s.pc + 1) s.rc s.wc s.bc s.tc (sp_X7_tick (upd (upd (upd m 35 (m 35 + 1)) 28 (m 28 + 1)) 28 0)) := by
      refine ⟨t1.trans n37.symm, t2.trans n38.symm, t3.trans n39.symm, ?_, ?_, ?_, t7.trans n33.symm, t8.trans n34.symm, t9.trans n31.symm, t10.trans n32.symm, hr⟩
      · rw [tick_ne _ (by decide) (by decide) (by decide) (by decide) (fun a ha => by omega), upd_eq]
      · rw [tick_29, upd_ne _ _ (by decide), upd_ne _ _ (by decide), upd_ne _ _ (by decide), t5]
      · rw [tick_ne _ (by decide) (by decide) (by decide) (by decide) (fun a ha => by omega), upd_ne _ _ (by decide), upd_ne _ _ (by decide), upd_eq, t6]
    rw [e9]
    dsimp only
    exact ⟨rfl, Rel.new w1 w2 hG' w4⟩
  · have e9 := pp_f (fun q => c (hc.mp q))
    rw [if_neg c] at hr hG' n37 n38 n39 n33 n34 n31 n32 ⊢
    dsimp only at hr hG' n37 n38 n39 n33 n34 n31 n32
    have w4 : RT s.se (s.ph + 1) s.tk (s.pc + 1) s.rc s.wc s.bc s.tc (upd (upd m 35 (m 35 + 1)) 28 (m 28 + 1)) := by
      refine ⟨t1.trans n37.symm, t2.trans n38.symm, t3.trans n39.symm, ?_, ?_, ?_, t7.trans n33.symm, t8.trans n34.symm, t9.trans n31.symm, t10.trans n32.symm, hr⟩
      · rw [upd_eq, t4]
      · rw [upd_ne _ _ (by decide), upd_ne _ _ (by decide), t5]
      · rw [upd_ne _ _ (by decide), upd_eq, t6]
    rw [e9]
    dsimp only
    exact ⟨rfl, Rel.new (hV.congr (fun j hj => by rw [upd_ne _ _ (by omega), upd_ne _ _ (by omega)])) (hA.congr (fun j hj => by rw [upd_ne _ _ (by omega), upd_ne _ _ (by omega)])) hG' w4⟩
theorem Rel.phases {s : ChS} {m : Row} (h : Rel s m) (n : Nat) : (ppF s n).1 = phN m n ∧ Rel (ppF s n).2 (phF m n) := by
  induction n with
  | zero => exact ⟨rfl, h⟩
  | succ n ih =>
    obtain ⟨e, k⟩ := ih
    have := Rel.phase k
    refine ⟨?_, this.2⟩
    show (if (sp_X3_passPhase (ppF s n).2).1 = 0 then (ppF s n).1 else (ppF s n).1 + 1) = phN m n + (if (sp_X7_phase (phF m n)).1 = 0 then 0 else 1)
    rw [this.1, e]
    split
    · exact (Int32.add_zero _).symm
    · rfl
