/-! alarms, accounts, the log; a phase -/
def RA (av : Nat → Row) (mk cm : Row) (ar fl : Int32) (t7 : Int32) (xa : Row) : Prop := (∃ b, b < 8 ∧ ar = nI b) ∧ (∃ b, b < 8 ∧ fl = nI b) ∧ caN cm 3 = t7 ∧
  ∀ a, a < 3 → (∀ r, r < 5 → av a r = xa (9 * a + r) ∧ byte (xa (9 * a + r))) ∧ mk a = xa (9 * a + 5) ∧ sp_X6_bitOf ar (nI a) = xa (9 * a + 6) ∧ sp_X6_bitOf fl (nI a) = xa (9 * a + 7) ∧ cm a = xa (9 * a + 8)
def RT (se : Row) (ph tk pc rc wc bc tc : Int32) (xt : Row) : Prop := se 0 = xt 8 ∧ se 1 = xt 9 ∧ se 2 = xt 10 ∧ ph = xt 0 ∧ tk = xt 1 ∧ pc = xt 2 ∧ rc = xt 3 ∧ wc = xt 4 ∧ bc = xt 5 ∧ tc = xt 6 ∧ ∃ p z q, lOK xt p z q
/-- the log: where its latest is, how many there are; how many bursts there were, at most so many -/
def RG (K : Nat) (la zs bc : Int32) : Prop := ∃ a B, la = nI a ∧ a < 6 ∧ zs = nI (if B < 6 then B else 6) ∧ bc = nI B ∧ B ≤ K
/-- the chip's state beside the law's rows -/
def LR (K : Nat) (xb xg : Row) (s : ChS) (y : LRs) : Prop := RV s.v s.f s.g s.r y.1 xb xg y.2.1 ∧ RA s.av s.mk s.cm s.ar s.fl (y.2.2.1 7) y.2.2.2 ∧ RG K s.la s.zs s.bc ∧ RT s.se s.ph s.tk s.pc s.rc s.wc s.bc s.tc y.2.2.1
theorem RG.mono {K K' : Nat} {la zs bc : Int32} (h : RG K la zs bc) (hk : K ≤ K') : RG K' la zs bc := by
  obtain ⟨a, B, h1, h2, h3, h4, h5⟩ := h
  exact ⟨a, B, h1, h2, h3, h4, by omega⟩
theorem LR.mono {K K' : Nat} {xb xg : Row} {s : ChS} {y : LRs} (h : LR K xb xg s y) (hk : K ≤ K') : LR K' xb xg s y := ⟨h.1, h.2.1, h.2.2.1.mono hk, h.2.2.2⟩
theorem LR.new {K : Nat} {xb xg xv xn xt xa : Row} {v f g r : Row} {av : Nat → Row} {mk cm : Row} {ar fl : Int32} {en : Nat → Row} {la zs : Int32} {se : Row} {ph tk pc rc wc bc tc : Int32} (h1 : RV v f g r xv xb xg xn) (h2 : RA av mk cm ar fl (xt 7) xa) (h3 : RG K la zs bc) (h4 : RT se ph tk pc rc wc bc tc xt) : LR K xb xg (ChS.new v f g r av mk cm ar fl en la zs se ph tk pc rc wc bc tc) (xv, xn, xt, xa) := ⟨h1, h2, h3, h4⟩
theorem mk_masked (x : Int32) : (x &&& 1 = 0 ∨ x &&& 1 = 1) := by
  have h : byte (x &&& 1) := by
    rw [show (1 : Int32) = 255 &&& 1 from by decide, ← Int32.and_assoc]
    exact byte_andr (byte_and x)
  obtain ⟨b, hb, e⟩ := h
  have e2 : nI b &&& 1 = nI b := by rw [← e, Int32.and_assoc, Int32.and_self]
  have := (show ∀ b : Fin 256, nI b.1 &&& 1 = nI b.1 → nI b.1 = 0 ∨ nI b.1 = 1 from by decide +kernel) ⟨b, hb⟩ e2
  rw [e]; exact this
theorem match_eq {av : Nat → Row} {mk cm v xv : Row} {ar fl t7 : Int32} {xa : Row} (h : RA av mk cm ar fl t7 xa) (hv : ∀ r, r < 5 → v r = xv r) {a : Nat} (ha : a < 3) : sp_X0_matches av mk v a = sp_L_matches xv xa a := by
  obtain ⟨g1, g2, -, -, -⟩ := h.2.2.2 a ha
  unfold sp_X0_matches sp_L_matches
  refine bI_c ⟨fun q r hr w => ?_, fun q r hr => ?_⟩
  · rcases q r hr with q | q
    · rw [g2] at q
      have q : (xa (9 * a + 5) >>> (nI r &&& 31)) &&& 1 = 1 := q
      rw [q] at w
      exact absurd w.1 (by decide)
    · rw [(g1 r hr).1, hv r hr] at q
      exact w.2 q.symm
  · rcases mk_masked (xa (9 * a + 5) >>> (nI r &&& 31)) with m | m
    · right
      rw [(g1 r hr).1, hv r hr]
      exact (Classical.byContradiction fun w => q r hr ⟨m, fun e => w e.symm⟩)
    · left
      rw [g2]
      exact m

theorem bit_or_all : ∀ fb : Fin 8, ∀ i : Fin 3, ∀ a : Fin 3, sp_X6_bitOf (nI fb.1 ||| (1 : Int32) <<< (nI i.1 &&& 31)) (nI a.1) = (if a = i then 1 else sp_X6_bitOf (nI fb.1) (nI a.1)) := by decide +kernel
theorem bit_or_lt : ∀ fb : Fin 8, ∀ i : Fin 3, ∃ c : Fin 8, nI fb.1 ||| (1 : Int32) <<< (nI i.1 &&& 31) = nI c.1 := by decide +kernel
theorem ca_inc (cm : Row) {i : Nat} (hi : i < 3) : caN (upd cm i (cm i + 1)) 3 = caN cm 3 + 1 := by
  match i, hi with
  | 0, _ =>
    show ((0 + (cm 0 + 1)) + cm 1) + cm 2 = ((0 + cm 0) + cm 1) + cm 2 + 1
    grind
  | 1, _ =>
    show ((0 + cm 0) + (cm 1 + 1)) + cm 2 = ((0 + cm 0) + cm 1) + cm 2 + 1
    grind
  | 2, _ =>
    show ((0 + cm 0) + cm 1) + (cm 2 + 1) = ((0 + cm 0) + cm 1) + cm 2 + 1
    grind
theorem RA.al {av : Nat → Row} {mk cm v xv : Row} {ar fl : Int32} {y : Row × Row} (h : RA av mk cm ar fl (y.1 7) y.2) (hv : ∀ r, r < 5 → v r = xv r) {i : Nat} (hi : i < 3) : RA av mk (cmS av mk v ar (cm, fl) i).1 ar (cmS av mk v ar (cm, fl) i).2 ((alS xv y i).1 7) (alS xv y i).2 := by
  have hm := match_eq h hv hi
  obtain ⟨g1, g2, g3, g4, g5⟩ := h.2.2.2 i hi
  unfold cmS alS
  dsimp only
  rw [g3, hm]
  by_cases c1 : y.2 (9 * i + 6) = 1
  · rw [if_pos c1, if_pos c1]
    by_cases c2 : sp_L_matches xv y.2 i = 0
    · rw [if_pos c2, if_pos c2]; exact h
    · rw [if_neg c2, if_neg c2]
      obtain ⟨h1, ⟨fb, hfb, h2⟩, h3, h4⟩ := h
      dsimp only
      generalize hM : upd (upd y.2 (9 * i + 7) 1) (9 * i + 8) ((upd y.2 (9 * i + 7) 1) (9 * i + 8) + 1) = M
      have e8 : M (9 * i + 8) = y.2 (9 * i + 8) + 1 := by
        rw [← hM, upd_eq, upd_ne _ _ (by omega)]
      have e7 : M (9 * i + 7) = 1 := by
        rw [← hM, upd_ne _ _ (by omega), upd_eq]
      have ej : ∀ j, j ≠ 9 * i + 7 → j ≠ 9 * i + 8 → M j = y.2 j := by
        intro j a2 a3
        rw [← hM, upd_ne _ _ a3, upd_ne _ _ a2]
      refine ⟨h1, ?_, ?_, ?_⟩
      · obtain ⟨c, hc⟩ := bit_or_lt ⟨fb, hfb⟩ ⟨i, hi⟩
        exact ⟨c.1, c.2, by rw [h2]; exact hc⟩
      · rw [upd_eq, ← h3]; exact ca_inc cm hi
      · intro a ha
        obtain ⟨k1, k2, k3, k4, k5⟩ := h4 a ha
        have hb := bit_or_all ⟨fb, hfb⟩ ⟨i, hi⟩ ⟨a, ha⟩
        refine ⟨fun r hr => ?_, ?_, ?_, ?_, ?_⟩
        · rw [ej _ (by omega) (by omega)]; exact k1 r hr
        · rw [ej _ (by omega) (by omega)]; exact k2
        · rw [ej _ (by omega) (by omega)]; exact k3
        · rw [h2]
          refine hb.trans ?_
          by_cases ca : a = i
          · subst ca
            rw [if_pos rfl, e7]
          · rw [if_neg (fun q => ca (Fin.mk.inj q)), ej _ (by omega) (by omega), ← h2]
            exact k4
        · by_cases ca : a = i
          · subst ca
            rw [e8, ← k5]; exact upd_eq cm a (cm a + 1)
          · rw [ej _ (by omega) (by omega), ← k5]
            exact upd_ne cm (cm i + 1) ca
  · rw [if_neg c1, if_neg c1]; exact h
theorem RA.als {av : Nat → Row} {mk cm v xv : Row} {ar fl : Int32} {y : Row × Row} (h : RA av mk cm ar fl (y.1 7) y.2) (hv : ∀ r, r < 5 → v r = xv r) : RA av mk (cmF av mk v ar (cm, fl) 3).1 ar (cmF av mk v ar (cm, fl) 3).2 ((alL xv y 3).1 7) (alL xv y 3).2 := by
  have k : ∀ i, i ≤ 3 → RA av mk (cmF av mk v ar (cm, fl) i).1 ar (cmF av mk v ar (cm, fl) i).2 ((alL xv y i).1 7) (alL xv y i).2 := by
    intro i
    induction i with
    | zero => intro _; exact h
    | succ i ih =>
      intro hi
      exact (ih (by omega)).al hv (by omega)
  exact k 3 (Nat.le_refl 3)

theorem pp_t {s : ChS} (h : s.se 2 ≤ s.ph + 1) : sp_X3_passPhase s = (1, ChS.new (sp_X5_tick s.v s.f s.g s.r).1 s.f s.g (sp_X5_tick s.v s.f s.g s.r).2 s.av s.mk (cmF s.av s.mk (sp_X5_tick s.v s.f s.g s.r).1 s.ar (s.cm, s.fl) 3).1 s.ar (cmF s.av s.mk (sp_X5_tick s.v s.f s.g s.r).1 s.ar (s.cm, s.fl) 3).2 s.en s.la s.zs s.se 0 (s.tk + 1) (s.pc + 1) s.rc s.wc s.bc s.tc) := if_pos h
theorem pp_f {s : ChS} (h : ¬ s.se 2 ≤ s.ph + 1) : sp_X3_passPhase s = (0, ChS.new s.v s.f s.g s.r s.av s.mk s.cm s.ar s.fl s.en s.la s.zs s.se (s.ph + 1) s.tk (s.pc + 1) s.rc s.wc s.bc s.tc) := if_neg h
theorem LR.phase {K : Nat} {xb xg : Row} {s : ChS} {y : LRs} (h : LR K xb xg s y) : (sp_X3_passPhase s).1 = (phL xb xg y).1 ∧ LR K xb xg (sp_X3_passPhase s).2 (phL xb xg y).2 := by
  obtain ⟨xv, xn, xt, xa⟩ := y
  obtain ⟨hV, hA, hG, hT⟩ := h
  obtain ⟨t1, t2', t3, t4', t5, t6, t7, t8, t9, t10, p, z, q, hok⟩ := hT
  dsimp only at hV hA t1 t2' t3 t4' t5 t6 t7 t8 t9 t10 hok
  have hok' := phL_ok (xb := xb) (xg := xg) (x := (xv, xn, xt, xa)) hok
  have hr : ∃ p' z' q', lOK (phL xb xg (xv, xn, xt, xa)).2.2.2.1 p' z' q' := by
    rcases hok' with ⟨-, e⟩ | ⟨-, e, -⟩
    · exact ⟨_, _, _, e⟩
    · exact ⟨_, _, _, e⟩
  have hc : s.se 2 ≤ s.ph + 1 ↔ xt 10 ≤ xt 0 + 1 := by rw [t3, t4']
  have eP : phL xb xg (xv, xn, xt, xa) = sp_L_phase xv xb xg xn xt xa := rfl
  rw [eP] at hr ⊢
  by_cases c : xt 10 ≤ xt 0 + 1
  · have e9 := pp_t (hc.mpr c)
    rw [ph_tick c] at hr ⊢
    have hV2 := hV.tick
    have hA1 : RA s.av s.mk s.cm s.ar s.fl (((t4 xt, xa) : Row × Row).1 7) ((t4 xt, xa) : Row × Row).2 := by
      show RA s.av s.mk s.cm s.ar s.fl (t4 xt 7) xa
      rw [t4_at]; exact hA
    have hA2 := hA1.als (v := (sp_X5_tick s.v s.f s.g s.r).1) (xv := (tkS (stL xb xg) (xv, xn)).1) (fun r hr => (hV2 r (by omega)).1)
    have ne : ∀ j, j ≠ 7 → (alL (tkS (stL xb xg) (xv, xn)).1 (t4 xt, xa) 3).1 j = t4 xt j := fun j hj => alL_ne _ _ hj 3
    rw [e9]
    dsimp only at hr ⊢
    refine ⟨rfl, LR.new hV2 hA2 hG ⟨?_, ?_, ?_, ?_, ?_, ?_, ?_, ?_, ?_, ?_, hr⟩⟩
    · rw [ne 8 (by decide), t4_at]; exact t1
    · rw [ne 9 (by decide), t4_at]; exact t2'
    · rw [ne 10 (by decide), t4_at]; exact t3
    · rw [ne 0 (by decide), t4_at]; rfl
    · rw [ne 1 (by decide), t4_at, t5]; rfl
    · rw [ne 2 (by decide), t4_at, t6]; rfl
    · rw [ne 3 (by decide), t4_at]; exact t7
    · rw [ne 4 (by decide), t4_at]; exact t8
    · rw [ne 5 (by decide), t4_at]; exact t9
    · rw [ne 6 (by decide), t4_at]; exact t10
  · have e9 := pp_f (fun q => c (hc.mp q))
    rw [ph_f c] at hr ⊢
    rw [e9]
    dsimp only at hr ⊢
    refine ⟨rfl, LR.new hV (by rw [t2_at]; exact hA) hG ⟨?_, ?_, ?_, ?_, ?_, ?_, ?_, ?_, ?_, ?_, hr⟩⟩
    · rw [t2_at]; exact t1
    · rw [t2_at]; exact t2'
    · rw [t2_at]; exact t3
    · rw [t2_at, t4']; rfl
    · rw [t2_at]; exact t5
    · rw [t2_at, t6]; rfl
    · rw [t2_at]; exact t7
    · rw [t2_at]; exact t8
    · rw [t2_at]; exact t9
    · rw [t2_at]; exact t10
/-- phases of the law: what they leave, and the ticks among them -/
noncomputable def phF (xb xg : Row) (y : LRs) : Nat → LRs
  | 0 => y
  | i + 1 => (phL xb xg (phF xb xg y i)).2
noncomputable def phN (xb xg : Row) (y : LRs) : Nat → Int32
  | 0 => 0
  | i + 1 => phN xb xg y i + (if (phL xb xg (phF xb xg y i)).1 = 0 then 0 else 1)
theorem LR.phases {K : Nat} {xb xg : Row} {s : ChS} {y : LRs} (h : LR K xb xg s y) (n : Nat) : (ppF s n).1 = phN xb xg y n ∧ LR K xb xg (ppF s n).2 (phF xb xg y n) := by
  induction n with
  | zero => exact ⟨rfl, h⟩
  | succ n ih =>
    obtain ⟨e, k⟩ := ih
    have := LR.phase k
    refine ⟨?_, this.2⟩
    show (if (sp_X3_passPhase (ppF s n).2).1 = 0 then (ppF s n).1 else (ppF s n).1 + 1) = phN xb xg y n + (if (phL xb xg (phF xb xg y n)).1 = 0 then 0 else 1)
    rw [this.1, e]
    split
    · exact (Int32.add_zero _).symm
    · rfl
theorem phF_ok {xb xg : Row} {y : LRs} {p z q : Nat} (h : lOK y.2.2.1 p z q) : ∀ n, ∃ p', lOK (phF xb xg y n).2.2.1 p' z q
  | 0 => ⟨p, h⟩
  | n + 1 => by
    obtain ⟨p', g⟩ := phF_ok (xb := xb) (xg := xg) h n
    rcases phL_ok (xb := xb) (xg := xg) g with ⟨-, e⟩ | ⟨-, e, -⟩
    · exact ⟨_, e⟩
    · exact ⟨_, e⟩

