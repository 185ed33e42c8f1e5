/-! the changes compared, call by call -/
theorem RG.same {en : Nat → Row} {la zs : Int32} {m m' : Row} (h : RG en la zs m) (e : ∀ j, 35 < j → (j < 37 ∨ 67 ≤ j) → m' j = m j) : RG en la zs m' := h.congr (fun j hj => e j (by omega) (by omega))
theorem Rel.write {s : ChS} {m : Row} (h : Rel s m) {i v : Nat} (hi : i < 7) (hv : v < 256) : (sp_X3_writeRegister s i (nI v)).1 = (sp_X7_write m i v).1 ∧ Rel (sp_X3_writeRegister s i (nI v)).2 (sp_X7_write m i v).2 := by
  obtain ⟨hV, hA, hG, hT⟩ := h
  have hp := hV.put hi (⟨v, hv, rfl⟩ : byte (nI v))
  have e1 : sp_X3_writeRegister s i (nI v) = ((upd s.v i (sp_X5_withCells s.f s.g i (nI v))) i, ChS.new (upd s.v i (sp_X5_withCells s.f s.g i (nI v))) s.f s.g s.r s.av s.mk s.cm s.ar s.fl s.en s.la s.zs s.se s.ph s.tk s.pc s.rc (s.wc + 1) s.bc s.tc) := rfl
  have e2 : sp_X7_write m i v = ((upd (sp_X7_puts m i (nI v)) 34 (((sp_X7_puts m i (nI v)) 34) + 1)) (0 + i), upd (sp_X7_puts m i (nI v)) 34 (((sp_X7_puts m i (nI v)) 34) + 1)) := rfl
  have ne : ∀ j, 7 ≤ j → sp_X7_puts m i (nI v) j = m j := fun j hj => puts_ne m i (nI v) (by omega)
  generalize hP : sp_X7_puts m i (nI v) = P at hp e2 ne
  have nM : ∀ j, 7 ≤ j → j ≠ 34 → upd P 34 (P 34 + 1) j = m j := fun j h1 h2 => (upd_ne _ _ h2).trans (ne j h1)
  rw [e1, e2]
  dsimp only
  refine ⟨?_, Rel.new (hp.congr (fun j hj => upd_ne _ _ (by omega))) (hA.congr (fun j hj => nM j (by omega) (by omega))) (hG.congr (fun j hj => nM j (by omega) (by omega))) ?_⟩
  · rw [upd_ne P _ (show 0 + i ≠ 34 from by omega)]
    exact (hp i hi).1
  · obtain ⟨t1, t2, t3, t4, t5, t6, t7, t8, t9, t10, p, z, q, hok⟩ := hT
    refine ⟨t1.trans (nM 37 (by decide) (by decide)).symm, t2.trans (nM 38 (by decide) (by decide)).symm, t3.trans (nM 39 (by decide) (by decide)).symm, t4.trans (nM 28 (by decide) (by decide)).symm, t5.trans (nM 29 (by decide) (by decide)).symm, t6.trans (nM 35 (by decide) (by decide)).symm, t7.trans (nM 33 (by decide) (by decide)).symm, ?_, t9.trans (nM 31 (by decide) (by decide)).symm, t10.trans (nM 32 (by decide) (by decide)).symm, p, z, q, rOK_of hok (nM 28 (by decide) (by decide)) (nM 39 (by decide) (by decide)) (nM 37 (by decide) (by decide))⟩
    rw [upd_eq, ne 34 (by decide), t8]
theorem up_self {α : Type} (f : Nat → α) (j : Nat) (x : α) : va_up f j x j = x := va_up_self f j x
theorem Rel.setal {s : ChS} {m : Row} (h : Rel s m) {a r : Nat} {x : Int32} (ha : a < 3) (hr : r < 5) (hx : byte x) : Rel (ChS.new s.v s.f s.g s.r (upR s.av a (upd (s.av a) r x)) s.mk s.cm s.ar s.fl s.en s.la s.zs s.se s.ph s.tk s.pc s.rc s.wc s.bc s.tc) (upd m (40 + 9 * a + r) x) := by
  obtain ⟨hV, ⟨h1, h2, h3, h4⟩, hG, hT⟩ := h
  have ne : ∀ j, j ≠ 40 + 9 * a + r → upd m (40 + 9 * a + r) x j = m j := fun j hj => upd_ne _ _ hj
  refine Rel.new (hV.congr (fun j hj => ne j (by omega))) ⟨h1, h2, by rw [ne 30 (by omega)]; exact h3, fun b hb => ?_⟩ (hG.congr (fun j hj => ne j (by omega))) (hT.congr (fun j a1 a2 => ne j (by omega)))
  obtain ⟨g1, g2, g3, g4, g5⟩ := h4 b hb
  refine ⟨fun k hk => ?_, by rw [ne _ (by omega)]; exact g2, by rw [ne _ (by omega)]; exact g3, by rw [ne _ (by omega)]; exact g4, by rw [ne _ (by omega)]; exact g5⟩
  by_cases cb : b = a
  · subst cb
    show va_up s.av b (upd (s.av b) r x) b k = _ ∧ _
    rw [va_up_self]
    by_cases ck : k = r
    · subst ck
      rw [upd_eq, upd_eq]
      exact ⟨rfl, hx⟩
    · rw [upd_ne _ _ ck, ne _ (by omega)]
      exact g1 k hk
  · show va_up s.av a (upd (s.av a) r x) b k = _ ∧ _
    rw [va_up_ne _ _ cb, ne _ (by omega)]
    exact g1 k hk
theorem bit_no_all : ∀ fb : Fin 8, ∀ i : Fin 3, ∀ a : Fin 3, sp_X6_bitOf (nI fb.1 &&& (((1 : Int32) <<< (nI i.1 &&& 31)) ^^^ (-1))) (nI a.1) = (if a = i then 0 else sp_X6_bitOf (nI fb.1) (nI a.1)) := by decide +kernel
theorem bit_no_lt : ∀ fb : Fin 8, ∀ i : Fin 3, ∃ c : Fin 8, nI fb.1 &&& (((1 : Int32) <<< (nI i.1 &&& 31)) ^^^ (-1)) = nI c.1 := by decide +kernel
theorem Rel.arm {s : ChS} {m : Row} (h : Rel s m) {a y : Nat} (ha : a < 3) (hy : y < 32) : (sp_X0_changeMask s.mk s.ar a y).1 = (sp_X7_arm m a y).1 ∧ Rel (ChS.new s.v s.f s.g s.r s.av (sp_X0_changeMask s.mk s.ar a y).2.1 s.cm (sp_X0_changeMask s.mk s.ar a y).2.2 s.fl s.en s.la s.zs s.se s.ph s.tk s.pc s.rc s.wc s.bc s.tc) (sp_X7_arm m a y).2 := by
  obtain ⟨hV, ⟨⟨ab, hab, h1⟩, h2, h3, h4⟩, hG, hT⟩ := h
  have e1 : sp_X0_changeMask s.mk s.ar a y = (sp_X6_bitOf s.ar (nI a), upd s.mk a (nI y), s.ar ||| ((1 : Int32) <<< ((nI a) &&& 31))) := if_neg (fun q => absurd (show nI y < 0 from by rw [q]; decide) (nI_pos (by omega)))
  have e2 : sp_X7_arm m a y = (m (40 + 9 * a + 6), upd (upd m (40 + 9 * a + 6) 1) (40 + 9 * a + 5) (nI y)) := rfl
  have ne : ∀ j, j ≠ 40 + 9 * a + 6 → j ≠ 40 + 9 * a + 5 → upd (upd m (40 + 9 * a + 6) 1) (40 + 9 * a + 5) (nI y) j = m j := fun j a1 a2 => (upd_ne _ _ a2).trans (upd_ne _ _ a1)
  have n6 : upd (upd m (40 + 9 * a + 6) 1) (40 + 9 * a + 5) (nI y) (40 + 9 * a + 6) = 1 := (upd_ne _ _ (by omega)).trans (upd_eq _ _ _)
  have n5 : upd (upd m (40 + 9 * a + 6) 1) (40 + 9 * a + 5) (nI y) (40 + 9 * a + 5) = nI y := upd_eq _ _ _
  generalize upd (upd m (40 + 9 * a + 6) 1) (40 + 9 * a + 5) (nI y) = M at e2 ne n6 n5
  rw [e1, e2]
  dsimp only
  refine ⟨(h4 a ha).2.2.1, Rel.new (hV.congr (fun j hj => ne j (by omega) (by omega))) ⟨?_, h2, by rw [ne 30 (by omega) (by omega)]; exact h3, fun b hb => ?_⟩ (hG.congr (fun j hj => ne j (by omega) (by omega))) (hT.congr (fun j a1 a2 => ne j (by omega) (by omega)))⟩
  · obtain ⟨c, hc⟩ := bit_or_lt ⟨ab, hab⟩ ⟨a, ha⟩
    exact ⟨c.1, c.2, by rw [h1]; exact hc⟩
  · obtain ⟨g1, g2, g3, g4, g5⟩ := h4 b hb
    have hbit := bit_or_all ⟨ab, hab⟩ ⟨a, ha⟩ ⟨b, hb⟩
    refine ⟨fun k hk => by rw [ne _ (by omega) (by omega)]; exact g1 k hk, ?_, ?_, by rw [ne _ (by omega) (by omega)]; exact g4, by rw [ne _ (by omega) (by omega)]; exact g5⟩
    · by_cases cb : b = a
      · subst cb
        rw [n5, upd_eq]
      · rw [ne _ (by omega) (by omega), upd_ne _ _ cb]; exact g2
    · rw [h1]
      refine hbit.trans ?_
      by_cases cb : b = a
      · subst cb
        rw [if_pos rfl, n6]
      · rw [if_neg (fun q => cb (Fin.mk.inj q)), ne _ (by omega) (by omega), ← h1]; exact g3
theorem Rel.armM {s : ChS} {m : Row} (h : Rel s m) {a : Nat} (ha : a < 3) : (sp_X0_changeMaskM s.ar a).1 = (sp_X7_armM m a).1 ∧ Rel (ChS.new s.v s.f s.g s.r s.av s.mk s.cm (sp_X0_changeMaskM s.ar a).2 s.fl s.en s.la s.zs s.se s.ph s.tk s.pc s.rc s.wc s.bc s.tc) (sp_X7_armM m a).2 := by
  obtain ⟨hV, ⟨⟨ab, hab, h1⟩, h2, h3, h4⟩, hG, hT⟩ := h
  have e1 : sp_X0_changeMaskM s.ar a = (sp_X6_bitOf s.ar (nI a), s.ar &&& (((1 : Int32) <<< ((nI a) &&& 31)) ^^^ (-1))) := rfl
  have e2 : sp_X7_armM m a = (m (40 + 9 * a + 6), upd (upd m (40 + 9 * a + 6) 0) (40 + 9 * a + 5) ((upd m (40 + 9 * a + 6) 0) (40 + 9 * a + 5))) := rfl
  have ne : ∀ j, j ≠ 40 + 9 * a + 6 → upd (upd m (40 + 9 * a + 6) 0) (40 + 9 * a + 5) ((upd m (40 + 9 * a + 6) 0) (40 + 9 * a + 5)) j = m j := by
    intro j a1
    by_cases c : j = 40 + 9 * a + 5
    · subst c
      rw [upd_eq]; exact upd_ne _ _ a1
    · exact (upd_ne _ _ c).trans (upd_ne _ _ a1)
  have n6 : upd (upd m (40 + 9 * a + 6) 0) (40 + 9 * a + 5) ((upd m (40 + 9 * a + 6) 0) (40 + 9 * a + 5)) (40 + 9 * a + 6) = 0 := (upd_ne _ _ (by omega)).trans (upd_eq _ _ _)
  generalize upd (upd m (40 + 9 * a + 6) 0) (40 + 9 * a + 5) ((upd m (40 + 9 * a + 6) 0) (40 + 9 * a + 5)) = M at e2 ne n6
  rw [e1, e2]
  dsimp only
  refine ⟨(h4 a ha).2.2.1, Rel.new (hV.congr (fun j hj => ne j (by omega))) ⟨?_, h2, by rw [ne 30 (by omega)]; exact h3, fun b hb => ?_⟩ (hG.congr (fun j hj => ne j (by omega))) (hT.congr (fun j a1 a2 => ne j (by omega)))⟩
  · obtain ⟨c, hc⟩ := bit_no_lt ⟨ab, hab⟩ ⟨a, ha⟩
    exact ⟨c.1, c.2, by rw [h1]; exact hc⟩
  · obtain ⟨g1, g2, g3, g4, g5⟩ := h4 b hb
    have hbit := bit_no_all ⟨ab, hab⟩ ⟨a, ha⟩ ⟨b, hb⟩
    refine ⟨fun k hk => by rw [ne _ (by omega)]; exact g1 k hk, by rw [ne _ (by omega)]; exact g2, ?_, by rw [ne _ (by omega)]; exact g4, by rw [ne _ (by omega)]; exact g5⟩
    rw [h1]
    refine hbit.trans ?_
    by_cases cb : b = a
    · subst cb
      rw [if_pos rfl, n6]
    · rw [if_neg (fun q => cb (Fin.mk.inj q)), ne _ (by omega), ← h1]; exact g3
theorem flag_all : ∀ fb : Fin 8, ((0 ||| sp_X6_bitOf (nI fb.1) 0 <<< ((nI 0) &&& 31)) ||| sp_X6_bitOf (nI fb.1) (nI 1) <<< ((nI 1) &&& 31)) ||| sp_X6_bitOf (nI fb.1) (nI 2) <<< ((nI 2) &&& 31) = nI fb.1 := by decide +kernel
theorem Rel.flags {s : ChS} {m : Row} (h : Rel s m) : s.fl = sp_X7_flags m := by
  obtain ⟨-, ⟨-, ⟨fb, hfb, h2⟩, -, h4⟩, -, -⟩ := h
  have a0 := (h4 0 (by decide)).2.2.2.1
  have a1 := (h4 1 (by decide)).2.2.2.1
  have a2 := (h4 2 (by decide)).2.2.2.1
  show s.fl = ((0 ||| m (40 + 9 * 0 + 7) <<< (nI 0 &&& 31)) ||| m (40 + 9 * 1 + 7) <<< (nI 1 &&& 31)) ||| m (40 + 9 * 2 + 7) <<< (nI 2 &&& 31)
  rw [← a0, ← a1, ← a2, h2]
  exact (flag_all ⟨fb, hfb⟩).symm
theorem cl_at (m : Row) (j : Nat) : clN m 3 j = if j = 47 ∨ j = 56 ∨ j = 65 then 0 else m j := by
  show upd (upd (upd m (40 + 9 * 0 + 7) 0) (40 + 9 * 1 + 7) 0) (40 + 9 * 2 + 7) 0 j = _
  by_cases c1 : j = 65
  · rw [if_pos (Or.inr (Or.inr c1)), c1, upd_eq]
  · rw [upd_ne _ _ c1]
    by_cases c2 : j = 56
    · rw [if_pos (Or.inr (Or.inl c2)), c2, upd_eq]
    · rw [upd_ne _ _ c2]
      by_cases c3 : j = 47
      · rw [if_pos (Or.inl c3), c3, upd_eq]
      · rw [upd_ne _ _ c3, if_neg (by omega)]
theorem Rel.clear {s : ChS} {m : Row} (h : Rel s m) : Rel (ChS.new s.v s.f s.g s.r s.av s.mk s.cm s.ar 0 s.en s.la s.zs s.se s.ph s.tk s.pc s.rc s.wc s.bc s.tc) (clN m 3) := by
  obtain ⟨hV, ⟨h1, h2, h3, h4⟩, hG, hT⟩ := h
  have ne : ∀ j, j ≠ 47 → j ≠ 56 → j ≠ 65 → clN m 3 j = m j := fun j a1 a2 a3 => by rw [cl_at, if_neg (by omega)]
  refine Rel.new (hV.congr (fun j hj => ne j (by omega) (by omega) (by omega))) ⟨h1, ⟨0, by decide, rfl⟩, by rw [ne 30 (by decide) (by decide) (by decide)]; exact h3, fun b hb => ?_⟩ (hG.congr (fun j hj => ne j (by omega) (by omega) (by omega))) (hT.congr (fun j a1 a2 => ne j (by omega) (by omega) (by omega)))
  obtain ⟨g1, g2, g3, g4, g5⟩ := h4 b hb
  refine ⟨fun k hk => by rw [ne _ (by omega) (by omega) (by omega)]; exact g1 k hk, by rw [ne _ (by omega) (by omega) (by omega)]; exact g2, by rw [ne _ (by omega) (by omega) (by omega)]; exact g3, ?_, by rw [ne _ (by omega) (by omega) (by omega)]; exact g5⟩
  rw [cl_at, if_pos (by omega)]
  match b, hb with
  | 0, _ => decide
  | 1, _ => decide
  | 2, _ => decide
/-- cells that fail, cells that heal -/
theorem fail_all : ∀ b : Fin 256, ∀ k : Fin 8, ¬ (nI b.1 >>> (nI k.1 &&& 31)) &&& 1 = 1 → nI b.1 + ((1 : Int32) <<< (nI k.1 &&& 31)) = nI b.1 ||| ((1 : Int32) <<< (nI k.1 &&& 31)) ∧ (255 - ((1 : Int32) <<< (nI k.1 &&& 31))) &&& (nI b.1 ||| ((1 : Int32) <<< (nI k.1 &&& 31))) = nI b.1 ∧ (∀ v : Fin 2, (nI v.1 <<< (nI k.1 &&& 31)) &&& (nI b.1 ||| ((1 : Int32) <<< (nI k.1 &&& 31))) = nI v.1 <<< (nI k.1 &&& 31)) := by decide +kernel
theorem one_byte : ∀ v : Fin 2, ∀ k : Fin 8, (nI v.1 <<< (nI k.1 &&& 31)) &&& 255 = nI v.1 <<< (nI k.1 &&& 31) := by decide +kernel
theorem one_byte1 : ∀ k : Fin 8, ((1 : Int32) <<< (nI k.1 &&& 31)) &&& 255 = (1 : Int32) <<< (nI k.1 &&& 31) := by decide +kernel
theorem heal_all : ∀ b : Fin 256, ∀ k : Fin 8, ¬ (nI b.1 >>> (nI k.1 &&& 31)) &&& 1 = 0 → nI b.1 - ((1 : Int32) <<< (nI k.1 &&& 31)) = nI b.1 &&& (((1 : Int32) <<< (nI k.1 &&& 31)) ^^^ (-1)) := by decide +kernel
theorem bit01 (x y : Int32) : sp_X6_bitOf x y = 0 ∨ sp_X6_bitOf x y = 1 := by
  unfold sp_X6_bitOf
  generalize x >>> (y &&& 31) = z
  have h : byte (z &&& 1) := by
    rw [show (1 : Int32) = 255 &&& 1 from by decide, ← Int32.and_assoc]
    exact byte_andr (byte_and z)
  obtain ⟨b, hb, e⟩ := h
  have e2 : nI b &&& 1 = nI b := by rw [← e, Int32.and_assoc, Int32.and_self]
  have := (show ∀ b : Fin 256, nI b.1 &&& 1 = nI b.1 → nI b.1 = 0 ∨ nI b.1 = 1 from by decide +kernel) ⟨b, hb⟩ e2
  rw [e]; exact this
theorem failed_iff (f : Row) (i k : Nat) : sp_X5_hasFailed f i k = 0 ↔ ¬ sp_X6_bitOf (f i) (nI k) = 1 := by
  unfold sp_X5_hasFailed
  by_cases c : sp_X6_bitOf (f i) (nI k) = 1
  · rw [if_pos c]; exact ⟨fun q => absurd q (by decide), fun q => absurd c q⟩
  · rw [if_neg c]; exact ⟨fun _ => c, fun _ => rfl⟩
theorem Rel.fail {s : ChS} {m : Row} (h : Rel s m) {i k x : Nat} (hi : i < 7) (hk : k < 8) (hx : x < 2) (hb : ¬ (m (7 + i) >>> (nI k &&& 31)) &&& 1 = 1) : (sp_X5_failCell s.v s.f s.g i k x).1 = (sp_X7_fail m i k x).1 ∧ Rel (ChS.new (sp_X5_failCell s.v s.f s.g i k x).2.1 (sp_X5_failCell s.v s.f s.g i k x).2.2.1 (sp_X5_failCell s.v s.f s.g i k x).2.2.2 s.r s.av s.mk s.cm s.ar s.fl s.en s.la s.zs s.se s.ph s.tk s.pc s.rc s.wc s.bc s.tc) (sp_X7_fail m i k x).2 := by
  obtain ⟨hV, hA, hG, hT⟩ := h
  obtain ⟨v1, v2, v3, v4, v5, ⟨b, hbb, v6⟩, v7⟩ := hV i hi
  obtain ⟨B, hB⟩ : ∃ B, B = (1 : Int32) <<< (nI k &&& 31) := ⟨_, rfl⟩
  obtain ⟨V, hVV⟩ : ∃ V, V = nI x <<< (nI k &&& 31) := ⟨_, rfl⟩
  have F := fail_all ⟨b, hbb⟩ ⟨k, hk⟩ (by rw [← v6]; exact hb)
  rw [← v6, ← hB] at F
  obtain ⟨F1, F2, F3⟩ := F
  have F4 := F3 ⟨x, hx⟩
  rw [← hVV] at F4
  have bB : byte B := byte_of (by rw [hB]; exact one_byte1 ⟨k, hk⟩)
  have bV : byte V := byte_of (by rw [hVV]; exact one_byte ⟨x, hx⟩ ⟨k, hk⟩)
  obtain ⟨M1, hM1⟩ : ∃ M, M = upd (upd m (7 + i) (m (7 + i) + B)) (14 + i) (((upd m (7 + i) (m (7 + i) + B)) (14 + i) &&& (255 - B)) ||| V) := ⟨_, rfl⟩
  have e1 : sp_X7_fail m i k x = ((sp_X7_puts M1 i (M1 (0 + i))) (0 + i), sp_X7_puts M1 i (M1 (0 + i))) := by rw [hM1, hB, hVV]; rfl
  have e2 : sp_X5_failCell s.v s.f s.g i k x = ((upd s.v i (sp_X5_withCells (upd s.f i (s.f i ||| B)) (upd s.g i (s.g i ||| V)) i (s.v i))) i, upd s.v i (sp_X5_withCells (upd s.f i (s.f i ||| B)) (upd s.g i (s.g i ||| V)) i (s.v i)), upd s.f i (s.f i ||| B), upd s.g i (s.g i ||| V)) := by rw [hB, hVV]; rfl
  have q7 : M1 (7 + i) = m (7 + i) ||| B := by rw [hM1, upd_ne _ _ (by omega), upd_eq, F1]
  have q14 : M1 (14 + i) = (m (14 + i) &&& (255 - B)) ||| V := by rw [hM1, upd_eq, upd_ne _ _ (by omega)]
  have ne : ∀ j, j ≠ 7 + i → j ≠ 14 + i → M1 j = m j := fun j a1 a2 => by rw [hM1, upd_ne _ _ a2, upd_ne _ _ a1]
  have hV1 : RV s.v (upd s.f i (s.f i ||| B)) (upd s.g i (s.g i ||| V)) s.r M1 := by
    intro j hj
    obtain ⟨w1, w2, w3, w4, w5, w6, w7⟩ := hV j hj
    by_cases c : j = i
    · subst c
      rw [upd_eq, upd_eq, ne (0 + j) (by omega) (by omega), ne (21 + j) (by omega) (by omega), q7, q14]
      refine ⟨w1, by rw [w2], ?_, w4, w5, byte_or w6 bB, byte_or (byte_andr w7) bV⟩
      rw [i_dist, F4, Int32.and_assoc, F2, w3]
    · rw [upd_ne _ _ c, upd_ne _ _ c, ne (0 + j) (by omega) (by omega), ne (21 + j) (by omega) (by omega), ne (7 + j) (by omega) (by omega), ne (14 + j) (by omega) (by omega)]
      exact ⟨w1, w2, w3, w4, w5, w6, w7⟩
  have e3 : M1 (0 + i) = s.v i := (ne _ (by omega) (by omega)).trans v1.symm
  have hp := hV1.put hi (x := s.v i) (by rw [v1]; exact v5)
  rw [e1, e2, e3]
  have nn : ∀ j, 21 ≤ j → sp_X7_puts M1 i (s.v i) j = m j := fun j hj => (puts_ne _ _ _ (by omega)).trans (ne j (by omega) (by omega))
  dsimp only
  exact ⟨(hp i hi).1, Rel.new hp (hA.congr (fun j hj => nn j (by omega))) (hG.congr (fun j hj => nn j (by omega))) (hT.congr (fun j a1 a2 => nn j (by omega)))⟩
theorem bits_all : ∀ b : Fin 256, sp_J6_bitCount_0f7a4 (nI b.1) = bitsI (nI b.1) := by decide +kernel
theorem RV.count {v f g r m : Row} (h : RV v f g r m) : cfN f 7 = failN m 7 := by
  have k : ∀ i, i ≤ 7 → cfN f i = failN m i := by
    intro i
    induction i with
    | zero => intro _; rfl
    | succ i ih =>
      intro hi
      obtain ⟨-, h2, -, -, -, ⟨b, hb, h6⟩, -⟩ := h i (by omega)
      show cfN f i + sp_J6_bitCount_0f7a4 (f i) = failN m i + bitsI (m (7 + i))
      rw [ih (by omega), h2, h6, bits_all ⟨b, hb⟩]
  exact k 7 (Nat.le_refl 7)
theorem RV.bytes {v f g r m : Row} (h : RV v f g r m) : byteR m 7 := fun i hi => (h i hi).2.2.2.2.2.1
theorem Rel.heal {s : ChS} {m : Row} (h : Rel s m) {i k : Nat} (hi : i < 7) (hk : k < 8) (hb : ¬ (m (7 + i) >>> (nI k &&& 31)) &&& 1 = 0) : cfN (sp_X5_healCell s.f s.g i k).1 7 = (sp_X7_heal m i k).1 ∧ Rel (ChS.new s.v (sp_X5_healCell s.f s.g i k).1 (sp_X5_healCell s.f s.g i k).2 s.r s.av s.mk s.cm s.ar s.fl s.en s.la s.zs s.se s.ph s.tk s.pc s.rc s.wc s.bc s.tc) (sp_X7_heal m i k).2 ∧ byteR (upd m (7 + i) (m (7 + i) - (1 : Int32) <<< (nI k &&& 31))) 7 := by
  obtain ⟨hV, hA, hG, hT⟩ := h
  obtain ⟨v1, v2, v3, v4, v5, ⟨b, hbb, v6⟩, v7⟩ := hV i hi
  have F := heal_all ⟨b, hbb⟩ ⟨k, hk⟩ (by rw [← v6]; exact hb)
  rw [← v6] at F
  have e1 : sp_X5_healCell s.f s.g i k = (upd s.f i (s.f i &&& (((1 : Int32) <<< ((nI k) &&& 31)) ^^^ (-1))), upd s.g i (s.g i &&& (((1 : Int32) <<< ((nI k) &&& 31)) ^^^ (-1)))) := rfl
  have e2 : sp_X7_heal m i k = (failN (upd m (7 + i) (m (7 + i) - ((1 : Int32) <<< ((nI k) &&& 31)))) 7, upd m (7 + i) (m (7 + i) - ((1 : Int32) <<< ((nI k) &&& 31)))) := rfl
  have ne : ∀ j, j ≠ 7 + i → upd m (7 + i) (m (7 + i) - ((1 : Int32) <<< ((nI k) &&& 31))) j = m j := fun j a1 => upd_ne _ _ a1
  have q7 : upd m (7 + i) (m (7 + i) - ((1 : Int32) <<< ((nI k) &&& 31))) (7 + i) = m (7 + i) &&& (((1 : Int32) <<< (nI k &&& 31)) ^^^ (-1)) := (upd_eq _ _ _).trans F
  generalize hM : upd m (7 + i) (m (7 + i) - ((1 : Int32) <<< ((nI k) &&& 31))) = M at e2 ne q7 ⊢
  have hV1 : RV s.v (upd s.f i (s.f i &&& (((1 : Int32) <<< ((nI k) &&& 31)) ^^^ (-1)))) (upd s.g i (s.g i &&& (((1 : Int32) <<< ((nI k) &&& 31)) ^^^ (-1)))) s.r M := by
    intro j hj
    obtain ⟨w1, w2, w3, w4, w5, w6, w7⟩ := hV j hj
    by_cases c : j = i
    · subst c
      rw [upd_eq, upd_eq, ne (0 + j) (by omega), ne (21 + j) (by omega), ne (14 + j) (by omega), q7]
      exact ⟨w1, by rw [w2], by rw [w3, Int32.and_assoc], w4, w5, byte_andr w6, w7⟩
    · rw [upd_ne _ _ c, upd_ne _ _ c, ne (0 + j) (by omega), ne (21 + j) (by omega), ne (7 + j) (by omega), ne (14 + j) (by omega)]
      exact ⟨w1, w2, w3, w4, w5, w6, w7⟩
  rw [e1, e2]
  dsimp only
  exact ⟨hV1.count, Rel.new hV1 (hA.congr (fun j hj => ne j (by omega))) (hG.congr (fun j hj => ne j (by omega))) (hT.congr (fun j a1 a2 => ne j (by omega))), hV1.bytes⟩
