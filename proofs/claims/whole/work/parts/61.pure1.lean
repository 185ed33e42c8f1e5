/-! the two sides compared, as numbers: bytes, a register's step, a tick of the registers -/
def byte (x : Int32) : Prop := ∃ b, b < 256 ∧ x = nI b
theorem byte_and (x : Int32) : byte (x &&& 255) := by
  refine ⟨(x.toBitVec &&& 255#32).toNat, ?_, ?_⟩
  · rw [BitVec.toNat_and]
    exact Nat.lt_of_le_of_lt Nat.and_le_right (by decide)
  · apply Int32.toBitVec_inj.mp
    apply BitVec.eq_of_toNat_eq
    show (x.toBitVec &&& 255#32).toNat = (BitVec.ofNat 32 (x.toBitVec &&& 255#32).toNat).toNat
    rw [BitVec.toNat_ofNat, Nat.mod_eq_of_lt (BitVec.isLt _)]
theorem byte_mask {x : Int32} (h : byte x) : x &&& 255 = x := by
  obtain ⟨b, hb, rfl⟩ := h
  exact (show ∀ b : Fin 256, nI b.1 &&& 255 = nI b.1 from by decide +kernel) ⟨b, hb⟩
theorem byte_of {x : Int32} (h : x &&& 255 = x) : byte x := by rw [← h]; exact byte_and x
theorem i_dist (a b c : Int32) : (a ||| b) &&& c = (a &&& c) ||| (b &&& c) := by
  apply Int32.toBitVec_inj.mp
  show (a.toBitVec ||| b.toBitVec) &&& c.toBitVec = (a.toBitVec &&& c.toBitVec) ||| (b.toBitVec &&& c.toBitVec)
  apply BitVec.eq_of_getLsbD_eq
  intro i _
  simp only [BitVec.getLsbD_and, BitVec.getLsbD_or]
  cases a.toBitVec.getLsbD i <;> cases b.toBitVec.getLsbD i <;> cases c.toBitVec.getLsbD i <;> rfl
theorem byte_or {x y : Int32} (hx : byte x) (hy : byte y) : byte (x ||| y) := byte_of (by rw [i_dist, byte_mask hx, byte_mask hy])
theorem byte_andr {x y : Int32} (hx : byte x) : byte (x &&& y) := byte_of (by rw [Int32.and_assoc, Int32.and_comm y 255, ← Int32.and_assoc, byte_mask hx])
theorem byte_andl {x y : Int32} (hy : byte y) : byte (x &&& y) := by rw [Int32.and_comm]; exact byte_andr hy
theorem byte_pos {x : Int32} (h : byte x) : ¬ x < 0 := by
  obtain ⟨b, hb, rfl⟩ := h
  exact nI_pos (by omega)
/-- cells that failed: the program's words and the reference's -/
theorem cells_eq {x f s : Int32} (hx : byte x) (hf : byte f) : (x &&& (f ^^^ (-1))) ||| (s &&& f) = (x &&& (255 - f)) ||| (s &&& f) := by
  obtain ⟨b, hb, rfl⟩ := hf
  have e : 255 - nI b = 255 &&& (nI b ^^^ (-1)) := (show ∀ b : Fin 256, 255 - nI b.1 = 255 &&& (nI b.1 ^^^ (-1)) from by decide +kernel) ⟨b, hb⟩
  rw [e, ← Int32.and_assoc, byte_mask hx]
theorem cells_byte {x f s : Int32} (hx : byte x) (hf : byte f) : byte ((x &&& (255 - f)) ||| (s &&& f)) := byte_or (byte_andr hx) (byte_andl hf)
/-- a register's judgements, as numbers: of a value, the first number, the last one (as a code: lc, as a number: ln) -/
def wB (b fi ln : Int32) : Int32 := if 9 < b / 16 then 1 else (if b - b / 16 * 16 ≤ 9 then (if fi ≤ 10 * (b / 16) + (b - b / 16 * 16) then (if 10 * (b / 16) + (b - b / 16 * 16) ≤ ln then 0 else 3) else 2) else 1)
def cB (b fi lc : Int32) : Int32 := if 9 < b >>> ((4 : Int32) &&& 31) then 1 else (if b &&& 15 ≤ 9 then (if fi ≤ b then (if b ≤ lc then 0 else 3) else 2) else 1)
def rB (b fi ln : Int32) : Int32 := if wB b fi ln = 0 then (if 10 * (b / 16) + (b - b / 16 * 16) = ln then 1 else 0) else 0
def sB (b fi ln : Int32) : Int32 := if rB b fi ln = 0 then (if 9 ≤ b - b / 16 * 16 then (if b / 16 = 15 then 0 else 16 * (b / 16 + 1)) else b + 1) else fi
def nB (b fi lc : Int32) : Int32 := if b = lc then fi else (if 9 ≤ b &&& 15 then ((b &&& 240) + 16) &&& 255 else b + 1)
def lasts : List (Int32 × Int32 × Int32) := [(0, 89, 59), (0, 35, 23), (1, 7, 7), (1, 40, 28), (1, 41, 29), (1, 48, 30), (1, 49, 31), (1, 18, 12), (0, 153, 99)]
theorem bt_all : ∀ t ∈ lasts, ∀ b : Fin 256, cB (nI b.1) t.1 t.2.1 = wB (nI b.1) t.1 t.2.2 ∧ rB (nI b.1) t.1 t.2.2 = (if nI b.1 = t.2.1 then 1 else 0) ∧ nB (nI b.1) t.1 t.2.1 = sB (nI b.1) t.1 t.2.2 ∧ sB (nI b.1) t.1 t.2.2 &&& 255 = sB (nI b.1) t.1 t.2.2 ∧ sp_X6_numberOf t.2.1 = t.2.2 := by decide +kernel
theorem bt {x fi lc ln : Int32} (ht : (fi, lc, ln) ∈ lasts) (hx : byte x) : cB x fi lc = wB x fi ln ∧ rB x fi ln = (if x = lc then 1 else 0) ∧ nB x fi lc = sB x fi ln ∧ byte (sB x fi ln) ∧ sp_X6_numberOf lc = ln := by
  obtain ⟨b, hb, rfl⟩ := hx
  obtain ⟨h1, h2, h3, h4, h5⟩ := bt_all _ ht ⟨b, hb⟩
  exact ⟨h1, h2, h3, byte_of h4, h5⟩
/-- the registers: the program's four rows and the reference's one -/
def RV (v f g r m : Row) : Prop := ∀ i, i < 7 → v i = m (0 + i) ∧ f i = m (7 + i) ∧ g i = (m (14 + i) &&& m (7 + i)) ∧ r i = m (21 + i) ∧ byte (m (0 + i)) ∧ byte (m (7 + i)) ∧ byte (m (14 + i))
theorem leap_all : ∀ y : Fin 256, sp_X5_isLeapYear (fun _ => nI y.1) = sp_X7_isLeap (fun _ => nI y.1) := by decide +kernel
theorem leap_eq {v f g r m : Row} (h : RV v f g r m) : sp_X5_isLeapYear v = sp_X7_isLeap m := by
  obtain ⟨h1, -, -, -, ⟨y, hy, e⟩, -, -⟩ := h 6 (by decide)
  have a1 : sp_X5_isLeapYear v = sp_X5_isLeapYear (fun _ => nI y) := by
    unfold sp_X5_isLeapYear
    rw [h1, e]
  have a2 : sp_X7_isLeap m = sp_X7_isLeap (fun _ => nI y) := by
    unfold sp_X7_isLeap sp_X7_isWithin sp_X7_number
    rw [e]
  rw [a1, a2]
  exact leap_all ⟨y, hy⟩
def lcB (mo lp : Int32) : Int32 := if mo = 2 then (if lp = 0 then 40 else 41) else (if mo = 4 then 48 else (if mo = 6 then 48 else (if mo = 9 then 48 else (if mo = 17 then 48 else 49))))
noncomputable def lnB (mo lp : Int32) : Int32 := if (if 10 ≤ mo / 16 then 0 else (if 10 ≤ mo - mo / 16 * 16 then 0 else (if sp_X7_in (10 * (mo / 16) + (mo - mo / 16 * 16)) 1 12 = 0 then (0 : Int32) else 1))) = 0 then 31 else sp_X7_lengthOf (10 * (mo / 16) + (mo - mo / 16 * 16)) lp
theorem len_all : ∀ lp ∈ [(0 : Int32), 1], ∀ b : Fin 256, (1, lcB (nI b.1) lp, lnB (nI b.1) lp) ∈ lasts := by decide +kernel
theorem last_in {v f g r m : Row} (h : RV v f g r m) {i : Nat} (hi : i < 7) : (kf k_first i, sp_X5_lastValue v i, sp_X7_last m i) ∈ lasts ∧ sp_X7_first (nI i) = kf k_first i := by
  have h4 : (1, sp_X5_lastValue v 4, sp_X7_last m 4) ∈ lasts := by
    obtain ⟨h1, -, -, -, ⟨mo, hmo, e⟩, -, -⟩ := h 5 (by decide)
    have a1 : sp_X5_lastValue v 4 = lcB (nI mo) (sp_X7_isLeap m) := by
      unfold sp_X5_lastValue
      rw [if_pos rfl, h1, e, leap_eq h]
      rfl
    have a2 : sp_X7_last m 4 = lnB (nI mo) (sp_X7_isLeap m) := by
      show sp_X7_monthLength m = _
      unfold sp_X7_monthLength sp_X7_isWithin sp_X7_number
      rw [e]
      rfl
    rw [a1, a2]
    refine len_all _ ?_ ⟨mo, hmo⟩
    rcases bo_X7_isLeap m with q | q
    · rw [q]; exact List.mem_cons_self
    · rw [q]; exact List.mem_cons_of_mem _ List.mem_cons_self
  match i, hi with
  | 0, _ => exact ⟨show ((0 : Int32), (89 : Int32), (59 : Int32)) ∈ lasts from by decide, rfl⟩
  | 1, _ => exact ⟨show ((0 : Int32), (89 : Int32), (59 : Int32)) ∈ lasts from by decide, rfl⟩
  | 2, _ => exact ⟨show ((0 : Int32), (35 : Int32), (23 : Int32)) ∈ lasts from by decide, rfl⟩
  | 3, _ => exact ⟨show ((1 : Int32), (7 : Int32), (7 : Int32)) ∈ lasts from by decide, rfl⟩
  | 4, _ => exact ⟨h4, rfl⟩
  | 5, _ => exact ⟨show ((1 : Int32), (18 : Int32), (12 : Int32)) ∈ lasts from by decide, rfl⟩
  | 6, _ => exact ⟨show ((0 : Int32), (153 : Int32), (99 : Int32)) ∈ lasts from by decide, rfl⟩
theorem why_eq {v f g r m : Row} (h : RV v f g r m) {i : Nat} (hi : i < 7) : sp_X5_whyWrong v i = sp_X7_wrong m i := by
  obtain ⟨h1, -, -, -, hb, -, -⟩ := h i hi
  obtain ⟨hl, hf⟩ := last_in h hi
  have a1 : sp_X5_whyWrong v i = cB (m (0 + i)) (kf k_first i) (sp_X5_lastValue v i) := by
    unfold sp_X5_whyWrong
    rw [h1]; rfl
  have a2 : sp_X7_wrong m i = wB (m (0 + i)) (kf k_first i) (sp_X7_last m i) := by
    unfold sp_X7_wrong
    rw [hf]; rfl
  rw [a1, a2]
  exact (bt hl hb).1
theorem next_eq {v f g r m : Row} (h : RV v f g r m) {i : Nat} (hi : i < 7) : sp_X5_nextValue v i (sp_X5_lastValue v i) = sp_X7_stepped m i ∧ byte (sp_X7_stepped m i) ∧ sp_X7_rolls m i = (if v i = sp_X5_lastValue v i then 1 else 0) := by
  obtain ⟨h1, -, -, -, hb, -, -⟩ := h i hi
  obtain ⟨hl, hf⟩ := last_in h hi
  obtain ⟨-, b2, b3, b4, -⟩ := bt hl hb
  have a0 : sp_X7_rolls m i = rB (m (0 + i)) (kf k_first i) (sp_X7_last m i) := by
    unfold sp_X7_rolls sp_X7_wrong
    rw [hf]; rfl
  have a1 : sp_X5_nextValue v i (sp_X5_lastValue v i) = nB (m (0 + i)) (kf k_first i) (sp_X5_lastValue v i) := by
    unfold sp_X5_nextValue
    rw [h1]; rfl
  have a2 : sp_X7_stepped m i = sB (m (0 + i)) (kf k_first i) (sp_X7_last m i) := by
    unfold sp_X7_stepped
    rw [a0, hf]; rfl
  rw [a1, a2, a0, h1]
  exact ⟨b3, b4, b2⟩
theorem last_eq {v f g r m : Row} (h : RV v f g r m) {i : Nat} (hi : i < 7) : sp_X6_numberOf (sp_X5_lastValue v i) = sp_X7_last m i := by
  obtain ⟨-, -, -, -, hb, -, -⟩ := h i hi
  exact (bt (last_in h hi).1 hb).2.2.2.2
theorem num_all : ∀ b : Fin 256, sp_X6_numberOf (nI b.1) = (10 * ((nI b.1) / 16)) + ((nI b.1) - (nI b.1) / 16 * 16) := by decide +kernel
theorem num_eq {v f g r m : Row} (h : RV v f g r m) {i : Nat} (hi : i < 7) : sp_X6_numberOf (v i) = sp_X7_number m i := by
  obtain ⟨h1, -, -, -, ⟨b, hb, e⟩, -, -⟩ := h i hi
  unfold sp_X7_number
  rw [h1, e]
  exact num_all ⟨b, hb⟩
/-- a value put, as cells have it -/
theorem put_eq {v f g r m : Row} (h : RV v f g r m) {i : Nat} (hi : i < 7) {x : Int32} (hx : byte x) : sp_X5_withCells f g i x = (x &&& (255 - m (7 + i))) ||| (m (14 + i) &&& m (7 + i)) ∧ byte (sp_X5_withCells f g i x) := by
  obtain ⟨-, h2, h3, -, -, hf, -⟩ := h i hi
  have e : sp_X5_withCells f g i x = (x &&& (255 - m (7 + i))) ||| (m (14 + i) &&& m (7 + i)) := by
    unfold sp_X5_withCells
    rw [h2, h3]
    exact cells_eq hx hf
  rw [e]
  exact ⟨rfl, cells_byte hx hf⟩
theorem RV.put {v f g r m : Row} (h : RV v f g r m) {i : Nat} (hi : i < 7) {x : Int32} (hx : byte x) : RV (upd v i (sp_X5_withCells f g i x)) f g r (sp_X7_puts m i x) := by
  obtain ⟨e, hb⟩ := put_eq h hi hx
  intro j hj
  obtain ⟨h1, h2, h3, h4, h5, h6, h7⟩ := h j hj
  have n1 : ∀ k, 7 ≤ k → sp_X7_puts m i x k = m k := fun k hk => puts_ne m i x (by omega)
  have hv : upd v i (sp_X5_withCells f g i x) j = sp_X7_puts m i x (0 + j) ∧ byte (sp_X7_puts m i x (0 + j)) := by
    by_cases c : j = i
    · subst c
      have q : sp_X7_puts m j x (0 + j) = (x &&& (255 - m (7 + j))) ||| (m (14 + j) &&& m (7 + j)) := upd_eq _ _ _
      rw [upd_eq, q, ← e]
      exact ⟨rfl, hb⟩
    · rw [upd_ne _ _ c, puts_ne m i x (by omega)]
      exact ⟨h1, h5⟩
  refine ⟨hv.1, ?_, ?_, ?_, hv.2, ?_, ?_⟩
  · rw [n1 _ (by omega)]; exact h2
  · rw [n1 _ (by omega), n1 _ (by omega)]; exact h3
  · rw [n1 _ (by omega)]; exact h4
  · rw [n1 _ (by omega)]; exact h6
  · rw [n1 _ (by omega)]; exact h7
theorem RV.roll {v f g r m : Row} (h : RV v f g r m) (i : Nat) (d : Int32) : RV v f g (upd r i (r i + d)) (upd m (21 + i) (m (21 + i) + d)) := by
  intro j hj
  obtain ⟨h1, h2, h3, h4, h5, h6, h7⟩ := h j hj
  have e : ∀ k, k < 21 → upd m (21 + i) (m (21 + i) + d) k = m k := fun k hk => upd_ne _ _ (by omega)
  rw [e (0 + j) (by omega), e (7 + j) (by omega), e (14 + j) (by omega)]
  refine ⟨h1, h2, h3, ?_, h5, h6, h7⟩
  by_cases c : j = i
  · subst c
    rw [upd_eq, upd_eq, (h j hj).2.2.2.1]
  · rw [upd_ne _ _ c, upd_ne _ _ (by omega)]; exact h4
/-- one register steps on -/
theorem RV.step {v f g r m : Row} (h : RV v f g r m) {i : Nat} (hi : i < 7) : (stR f g (v, r) i).1 = (sp_X7_steps m i).1 ∧ RV (stR f g (v, r) i).2.1 f g (stR f g (v, r) i).2.2 (sp_X7_steps m i).2 := by
  obtain ⟨n1, n2, n3⟩ := next_eq h hi
  have hr := fun d => (h.put hi n2).roll i d
  unfold stR sp_X5_stepOn sp_X7_steps
  dsimp only
  rw [n1]
  by_cases c : v i = sp_X5_lastValue v i
  · rw [if_pos c] at n3
    rw [if_pos c, n3, if_neg (by decide)]
    exact ⟨rfl, hr 1⟩
  · rw [if_neg c] at n3
    rw [if_neg c, n3, if_pos rfl]
    refine ⟨rfl, ?_⟩
    have q := hr 0
    have e0 : upd r i (r i + 0) = r := by
      funext k
      by_cases ck : k = i
      · subst ck; rw [upd_eq]; exact Int32.add_zero _
      · rw [upd_ne _ _ ck]
    rw [e0] at q
    exact q
theorem RV.congr {v f g r m m' : Row} (h : RV v f g r m) (e : ∀ j, j < 28 → m' j = m j) : RV v f g r m' := by
  intro i hi
  rw [e _ (by omega), e _ (by omega), e _ (by omega), e _ (by omega)]
  exact h i hi
/-- the shape of a tick of the registers, whatever a step is -/
noncomputable def tkS {α : Type} (st : α → Nat → Int32 × α) (x : α) : α := if (st x 0).1 = 0 then (st x 0).2 else (if (st (st x 0).2 1).1 = 0 then (st (st x 0).2 1).2 else (if (st (st (st x 0).2 1).2 2).1 = 0 then (st (st (st x 0).2 1).2 2).2 else
  (if (st (st (st (st (st x 0).2 1).2 2).2 3).2 4).1 = 0 then (st (st (st (st (st x 0).2 1).2 2).2 3).2 4).2 else
  (if (st (st (st (st (st (st x 0).2 1).2 2).2 3).2 4).2 5).1 = 0 then (st (st (st (st (st (st x 0).2 1).2 2).2 3).2 4).2 5).2 else (st (st (st (st (st (st (st x 0).2 1).2 2).2 3).2 4).2 5).2 6).2))))
theorem tkS_sim {α β : Type} {st : α → Nat → Int32 × α} {su : β → Nat → Int32 × β} {R : α → β → Prop} (hs : ∀ x y i, i < 7 → R x y → (st x i).1 = (su y i).1 ∧ R (st x i).2 (su y i).2) {x : α} {y : β} (h : R x y) : R (tkS st x) (tkS su y) := by
  unfold tkS
  have h0 := hs x y 0 (by decide) h
  generalize st x 0 = a0 at h0 ⊢
  generalize su y 0 = b0 at h0 ⊢
  have h1 := hs a0.2 b0.2 1 (by decide) h0.2
  generalize st a0.2 1 = a1 at h1 ⊢
  generalize su b0.2 1 = b1 at h1 ⊢
  have h2 := hs a1.2 b1.2 2 (by decide) h1.2
  generalize st a1.2 2 = a2 at h2 ⊢
  generalize su b1.2 2 = b2 at h2 ⊢
  have h3 := hs a2.2 b2.2 3 (by decide) h2.2
  generalize st a2.2 3 = a3 at h3 ⊢
  generalize su b2.2 3 = b3 at h3 ⊢
  have h4 := hs a3.2 b3.2 4 (by decide) h3.2
  generalize st a3.2 4 = a4 at h4 ⊢
  generalize su b3.2 4 = b4 at h4 ⊢
  have h5 := hs a4.2 b4.2 5 (by decide) h4.2
  generalize st a4.2 5 = a5 at h5 ⊢
  generalize su b4.2 5 = b5 at h5 ⊢
  have h6 := hs a5.2 b5.2 6 (by decide) h5.2
  rw [h0.1, h1.1, h2.1, h4.1, h5.1]
  split
  · exact h0.2
  · split
    · exact h1.2
    · split
      · exact h2.2
      · split
        · exact h4.2
        · split
          · exact h5.2
          · exact h6.2
theorem RV.tick {v f g r m : Row} (h : RV v f g r m) : RV (sp_X5_tick v f g r).1 f g (sp_X5_tick v f g r).2 (sp_X7_tickR m) := by
  have h0 : RV v f g r (upd m 29 (m 29 + 1)) := h.congr (fun j hj => upd_ne _ _ (by omega))
  exact tkS_sim (st := stR f g) (su := sp_X7_steps) (R := fun x y => RV x.1 f g x.2 y) (fun x y i hi hx => hx.step hi) (x := (v, r)) h0
