/-! the two sides compared, as numbers: bytes, a register, a tick of the registers -/
def byte (x : Int32) : Prop := ∃ b, b < 256 ∧ x = nI b
theorem byte_and (x : Int32) : byte (x &&& 255) := by
  refine ⟨(x.toBitVec &&& 255#32).toNat, ?_, ?_⟩
  · rw [BitVec.toNat_and]
    exact Nat.lt_of_le_of_lt Nat.and_le_right (by decide)
  · apply Int32.toBitVec_inj.mp
    apply BitVec.eq_of_toNat_eq
    show (x.toBitVec &&& 255#32).toNat = (BitVec.ofNat 32 (x.toBitVec &&& 255#32).toNat).toNat
    rw [BitVec.toNat_ofNat, Nat.mod_eq_of_lt (BitVec.isLt _)]
theorem byte_mask {x : Int32} (h : byte x) : x &&& 255 = x := by
  obtain ⟨b, hb, rfl⟩ := h
  exact (show ∀ b : Fin 256, nI b.1 &&& 255 = nI b.1 from by decide +kernel) ⟨b, hb⟩
theorem byte_of {x : Int32} (h : x &&& 255 = x) : byte x := by rw [← h]; exact byte_and x
theorem i_dist (a b c : Int32) : (a ||| b) &&& c = (a &&& c) ||| (b &&& c) := by
  apply Int32.toBitVec_inj.mp
  show (a.toBitVec ||| b.toBitVec) &&& c.toBitVec = (a.toBitVec &&& c.toBitVec) ||| (b.toBitVec &&& c.toBitVec)
  apply BitVec.eq_of_getLsbD_eq
  intro i _
  simp only [BitVec.getLsbD_and, BitVec.getLsbD_or]
  cases a.toBitVec.getLsbD i <;> cases b.toBitVec.getLsbD i <;> cases c.toBitVec.getLsbD i <;> rfl
theorem byte_or {x y : Int32} (hx : byte x) (hy : byte y) : byte (x ||| y) := byte_of (by rw [i_dist, byte_mask hx, byte_mask hy])
theorem byte_andr {x y : Int32} (hx : byte x) : byte (x &&& y) := byte_of (by rw [Int32.and_assoc, Int32.and_comm y 255, ← Int32.and_assoc, byte_mask hx])
theorem byte_andl {x y : Int32} (hy : byte y) : byte (x &&& y) := by rw [Int32.and_comm]; exact byte_andr hy
theorem byte_pos {x : Int32} (h : byte x) : ¬ x < 0 := by
  obtain ⟨b, hb, rfl⟩ := h
  exact nI_pos (by omega)
/-- cells that failed: the program's words and the reference's -/
theorem cells_eq {x f s : Int32} (hx : byte x) (hf : byte f) : (x &&& (f ^^^ (-1))) ||| (s &&& f) = (x &&& (255 - f)) ||| (s &&& f) := by
  obtain ⟨b, hb, rfl⟩ := hf
  have e : 255 - nI b = 255 &&& (nI b ^^^ (-1)) := (show ∀ b : Fin 256, 255 - nI b.1 = 255 &&& (nI b.1 ^^^ (-1)) from by decide +kernel) ⟨b, hb⟩
  rw [e, ← Int32.and_assoc, byte_mask hx]
theorem cells_byte {x f s : Int32} (hx : byte x) (hf : byte f) : byte ((x &&& (255 - f)) ||| (s &&& f)) := byte_or (byte_andr hx) (byte_andl hf)
theorem bitN : ∀ a : Fin 256, ∀ k : Fin 8, ((255 - nI a.1) >>> ((nI k.1) &&& 31)) &&& 1 = (if (nI a.1 >>> ((nI k.1) &&& 31)) &&& 1 = 1 then (0 : Int32) else 1) ∧ ((nI a.1 >>> ((nI k.1) &&& 31)) &&& 1 = 0 ∨ (nI a.1 >>> ((nI k.1) &&& 31)) &&& 1 = 1) := by decide +kernel
theorem sh_and (a b s : Int32) : (a &&& b) >>> s = (a >>> s) &&& (b >>> s) := by
  first
    | exact Int32.shiftRight_and
    | (apply Int32.toBitVec_inj.mp; simp [BitVec.sshiftRight_and_distrib])
theorem sh_or (a b s : Int32) : (a ||| b) >>> s = (a >>> s) ||| (b >>> s) := by
  first
    | exact Int32.shiftRight_or
    | (apply Int32.toBitVec_inj.mp; simp [BitVec.sshiftRight_or_distrib])
theorem bit_mix {y : Int32} (z u : Int32) (hy : byte y) {k : Nat} (hk : k < 8) : (((u &&& (255 - y)) ||| (z &&& y)) >>> ((nI k) &&& 31)) &&& 1 = (if (y >>> ((nI k) &&& 31)) &&& 1 = 1 then (z >>> ((nI k) &&& 31)) &&& 1 else (u >>> ((nI k) &&& 31)) &&& 1) := by
  obtain ⟨a, ha, rfl⟩ := hy
  obtain ⟨h1, h2⟩ := bitN ⟨a, ha⟩ ⟨k, hk⟩
  rw [sh_or, sh_and, sh_and, i_dist, Int32.and_assoc, Int32.and_assoc, h1]
  rcases h2 with h | h
  · rw [if_neg (by rw [h]; decide), if_neg (by rw [h]; decide), h, Int32.and_zero, Int32.or_zero]
  · rw [if_pos h, if_pos h, h, Int32.and_zero, Int32.zero_or]
def wsN (w : Int32) : Nat → Int32
  | 0 => 0
  | k + 1 => wsN w k + ((w >>> ((nI k) &&& 31)) &&& 1) <<< ((nI k) &&& 31)
theorem ws_all : ∀ b : Fin 256, wsN (nI b.1) 8 = nI b.1 := by decide +kernel
theorem pu_eq {y z u : Int32} (hy : byte y) (hu : byte u) : puN y z u 8 = (u &&& (255 - y)) ||| (z &&& y) := by
  have e : ∀ k, k ≤ 8 → puN y z u k = wsN ((u &&& (255 - y)) ||| (z &&& y)) k := by
    intro k
    induction k with
    | zero => intro _; rfl
    | succ k ih =>
      intro hk
      show puN y z u k + puB y z u k = wsN _ k + _
      unfold puB
      rw [ih (by omega), bit_mix z u hy (by omega)]
  obtain ⟨b, hb, e2⟩ := cells_byte (s := z) hu hy
  rw [e 8 (Nat.le_refl 8), e2]
  exact ws_all ⟨b, hb⟩

def cB (b fi lc : Int32) : Int32 := if 9 < b >>> ((4 : Int32) &&& 31) then 1 else (if b &&& 15 ≤ 9 then (if fi ≤ b then (if b ≤ lc then 0 else 3) else 2) else 1)
def nB (b fi lc : Int32) : Int32 := if b = lc then fi else (if 9 ≤ b &&& 15 then ((b &&& 240) + 16) &&& 255 else b + 1)
def lasts : List (Int32 × Int32 × Int32) := [(0, 89, 59), (0, 35, 23), (1, 7, 7), (1, 40, 28), (1, 41, 29), (1, 48, 30), (1, 49, 31), (1, 18, 12), (0, 153, 99)]
/-- a register by the law, as numbers: of a value, the first number, the last one -/
noncomputable def wL (b fi ln : Int32) : Int32 := if sp_L_isCode b 0 99 = 0 then 1 else (if fi ≤ sp_L_number b then (if sp_L_number b ≤ ln then 0 else 3) else 2)
noncomputable def inL (b : Int32) : Int32 := if 9 ≤ b - b / 16 * 16 then ((b + 16) - (b - b / 16 * 16)) &&& 255 else b + 1
noncomputable def nL' (b fi ln : Int32) : Int32 := if sp_L_isCode b fi ln = 0 then inL b else (if sp_L_number b = ln then fi else inL b)
noncomputable def rL (b fi ln : Int32) : Int32 := if sp_L_isCode b fi ln = 0 then 0 else (if sp_L_number b = ln then 1 else 0)
theorem bt_all : ∀ t ∈ lasts, ∀ b : Fin 256, cB (nI b.1) t.1 t.2.1 = wL (nI b.1) t.1 t.2.2 ∧ rL (nI b.1) t.1 t.2.2 = (if nI b.1 = t.2.1 then 1 else 0) ∧ nB (nI b.1) t.1 t.2.1 = nL' (nI b.1) t.1 t.2.2 ∧ nL' (nI b.1) t.1 t.2.2 &&& 255 = nL' (nI b.1) t.1 t.2.2 ∧ sp_X6_numberOf t.2.1 = t.2.2 ∧ sp_X6_numberOf (nI b.1) = sp_L_number (nI b.1) := by decide +kernel
theorem bt {x fi lc ln : Int32} (ht : (fi, lc, ln) ∈ lasts) (hx : byte x) : cB x fi lc = wL x fi ln ∧ rL x fi ln = (if x = lc then 1 else 0) ∧ nB x fi lc = nL' x fi ln ∧ byte (nL' x fi ln) ∧ sp_X6_numberOf lc = ln ∧ sp_X6_numberOf x = sp_L_number x := by
  obtain ⟨b, hb, rfl⟩ := hx
  obtain ⟨h1, h2, h3, h4, h5, h6⟩ := bt_all _ ht ⟨b, hb⟩
  exact ⟨h1, h2, h3, byte_of h4, h5, h6⟩
/-- the registers: the program's four rows and the law's -/
def RV (v f g r xv xb xg xn : Row) : Prop := ∀ i, i < 7 → v i = xv i ∧ f i = xb i ∧ g i = (xg i &&& xb i) ∧ r i = xn i ∧ byte (xv i) ∧ byte (xb i) ∧ byte (xg i)
noncomputable def lpL (y : Int32) : Int32 := if sp_L_isCode y 0 99 = 0 then 0 else (if sp_L_number y - sp_L_number y / 4 * 4 = 0 then 1 else 0)
theorem leap_all : ∀ y : Fin 256, sp_X5_isLeapYear (fun _ => nI y.1) = lpL (nI y.1) := by decide +kernel
theorem leap_eq {v f g r xv xb xg xn : Row} (h : RV v f g r xv xb xg xn) : sp_X5_isLeapYear v = lpL (xv 6) := by
  obtain ⟨h1, -, -, -, ⟨y, hy, e⟩, -, -⟩ := h 6 (by decide)
  have a1 : sp_X5_isLeapYear v = sp_X5_isLeapYear (fun _ => nI y) := by
    unfold sp_X5_isLeapYear
    rw [h1, e]
  rw [a1, e]
  exact leap_all ⟨y, hy⟩

def lcB (mo lp : Int32) : Int32 := if mo = 2 then (if lp = 0 then 40 else 41) else (if mo = 4 then 48 else (if mo = 6 then 48 else (if mo = 9 then 48 else (if mo = 17 then 48 else 49))))
noncomputable def lnL (mo lp : Int32) : Int32 := if sp_L_isCode mo 1 12 = 0 then 31 else (if sp_L_number mo = 2 then (if lp = 0 then 28 else 29) else (if sp_L_number mo = 4 then 30 else (if sp_L_number mo = 6 then 30 else (if sp_L_number mo = 9 then 30 else (if sp_L_number mo = 11 then 30 else 31)))))
theorem month_eq (xv : Row) : sp_L_month xv = lnL (xv 5) (lpL (xv 6)) := by
  unfold sp_L_month lnL lpL
  by_cases c5 : sp_L_isCode (xv 5) 1 12 = 0
  · rw [if_pos c5, if_pos c5]
  · rw [if_neg c5, if_neg c5]
    by_cases c6 : sp_L_isCode (xv 6) 0 99 = 0
    · rw [if_pos c6, if_pos c6, if_pos rfl]
    · rw [if_neg c6, if_neg c6]
      by_cases c4 : sp_L_number (xv 6) - sp_L_number (xv 6) / 4 * 4 = 0
      · rw [if_pos c4, if_pos c4, if_neg (show ¬ (1 : Int32) = 0 from by decide)]
      · rw [if_neg c4, if_neg c4, if_pos rfl]
theorem len_all : ∀ lp ∈ [(0 : Int32), 1], ∀ b : Fin 256, (1, lcB (nI b.1) lp, lnL (nI b.1) lp) ∈ lasts := by decide +kernel
theorem lp01 (y : Int32) : lpL y = 0 ∨ lpL y = 1 := by
  unfold lpL
  (repeat' split) <;> first | exact Or.inl rfl | exact Or.inr rfl
theorem last_in {v f g r xv xb xg xn : Row} (h : RV v f g r xv xb xg xn) {i : Nat} (hi : i < 7) : (kf k_first i, sp_X5_lastValue v i, sp_L_most xv i) ∈ lasts ∧ sp_L_least i = kf k_first i := by
  have h4 : (1, sp_X5_lastValue v 4, sp_L_most xv 4) ∈ lasts := by
    obtain ⟨h1, -, -, -, ⟨mo, hmo, e⟩, -, -⟩ := h 5 (by decide)
    have a1 : sp_X5_lastValue v 4 = lcB (nI mo) (lpL (xv 6)) := by
      unfold sp_X5_lastValue
      rw [if_pos rfl, h1, e, leap_eq h]
      rfl
    have a2 : sp_L_most xv 4 = lnL (nI mo) (lpL (xv 6)) := by
      show sp_L_month xv = _
      rw [month_eq, e]
    rw [a1, a2]
    refine len_all _ ?_ ⟨mo, hmo⟩
    rcases lp01 (xv 6) with q | q
    · rw [q]; exact List.mem_cons_self
    · rw [q]; exact List.mem_cons_of_mem _ List.mem_cons_self
  match i, hi with
  | 0, _ => exact ⟨show ((0 : Int32), (89 : Int32), (59 : Int32)) ∈ lasts from by decide, rfl⟩
  | 1, _ => exact ⟨show ((0 : Int32), (89 : Int32), (59 : Int32)) ∈ lasts from by decide, rfl⟩
  | 2, _ => exact ⟨show ((0 : Int32), (35 : Int32), (23 : Int32)) ∈ lasts from by decide, rfl⟩
  | 3, _ => exact ⟨show ((1 : Int32), (7 : Int32), (7 : Int32)) ∈ lasts from by decide, rfl⟩
  | 4, _ => exact ⟨h4, rfl⟩
  | 5, _ => exact ⟨show ((1 : Int32), (18 : Int32), (12 : Int32)) ∈ lasts from by decide, rfl⟩
  | 6, _ => exact ⟨show ((0 : Int32), (153 : Int32), (99 : Int32)) ∈ lasts from by decide, rfl⟩
section PU
variable {v f g r xv xb xg xn : Row}
theorem why_eq (h : RV v f g r xv xb xg xn) {i : Nat} (hi : i < 7) : sp_X5_whyWrong v i = wL (xv i) (sp_L_least i) (sp_L_most xv i) := by
  obtain ⟨h1, -, -, -, hb, -, -⟩ := h i hi
  obtain ⟨hl, hf⟩ := last_in h hi
  have a1 : sp_X5_whyWrong v i = cB (xv i) (kf k_first i) (sp_X5_lastValue v i) := by
    unfold sp_X5_whyWrong
    rw [h1]; rfl
  rw [a1, hf]
  exact (bt hl hb).1
theorem next_eq (h : RV v f g r xv xb xg xn) {i : Nat} (hi : i < 7) : sp_X5_nextValue v i (sp_X5_lastValue v i) = sp_L_next xv i ∧ byte (sp_L_next xv i) ∧ rL (xv i) (sp_L_least i) (sp_L_most xv i) = (if v i = sp_X5_lastValue v i then 1 else 0) := by
  obtain ⟨h1, -, -, -, hb, -, -⟩ := h i hi
  obtain ⟨hl, hf⟩ := last_in h hi
  obtain ⟨-, b2, b3, b4, -, -⟩ := bt hl hb
  have a1 : sp_X5_nextValue v i (sp_X5_lastValue v i) = nB (xv i) (kf k_first i) (sp_X5_lastValue v i) := by
    unfold sp_X5_nextValue
    rw [h1]; rfl
  have a2 : sp_L_next xv i = nL' (xv i) (kf k_first i) (sp_L_most xv i) := by
    unfold sp_L_next
    rw [hf]; rfl
  rw [a1, a2, hf, h1]
  exact ⟨b3, b4, b2⟩
theorem last_eq (h : RV v f g r xv xb xg xn) {i : Nat} (hi : i < 7) : sp_X6_numberOf (sp_X5_lastValue v i) = sp_L_most xv i := by
  obtain ⟨-, -, -, -, hb, -, -⟩ := h i hi
  exact (bt (last_in h hi).1 hb).2.2.2.2.1
theorem num_eq (h : RV v f g r xv xb xg xn) {i : Nat} (hi : i < 7) : sp_X6_numberOf (v i) = sp_L_number (xv i) := by
  obtain ⟨h1, -, -, -, hb, -, -⟩ := h i hi
  rw [h1]
  exact (bt (last_in h hi).1 hb).2.2.2.2.2
/-- a value put, as cells have it -/
theorem put_eq (h : RV v f g r xv xb xg xn) {i : Nat} (hi : i < 7) {x : Int32} (hx : byte x) : sp_X5_withCells f g i x = puN (xb i) (xg i) x 8 ∧ byte (sp_X5_withCells f g i x) := by
  obtain ⟨-, h2, h3, -, -, hf, -⟩ := h i hi
  have e : sp_X5_withCells f g i x = (x &&& (255 - xb i)) ||| (xg i &&& xb i) := by
    unfold sp_X5_withCells
    rw [h2, h3]
    exact cells_eq hx hf
  rw [e, pu_eq hf hx]
  exact ⟨rfl, cells_byte hx hf⟩
theorem RV.put (h : RV v f g r xv xb xg xn) {i : Nat} (hi : i < 7) {x : Int32} (hx : byte x) : RV (upd v i (sp_X5_withCells f g i x)) f g r (upd xv i (puN (xb i) (xg i) x 8)) xb xg xn := by
  obtain ⟨e, hb⟩ := put_eq h hi hx
  intro j hj
  obtain ⟨h1, h2, h3, h4, h5, h6, h7⟩ := h j hj
  by_cases c : j = i
  · subst c
    rw [upd_eq, upd_eq, ← e]
    exact ⟨rfl, h2, h3, h4, hb, h6, h7⟩
  · rw [upd_ne _ _ c, upd_ne _ _ c]
    exact ⟨h1, h2, h3, h4, h5, h6, h7⟩
theorem RV.roll (h : RV v f g r xv xb xg xn) (i : Nat) (d : Int32) : RV v f g (upd r i (r i + d)) xv xb xg (upd xn i (xn i + d)) := by
  intro j hj
  obtain ⟨h1, h2, h3, h4, h5, h6, h7⟩ := h j hj
  refine ⟨h1, h2, h3, ?_, h5, h6, h7⟩
  by_cases c : j = i
  · subst c
    rw [upd_eq, upd_eq, h4]
  · rw [upd_ne _ _ c, upd_ne _ _ c]; exact h4
theorem upd_add0 (r : Row) (i : Nat) : upd r i (r i + 0) = r := by
  funext k
  by_cases ck : k = i
  · subst ck; rw [upd_eq]; exact Int32.add_zero _
  · rw [upd_ne _ _ ck]
theorem stL_eq (xv xb xg xn : Row) (i : Nat) : stL xb xg (xv, xn) i = (rL (xv i) (sp_L_least i) (sp_L_most xv i), upd xv i (puN (xb i) (xg i) (sp_L_next xv i) 8), upd xn i (xn i + rL (xv i) (sp_L_least i) (sp_L_most xv i))) := by
  show sp_L_step xv xb xg xn i = _
  unfold sp_L_step rL
  by_cases c1 : sp_L_isCode (xv i) (sp_L_least i) (sp_L_most xv i) = 0
  · rw [if_pos c1, if_pos c1]
  · rw [if_neg c1, if_neg c1]
    by_cases c2 : sp_L_number (xv i) = sp_L_most xv i
    · rw [if_pos c2, if_pos c2]
    · rw [if_neg c2, if_neg c2]
/-- one register steps on -/
theorem RV.step (h : RV v f g r xv xb xg xn) {i : Nat} (hi : i < 7) : (stR f g (v, r) i).1 = (stL xb xg (xv, xn) i).1 ∧ RV (stR f g (v, r) i).2.1 f g (stR f g (v, r) i).2.2 (stL xb xg (xv, xn) i).2.1 xb xg (stL xb xg (xv, xn) i).2.2 := by
  obtain ⟨n1, n2, n3⟩ := next_eq h hi
  have hr := fun d => (h.put hi n2).roll i d
  rw [stL_eq]
  unfold stR sp_X5_stepOn
  dsimp only
  rw [n1]
  by_cases c : v i = sp_X5_lastValue v i
  · rw [if_pos c] at n3
    rw [if_pos c, n3]
    exact ⟨rfl, hr 1⟩
  · rw [if_neg c] at n3
    rw [if_neg c, n3]
    refine ⟨rfl, ?_⟩
    have q := hr 0
    rw [upd_add0 r] at q
    exact q
end PU

/-- the shape of a tick of the registers, whatever a step is -/
noncomputable def tkS {α : Type} (st : α → Nat → Int32 × α) (x : α) : α := if (st x 0).1 = 0 then (st x 0).2 else (if (st (st x 0).2 1).1 = 0 then (st (st x 0).2 1).2 else (if (st (st (st x 0).2 1).2 2).1 = 0 then (st (st (st x 0).2 1).2 2).2 else
  (if (st (st (st (st (st x 0).2 1).2 2).2 3).2 4).1 = 0 then (st (st (st (st (st x 0).2 1).2 2).2 3).2 4).2 else
  (if (st (st (st (st (st (st x 0).2 1).2 2).2 3).2 4).2 5).1 = 0 then (st (st (st (st (st (st x 0).2 1).2 2).2 3).2 4).2 5).2 else (st (st (st (st (st (st (st x 0).2 1).2 2).2 3).2 4).2 5).2 6).2))))
theorem tkS_sim {α β : Type} {st : α → Nat → Int32 × α} {su : β → Nat → Int32 × β} {R : α → β → Prop} (hs : ∀ x y i, i < 7 → R x y → (st x i).1 = (su y i).1 ∧ R (st x i).2 (su y i).2) {x : α} {y : β} (h : R x y) : R (tkS st x) (tkS su y) := by
  unfold tkS
  have h0 := hs x y 0 (by decide) h
  generalize st x 0 = a0 at h0 ⊢
  generalize su y 0 = b0 at h0 ⊢
  have h1 := hs a0.2 b0.2 1 (by decide) h0.2
  generalize st a0.2 1 = a1 at h1 ⊢
  generalize su b0.2 1 = b1 at h1 ⊢
  have h2 := hs a1.2 b1.2 2 (by decide) h1.2
  generalize st a1.2 2 = a2 at h2 ⊢
  generalize su b1.2 2 = b2 at h2 ⊢
  have h3 := hs a2.2 b2.2 3 (by decide) h2.2
  generalize st a2.2 3 = a3 at h3 ⊢
  generalize su b2.2 3 = b3 at h3 ⊢
  have h4 := hs a3.2 b3.2 4 (by decide) h3.2
  generalize st a3.2 4 = a4 at h4 ⊢
  generalize su b3.2 4 = b4 at h4 ⊢
  have h5 := hs a4.2 b4.2 5 (by decide) h4.2
  generalize st a4.2 5 = a5 at h5 ⊢
  generalize su b4.2 5 = b5 at h5 ⊢
  have h6 := hs a5.2 b5.2 6 (by decide) h5.2
  rw [h0.1, h1.1, h2.1, h4.1, h5.1]
  split
  · exact h0.2
  · split
    · exact h1.2
    · split
      · exact h2.2
      · split
        · exact h4.2
        · split
          · exact h5.2
          · exact h6.2
theorem RV.tick {v f g r xv xb xg xn : Row} (h : RV v f g r xv xb xg xn) : RV (sp_X5_tick v f g r).1 f g (sp_X5_tick v f g r).2 (tkS (stL xb xg) (xv, xn)).1 xb xg (tkS (stL xb xg) (xv, xn)).2 :=
  tkS_sim (st := stR f g) (su := stL xb xg) (R := fun x y => RV x.1 f g x.2 y.1 xb xg y.2) (fun x y i hi hx => hx.step hi) (x := (v, r)) (y := (xv, xn)) h
/-- a phase of the law with a tick in it -/
theorem ph_tick {xv xb xg xn xt xa : Row} (h : xt 10 ≤ xt 0 + 1) : sp_L_phase xv xb xg xn xt xa = ((1 : Int32), (tkS (stL xb xg) (xv, xn)).1, (tkS (stL xb xg) (xv, xn)).2, (alL (tkS (stL xb xg) (xv, xn)).1 (t4 xt, xa) 3).1, (alL (tkS (stL xb xg) (xv, xn)).1 (t4 xt, xa) 3).2) := by
  have e : t2 xt 10 ≤ t2 xt 0 := by rw [t2_at, t2_at]; exact h
  have e' : upd (upd xt 2 (xt 2 + 1)) 0 ((upd xt 2 (xt 2 + 1)) 0 + 1) 10 ≤ upd (upd xt 2 (xt 2 + 1)) 0 ((upd xt 2 (xt 2 + 1)) 0 + 1) 0 := e
  unfold sp_L_phase
  rw [if_pos e']
  unfold tkS
  by_cases c0 : (stL xb xg (xv, xn) 0).1 = 0
  · rw [if_pos c0, if_pos c0]; rfl
  · rw [if_neg c0, if_neg c0]
    by_cases c1 : (stL xb xg (stL xb xg (xv, xn) 0).2 1).1 = 0
    · rw [if_pos c1, if_pos c1]; rfl
    · rw [if_neg c1, if_neg c1]
      by_cases c2 : (stL xb xg (stL xb xg (stL xb xg (xv, xn) 0).2 1).2 2).1 = 0
      · rw [if_pos c2, if_pos c2]; rfl
      · rw [if_neg c2, if_neg c2]
        by_cases c4 : (stL xb xg (stL xb xg (stL xb xg (stL xb xg (stL xb xg (xv, xn) 0).2 1).2 2).2 3).2 4).1 = 0
        · rw [if_pos c4, if_pos c4]; rfl
        · rw [if_neg c4, if_neg c4]
          by_cases c5 : (stL xb xg (stL xb xg (stL xb xg (stL xb xg (stL xb xg (stL xb xg (xv, xn) 0).2 1).2 2).2 3).2 4).2 5).1 = 0
          · rw [if_pos c5, if_pos c5]; rfl
          · rw [if_neg c5, if_neg c5]
            (repeat' split) <;> rfl

