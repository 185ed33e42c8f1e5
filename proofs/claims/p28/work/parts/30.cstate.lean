/-! the class's state by blocks: registers, alarms, the log of bursts, a chip -/
def regsB (D : va_G) (x0 x1 x2 x3 x4 : Nat) (v f g r : Row) : va_W :=
  [(x0, .inr (5, [.ref x1, .ref x2, .ref x3, .ref x4])), (x1, .inl (D.1 100, 7, .inl v)), (x2, .inl (D.1 100, 7, .inl f)), (x3, .inl (D.1 100, 7, .inl g)), (x4, .inl (D.1 100, 7, .inl r))]
def rows3 (w : Nat → Nat) : Nat → Option Nat := fun j => if j < 3 then some (w j) else none
def rows6 (w : Nat → Nat) : Nat → Option Nat := fun j => if j < 6 then some (w j) else none
def rows13 (w : Nat → Nat) : Nat → Option Nat := fun j => if j < 13 then some (w j) else none
def alB (D : va_G) (x0 x1 x2 x3 : Nat) (w : Nat → Nat) (av : Nat → Row) (mk cm : Row) (ar fl : Int32) : va_W :=
  [(x0, .inr (0, [.ref x1, .ref x2, .ref x3, .int ar, .int fl])), (x1, .inl (D.1 102, 3, .inr (.inr (.inr (.inr (rows3 w)))))), (x2, .inl (D.1 100, 3, .inl mk)), (x3, .inl (D.1 100, 3, .inl cm)), (w 0, .inl (D.1 100, 5, .inl (av 0))), (w 1, .inl (D.1 100, 5, .inl (av 1))), (w 2, .inl (D.1 100, 5, .inl (av 2)))]
def lgB (D : va_G) (x0 x1 : Nat) (w : Nat → Nat) (en : Nat → Row) (la sz : Int32) : va_W :=
  [(x0, .inr (2, [.ref x1, .int la, .int sz])), (x1, .inl (D.1 102, 6, .inr (.inr (.inr (.inr (rows6 w)))))), (w 0, .inl (D.1 100, 10, .inl (en 0))), (w 1, .inl (D.1 100, 10, .inl (en 1))), (w 2, .inl (D.1 100, 10, .inl (en 2))), (w 3, .inl (D.1 100, 10, .inl (en 3))), (w 4, .inl (D.1 100, 10, .inl (en 4))), (w 5, .inl (D.1 100, 10, .inl (en 5)))]
def chipB (D : va_G) (L w1 w2 : Nat → Nat) (v f g r : Row) (av : Nat → Row) (mk cm : Row) (ar fl : Int32) (en : Nat → Row) (la sz : Int32) (se : Row) (ph tk pc rc wc bc tc : Int32) : va_W :=
  ([[(L 0, .inr (3, [.ref (L 1), .ref (L 6), .ref (L 10), .ref (L 12), .int ph, .int tk, .int pc, .int rc, .int wc, .int bc, .int tc]))], regsB D (L 1) (L 2) (L 3) (L 4) (L 5) v f g r, alB D (L 6) (L 7) (L 8) (L 9) w1 av mk cm ar fl, lgB D (L 10) (L 11) w2 en la sz, [(L 12, .inl (D.1 100, 3, .inl se))]] : List va_W).flatten
def buB (D : va_G) (x0 x1 x2 x3 : Nat) (w : Nat → Nat) (en tb : Row) (sh : Nat → Row) (n : Int32) : va_W :=
  [(x0, .inr (1, [.ref x1, .ref x2, .ref x3, .int n])), (x1, .inl (D.1 100, 10, .inl en)), (x2, .inl (D.1 100, 7, .inl tb)), (x3, .inl (D.1 102, 13, .inr (.inr (.inr (.inr (rows13 w)))))),
   (w 0, .inl (D.1 100, 7, .inl (sh 0))), (w 1, .inl (D.1 100, 7, .inl (sh 1))), (w 2, .inl (D.1 100, 7, .inl (sh 2))), (w 3, .inl (D.1 100, 7, .inl (sh 3))), (w 4, .inl (D.1 100, 7, .inl (sh 4))), (w 5, .inl (D.1 100, 7, .inl (sh 5))), (w 6, .inl (D.1 100, 7, .inl (sh 6))), (w 7, .inl (D.1 100, 7, .inl (sh 7))), (w 8, .inl (D.1 100, 7, .inl (sh 8))), (w 9, .inl (D.1 100, 7, .inl (sh 9))), (w 10, .inl (D.1 100, 7, .inl (sh 10))), (w 11, .inl (D.1 100, 7, .inl (sh 11))), (w 12, .inl (D.1 100, 7, .inl (sh 12)))]
def orB (D : va_G) (x0 x1 : Nat) (nu : Row) (lt br le : Int32) : va_W := [(x0, .inr (4, [.ref x1, .int lt, .int br, .int le])), (x1, .inl (D.1 100, 3, .inl nu))]
/-- one row of many is another -/
abbrev upR (f : Nat → Row) (j : Nat) (x : Row) : Nat → Row := va_up f j x
theorem al_row_m {D : va_G} {x0 : Nat} {x1 : Nat} {x2 : Nat} {x3 : Nat} {w : Nat → Nat} {av : Nat → Row} {mk : Row} {cm : Row} {ar : Int32} {fl : Int32} {j : Nat} (hj : j < 3) : (w j, .inl (D.1 100, 5, .inl (av j))) ∈ alB D x0 x1 x2 x3 w av mk cm ar fl := by
  match j, hj with
  | 0, _ => exact m_at 4 rfl
  | 1, _ => exact m_at 5 rfl
  | 2, _ => exact m_at 6 rfl
theorem al_row_f {D : va_G} {x0 : Nat} {x1 : Nat} {x2 : Nat} {x3 : Nat} {w : Nat → Nat} {av : Nat → Row} {mk : Row} {cm : Row} {ar : Int32} {fl : Int32} {j : Nat} {y : Row} (hj : j < 3) : Foc (alB D x0 x1 x2 x3 w av mk cm ar fl) [(w j, .inl (D.1 100, 5, .inl (av j)))] (alB D x0 x1 x2 x3 w (upR av j y) mk cm ar fl) [(w j, .inl (D.1 100, 5, .inl y))] := by
  match j, hj with
  | 0, _ => exact Foc.cell 4 rfl rfl (ce rfl (ce rfl (ce rfl (ce rfl (ce rfl (ce rfl rfl))))))
  | 1, _ => exact Foc.cell 5 rfl rfl (ce rfl (ce rfl (ce rfl (ce rfl (ce rfl (ce rfl rfl))))))
  | 2, _ => exact Foc.cell 6 rfl rfl (ce rfl (ce rfl (ce rfl (ce rfl (ce rfl (ce rfl rfl))))))
theorem lg_row_m {D : va_G} {x0 : Nat} {x1 : Nat} {w : Nat → Nat} {en : Nat → Row} {la : Int32} {sz : Int32} {j : Nat} (hj : j < 6) : (w j, .inl (D.1 100, 10, .inl (en j))) ∈ lgB D x0 x1 w en la sz := by
  match j, hj with
  | 0, _ => exact m_at 2 rfl
  | 1, _ => exact m_at 3 rfl
  | 2, _ => exact m_at 4 rfl
  | 3, _ => exact m_at 5 rfl
  | 4, _ => exact m_at 6 rfl
  | 5, _ => exact m_at 7 rfl
theorem lg_row_f {D : va_G} {x0 : Nat} {x1 : Nat} {w : Nat → Nat} {en : Nat → Row} {la : Int32} {sz : Int32} {j : Nat} {y : Row} (hj : j < 6) : Foc (lgB D x0 x1 w en la sz) [(w j, .inl (D.1 100, 10, .inl (en j)))] (lgB D x0 x1 w (upR en j y) la sz) [(w j, .inl (D.1 100, 10, .inl y))] := by
  match j, hj with
  | 0, _ => exact Foc.cell 2 rfl rfl (ce rfl (ce rfl (ce rfl (ce rfl (ce rfl (ce rfl (ce rfl rfl)))))))
  | 1, _ => exact Foc.cell 3 rfl rfl (ce rfl (ce rfl (ce rfl (ce rfl (ce rfl (ce rfl (ce rfl rfl)))))))
  | 2, _ => exact Foc.cell 4 rfl rfl (ce rfl (ce rfl (ce rfl (ce rfl (ce rfl (ce rfl (ce rfl rfl)))))))
  | 3, _ => exact Foc.cell 5 rfl rfl (ce rfl (ce rfl (ce rfl (ce rfl (ce rfl (ce rfl (ce rfl rfl)))))))
  | 4, _ => exact Foc.cell 6 rfl rfl (ce rfl (ce rfl (ce rfl (ce rfl (ce rfl (ce rfl (ce rfl rfl)))))))
  | 5, _ => exact Foc.cell 7 rfl rfl (ce rfl (ce rfl (ce rfl (ce rfl (ce rfl (ce rfl (ce rfl rfl)))))))
theorem bu_row_m {D : va_G} {x0 : Nat} {x1 : Nat} {x2 : Nat} {x3 : Nat} {w : Nat → Nat} {en : Row} {tb : Row} {sh : Nat → Row} {n : Int32} {j : Nat} (hj : j < 13) : (w j, .inl (D.1 100, 7, .inl (sh j))) ∈ buB D x0 x1 x2 x3 w en tb sh n := by
  match j, hj with
  | 0, _ => exact m_at 4 rfl
  | 1, _ => exact m_at 5 rfl
  | 2, _ => exact m_at 6 rfl
  | 3, _ => exact m_at 7 rfl
  | 4, _ => exact m_at 8 rfl
  | 5, _ => exact m_at 9 rfl
  | 6, _ => exact m_at 10 rfl
  | 7, _ => exact m_at 11 rfl
  | 8, _ => exact m_at 12 rfl
  | 9, _ => exact m_at 13 rfl
  | 10, _ => exact m_at 14 rfl
  | 11, _ => exact m_at 15 rfl
  | 12, _ => exact m_at 16 rfl
theorem bu_row_f {D : va_G} {x0 : Nat} {x1 : Nat} {x2 : Nat} {x3 : Nat} {w : Nat → Nat} {en : Row} {tb : Row} {sh : Nat → Row} {n : Int32} {j : Nat} {y : Row} (hj : j < 13) : Foc (buB D x0 x1 x2 x3 w en tb sh n) [(w j, .inl (D.1 100, 7, .inl (sh j)))] (buB D x0 x1 x2 x3 w en tb (upR sh j y) n) [(w j, .inl (D.1 100, 7, .inl y))] := by
  match j, hj with
  | 0, _ => exact Foc.cell 4 rfl rfl (ce rfl (ce rfl (ce rfl (ce rfl (ce rfl (ce rfl (ce rfl (ce rfl (ce rfl (ce rfl (ce rfl (ce rfl (ce rfl (ce rfl (ce rfl (ce rfl rfl))))))))))))))))
  | 1, _ => exact Foc.cell 5 rfl rfl (ce rfl (ce rfl (ce rfl (ce rfl (ce rfl (ce rfl (ce rfl (ce rfl (ce rfl (ce rfl (ce rfl (ce rfl (ce rfl (ce rfl (ce rfl (ce rfl rfl))))))))))))))))
  | 2, _ => exact Foc.cell 6 rfl rfl (ce rfl (ce rfl (ce rfl (ce rfl (ce rfl (ce rfl (ce rfl (ce rfl (ce rfl (ce rfl (ce rfl (ce rfl (ce rfl (ce rfl (ce rfl (ce rfl rfl))))))))))))))))
  | 3, _ => exact Foc.cell 7 rfl rfl (ce rfl (ce rfl (ce rfl (ce rfl (ce rfl (ce rfl (ce rfl (ce rfl (ce rfl (ce rfl (ce rfl (ce rfl (ce rfl (ce rfl (ce rfl (ce rfl rfl))))))))))))))))
  | 4, _ => exact Foc.cell 8 rfl rfl (ce rfl (ce rfl (ce rfl (ce rfl (ce rfl (ce rfl (ce rfl (ce rfl (ce rfl (ce rfl (ce rfl (ce rfl (ce rfl (ce rfl (ce rfl (ce rfl rfl))))))))))))))))
  | 5, _ => exact Foc.cell 9 rfl rfl (ce rfl (ce rfl (ce rfl (ce rfl (ce rfl (ce rfl (ce rfl (ce rfl (ce rfl (ce rfl (ce rfl (ce rfl (ce rfl (ce rfl (ce rfl (ce rfl rfl))))))))))))))))
  | 6, _ => exact Foc.cell 10 rfl rfl (ce rfl (ce rfl (ce rfl (ce rfl (ce rfl (ce rfl (ce rfl (ce rfl (ce rfl (ce rfl (ce rfl (ce rfl (ce rfl (ce rfl (ce rfl (ce rfl rfl))))))))))))))))
  | 7, _ => exact Foc.cell 11 rfl rfl (ce rfl (ce rfl (ce rfl (ce rfl (ce rfl (ce rfl (ce rfl (ce rfl (ce rfl (ce rfl (ce rfl (ce rfl (ce rfl (ce rfl (ce rfl (ce rfl rfl))))))))))))))))
  | 8, _ => exact Foc.cell 12 rfl rfl (ce rfl (ce rfl (ce rfl (ce rfl (ce rfl (ce rfl (ce rfl (ce rfl (ce rfl (ce rfl (ce rfl (ce rfl (ce rfl (ce rfl (ce rfl (ce rfl rfl))))))))))))))))
  | 9, _ => exact Foc.cell 13 rfl rfl (ce rfl (ce rfl (ce rfl (ce rfl (ce rfl (ce rfl (ce rfl (ce rfl (ce rfl (ce rfl (ce rfl (ce rfl (ce rfl (ce rfl (ce rfl (ce rfl rfl))))))))))))))))
  | 10, _ => exact Foc.cell 14 rfl rfl (ce rfl (ce rfl (ce rfl (ce rfl (ce rfl (ce rfl (ce rfl (ce rfl (ce rfl (ce rfl (ce rfl (ce rfl (ce rfl (ce rfl (ce rfl (ce rfl rfl))))))))))))))))
  | 11, _ => exact Foc.cell 15 rfl rfl (ce rfl (ce rfl (ce rfl (ce rfl (ce rfl (ce rfl (ce rfl (ce rfl (ce rfl (ce rfl (ce rfl (ce rfl (ce rfl (ce rfl (ce rfl (ce rfl rfl))))))))))))))))
  | 12, _ => exact Foc.cell 16 rfl rfl (ce rfl (ce rfl (ce rfl (ce rfl (ce rfl (ce rfl (ce rfl (ce rfl (ce rfl (ce rfl (ce rfl (ce rfl (ce rfl (ce rfl (ce rfl (ce rfl rfl))))))))))))))))
theorem r_tlen {p : Program} {l : Launch} {e : Env} {R : Room} {s : State} {m : MethodId} {args : Array Value} {below : List Frame} {meth : Method} {c : Code} {H : Heap} {locs : List Loc} {cells slots : Nat} {Q : State → Prop} {cc : ByteArray} {nL pc : Nat} {ls : Array Slot} {rest : List Value} {D : va_G} {A : Nat → Prop} {ws : va_W} {own : String} (X : CX D p m c cc nL s args own A) (w : Wd D A s.heap H locs ws) {t : Nat} {L : List Int32} {v : Int32} (hT : va_T .int t L.length (fun j => .int (kf L j)) A s s.heap) (hv : Int32.ofNat L.length = v) (hdg : decode cc pc = .ok (.arraylength, 1))
    (kk : W p l e R s m args below meth c H locs cells slots Q (F0 m (pc + 1) ls (.int v :: rest))) : W p l e R s m args below meth c H locs cells slots Q (F0 m pc ls (.ref t :: rest)) := by
  obtain ⟨⟨hx, hb, hml, hown, hts⟩, hK, hST, hA⟩ := X
  exact va_tlen hx hb hT w.2.2 hv hdg kk
theorem r_alen {p : Program} {l : Launch} {e : Env} {R : Room} {s : State} {m : MethodId} {args : Array Value} {below : List Frame} {meth : Method} {c : Code} {H : Heap} {locs : List Loc} {cells slots : Nat} {Q : State → Prop} {cc : ByteArray} {nL pc : Nat} {ls : Array Slot} {rest : List Value} {D : va_G} {A : Nat → Prop} {a : Nat} {ws : va_W} {own : String} (X : CX D p m c cc nL s args own A) (w : Wd D A s.heap H locs ws) {n : Nat} {f : Nat → Int32} {v : Int32} (hm : (a, .inl (D.1 100, n, .inl f)) ∈ ws) (hv : Int32.ofNat n = v) (hdg : decode cc pc = .ok (.arraylength, 1))
    (kk : W p l e R s m args below meth c H locs cells slots Q (F0 m (pc + 1) ls (.int v :: rest))) : W p l e R s m args below meth c H locs cells slots Q (F0 m pc ls (.ref a :: rest)) := by
  obtain ⟨⟨hx, hb, hml, hown, hts⟩, hK, hST, hA⟩ := X
  obtain ⟨q0, hq⟩ := List.getElem?_of_mem hm
  exact va_alen hx hb hK w.1 q0 0 hq rfl hv hdg kk
/-- the first i of many rows are copied -/
def cpR (s d : Nat → Row) (n i : Nat) : Nat → Row := fun j => if j < i then va_cpy (s j) (d j) 0 0 n else d j
theorem cpR_0 (s d : Nat → Row) (n : Nat) : cpR s d n 0 = d := by
  funext j
  exact if_neg (Nat.not_lt_zero j)
theorem cpR_step (s d : Nat → Row) (n i : Nat) : upR (cpR s d n i) i (va_cpy (s i) (cpR s d n i i) 0 0 n) = cpR s d n (i + 1) := by
  funext j
  have e : cpR s d n i i = d i := if_neg (Nat.lt_irrefl i)
  rw [e]
  unfold upR va_up cpR
  by_cases h : j = i
  · subst h
    rw [if_pos rfl, if_pos (Nat.lt_succ_self j)]
  · rw [if_neg h]
    by_cases h2 : j < i
    · rw [if_pos h2, if_pos (by omega)]
    · rw [if_neg h2, if_neg (by omega)]

theorem Foc.pair {b c b' c' x y x' y' : va_W} (h1 : Foc b x b' x') (h2 : Foc c y c' y') : Foc ([b, c] : List va_W).flatten ([x, y] : List va_W).flatten ([b', c'] : List va_W).flatten ([x', y'] : List va_W).flatten := by
  obtain ⟨r, p1, p2⟩ := h1
  obtain ⟨q, p3, p4⟩ := h2
  have k : ∀ x y : va_W, ((x ++ r) ++ (y ++ q)).Perm ((x ++ y) ++ (r ++ q)) := fun x y => by
    rw [List.append_assoc, List.append_assoc]
    refine List.Perm.append_left x ?_
    rw [← List.append_assoc, ← List.append_assoc]
    exact List.Perm.append_right q List.perm_append_comm
  refine ⟨r ++ q, ?_, ?_⟩
  · simp only [List.flatten_cons, List.flatten_nil, List.append_nil]
    exact (p1.append p3).trans (k x y)
  · simp only [List.flatten_cons, List.flatten_nil, List.append_nil]
    exact (p2.append p4).trans (k x' y')
