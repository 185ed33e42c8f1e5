/-! worlds as lists of blocks; focus and join by permutation; calls and returns over one list of words -/
def lw_all : List Cond := lw_tbl.filter goodWord
theorem all_tbl {w : Cond} (h : w ∈ lw_all) : w ∈ lw_tbl := (List.mem_filter.mp h).1
theorem all_good {w : Cond} (h : w ∈ lw_all) : goodWord w = true := (List.mem_filter.mp h).2
theorem in_all {w : Cond} (i : Nat) (h : lw_tbl[i]? = some w) (g : goodWord w = true) : w ∈ lw_all := List.mem_filter.mpr ⟨List.mem_of_getElem? h, g⟩
def WS (y : MethodName) (cc : ByteArray) (n : Nat) (ret : Option FieldType) : List Cond := .code y cc n ret :: lw_all
theorem good_all {y : MethodName} {cc : ByteArray} {n : Nat} {ret : Option FieldType} (h : Cond.code y cc n ret ∈ lw_all) : GoodIn lw_all (WS y cc n ret) := fun w hw => by
  rcases List.mem_cons.mp hw with rfl | hw
  · exact ⟨h, good_of_word (all_good h)⟩
  · exact ⟨hw, good_of_word (all_good hw)⟩
theorem va_P_iff {D : va_G} {cl : List vw_C} {ws : va_W} {H : Heap} : va_P D cl ws H ↔ ∀ q, q ∈ ws → va_at D cl q H :=
  ⟨fun h q hq => by obtain ⟨k, hk⟩ := List.getElem?_of_mem hq; exact h k q hk, fun h k q hk => h q (List.mem_of_getElem? hk)⟩
theorem va_D_iff {A : Nat → Prop} {ws : va_W} : va_D A ws ↔ (ws.map (fun q => q.1)).Nodup ∧ ∀ q, q ∈ ws → A q.1 := by
  constructor
  · intro h
    refine ⟨?_, fun q hq => by obtain ⟨k, hk⟩ := List.getElem?_of_mem hq; exact h.2 k q hk⟩
    rw [List.nodup_iff_pairwise_ne, List.pairwise_iff_getElem]
    intro i j hi hj hij he
    have hi' : i < ws.length := by simpa using hi
    have hj' : j < ws.length := by simpa using hj
    rw [List.getElem_map, List.getElem_map] at he
    have := h.1 i j ws[i] ws[j] (List.getElem?_eq_getElem hi') (List.getElem?_eq_getElem hj') he
    omega
  · intro ⟨h1, h2⟩
    refine ⟨?_, fun k q hk => h2 q (List.mem_of_getElem? hk)⟩
    intro i j p q hi hj he
    rw [List.nodup_iff_pairwise_ne, List.pairwise_iff_getElem] at h1
    obtain ⟨hi', ei⟩ := List.getElem?_eq_some_iff.mp hi
    obtain ⟨hj', ej⟩ := List.getElem?_eq_some_iff.mp hj
    have hi2 : i < (ws.map (fun q => q.1)).length := by simpa using hi'
    have hj2 : j < (ws.map (fun q => q.1)).length := by simpa using hj'
    rcases Nat.lt_trichotomy i j with h | h | h
    · exact absurd (by rw [List.getElem_map, List.getElem_map, ei, ej]; exact he) (h1 i j hi2 hj2 h)
    · exact h
    · exact absurd (by rw [List.getElem_map, List.getElem_map, ei, ej]; exact he.symm) (h1 j i hj2 hi2 h)
theorem va_P_perm {D : va_G} {cl : List vw_C} {ws ws' : va_W} {H : Heap} (h : ws.Perm ws') (hP : va_P D cl ws H) : va_P D cl ws' H :=
  va_P_iff.mpr fun q hq => va_P_iff.mp hP q (h.mem_iff.mpr hq)
theorem va_D_perm {A : Nat → Prop} {ws ws' : va_W} (h : ws.Perm ws') (hD : va_D A ws) : va_D A ws' := by
  obtain ⟨h1, h2⟩ := va_D_iff.mp hD
  exact va_D_iff.mpr ⟨((h.map _).nodup_iff).mp h1, fun q hq => h2 q (h.mem_iff.mpr hq)⟩
theorem va_P_left {D : va_G} {cl : List vw_C} {a b : va_W} {H : Heap} (h : va_P D cl (a ++ b) H) : va_P D cl a H := va_P_iff.mpr fun q hq => va_P_iff.mp h q (List.mem_append_left _ hq)
theorem va_D_left {A : Nat → Prop} {a b : va_W} (h : va_D A (a ++ b)) : va_D A a := by
  obtain ⟨h1, h2⟩ := va_D_iff.mp h
  rw [List.map_append, List.nodup_append] at h1
  exact va_D_iff.mpr ⟨h1.1, fun q hq => h2 q (List.mem_append_left _ hq)⟩
theorem join_core {D : va_G} {cl : List vw_C} {A0 : Nat → Prop} {W0 b r b' W1 : va_W} {H H1 : Heap} (hP : va_P D cl W0 H) (hD : va_D A0 W0) (hp : W0.Perm (b ++ r)) (hp' : W1.Perm (b' ++ r)) (hk : ∀ q : Nat, q < H.size → ¬ va_A b H.size q → H1[q]? = H[q]?) (hF : ∀ q, va_A b H.size q → A0 q) (hP1 : va_P D cl b' H1) (hD1 : va_D (va_A b H.size) b') : va_P D cl W1 H1 ∧ va_D A0 W1 := by
  have hP' := va_P_iff.mp hP
  obtain ⟨hn, hA⟩ := va_D_iff.mp hD
  have hn2 : ((b ++ r).map (fun q => q.1)).Nodup := ((hp.map _).nodup_iff).mp hn
  rw [List.map_append, List.nodup_append] at hn2
  have hP1' := va_P_iff.mp hP1
  obtain ⟨hn1, hA1⟩ := va_D_iff.mp hD1
  have hr : ∀ q, q ∈ r → q ∈ W0 := fun q h => hp.mem_iff.mpr (List.mem_append_right _ h)
  have hout : ∀ q, q ∈ r → ¬ va_A b H.size q.1 := by
    intro q hq h
    rcases h with ⟨k, e, hk1⟩ | h
    · exact hn2.2.2 q.1 (List.mem_map.mpr ⟨(q.1, e), List.mem_of_getElem? hk1, rfl⟩) q.1 (List.mem_map.mpr ⟨q, hq, rfl⟩) rfl
    · have := (hP' q (hr q hq)).lt
      omega
  constructor
  · refine va_P_iff.mpr fun q hq => ?_
    rcases List.mem_append.mp (hp'.mem_iff.mp hq) with h | h
    · exact hP1' q h
    · exact (hP' q (hr q h)).kept (hk q.1 (hP' q (hr q h)).lt (hout q h))
  · refine va_D_iff.mpr ⟨((hp'.map _).nodup_iff).mpr ?_, fun q hq => ?_⟩
    · rw [List.map_append, List.nodup_append]
      refine ⟨hn1, hn2.2.1, fun x hx y hy hxy => ?_⟩
      obtain ⟨q, hq, rfl⟩ := List.mem_map.mp hx
      obtain ⟨z, hz, rfl⟩ := List.mem_map.mp hy
      exact hout z hz (by rw [← hxy]; exact hA1 q hq)
    · rcases List.mem_append.mp (hp'.mem_iff.mp hq) with h | h
      · exact hF _ (hA1 q h)
      · exact hA q (hr q h)
/-- of a world a part: what the part becomes, the world becomes, the rest unchanged -/
def Foc (W0 b W1 b' : va_W) : Prop := ∃ r, W0.Perm (b ++ r) ∧ W1.Perm (b' ++ r)
def FocU {S : Type} (W0 b : va_W) (W1 b' : S → va_W) : Prop := ∃ r, W0.Perm (b ++ r) ∧ ∀ u, (W1 u).Perm (b' u ++ r)
theorem Foc.all {W0 W1 : va_W} : Foc W0 W0 W1 W1 := ⟨[], by rw [List.append_nil], by rw [List.append_nil]⟩
theorem Foc.nil {W0 : va_W} : Foc W0 [] W0 [] := ⟨W0, List.Perm.refl _, List.Perm.refl _⟩
theorem Foc.trans {W0 b c W1 b' c' : va_W} (h1 : Foc W0 b W1 b') (h2 : Foc b c b' c') : Foc W0 c W1 c' := by
  obtain ⟨r, p1, p2⟩ := h1
  obtain ⟨q, p3, p4⟩ := h2
  refine ⟨q ++ r, p1.trans ?_, p2.trans ?_⟩
  · rw [← List.append_assoc]; exact p3.append_right r
  · rw [← List.append_assoc]; exact p4.append_right r
theorem FocU.trans {S : Type} {W0 b c : va_W} {W1 b' c' : S → va_W} (h1 : FocU W0 b W1 b') (h2 : FocU b c b' c') : FocU W0 c W1 c' := by
  obtain ⟨r, p1, p2⟩ := h1
  obtain ⟨q, p3, p4⟩ := h2
  refine ⟨q ++ r, p1.trans ?_, fun u => (p2 u).trans ?_⟩
  · rw [← List.append_assoc]; exact p3.append_right r
  · rw [← List.append_assoc]; exact (p4 u).append_right r
theorem FocU.of {W0 b W1 b' : va_W} (h : Foc W0 b W1 b') : FocU (S := Unit) W0 b (fun _ => W1) (fun _ => b') := by
  obtain ⟨r, p1, p2⟩ := h
  exact ⟨r, p1, fun _ => p2⟩
theorem FocU.all {S : Type} {W0 : va_W} {W1 : S → va_W} : FocU W0 W0 W1 W1 := ⟨[], by rw [List.append_nil], fun u => by rw [List.append_nil]⟩
theorem perm_erase {α : Type} : ∀ (l : List α) (i : Nat) (x : α), l[i]? = some x → l.Perm (x :: l.eraseIdx i)
  | [], i, x, h => by cases h
  | a :: l, 0, x, h => by cases h; exact List.Perm.refl _
  | a :: l, i + 1, x, h => by
    rw [List.getElem?_cons_succ] at h
    rw [List.eraseIdx_cons_succ]
    exact ((perm_erase l i x h).cons a).trans (List.Perm.swap x a _)
theorem FocU.at1 {S : Type} {bl : List va_W} {bl' : S → List va_W} (i : Nat) {b : va_W} {b' : S → va_W} (h : bl[i]? = some b) (h' : ∀ u, (bl' u)[i]? = some (b' u)) (hr : ∀ u, bl.eraseIdx i = (bl' u).eraseIdx i) : FocU bl.flatten b (fun u => (bl' u).flatten) b' := by
  refine ⟨(bl.eraseIdx i).flatten, (perm_erase bl i b h).flatten, fun u => ?_⟩
  rw [hr u]
  exact (perm_erase (bl' u) i (b' u) (h' u)).flatten
theorem FocU.at2 {S : Type} {bl : List va_W} {bl' : S → List va_W} (i j : Nat) {b c : va_W} {b' c' : S → va_W} (h : bl[i]? = some b) (g : (bl.eraseIdx i)[j]? = some c) (h' : ∀ u, (bl' u)[i]? = some (b' u)) (g' : ∀ u, ((bl' u).eraseIdx i)[j]? = some (c' u)) (hr : ∀ u, (bl.eraseIdx i).eraseIdx j = ((bl' u).eraseIdx i).eraseIdx j) : FocU bl.flatten ([b, c] : List va_W).flatten (fun u => (bl' u).flatten) (fun u => ([b' u, c' u] : List va_W).flatten) := by
  refine ⟨((bl.eraseIdx i).eraseIdx j).flatten, ?_, fun u => ?_⟩
  · rw [← List.flatten_append]
    exact ((perm_erase bl i b h).trans ((perm_erase _ j c g).cons b)).flatten
  · rw [hr u, ← List.flatten_append]
    exact ((perm_erase (bl' u) i (b' u) (h' u)).trans ((perm_erase _ j (c' u) (g' u)).cons (b' u))).flatten
theorem Foc.at1 {bl bl' : List va_W} (i : Nat) {b b' : va_W} (h : bl[i]? = some b) (h' : bl'[i]? = some b') (hr : bl.eraseIdx i = bl'.eraseIdx i) : Foc bl.flatten b bl'.flatten b' := by
  refine ⟨(bl.eraseIdx i).flatten, (perm_erase bl i b h).flatten, ?_⟩
  rw [hr]
  exact (perm_erase bl' i b' h').flatten
theorem Foc.at2 {bl bl' : List va_W} (i j : Nat) {b c b' c' : va_W} (h : bl[i]? = some b) (g : (bl.eraseIdx i)[j]? = some c) (h' : bl'[i]? = some b') (g' : (bl'.eraseIdx i)[j]? = some c') (hr : (bl.eraseIdx i).eraseIdx j = (bl'.eraseIdx i).eraseIdx j) : Foc bl.flatten ([b, c] : List va_W).flatten bl'.flatten ([b', c'] : List va_W).flatten := by
  refine ⟨((bl.eraseIdx i).eraseIdx j).flatten, ?_, ?_⟩
  · rw [← List.flatten_append]
    exact ((perm_erase bl i b h).trans ((perm_erase _ j c g).cons b)).flatten
  · rw [hr, ← List.flatten_append]
    exact ((perm_erase bl' i b' h').trans ((perm_erase _ j c' g').cons b')).flatten
theorem Foc.cell {b b' : va_W} (i : Nat) {x x' : Nat × va_E} (h : b[i]? = some x) (h' : b'[i]? = some x') (hr : b.eraseIdx i = b'.eraseIdx i) : Foc b [x] b' [x'] := by
  refine ⟨b.eraseIdx i, perm_erase b i x h, ?_⟩
  rw [hr]
  exact perm_erase b' i x' h'
theorem m_fl {bl : List va_W} {b : va_W} {x : Nat × va_E} (i : Nat) (h : bl[i]? = some b) (hx : x ∈ b) : x ∈ bl.flatten := List.mem_flatten_of_mem (List.mem_of_getElem? h) hx
theorem m_at {b : va_W} {x : Nat × va_E} (i : Nat) (h : b[i]? = some x) : x ∈ b := List.mem_of_getElem? h
/-- the classes of arrays ride in the same table as the classes of objects -/
abbrev TY (D : va_G) : List (ClassId × FieldType) := [(D.1 100, .int), (D.1 101, .char), (D.1 102, .array .int), (D.1 103, .object RX3)]
def k_first : List Int32 := [0, 0, 0, 1, 1, 1, 0]
def k_last : List Int32 := [89, 89, 35, 7, 49, 18, 153]
def k_least : List Int32 := [0, 0, 4]
def k_most : List Int32 := [8, 1, 60]
def k_days : List Int32 := [0, 31, 59, 90, 120, 151, 181, 212, 243, 273, 304, 334]
abbrev kf (l : List Int32) (j : Nat) : Int32 := l.getD j 0
def STn (n : String) (l : List Int32) (A : Nat → Prop) (U : State) (H : Heap) : Prop := ∃ t : Nat, va_Z RX6 n "[I" (.ref t) A U H ∧ va_T .int t l.length (fun j => .int (kf l j)) A U H
def ST (A : Nat → Prop) (U : State) (H : Heap) : Prop := STn "FIRST_VALUE" k_first A U H ∧ STn "LAST_VALUE" k_last A U H ∧ STn "LEAST_SETTING" k_least A U H ∧ STn "MOST_SETTING" k_most A U H ∧ STn "DAYS_AHEAD_OF_MONTH" k_days A U H ∧
  va_Nw (.fieldLinkNest RX5 24 RX6 "FIRST_VALUE" "[I" RX6) U ∧ va_Nw (.fieldLinkNest RX5 33 RX6 "LAST_VALUE" "[I" RX6) U ∧ va_Nw (.fieldLinkNest RX5 69 RX6 "DAYS_AHEAD_OF_MONTH" "[I" RX6) U ∧
  va_Nw (.methodLinkNest RX0 36 yX6_bitOf RX6) U ∧ va_Nw (.methodLinkNest RX5 47 yX6_bitOf RX6) U ∧ va_Nw (.methodLinkNest RX5 66 yX6_numberOf RX6) U
theorem STn.go {n : String} {l : List Int32} {A B : Nat → Prop} {u U : State} {H H1 : Heap} (hvm : u.vm.Alike U.vm) (hq : ∀ a : Nat, a < H.size → ¬ A a → H1[a]? = H[a]?) (hAB : ∀ q, B q → A q) (h : STn n l A u H) : STn n l B U H1 := by
  obtain ⟨t, h1, h2⟩ := h
  exact ⟨t, ((h1.moved hvm).kept hq).narrow hAB, ((h2.moved hvm).kept hq).narrow hAB⟩
theorem ST.warm {A B : Nat → Prop} {u U : State} {H H1 : Heap} (hW : u.WarmedH U.vm) (hq : ∀ a : Nat, a < H.size → ¬ A a → H1[a]? = H[a]?) (hAB : ∀ q, B q → A q) (h : ST A u H) : ST B U H1 := by
  obtain ⟨h1, h2, h3, h4, h5, n1, n2, n3, n4, n5, n6⟩ := h
  exact ⟨h1.go hW.alike hq hAB, h2.go hW.alike hq hAB, h3.go hW.alike hq hAB, h4.go hW.alike hq hAB, h5.go hW.alike hq hAB, n1.warmF hW, n2.warmF hW, n3.warmF hW, n4.warmM hW, n5.warmM hW, n6.warmM hW⟩
theorem ST.same {A : Nat → Prop} {u U : State} {H : Heap} (e : u.vm = U.vm) (h : ST A u H) : ST A U H := by
  obtain ⟨h1, h2, h3, h4, h5, n1, n2, n3, n4, n5, n6⟩ := h
  have hvm : u.vm.Alike U.vm := by rw [e]; exact Vm.Alike.refl U.vm
  have hq : ∀ a : Nat, a < H.size → ¬ A a → H[a]? = H[a]? := fun _ _ _ => rfl
  exact ⟨h1.go hvm hq (fun _ h => h), h2.go hvm hq (fun _ h => h), h3.go hvm hq (fun _ h => h), h4.go hvm hq (fun _ h => h), h5.go hvm hq (fun _ h => h), n1.same rfl e, n2.same rfl e, n3.same rfl e, n4.same rfl e, n5.same rfl e, n6.same rfl e⟩
def PreW (D : va_G) (sz : Nat) (ws : va_W) (U : State) : Prop := U.heap.size = sz ∧ va_P D vwCl ws U.heap ∧ va_K D vwCl (TY D) U ∧ va_D (fun _ => True) ws ∧ ST (va_A ws sz) U U.heap
def EndW (D : va_G) (A : Nat → Prop) (ws : va_W) (t : State) : Prop := va_P D vwCl ws t.heap ∧ va_D A ws
theorem PreW.blind {D : va_G} {sz : Nat} {ws : va_W} {As : List Value} : FrameBlind (va_Pc As (PreW D sz ws)) := by
  intro a U g mk q
  obtain ⟨q0, q1, qP, qK, qD, qS⟩ := q
  exact ⟨q0, q1, qP, va_K.moved (u := U) (U := U.calling g mk a) (Vm.Alike.refl U.vm) qK, qD, ST.same (u := U) (U := U.calling g mk a) rfl qS⟩
def Wd (D : va_G) (A : Nat → Prop) (H0 H : Heap) (locs : List Loc) (ws : va_W) : Prop := va_P D vwCl ws H ∧ va_D A ws ∧ va_S A H0 H locs
def CX (D : va_G) (p : Program) (m : MethodId) (c : Code) (cc : ByteArray) (nL : Nat) (s : State) (args : Array Value) (own : String) (A : Nat → Prop) : Prop :=
  CallFix p m c cc nL s args lw_all own ∧ va_K D vwCl (TY D) s ∧ ST A s s.heap ∧ (∀ q : Nat, s.heap.size ≤ q → A q)
theorem Wd.perm {D : va_G} {A : Nat → Prop} {H0 H : Heap} {locs : List Loc} {ws ws' : va_W} (h : ws.Perm ws') (w : Wd D A H0 H locs ws) : Wd D A H0 H locs ws' := ⟨va_P_perm h w.1, va_D_perm h w.2.1, w.2.2⟩
theorem Wd.call {D : va_G} {p : Program} {m : MethodId} {c : Code} {cc : ByteArray} {nL : Nat} {s : State} {args : Array Value} {own : String} {A : Nat → Prop} {H : Heap} {locs : List Loc} {ws b r : va_W} (X : CX D p m c cc nL s args own A) (w : Wd D A s.heap H locs ws) (hp : ws.Perm (b ++ r)) :
    (∀ q, va_A b H.size q → A q) ∧ ∀ U : State, U.heap = H → s.WarmedH U.vm → PreW D H.size b U := by
  obtain ⟨wP, wD, wS⟩ := w
  have hPb := va_P_left (va_P_perm hp wP)
  have hDb := va_D_left (va_D_perm hp wD)
  have hf : ∀ q, va_A b H.size q → A q := by
    intro q h
    rcases h with ⟨k, e, h⟩ | h
    · exact hDb.2 k (q, e) h
    · exact X.2.2.2 q (Nat.le_trans wS.1 h)
  refine ⟨hf, fun U hU hW => ⟨by rw [hU], by rw [hU]; exact hPb, va_K.moved hW.alike X.2.1, hDb.weaken (fun _ _ _ _ => trivial), ?_⟩⟩
  rw [hU]
  exact ST.warm hW wS.2.1 hf X.2.2.1
