/-! one row an instruction over a world of blocks -/
section RW
variable {p : Program} {l : Launch} {e : Env} {R : Room} {s : State} {m : MethodId} {args : Array Value} {below : List Frame} {meth : Method} {c : Code} {H : Heap} {locs : List Loc} {cells slots : Nat} {Q : State → Prop}
variable {cc : ByteArray} {nL pc : Nat} {ls : Array Slot} {rest st0 : List Value} {D : va_G} {A : Nat → Prop} {a : Nat} {ws ws' : va_W} {own : String}
/-- an instance field as an instruction of a class names it -/
def FL (own : String) (index ci k : Nat) : Prop := ∃ (C : String) (T : u_T) (N : Nat), (∀ w ∈ u_ws C T N, w ∈ lw_all) ∧ vwCl[ci]? = some (C, T, N) ∧ k < N ∧ Cond.fieldLink own index (T k).1 (T k).2.1 (T k).2.2.1 ∈ lw_all
/-- what a put of it wants beside -/
def FP (own : String) (index ci k : Nat) (ty : FieldType) (fin : Bool) : Prop := ∃ (C : String) (T : u_T) (N : Nat) (ty0 : Nat → FieldType), (∀ w ∈ u_ws C T N, w ∈ lw_all) ∧ vwCl[ci]? = some (C, T, N) ∧ k < N ∧ Cond.fieldLink own index (T k).1 (T k).2.1 (T k).2.2.1 ∈ lw_all ∧ (∀ k, k < N → parseFieldDescriptor (T k).2.2.1 = some (ty0 k)) ∧ (∀ a, a < N → ∀ b, b < N → a ≠ b → (T a).2.1 ≠ (T b).2.1) ∧ (T k).2.2.2 = fin ∧ parseFieldDescriptor (T k).2.2.1 = some ty ∧ (fin = true → (T k).1 = own)
theorem r_get (X : CX D p m c cc nL s args own A) (w : Wd D A s.heap H locs ws) {index ci k : Nat} {fs : List Value} {v : Value} (F : FL own index ci k) (hm : (a, .inr (ci, fs)) ∈ ws) (hv : fs[k]? = some v) (hdg : decode cc pc = .ok (.getfield index, 3))
    (kk : W p l e R s m args below meth c H locs cells slots Q (F0 m (pc + 3) ls (v :: rest))) : W p l e R s m args below meth c H locs cells slots Q (F0 m pc ls (.ref a :: rest)) := by
  obtain ⟨⟨hx, hb, hml, hown, hts⟩, hK, hST, hA⟩ := X
  obtain ⟨C, T, N, f1, f2, f3, f4⟩ := F
  obtain ⟨q0, hq⟩ := List.getElem?_of_mem hm
  exact va_get hx hb hts f1 hown hK w.1 q0 hq f2 k f3 (hts _ f4) (fun _ h => h) hv hdg kk
theorem r_put (X : CX D p m c cc nL s args own A) (w : Wd D A s.heap H locs ws) {index ci k : Nat} {fs : List Value} {v : Value} {ty : FieldType} (F : FP own index ci k ty false) (hn : narrow ty v = v) (hfit : fits ty v = true) (hl : k < fs.length) (hF : Foc ws [(a, .inr (ci, fs))] ws' [(a, .inr (ci, fs.set k v))]) (hdg : decode cc pc = .ok (.putfield index, 3))
    (kk : ∀ (H1 : Heap) (locs1 : List Loc), Wd D A s.heap H1 locs1 ws' → W p l e R s m args below meth c H1 locs1 cells slots Q (F0 m (pc + 3) ls rest)) : W p l e R s m args below meth c H locs cells slots Q (F0 m pc ls (v :: .ref a :: rest)) := by
  obtain ⟨⟨hx, hb, hml, hown, hts⟩, hK, hST, hA⟩ := X
  obtain ⟨C, T, N, ty0, f1, f2, f3, f4, f5, f6, f7, f8, -⟩ := F
  obtain ⟨r, p1, p2⟩ := hF
  have w' := w.perm p1
  exact va_put hx hb hts f1 ty0 f5 f6 hown hK w'.1 w'.2.1 w'.2.2 0 rfl f2 k f3 (hts _ f4) (fun _ h => h) f7 f8 hn hfit hl hdg (fun H1 locs1 hP hD hS => kk H1 locs1 (Wd.perm p2.symm ⟨hP, hD, hS⟩))
theorem r_puti (X : CX D p m c cc nL s args own A) (w : Wd D A s.heap H locs ws) {index ci k : Nat} {fs : List Value} {x : Int32} (F : FP own index ci k .int false) (hl : k < fs.length) (hF : Foc ws [(a, .inr (ci, fs))] ws' [(a, .inr (ci, fs.set k (.int x)))]) (hdg : decode cc pc = .ok (.putfield index, 3))
    (kk : ∀ (H1 : Heap) (locs1 : List Loc), Wd D A s.heap H1 locs1 ws' → W p l e R s m args below meth c H1 locs1 cells slots Q (F0 m (pc + 3) ls rest)) : W p l e R s m args below meth c H locs cells slots Q (F0 m pc ls (.int x :: .ref a :: rest)) := r_put X w F rfl rfl hl hF hdg kk
theorem r_putF (X : CX D p m c cc nL s args own A) (hin : meth.name = "<init>") (w : Wd D A s.heap H locs ws) {index ci k : Nat} {fs : List Value} {v : Value} {ty : FieldType} (F : FP own index ci k ty true) (hn : narrow ty v = v) (hfit : fits ty v = true) (hl : k < fs.length) (hF : Foc ws [(a, .inr (ci, fs))] ws' [(a, .inr (ci, fs.set k v))]) (hdg : decode cc pc = .ok (.putfield index, 3))
    (kk : ∀ (H1 : Heap) (locs1 : List Loc), Wd D A s.heap H1 locs1 ws' → W p l e R s m args below meth c H1 locs1 cells slots Q (F0 m (pc + 3) ls rest)) : W p l e R s m args below meth c H locs cells slots Q (F0 m pc ls (v :: .ref a :: rest)) := by
  obtain ⟨⟨hx, hb, hml, hown, hts⟩, hK, hST, hA⟩ := X
  obtain ⟨C, T, N, ty0, f1, f2, f3, f4, f5, f6, f7, f8, f9⟩ := F
  obtain ⟨r, p1, p2⟩ := hF
  have w' := w.perm p1
  exact va_putF hx hb hts f1 ty0 f5 f6 hown hK w'.1 w'.2.1 w'.2.2 0 rfl f2 k f3 (hts _ f4) (fun _ h => h) f7 hin (f9 rfl) f8 hn hfit hl hdg (fun H1 locs1 hP hD hS => kk H1 locs1 (Wd.perm p2.symm ⟨hP, hD, hS⟩))
theorem r_iald (X : CX D p m c cc nL s args own A) (w : Wd D A s.heap H locs ws) {n : Nat} {f : Nat → Int32} {i : Int32} (j : Nat) (hm : (a, .inl (D.1 100, n, .inl f)) ∈ ws) (hi : i = nI j) (hj : j < n) (hn : n < 2 ^ 31) (hdg : decode cc pc = .ok (.iaload, 1))
    (kk : W p l e R s m args below meth c H locs cells slots Q (F0 m (pc + 1) ls (.int (f j) :: rest))) : W p l e R s m args below meth c H locs cells slots Q (F0 m pc ls (.int i :: .ref a :: rest)) := by
  obtain ⟨⟨hx, hb, hml, hown, hts⟩, hK, hST, hA⟩ := X
  obtain ⟨q0, hq⟩ := List.getElem?_of_mem hm
  subst hi
  exact va_iald hx hb hK w.1 q0 0 hq rfl (vp_in_nI hj hn) hdg (by rw [nI_clamp (Nat.lt_trans hj hn)]; exact kk)
theorem r_cald (X : CX D p m c cc nL s args own A) (w : Wd D A s.heap H locs ws) {n : Nat} {f : Nat → Int32} {i : Int32} (j : Nat) (hm : (a, .inl (D.1 101, n, .inl f)) ∈ ws) (hi : i = nI j) (hj : j < n) (hn : n < 2 ^ 31) (hdg : decode cc pc = .ok (.caload, 1))
    (kk : W p l e R s m args below meth c H locs cells slots Q (F0 m (pc + 1) ls (.int (f j) :: rest))) : W p l e R s m args below meth c H locs cells slots Q (F0 m pc ls (.int i :: .ref a :: rest)) := by
  obtain ⟨⟨hx, hb, hml, hown, hts⟩, hK, hST, hA⟩ := X
  obtain ⟨q0, hq⟩ := List.getElem?_of_mem hm
  subst hi
  exact va_cald hx hb hK w.1 q0 1 hq rfl (vp_in_nI hj hn) hdg (by rw [nI_clamp (Nat.lt_trans hj hn)]; exact kk)
theorem r_ald2 (X : CX D p m c cc nL s args own A) (w : Wd D A s.heap H locs ws) {n q : Nat} {g : Nat → Option Nat} {i : Int32} (j : Nat) (hm : (a, .inl (D.1 102, n, .inr (.inr (.inr (.inr g))))) ∈ ws) (hi : i = nI j) (hj : j < n) (hn : n < 2 ^ 31) (hg : g j = some q) (hdg : decode cc pc = .ok (.aaload, 1))
    (kk : W p l e R s m args below meth c H locs cells slots Q (F0 m (pc + 1) ls (.ref q :: rest))) : W p l e R s m args below meth c H locs cells slots Q (F0 m pc ls (.int i :: .ref a :: rest)) := by
  obtain ⟨⟨hx, hb, hml, hown, hts⟩, hK, hST, hA⟩ := X
  obtain ⟨q0, hq⟩ := List.getElem?_of_mem hm
  subst hi
  have hlt : (nI j).toNatClampNeg < n := by rw [nI_clamp (Nat.lt_trans hj hn)]; exact hj
  exact W.aald (v := .ref q) (ty := .array .int) hx hb (w.1 q0 _ hq) ((hK.2 2 _ rfl).1 n (fun j => va_rf (g j))) rfl (fun q => by cases q) (by show ¬ (_ < 0 ∨ (arrV _ _ _).slots.size ≤ _); rw [arrV_size]; exact vp_in_nI hj hn) (by show (arrV _ _ _).slots[_]? = _; rw [arrV_read _ _ hlt, nI_clamp (Nat.lt_trans hj hn), hg]; rfl) rfl rfl hdg kk
theorem r_aldq (X : CX D p m c cc nL s args own A) (w : Wd D A s.heap H locs ws) {n q : Nat} {g : Nat → Option Nat} {i : Int32} (j : Nat) (hm : (a, .inl (D.1 103, n, .inr (.inr (.inr (.inr g))))) ∈ ws) (hi : i = nI j) (hj : j < n) (hn : n < 2 ^ 31) (hg : g j = some q) (hdg : decode cc pc = .ok (.aaload, 1))
    (kk : W p l e R s m args below meth c H locs cells slots Q (F0 m (pc + 1) ls (.ref q :: rest))) : W p l e R s m args below meth c H locs cells slots Q (F0 m pc ls (.int i :: .ref a :: rest)) := by
  obtain ⟨⟨hx, hb, hml, hown, hts⟩, hK, hST, hA⟩ := X
  obtain ⟨q0, hq⟩ := List.getElem?_of_mem hm
  subst hi
  exact va_aldq hx hb hK w.1 q0 3 hq rfl (vp_in_nI hj hn) hdg (by rw [nI_clamp (Nat.lt_trans hj hn), hg]; exact kk)
theorem r_iast (X : CX D p m c cc nL s args own A) (w : Wd D A s.heap H locs ws) {n : Nat} {f : Nat → Int32} {i x : Int32} (j : Nat) (hi : i = nI j) (hj : j < n) (hn : n < 2 ^ 31) (hF : Foc ws [(a, .inl (D.1 100, n, .inl f))] ws' [(a, .inl (D.1 100, n, .inl (upd f j x)))]) (hdg : decode cc pc = .ok (.iastore, 1))
    (kk : ∀ (H1 : Heap) (locs1 : List Loc), Wd D A s.heap H1 locs1 ws' → W p l e R s m args below meth c H1 locs1 cells slots Q (F0 m (pc + 1) ls rest)) : W p l e R s m args below meth c H locs cells slots Q (F0 m pc ls (.int x :: .int i :: .ref a :: rest)) := by
  obtain ⟨⟨hx, hb, hml, hown, hts⟩, hK, hST, hA⟩ := X
  obtain ⟨r, p1, p2⟩ := hF
  have w' := w.perm p1
  subst hi
  exact va_iast hx hb hK w'.1 w'.2.1 w'.2.2 0 0 rfl rfl (vp_in_nI hj hn) hdg (fun H1 locs1 hP hD hS => kk H1 locs1 (by
    rw [nI_clamp (Nat.lt_trans hj hn)] at hP hD
    exact Wd.perm p2.symm ⟨hP, hD, hS⟩))
theorem r_cast (X : CX D p m c cc nL s args own A) (w : Wd D A s.heap H locs ws) {n : Nat} {f : Nat → Int32} {i x : Int32} (j : Nat) (hi : i = nI j) (hj : j < n) (hn : n < 2 ^ 31) (hv : vp_nar .char x = x) (hF : Foc ws [(a, .inl (D.1 101, n, .inl f))] ws' [(a, .inl (D.1 101, n, .inl (upd f j x)))]) (hdg : decode cc pc = .ok (.castore, 1))
    (kk : ∀ (H1 : Heap) (locs1 : List Loc), Wd D A s.heap H1 locs1 ws' → W p l e R s m args below meth c H1 locs1 cells slots Q (F0 m (pc + 1) ls rest)) : W p l e R s m args below meth c H locs cells slots Q (F0 m pc ls (.int x :: .int i :: .ref a :: rest)) := by
  obtain ⟨⟨hx, hb, hml, hown, hts⟩, hK, hST, hA⟩ := X
  obtain ⟨r, p1, p2⟩ := hF
  have w' := w.perm p1
  subst hi
  exact va_cast hx hb hK w'.1 w'.2.1 w'.2.2 0 1 rfl rfl (vp_in_nI hj hn) hdg (fun H1 locs1 hP hD hS => kk H1 locs1 (by
    rw [nI_clamp (Nat.lt_trans hj hn), hv] at hP hD
    exact Wd.perm p2.symm ⟨hP, hD, hS⟩))
theorem r_astq (X : CX D p m c cc nL s args own A) (w : Wd D A s.heap H locs ws) {n v : Nat} {g : Nat → Option Nat} {vs : List Value} {i : Int32} (j : Nat) (hi : i = nI j) (hj : j < n) (hn : n < 2 ^ 31) (hm : (v, .inr (3, vs)) ∈ ws) (hF : Foc ws [(a, .inl (D.1 103, n, .inr (.inr (.inr (.inr g)))))] ws' [(a, .inl (D.1 103, n, .inr (.inr (.inr (.inr (va_up g j (some v)))))))]) (hdg : decode cc pc = .ok (.aastore, 1))
    (kk : ∀ (H1 : Heap) (locs1 : List Loc), Wd D A s.heap H1 locs1 ws' → W p l e R s m args below meth c H1 locs1 cells slots Q (F0 m (pc + 1) ls rest)) : W p l e R s m args below meth c H locs cells slots Q (F0 m pc ls (.ref v :: .int i :: .ref a :: rest)) := by
  obtain ⟨⟨hx, hb, hml, hown, hts⟩, hK, hST, hA⟩ := X
  obtain ⟨r, p1, p2⟩ := hF
  have w' := w.perm p1
  obtain ⟨qk, hqk⟩ := List.getElem?_of_mem (p1.mem_iff.mp hm)
  subst hi
  exact va_astq (r := (RX3, TX3, 11)) hx hb hK w'.1 w'.2.1 w'.2.2 0 3 qk 3 rfl rfl hqk rfl (vp_in_nI hj hn) hdg (fun H1 locs1 hP hD hS => kk H1 locs1 (by
    rw [nI_clamp (Nat.lt_trans hj hn)] at hP hD
    exact Wd.perm p2.symm ⟨hP, hD, hS⟩))
/-- System.arraycopy between two int arrays of the world -/
def AC (own : String) (index : Nat) : Prop := Cond.methodLink own index arraycopyName ∈ lw_all ∧ Cond.native arraycopyName ∈ lw_all ∧ Cond.static arraycopyName ∈ lw_all ∧ Cond.initialized "java/lang/System" ∈ lw_all
theorem r_copy (X : CX D p m c cc nL s args own A) (w : Wd D A s.heap H locs ws) {index n0 n1 a0 : Nat} {f g : Nat → Int32} {i0 i1 i2 : Int32} (sp dp n : Nat) (F : AC own index) (hm : (a0, .inl (D.1 100, n0, .inl f)) ∈ ws) (e0 : i0 = nI sp) (e1 : i1 = nI dp) (e2 : i2 = nI n) (h4 : sp + n ≤ n0) (h5 : dp + n ≤ n1) (h0 : n0 < 2 ^ 31) (h1 : n1 < 2 ^ 31)
    (hF : Foc ws [(a, .inl (D.1 100, n1, .inl g))] ws' [(a, .inl (D.1 100, n1, .inl (va_cpy f g sp dp n)))]) (hsize : ls.size = nL) (hR : 1 ≤ R.frames ∧ (rest.map fun v => v.category).sum + (nativeFrameWords "java/lang/System" "arraycopy" 5 + 11) ≤ R.locals) (hdg : decode cc pc = .ok (.invokestatic index, 3))
    (kk : ∀ (H1 : Heap) (locs1 : List Loc), Wd D A s.heap H1 locs1 ws' → W p l e R s m args below meth c H1 locs1 cells slots Q (F0 m (pc + 3) ls rest)) : W p l e R s m args below meth c H locs cells slots Q (F0 m pc ls (.int i2 :: .int i1 :: .ref a :: .int i0 :: .ref a0 :: rest)) := by
  obtain ⟨⟨hx, hb, hml, hown, hts⟩, hK, hST, hA⟩ := X
  obtain ⟨r, p1, p2⟩ := hF
  have w' := w.perm p1
  obtain ⟨qk, hqk⟩ := List.getElem?_of_mem (p1.mem_iff.mp hm)
  subst e0; subst e1; subst e2
  have b0 : sp < 2 ^ 31 := by omega
  have b1 : dp < 2 ^ 31 := by omega
  have b2 : n < 2 ^ 31 := by omega
  exact va_copyi (ty := .int) hx hb (hml.trans hsize.symm) hown (hts _ F.1) (hts _ F.2.1) (hts _ F.2.2.1) (hts _ F.2.2.2) hK w'.1 w'.2.1 w'.2.2 qk 0 0 0 hqk rfl rfl rfl rfl (nI_pos b0) (nI_pos b1) (nI_pos b2) (by rw [nI_clamp b0, nI_clamp b2]; exact h4) (by rw [nI_clamp b1, nI_clamp b2]; exact h5) (fun _ _ => rfl) hR.1 hR.2 hdg (fun H1 locs1 hP hD hS => kk H1 locs1 (by
    rw [nI_clamp b0, nI_clamp b1, nI_clamp b2] at hP hD
    exact Wd.perm p2.symm ⟨hP, hD, hS⟩))
theorem r_tiald (X : CX D p m c cc nL s args own A) (w : Wd D A s.heap H locs ws) {t : Nat} {L : List Int32} {i : Int32} (j : Nat) (hT : va_T .int t L.length (fun j => .int (kf L j)) A s s.heap) (hi : i = nI j) (hj : j < L.length) (hn : L.length < 2 ^ 31) (hdg : decode cc pc = .ok (.iaload, 1))
    (kk : W p l e R s m args below meth c H locs cells slots Q (F0 m (pc + 1) ls (.int (kf L j) :: rest))) : W p l e R s m args below meth c H locs cells slots Q (F0 m pc ls (.int i :: .ref t :: rest)) := by
  obtain ⟨⟨hx, hb, hml, hown, hts⟩, hK, hST, hA⟩ := X
  subst hi
  exact va_ti hx hb hT w.2.2 (vp_in_nI hj hn) (by rw [nI_clamp (Nat.lt_trans hj hn)]) hdg kk
/-- getstatic of a table of the program, by a nest mate -/
theorem r_getsN (X : CX D p m c cc nL s args own A) (w : Wd D A s.heap H locs ws) {n : String} {L : List Int32} {index : Nat} (hT : STn n L A s s.heap) (hl : va_Nw (.fieldLinkNest own index RX6 n "[I" RX6) s) (hdg : decode cc pc = .ok (.getstatic index, 3))
    (kk : ∀ t : Nat, va_T .int t L.length (fun j => .int (kf L j)) A s s.heap → W p l e R s m args below meth c H locs cells slots Q (F0 m (pc + 3) ls (.ref t :: rest))) : W p l e R s m args below meth c H locs cells slots Q (F0 m pc ls rest) := by
  obtain ⟨⟨hx, hb, hml, hown, hts⟩, hK, hST, hA⟩ := X
  obtain ⟨t, h1, h2⟩ := hT
  exact va_getsN hx hb h1 w.2.2 hown (va_Nw.use rfl hl) (fun _ h => h) hdg (kk t h2)
theorem r_gets (X : CX D p m c cc nL s args own A) (w : Wd D A s.heap H locs ws) {n : String} {L : List Int32} {index : Nat} (hT : STn n L A s s.heap) (hl : Cond.fieldLink own index RX6 n "[I" ∈ lw_all) (hdg : decode cc pc = .ok (.getstatic index, 3))
    (kk : ∀ t : Nat, va_T .int t L.length (fun j => .int (kf L j)) A s s.heap → W p l e R s m args below meth c H locs cells slots Q (F0 m (pc + 3) ls (.ref t :: rest))) : W p l e R s m args below meth c H locs cells slots Q (F0 m pc ls rest) := by
  obtain ⟨⟨hx, hb, hml, hown, hts⟩, hK, hST, hA⟩ := X
  obtain ⟨t, h1, h2⟩ := hT
  exact va_gets hx hb h1 w.2.2 hown (hts _ hl) (fun _ h => h) hdg (kk t h2)
/-- what a call links -/
def LB (own : String) (index : Nat) (y : MethodName) (cy : ByteArray) (ny : Nat) (ret : Option FieldType) (n : Nat) : Prop :=
  Cond.code y cy ny ret ∈ lw_all ∧ Cond.initialized y.cls ∈ lw_all ∧ Cond.methodLink own index y ∈ lw_all ∧ (y.cls ≠ "java/lang/invoke/MethodHandle" ∧ y.cls ≠ "java/lang/invoke/VarHandle" ∧ (parseMethodDescriptor y.desc).map (fun d => d.parameters.length) = some n)
def LBN (y : MethodName) (cy : ByteArray) (ny : Nat) (ret : Option FieldType) (n : Nat) : Prop :=
  Cond.code y cy ny ret ∈ lw_all ∧ Cond.initialized y.cls ∈ lw_all ∧ Cond.static y ∈ lw_all ∧ (y.cls ≠ "java/lang/invoke/MethodHandle" ∧ y.cls ≠ "java/lang/invoke/VarHandle" ∧ (parseMethodDescriptor y.desc).map (fun d => d.parameters.length) = some n)
def LV (own : String) (index : Nat) (y : MethodName) (cy : ByteArray) (ny : Nat) (ret : Option FieldType) (n ci : Nat) : Prop :=
  LB own index y cy ny ret n ∧ Cond.instanceMethod y ∈ lw_all ∧ Cond.selects y.cls y y ∈ lw_all ∧ ∃ (T : u_T) (N : Nat), vwCl[ci]? = some (y.cls, T, N)
def LkS (own : String) (index : Nat) (y : MethodName) (cy : ByteArray) (ny : Nat) (ret : Option FieldType) (n : Nat) : Prop := LB own index y cy ny ret n ∧ Cond.static y ∈ lw_all
def LI (own : String) (index : Nat) (y : MethodName) (cy : ByteArray) (ny : Nat) (n : Nat) : Prop := LB own index y cy ny none n ∧ y.name = "<init>" ∧ Cond.instanceMethod y ∈ lw_all
abbrev rmOf (fr mc ms lo : Nat) : Room := { frames := fr, cells := mc, slots := ms, locals := lo }
theorem r_runV (X : CX D p m c cc nL s args own A) (w : Wd D A s.heap H locs ws) {y : MethodName} {cy : ByteArray} {ny index n ci fr mc ms lo : Nat} {ret : Option FieldType} {As rest : List Value} {b r : va_W} {Qc : Array Value → State → Outcome → State → Prop} {free : Addr → Prop} {fs : List Value}
    (L : LV own index y cy ny ret n ci) (hM : Met l y (WS y cy ny ret) (rmOf fr mc ms lo) (va_Pc (.ref a :: As) (PreW D H.size b)) Qc mc ms free) (hp : ws.Perm (b ++ r)) (hm : (a, .inr (ci, fs)) ∈ ws) (hn : As.length = n) (hsize : ls.size = nL) (hroom : (rest.map fun v => v.category).sum ≤ 8) (hR : fr + 1 ≤ R.frames ∧ 8 + (ny + 11) + lo ≤ R.locals) (hf : cells + mc ≤ R.cells ∧ slots + ms ≤ R.slots) (hst : st0 = As.reverse ++ .ref a :: rest) (hdg : decode cc pc = .ok (.invokevirtual index, 3)) :
    va_Run p l e R s m args below meth c H locs cells slots mc ms (F0 m pc ls st0) rest (Qc (Value.ref a :: As).toArray) free := by
  obtain ⟨hf0, hpre⟩ := Wd.call X w hp
  obtain ⟨⟨hx, hb, hml, hown, hts⟩, hK, hST, hA⟩ := X
  obtain ⟨⟨l1, l2, l3, l4⟩, l5, l6, T, N, l7⟩ := L
  obtain ⟨q0, hq⟩ := List.getElem?_of_mem hm
  exact va_runV (As := As) (rest := rest) ⟨hx, hb, hml, hown, hts⟩ hM ⟨callB_of n hts (good_all l1) rfl rfl rfl (hts _ l2) (hts _ l3) l4 hR, hts _ l5, hts _ l6⟩ ⟨PreW.blind, va_recv hK w.1 l7 hq, fun U hU hW => ⟨rfl, hpre U hU hW⟩⟩ rfl hn hsize hst (lv_room hroom) hdg hf
theorem r_runS (X : CX D p m c cc nL s args own A) (w : Wd D A s.heap H locs ws) {y : MethodName} {cy : ByteArray} {ny index n fr mc ms lo : Nat} {ret : Option FieldType} {As rest : List Value} {b r : va_W} {Qc : Array Value → State → Outcome → State → Prop} {free : Addr → Prop}
    (L : LkS own index y cy ny ret n) (hM : Met l y (WS y cy ny ret) (rmOf fr mc ms lo) (va_Pc As (PreW D H.size b)) Qc mc ms free) (hp : ws.Perm (b ++ r)) (hn : As.length = n) (hsize : ls.size = nL) (hroom : (rest.map fun v => v.category).sum ≤ 8) (hR : fr + 1 ≤ R.frames ∧ 8 + (ny + 11) + lo ≤ R.locals) (hf : cells + mc ≤ R.cells ∧ slots + ms ≤ R.slots) (hst : st0 = As.reverse ++ rest) (hdg : decode cc pc = .ok (.invokestatic index, 3)) :
    va_Run p l e R s m args below meth c H locs cells slots mc ms (F0 m pc ls st0) rest (Qc As.toArray) free := by
  obtain ⟨hf0, hpre⟩ := Wd.call X w hp
  obtain ⟨⟨hx, hb, hml, hown, hts⟩, hK, hST, hA⟩ := X
  obtain ⟨⟨l1, l2, l3, l4⟩, l5⟩ := L
  exact va_runS (As := As) (rest := rest) ⟨hx, hb, hml, hown, hts⟩ hM ⟨callB_of n hts (good_all l1) rfl rfl rfl (hts _ l2) (hts _ l3) l4 hR, hts _ l5⟩ ⟨PreW.blind, fun U hU hW => ⟨rfl, hpre U hU hW⟩⟩ rfl hn hsize hst (lv_room hroom) hdg hf
theorem r_runSN (X : CX D p m c cc nL s args own A) (w : Wd D A s.heap H locs ws) {y : MethodName} {cy : ByteArray} {ny index n fr mc ms lo : Nat} {ret : Option FieldType} {As rest : List Value} {b r : va_W} {Qc : Array Value → State → Outcome → State → Prop} {free : Addr → Prop}
    (L : LBN y cy ny ret n) (hl : va_Nw (.methodLinkNest own index y RX6) s) (hM : Met l y (WS y cy ny ret) (rmOf fr mc ms lo) (va_Pc As (PreW D H.size b)) Qc mc ms free) (hp : ws.Perm (b ++ r)) (hn : As.length = n) (hsize : ls.size = nL) (hroom : (rest.map fun v => v.category).sum ≤ 8) (hR : fr + 1 ≤ R.frames ∧ 8 + (ny + 11) + lo ≤ R.locals) (hf : cells + mc ≤ R.cells ∧ slots + ms ≤ R.slots) (hst : st0 = As.reverse ++ rest) (hdg : decode cc pc = .ok (.invokestatic index, 3)) :
    va_Run p l e R s m args below meth c H locs cells slots mc ms (F0 m pc ls st0) rest (Qc As.toArray) free := by
  obtain ⟨hf0, hpre⟩ := Wd.call X w hp
  obtain ⟨⟨hx, hb, hml, hown, hts⟩, hK, hST, hA⟩ := X
  obtain ⟨l1, l2, l3, l4⟩ := L
  exact va_runSN (As := As) (rest := rest) (host := RX6) ⟨hx, hb, hml, hown, hts⟩ hM ⟨va_cnB n hts (good_all l1) rfl rfl rfl hl (hts _ l2) l4 hR, hts _ l3, trivial⟩ ⟨PreW.blind, fun U hU hW => ⟨rfl, hpre U hU hW⟩⟩ rfl hn hsize hst (lv_room hroom) hdg hf
theorem r_runI (X : CX D p m c cc nL s args own A) (w : Wd D A s.heap H locs ws) {y : MethodName} {cy : ByteArray} {ny index n fr mc ms lo : Nat} {As rest : List Value} {b r : va_W} {Qc : Array Value → State → Outcome → State → Prop} {free : Addr → Prop}
    (L : LI own index y cy ny n) (hM : Met l y (WS y cy ny none) (rmOf fr mc ms lo) (va_Pc (.ref a :: As) (PreW D H.size b)) Qc mc ms free) (hp : ws.Perm (b ++ r)) (hn : As.length = n) (hsize : ls.size = nL) (hroom : (rest.map fun v => v.category).sum ≤ 8) (hR : fr + 1 ≤ R.frames ∧ 8 + (ny + 11) + lo ≤ R.locals) (hf : cells + mc ≤ R.cells ∧ slots + ms ≤ R.slots) (hst : st0 = As.reverse ++ .ref a :: rest) (hdg : decode cc pc = .ok (.invokespecial index, 3)) :
    va_Run p l e R s m args below meth c H locs cells slots mc ms (F0 m pc ls st0) rest (Qc (Value.ref a :: As).toArray) free := by
  obtain ⟨hf0, hpre⟩ := Wd.call X w hp
  obtain ⟨⟨hx, hb, hml, hown, hts⟩, hK, hST, hA⟩ := X
  obtain ⟨⟨l1, l2, l3, l4⟩, l5, l6⟩ := L
  exact va_runI (As := As) (rest := rest) ⟨hx, hb, hml, hown, hts⟩ hM ⟨callB_of n hts (good_all l1) rfl rfl rfl (hts _ l2) (hts _ l3) l4 hR, l5, hts _ l6⟩ ⟨PreW.blind, fun U hU hW => ⟨rfl, hpre U hU hW⟩⟩ rfl hn hsize hst (lv_room hroom) hdg hf
/-- a call that answers a number, and goes on in the world that it leaves -/
theorem r_goI {S : Type} (X : CX D p m c cc nL s args own A) (w : Wd D A s.heap H locs ws) {mc ms : Nat} {a9 : Array Value} {b : va_W} {W1 b1 : S → va_W} {post : Int32 → S → Prop} (hF : FocU ws b W1 b1)
    (hr : va_Run p l e R s m args below meth c H locs cells slots mc ms (F0 m pc ls st0) rest (va_Qi post (fun u t => EndW D (va_A b H.size) (b1 u) t) (va_A b H.size) a9) (va_A b H.size))
    (kk : ∀ (r : Int32) (u : S) (H1 : Heap) (locs1 : List Loc), post r u → Wd D A s.heap H1 locs1 (W1 u) → W p l e R s m args below meth c H1 locs1 (cells + mc) (slots + ms) Q (F0 m (pc + 3) ls (.int r :: rest))) : W p l e R s m args below meth c H locs cells slots Q (F0 m pc ls st0) := by
  obtain ⟨r0, p1, p2⟩ := hF
  obtain ⟨hf0, -⟩ := Wd.call X w p1
  refine va_calli hr w.2.2 (fun q _ h => hf0 q h) hf0 (fun r u t H1 locs1 ht hvm hw hB hz hk hS => ?_)
  obtain ⟨hP1, hD1⟩ := hB
  rw [ht] at hP1
  obtain ⟨j1, j2⟩ := join_core w.1 w.2.1 p1 (p2 u) hk hf0 hP1 hD1
  exact kk r u H1 locs1 hw ⟨j1, j2, hS⟩
theorem r_goV {S : Type} (X : CX D p m c cc nL s args own A) (w : Wd D A s.heap H locs ws) {mc ms : Nat} {a9 : Array Value} {b : va_W} {W1 b1 : S → va_W} {post : S → Prop} (hF : FocU ws b W1 b1)
    (hr : va_Run p l e R s m args below meth c H locs cells slots mc ms (F0 m pc ls st0) rest (va_Qv post (fun u t => EndW D (va_A b H.size) (b1 u) t) (va_A b H.size) a9) (va_A b H.size))
    (kk : ∀ (u : S) (H1 : Heap) (locs1 : List Loc), post u → Wd D A s.heap H1 locs1 (W1 u) → W p l e R s m args below meth c H1 locs1 (cells + mc) (slots + ms) Q (F0 m (pc + 3) ls rest)) : W p l e R s m args below meth c H locs cells slots Q (F0 m pc ls st0) := by
  obtain ⟨r0, p1, p2⟩ := hF
  obtain ⟨hf0, -⟩ := Wd.call X w p1
  refine va_callv hr w.2.2 (fun q _ h => hf0 q h) hf0 (fun u t H1 locs1 ht hvm hw hB hz hk hS => ?_)
  obtain ⟨hP1, hD1⟩ := hB
  rw [ht] at hP1
  obtain ⟨j1, j2⟩ := join_core w.1 w.2.1 p1 (p2 u) hk hf0 hP1 hD1
  exact kk u H1 locs1 hw ⟨j1, j2, hS⟩
/-- contracts: what a method answers and what becomes of its world; nothing is made -/
abbrev MI (l : Launch) (y : MethodName) (cy : ByteArray) (ny : Nat) (ret : Option FieldType) (fr lo : Nat) (D : va_G) (sz : Nat) (As : List Value) (b : va_W) (r : Int32) (b' : va_W) : Prop :=
  Met l y (WS y cy ny ret) (rmOf fr 0 0 lo) (va_Pc As (PreW D sz b)) (va_Qi (fun (r' : Int32) (_ : Unit) => r' = r) (fun _ t => EndW D (va_A b sz) b' t) (va_A b sz)) 0 0 (va_A b sz)
abbrev MV (l : Launch) (y : MethodName) (cy : ByteArray) (ny : Nat) (fr lo : Nat) (D : va_G) (sz : Nat) (As : List Value) (b b' : va_W) : Prop :=
  Met l y (WS y cy ny none) (rmOf fr 0 0 lo) (va_Pc As (PreW D sz b)) (va_Qv (fun (_ : Unit) => True) (fun _ t => EndW D (va_A b sz) b' t) (va_A b sz)) 0 0 (va_A b sz)
abbrev MIU {S : Type} (l : Launch) (y : MethodName) (cy : ByteArray) (ny : Nat) (ret : Option FieldType) (fr lo : Nat) (D : va_G) (sz : Nat) (As : List Value) (b : va_W) (r : Int32) (post : S → Prop) (b' : S → va_W) : Prop :=
  Met l y (WS y cy ny ret) (rmOf fr 0 0 lo) (va_Pc As (PreW D sz b)) (va_Qi (fun (r' : Int32) (u : S) => r' = r ∧ post u) (fun u t => EndW D (va_A b sz) (b' u) t) (va_A b sz)) 0 0 (va_A b sz)
abbrev MVU {S : Type} (l : Launch) (y : MethodName) (cy : ByteArray) (ny : Nat) (fr lo : Nat) (D : va_G) (sz : Nat) (As : List Value) (b : va_W) (post : S → Prop) (b' : S → va_W) : Prop :=
  Met l y (WS y cy ny none) (rmOf fr 0 0 lo) (va_Pc As (PreW D sz b)) (va_Qv (fun (u : S) => post u) (fun u t => EndW D (va_A b sz) (b' u) t) (va_A b sz)) 0 0 (va_A b sz)
theorem r_callV (X : CX D p m c cc nL s args own A) (w : Wd D A s.heap H locs ws) {y : MethodName} {cy : ByteArray} {ny index n ci fr lo : Nat} {ret : Option FieldType} {As rest : List Value} {b b' : va_W} {fs : List Value} {r : Int32}
    (L : LV own index y cy ny ret n ci) (hM : MI l y cy ny ret fr lo D H.size (.ref a :: As) b r b') (hF : Foc ws b ws' b') (hm : (a, .inr (ci, fs)) ∈ ws) (hn : As.length = n) (hsize : ls.size = nL) (hroom : (rest.map fun v => v.category).sum ≤ 8) (hR : fr + 1 ≤ R.frames ∧ 8 + (ny + 11) + lo ≤ R.locals) (hst : st0 = As.reverse ++ .ref a :: rest) (hdg : decode cc pc = .ok (.invokevirtual index, 3)) (hf : cells ≤ R.cells ∧ slots ≤ R.slots)
    (kk : ∀ (H1 : Heap) (locs1 : List Loc), Wd D A s.heap H1 locs1 ws' → W p l e R s m args below meth c H1 locs1 cells slots Q (F0 m (pc + 3) ls (.int r :: rest))) : W p l e R s m args below meth c H locs cells slots Q (F0 m pc ls st0) := by
  have hF' := FocU.of hF
  obtain ⟨r0, p1, p2⟩ := id hF'
  exact r_goI X w hF' (r_runV X w L hM p1 hm hn hsize hroom hR hf hst hdg) (fun r' u H1 locs1 hr w1 => by rw [hr]; exact kk H1 locs1 w1)
theorem r_callVv (X : CX D p m c cc nL s args own A) (w : Wd D A s.heap H locs ws) {y : MethodName} {cy : ByteArray} {ny index n ci fr lo : Nat} {As rest : List Value} {b b' : va_W} {fs : List Value}
    (L : LV own index y cy ny none n ci) (hM : MV l y cy ny fr lo D H.size (.ref a :: As) b b') (hF : Foc ws b ws' b') (hm : (a, .inr (ci, fs)) ∈ ws) (hn : As.length = n) (hsize : ls.size = nL) (hroom : (rest.map fun v => v.category).sum ≤ 8) (hR : fr + 1 ≤ R.frames ∧ 8 + (ny + 11) + lo ≤ R.locals) (hst : st0 = As.reverse ++ .ref a :: rest) (hdg : decode cc pc = .ok (.invokevirtual index, 3)) (hf : cells ≤ R.cells ∧ slots ≤ R.slots)
    (kk : ∀ (H1 : Heap) (locs1 : List Loc), Wd D A s.heap H1 locs1 ws' → W p l e R s m args below meth c H1 locs1 cells slots Q (F0 m (pc + 3) ls rest)) : W p l e R s m args below meth c H locs cells slots Q (F0 m pc ls st0) := by
  have hF' := FocU.of hF
  obtain ⟨r0, p1, p2⟩ := id hF'
  exact r_goV X w hF' (r_runV X w L hM p1 hm hn hsize hroom hR hf hst hdg) (fun u H1 locs1 _ w1 => kk H1 locs1 w1)
theorem r_callS (X : CX D p m c cc nL s args own A) (w : Wd D A s.heap H locs ws) {y : MethodName} {cy : ByteArray} {ny index n fr lo : Nat} {ret : Option FieldType} {As rest : List Value} {b b' : va_W} {r : Int32}
    (L : LkS own index y cy ny ret n) (hM : MI l y cy ny ret fr lo D H.size As b r b') (hF : Foc ws b ws' b') (hn : As.length = n) (hsize : ls.size = nL) (hroom : (rest.map fun v => v.category).sum ≤ 8) (hR : fr + 1 ≤ R.frames ∧ 8 + (ny + 11) + lo ≤ R.locals) (hst : st0 = As.reverse ++ rest) (hdg : decode cc pc = .ok (.invokestatic index, 3)) (hf : cells ≤ R.cells ∧ slots ≤ R.slots)
    (kk : ∀ (H1 : Heap) (locs1 : List Loc), Wd D A s.heap H1 locs1 ws' → W p l e R s m args below meth c H1 locs1 cells slots Q (F0 m (pc + 3) ls (.int r :: rest))) : W p l e R s m args below meth c H locs cells slots Q (F0 m pc ls st0) := by
  have hF' := FocU.of hF
  obtain ⟨r0, p1, p2⟩ := id hF'
  exact r_goI X w hF' (r_runS X w L hM p1 hn hsize hroom hR hf hst hdg) (fun r' u H1 locs1 hr w1 => by rw [hr]; exact kk H1 locs1 w1)
theorem r_callSv (X : CX D p m c cc nL s args own A) (w : Wd D A s.heap H locs ws) {y : MethodName} {cy : ByteArray} {ny index n fr lo : Nat} {As rest : List Value} {b b' : va_W}
    (L : LkS own index y cy ny none n) (hM : MV l y cy ny fr lo D H.size As b b') (hF : Foc ws b ws' b') (hn : As.length = n) (hsize : ls.size = nL) (hroom : (rest.map fun v => v.category).sum ≤ 8) (hR : fr + 1 ≤ R.frames ∧ 8 + (ny + 11) + lo ≤ R.locals) (hst : st0 = As.reverse ++ rest) (hdg : decode cc pc = .ok (.invokestatic index, 3)) (hf : cells ≤ R.cells ∧ slots ≤ R.slots)
    (kk : ∀ (H1 : Heap) (locs1 : List Loc), Wd D A s.heap H1 locs1 ws' → W p l e R s m args below meth c H1 locs1 cells slots Q (F0 m (pc + 3) ls rest)) : W p l e R s m args below meth c H locs cells slots Q (F0 m pc ls st0) := by
  have hF' := FocU.of hF
  obtain ⟨r0, p1, p2⟩ := id hF'
  exact r_goV X w hF' (r_runS X w L hM p1 hn hsize hroom hR hf hst hdg) (fun u H1 locs1 _ w1 => kk H1 locs1 w1)
theorem r_callSN (X : CX D p m c cc nL s args own A) (w : Wd D A s.heap H locs ws) {y : MethodName} {cy : ByteArray} {ny index n fr lo : Nat} {ret : Option FieldType} {As rest : List Value} {b b' : va_W} {r : Int32}
    (L : LBN y cy ny ret n) (hl : va_Nw (.methodLinkNest own index y RX6) s) (hM : MI l y cy ny ret fr lo D H.size As b r b') (hF : Foc ws b ws' b') (hn : As.length = n) (hsize : ls.size = nL) (hroom : (rest.map fun v => v.category).sum ≤ 8) (hR : fr + 1 ≤ R.frames ∧ 8 + (ny + 11) + lo ≤ R.locals) (hst : st0 = As.reverse ++ rest) (hdg : decode cc pc = .ok (.invokestatic index, 3)) (hf : cells ≤ R.cells ∧ slots ≤ R.slots)
    (kk : ∀ (H1 : Heap) (locs1 : List Loc), Wd D A s.heap H1 locs1 ws' → W p l e R s m args below meth c H1 locs1 cells slots Q (F0 m (pc + 3) ls (.int r :: rest))) : W p l e R s m args below meth c H locs cells slots Q (F0 m pc ls st0) := by
  have hF' := FocU.of hF
  obtain ⟨r0, p1, p2⟩ := id hF'
  exact r_goI X w hF' (r_runSN X w L hl hM p1 hn hsize hroom hR hf hst hdg) (fun r' u H1 locs1 hr w1 => by rw [hr]; exact kk H1 locs1 w1)
theorem r_callVU {S : Type} (X : CX D p m c cc nL s args own A) (w : Wd D A s.heap H locs ws) {y : MethodName} {cy : ByteArray} {ny index n ci fr lo : Nat} {ret : Option FieldType} {As rest : List Value} {b : va_W} {b' W1 : S → va_W} {fs : List Value} {r : Int32} {post : S → Prop}
    (L : LV own index y cy ny ret n ci) (hM : MIU l y cy ny ret fr lo D H.size (.ref a :: As) b r post b') (hF : FocU ws b W1 b') (hm : (a, .inr (ci, fs)) ∈ ws) (hn : As.length = n) (hsize : ls.size = nL) (hroom : (rest.map fun v => v.category).sum ≤ 8) (hR : fr + 1 ≤ R.frames ∧ 8 + (ny + 11) + lo ≤ R.locals) (hst : st0 = As.reverse ++ .ref a :: rest) (hdg : decode cc pc = .ok (.invokevirtual index, 3)) (hf : cells ≤ R.cells ∧ slots ≤ R.slots)
    (kk : ∀ (u : S) (H1 : Heap) (locs1 : List Loc), post u → Wd D A s.heap H1 locs1 (W1 u) → W p l e R s m args below meth c H1 locs1 cells slots Q (F0 m (pc + 3) ls (.int r :: rest))) : W p l e R s m args below meth c H locs cells slots Q (F0 m pc ls st0) := by
  obtain ⟨r0, p1, p2⟩ := id hF
  exact r_goI X w hF (r_runV X w L hM p1 hm hn hsize hroom hR hf hst hdg) (fun r' u H1 locs1 hr w1 => by rw [hr.1]; exact kk u H1 locs1 hr.2 w1)
theorem r_callVvU {S : Type} (X : CX D p m c cc nL s args own A) (w : Wd D A s.heap H locs ws) {y : MethodName} {cy : ByteArray} {ny index n ci fr lo : Nat} {As rest : List Value} {b : va_W} {b' W1 : S → va_W} {fs : List Value} {post : S → Prop}
    (L : LV own index y cy ny none n ci) (hM : MVU l y cy ny fr lo D H.size (.ref a :: As) b post b') (hF : FocU ws b W1 b') (hm : (a, .inr (ci, fs)) ∈ ws) (hn : As.length = n) (hsize : ls.size = nL) (hroom : (rest.map fun v => v.category).sum ≤ 8) (hR : fr + 1 ≤ R.frames ∧ 8 + (ny + 11) + lo ≤ R.locals) (hst : st0 = As.reverse ++ .ref a :: rest) (hdg : decode cc pc = .ok (.invokevirtual index, 3)) (hf : cells ≤ R.cells ∧ slots ≤ R.slots)
    (kk : ∀ (u : S) (H1 : Heap) (locs1 : List Loc), post u → Wd D A s.heap H1 locs1 (W1 u) → W p l e R s m args below meth c H1 locs1 cells slots Q (F0 m (pc + 3) ls rest)) : W p l e R s m args below meth c H locs cells slots Q (F0 m pc ls st0) := by
  obtain ⟨r0, p1, p2⟩ := id hF
  exact r_goV X w hF (r_runV X w L hM p1 hm hn hsize hroom hR hf hst hdg) (fun u H1 locs1 hr w1 => kk u H1 locs1 hr w1)
/-- a method's end -/
abbrev QI (below : List Frame) (args : Array Value) (s : State) (D : va_G) (A : Nat → Prop) (r : Int32) (b' : va_W) : State → Prop := MQ below (va_Qi (fun (r' : Int32) (_ : Unit) => r' = r) (fun _ t => EndW D A b' t) A) args s 0 0 A
abbrev QV (below : List Frame) (args : Array Value) (s : State) (D : va_G) (A : Nat → Prop) (b' : va_W) : State → Prop := MQ below (va_Qv (fun (_ : Unit) => True) (fun _ t => EndW D A b' t) A) args s 0 0 A
abbrev QIU {S : Type} (below : List Frame) (args : Array Value) (s : State) (D : va_G) (A : Nat → Prop) (r : Int32) (post : S → Prop) (b' : S → va_W) : State → Prop := MQ below (va_Qi (fun (r' : Int32) (u : S) => r' = r ∧ post u) (fun u t => EndW D A (b' u) t) A) args s 0 0 A
abbrev QVU {S : Type} (below : List Frame) (args : Array Value) (s : State) (D : va_G) (A : Nat → Prop) (post : S → Prop) (b' : S → va_W) : State → Prop := MQ below (va_Qv (fun (u : S) => post u) (fun u t => EndW D A (b' u) t) A) args s 0 0 A
theorem r_ret (X : CX D p m c cc nL s args own A) (w : Wd D A s.heap H locs ws) (hlocks : meth.locks = false) {ret : FieldType} {v r : Int32} (hr : meth.sig.returnType = some ret) (hn : narrow ret (.int v) = .int v) (ev : v = r) (ew : ws = ws') (hdg : decode cc pc = .ok (.ireturn, 1)) :
    W p l e R s m args below meth c H locs 0 0 (QI below args s D A r ws') (F0 m pc ls [.int v]) := by
  obtain ⟨⟨hx, hb, hml, hown, hts⟩, hK, hST, hA⟩ := X
  subst ew
  exact W.zret hx hb hr hn (fun t ht _ => ⟨⟨v, (), rfl, ev, by rw [ht]; exact w.1, w.2.1⟩, w.2.2.F ht⟩) w.2.2.2.2 hdg hlocks
theorem r_retV (X : CX D p m c cc nL s args own A) (w : Wd D A s.heap H locs ws) (hlocks : meth.locks = false) (hr : meth.sig.returnType = none) (ew : ws = ws') (hdg : decode cc pc = .ok (.return_, 1)) :
    W p l e R s m args below meth c H locs 0 0 (QV below args s D A ws') (F0 m pc ls []) := by
  obtain ⟨⟨hx, hb, hml, hown, hts⟩, hK, hST, hA⟩ := X
  subst ew
  exact W.vret hx hb hr (fun t ht _ => ⟨⟨(), rfl, trivial, by rw [ht]; exact w.1, w.2.1⟩, w.2.2.F ht⟩) w.2.2.2.2 hdg hlocks
theorem r_retU {S : Type} (X : CX D p m c cc nL s args own A) (w : Wd D A s.heap H locs ws) (hlocks : meth.locks = false) {ret : FieldType} {v r : Int32} {post : S → Prop} {b' : S → va_W} (u : S) (hr : meth.sig.returnType = some ret) (hn : narrow ret (.int v) = .int v) (ev : v = r) (hu : post u) (ew : ws = b' u) (hdg : decode cc pc = .ok (.ireturn, 1)) :
    W p l e R s m args below meth c H locs 0 0 (QIU below args s D A r post b') (F0 m pc ls [.int v]) := by
  obtain ⟨⟨hx, hb, hml, hown, hts⟩, hK, hST, hA⟩ := X
  subst ew
  exact W.zret hx hb hr hn (fun t ht _ => ⟨⟨v, u, rfl, ⟨ev, hu⟩, by rw [ht]; exact w.1, w.2.1⟩, w.2.2.F ht⟩) w.2.2.2.2 hdg hlocks
theorem r_retVU {S : Type} (X : CX D p m c cc nL s args own A) (w : Wd D A s.heap H locs ws) (hlocks : meth.locks = false) {post : S → Prop} {b' : S → va_W} (u : S) (hr : meth.sig.returnType = none) (hu : post u) (ew : ws = b' u) (hdg : decode cc pc = .ok (.return_, 1)) :
    W p l e R s m args below meth c H locs 0 0 (QVU below args s D A post b') (F0 m pc ls []) := by
  obtain ⟨⟨hx, hb, hml, hown, hts⟩, hK, hST, hA⟩ := X
  subst ew
  exact W.vret hx hb hr (fun t ht _ => ⟨⟨u, rfl, hu, by rw [ht]; exact w.1, w.2.1⟩, w.2.2.F ht⟩) w.2.2.2.2 hdg hlocks
/-- a method's beginning -/
theorem r_enter {y : MethodName} {cy : ByteArray} {ny fr lo sz mc ms : Nat} {ret : Option FieldType} {As : List Value} {b : va_W} {Qc : Array Value → State → Outcome → State → Prop} (hy : plainName y.cls = true) (hlen : (lg_sl As).length ≤ ny)
    (body : ∀ (p : Program) (e : Env) (s : State) (m : MethodId) (args : Array Value) (below : List Frame) (meth : Method) (c : Code) (ls : Array Slot), CX D p m c cy ny s args y.cls (va_A b sz) → meth.sig.returnType = ret → meth.locks = false → meth.name = y.name → s.heap.size = sz → Wd D (va_A b sz) s.heap s.heap [] b → lv_has ls ny (lv_args 0 As) →
      W p l e (rmOf fr mc ms lo) s m args below meth c s.heap [] 0 0 (MQ below Qc args s mc ms (va_A b sz)) (F0 m 0 ls [])) :
    Met l y (WS y cy ny ret) (rmOf fr mc ms lo) (va_Pc As (PreW D sz b)) Qc mc ms (va_A b sz) := by
  refine Met.ofW (cc := cy) (maxL := ny) (ret := ret) hy rfl ?_
  intro p e s m args below meth c s₁ B hml hv
  obtain ⟨rfl, hsz, hP, hK, hD, hS⟩ := hv
  have hts := atoms_spec (ws := WS y cy ny ret) B.pre
  have hl := lv_entry As (n := ny) hlen
  rw [lg_entry_eq]
  subst hsz
  exact body p e s m _ below meth c _ ⟨⟨B.exec, B.bytes, hml, findClass_of_methodNamed B.named, fun w h => hts w (List.mem_cons_of_mem _ h)⟩, hK, hS, fun q h => Or.inr h⟩ B.returns B.notSynchronized (name_of_methodNamed B.named B.method).1 rfl ⟨hP, hD.self, va_S.rf⟩ hl
end RW
