/-! rows that make cells, and the contracts of constructors -/
abbrev CHIP : String := "RollingDigits$Chip"
def AO (U : State) : Prop := va_AOA .int U ∧ va_AO CHIP U
theorem AO.moved {u U : State} (hvm : u.vm.Alike U.vm) (h : AO u) : AO U := ⟨aoa_moved hvm h.1, h.2.moved hvm⟩
def PreN (D : va_G) (sz : Nat) (ws : va_W) (U : State) : Prop := PreW D sz ws U ∧ AO U
theorem PreN.blind {D : va_G} {sz : Nat} {ws : va_W} {As : List Value} : FrameBlind (va_Pc As (PreN D sz ws)) := by
  intro a U g mk q
  obtain ⟨q0, q1, q2⟩ := q
  obtain ⟨-, h⟩ := PreW.blind (D := D) (sz := sz) (ws := ws) (As := As) a U g mk ⟨q0, q1⟩
  exact ⟨q0, h, AO.moved (u := U) (U := U.calling g mk a) (Vm.Alike.refl U.vm) q2⟩
theorem fl_add {bl : List va_W} {b : va_W} : (bl ++ [b]).flatten = bl.flatten ++ b := by
  rw [List.flatten_append, List.flatten_cons, List.flatten_nil, List.append_nil]
abbrev z0 : Row := fun _ => 0
/-- a class whose objects are made -/
def NW (own : String) (index ci N : Nat) (fs : List Value) : Prop := ∃ (C : String) (T : u_T) (ty : Nat → FieldType), (∀ w ∈ u_ws C T N, w ∈ lw_all) ∧ (∀ k, k < N → parseFieldDescriptor (T k).2.2.1 = some (ty k)) ∧ vwCl[ci]? = some (C, T, N) ∧ Cond.classLink own index C ∈ lw_all ∧ Cond.instantiable C N ∈ lw_all ∧ Cond.initialized C ∈ lw_all ∧ ∀ j, j < N → defaultValue (ty j) = vp_V fs j
abbrev MN {S : Type} (l : Launch) (y : MethodName) (cy : ByteArray) (ny : Nat) (fr mc ms lo : Nat) (D : va_G) (sz : Nat) (As : List Value) (b : va_W) (post : S → Prop) (b' : S → va_W) : Prop :=
  Met l y (WS y cy ny none) (rmOf fr mc ms lo) (va_Pc As (PreN D sz b)) (va_Qv (fun (u : S) => post u) (fun u t => EndW D (va_A b sz) (b' u) t) (va_A b sz)) mc ms (va_A b sz)
abbrev QN {S : Type} (below : List Frame) (args : Array Value) (s : State) (D : va_G) (A : Nat → Prop) (mc ms : Nat) (post : S → Prop) (b' : S → va_W) : State → Prop := MQ below (va_Qv (fun (u : S) => post u) (fun u t => EndW D A (b' u) t) A) args s mc ms A
section NWR
variable {p : Program} {l : Launch} {e : Env} {R : Room} {s : State} {m : MethodId} {args : Array Value} {below : List Frame} {meth : Method} {c : Code} {H : Heap} {locs : List Loc} {cells slots : Nat} {Q : State → Prop}
variable {cc : ByteArray} {nL pc : Nat} {ls : Array Slot} {rest st0 : List Value} {D : va_G} {A : Nat → Prop} {a : Nat} {bl : List va_W} {ws ws' : va_W} {own : String}
theorem r_newa (X : CX D p m c cc nL s args own A) (w : Wd D A s.heap H locs bl.flatten) {n : Int32} (N : Nat) (en : n = nI N) (hN : N ≤ 1000) (harr : Cond.arrayClass .int ∈ lw_all) (hc : cells + 1 ≤ R.cells) (hs : slots + N ≤ R.slots) (hdg : decode cc pc = .ok (.newarray .int, 2))
    (kk : ∀ (q : Nat) (H1 : Heap), Wd D A s.heap H1 locs ((bl ++ [([(q, .inl (D.1 100, N, .inl z0))] : va_W)]).flatten) → W p l e R s m args below meth c H1 locs (cells + 1) (slots + N) Q (F0 m (pc + 2) ls (.ref q :: rest))) : W p l e R s m args below meth c H locs cells slots Q (F0 m pc ls (.int n :: rest)) := by
  obtain ⟨⟨hx, hb, hml, hown, hts⟩, hK, hST, hA⟩ := X
  obtain ⟨wP, wD, wS⟩ := w
  subst en
  refine va_newa (atype := .int) hx hb (hts _ harr) (ty := .int) rfl hK wP wD wS hA (N' := N) (a0 := (N, .inl z0)) (fun _ => rfl) (nI_pos (by omega)) (nI_clamp (by omega)) (by show N * 4 ≤ 536870912; omega) hc hs hdg (fun q cA H1 hK2 hP hD hS => ?_)
  have e1 : cA = D.1 100 := Option.some.inj (((hK2.2 4 _ rfl).2).symm.trans (hK.2 0 _ rfl).2)
  subst e1
  exact kk q H1 ⟨by rw [fl_add]; exact hP, by rw [fl_add]; exact hD, hS⟩
theorem r_newc (X : CX D p m c cc nL s args own A) (w : Wd D A s.heap H locs bl.flatten) {n : Int32} (N : Nat) (en : n = nI N) (hN : N ≤ 1000) (harr : Cond.arrayClass .char ∈ lw_all) (hc : cells + 1 ≤ R.cells) (hs : slots + N ≤ R.slots) (hdg : decode cc pc = .ok (.newarray .char, 2))
    (kk : ∀ (q : Nat) (H1 : Heap), Wd D A s.heap H1 locs ((bl ++ [([(q, .inl (D.1 101, N, .inl z0))] : va_W)]).flatten) → W p l e R s m args below meth c H1 locs (cells + 1) (slots + N) Q (F0 m (pc + 2) ls (.ref q :: rest))) : W p l e R s m args below meth c H locs cells slots Q (F0 m pc ls (.int n :: rest)) := by
  obtain ⟨⟨hx, hb, hml, hown, hts⟩, hK, hST, hA⟩ := X
  obtain ⟨wP, wD, wS⟩ := w
  subst en
  refine va_newa (atype := .char) hx hb (hts _ harr) (ty := .char) rfl hK wP wD wS hA (N' := N) (a0 := (N, .inl z0)) (fun _ => rfl) (nI_pos (by omega)) (nI_clamp (by omega)) (by show N * 2 ≤ 536870912; omega) hc hs hdg (fun q cA H1 hK2 hP hD hS => ?_)
  have e1 : cA = D.1 101 := Option.some.inj (((hK2.2 4 _ rfl).2).symm.trans (hK.2 1 _ rfl).2)
  subst e1
  exact kk q H1 ⟨by rw [fl_add]; exact hP, by rw [fl_add]; exact hD, hS⟩
theorem r_new (X : CX D p m c cc nL s args own A) (w : Wd D A s.heap H locs bl.flatten) {index ci N : Nat} {fs : List Value} (F : NW own index ci N fs) (hc : cells + 1 ≤ R.cells) (hs : slots + N ≤ R.slots) (hdg : decode cc pc = .ok (.new index, 3))
    (kk : ∀ (q : Nat) (H1 : Heap), Wd D A s.heap H1 locs ((bl ++ [([(q, .inr (ci, fs))] : va_W)]).flatten) → W p l e R s m args below meth c H1 locs (cells + 1) (slots + N) Q (F0 m (pc + 3) ls (.ref q :: rest))) : W p l e R s m args below meth c H locs cells slots Q (F0 m pc ls rest) := by
  obtain ⟨⟨hx, hb, hml, hown, hts⟩, hK, hST, hA⟩ := X
  obtain ⟨wP, wD, wS⟩ := w
  obtain ⟨C, T, ty, f1, f2, f3, f4, f5, f6, f7⟩ := F
  exact va_new hx hb hts f1 ty f2 hown (hts _ f4) (hts _ f5) (hts _ f6) hK wP wD wS hA f3 f7 hc hs hdg (fun q H1 hP hD hS => kk q H1 ⟨by rw [fl_add]; exact hP, by rw [fl_add]; exact hD, hS⟩)
theorem r_newq (X : CX D p m c cc nL s args own A) (hAO : AO s) (w : Wd D A s.heap H locs bl.flatten) {n : Int32} {index : Nat} (N : Nat) (en : n = nI N) (hN : N ≤ 1000) (hlk : Cond.classLink own index CHIP ∈ lw_all) (hc : cells + 1 ≤ R.cells) (hs : slots + N ≤ R.slots) (hdg : decode cc pc = .ok (.anewarray index, 3))
    (kk : ∀ (q : Nat) (H1 : Heap), Wd D A s.heap H1 locs ((bl ++ [([(q, .inl (D.1 103, N, .inr (.inr (.inr (.inr (fun _ => none))))))] : va_W)]).flatten) → W p l e R s m args below meth c H1 locs (cells + 1) (slots + N) Q (F0 m (pc + 3) ls (.ref q :: rest))) : W p l e R s m args below meth c H locs cells slots Q (F0 m pc ls (.int n :: rest)) := by
  obtain ⟨⟨hx, hb, hml, hown, hts⟩, hK, hST, hA⟩ := X
  obtain ⟨wP, wD, wS⟩ := w
  subst en
  refine va_newq hx hb hown (hts _ hlk) hAO.2 hK wP wD wS hA (N' := N) (nI_pos (by omega)) (nI_clamp (by omega)) (by omega) hc hs hdg (fun q cA H1 hK2 hP hD hS => ?_)
  have e1 : cA = D.1 103 := by
    obtain ⟨-, -, -, -, -, g1⟩ := (hK2.2 4 _ rfl).2
    obtain ⟨-, -, -, -, -, g2⟩ := (hK.2 3 _ rfl).2
    exact Option.some.inj (g1.symm.trans g2)
  subst e1
  exact kk q H1 ⟨by rw [fl_add]; exact hP, by rw [fl_add]; exact hD, hS⟩
theorem pl_up {l : List Nat} {f : Nat → va_E} {x : va_E} : va_pl l (vr_up f l x) = l.map (fun a => (a, x)) := by
  unfold va_pl
  apply List.map_congr_left
  intro a ha
  rw [vr_up_in ha]
theorem r_mna (X : CX D p m c cc nL s args own A) (hAO : AO s) (w : Wd D A s.heap H locs bl.flatten) {n k : Int32} {index : Nat} (N K : Nat) (en : n = nI N) (ek : k = nI K) (hN : N ≤ 1000) (hK0 : K ≤ 1000) (hlk : Cond.classLink own index "[[I" ∈ lw_all) (harr : Cond.arrayClass .int ∈ lw_all) (hc : cells + (1 + N) ≤ R.cells) (hs : slots + (N + N * K) ≤ R.slots) (hdg : decode cc pc = .ok (.multianewarray index 2, 4))
    (kk : ∀ (q : Nat) (r : Nat → Nat) (H1 : Heap), Wd D A s.heap H1 locs ((bl ++ [([(q, .inl (D.1 102, N, .inr (.inr (.inr (.inr (fun i => if i < N then some (r i) else none))))))] : va_W), (List.range N).map (fun i => ((r i, .inl (D.1 100, K, .inl z0)) : Nat × va_E))]).flatten) → W p l e R s m args below meth c H1 locs (cells + 1 + N) (slots + N + N * K) Q (F0 m (pc + 4) ls (.ref q :: rest))) : W p l e R s m args below meth c H locs cells slots Q (F0 m pc ls (.int k :: .int n :: rest)) := by
  obtain ⟨⟨hx, hb, hml, hown, hts⟩, hK, hST, hA⟩ := X
  obtain ⟨wP, wD, wS⟩ := w
  subst en
  subst ek
  have e9 : "[" ++ (FieldType.array .int).toString = "[[I" := by decide
  have hP0 : va_P D vwCl (bl.flatten ++ va_pl [] (fun _ => .inr (0, []))) H := by
    show va_P D vwCl (bl.flatten ++ []) H
    rw [List.append_nil]; exact wP
  have hD0 : va_D A (bl.flatten ++ va_pl [] (fun _ => .inr (0, []))) := by
    show va_D A (bl.flatten ++ [])
    rw [List.append_nil]; exact wD
  refine va_mna (X := bl.flatten) (L := []) (f := fun _ => .inr (0, [])) (ty := .int) (cy := D.1 100) (N' := N) (K' := K) (z := (K, .inl z0)) hx hb hown (by rw [e9]; exact hts _ hlk) hAO.1 (hts _ harr) (hK.2 0 _ rfl).2 hK hP0 hD0 wS hA (nI_pos (by omega)) (nI_pos (by omega)) (nI_clamp (by omega)) (nI_clamp (by omega)) (by omega) (by show K * 4 ≤ 536870912; omega) (by omega) rfl rfl hc hs (fun c => arrV_new _ _ _) hdg (fun q r cA H1 _ _ hK2 hP hD hS => ?_)
  have e1 : cA = D.1 102 := Option.some.inj (((hK2.2 4 _ rfl).2).symm.trans (hK.2 2 _ rfl).2)
  subst e1
  have ew : (bl ++ [([(q, .inl (D.1 102, N, .inr (.inr (.inr (.inr (fun i => if i < N then some (r i) else none))))))] : va_W), (List.range N).map (fun i => ((r i, .inl (D.1 100, K, .inl z0)) : Nat × va_E))]).flatten = (bl.flatten ++ [(q, .inl (D.1 102, N, .inr (.inr (.inr (.inr (fun i => if i < N then some (r i) else none))))))]) ++ va_pl ([] ++ (List.range N).map r) (vr_up (fun _ => .inr (0, [])) ((List.range N).map r) (.inl (D.1 100, (K, .inl z0)))) := by
    rw [List.nil_append, pl_up, List.map_map, List.flatten_append, List.flatten_cons, List.flatten_cons, List.flatten_nil, List.append_nil, List.append_assoc]
    rfl
  exact kk q r H1 ⟨by rw [ew]; exact hP, by rw [ew]; exact hD, hS⟩
theorem r_obj (X : CX D p m c cc nL s args own A) {index : Nat} (hlk : Cond.methodLink own index objectInit ∈ lw_all) (hsize : ls.size = nL) (hR : 1 ≤ R.frames ∧ (rest.map fun v => v.category).sum + 12 ≤ R.locals) (hdg : decode cc pc = .ok (.invokespecial index, 3))
    (kk : W p l e R s m args below meth c H locs cells slots Q (F0 m (pc + 3) ls rest)) : W p l e R s m args below meth c H locs cells slots Q (F0 m pc ls (.ref a :: rest)) := by
  obtain ⟨⟨hx, hb, hml, hown, hts⟩, hK, hST, hA⟩ := X
  exact W.objInit hx hb hown (hts _ hlk) (hts _ oi_i) (hts _ oi_c) rfl (by rw [hml]; exact hsize) rfl hdg hR.1 (by show 2 * 0 + _ + 12 ≤ _; omega) kk
/-- System.arraycopy out of a table of the program -/
theorem r_copyT (X : CX D p m c cc nL s args own A) (w : Wd D A s.heap H locs ws) {index t n1 : Nat} {L : List Int32} {g : Nat → Int32} {i0 i1 i2 : Int32} (sp dp n : Nat) (F : AC own index) (hT : va_T .int t L.length (fun j => .int (kf L j)) A s s.heap) (e0 : i0 = nI sp) (e1 : i1 = nI dp) (e2 : i2 = nI n) (h4 : sp + n ≤ L.length) (h5 : dp + n ≤ n1) (h0 : L.length < 2 ^ 31) (h1 : n1 < 2 ^ 31)
    (hF : Foc ws [(a, .inl (D.1 100, n1, .inl g))] ws' [(a, .inl (D.1 100, n1, .inl (va_cpy (kf L) g sp dp n)))]) (hsize : ls.size = nL) (hR : 1 ≤ R.frames ∧ (rest.map fun v => v.category).sum + (nativeFrameWords "java/lang/System" "arraycopy" 5 + 11) ≤ R.locals) (hdg : decode cc pc = .ok (.invokestatic index, 3))
    (kk : ∀ (H1 : Heap) (locs1 : List Loc), Wd D A s.heap H1 locs1 ws' → W p l e R s m args below meth c H1 locs1 cells slots Q (F0 m (pc + 3) ls rest)) : W p l e R s m args below meth c H locs cells slots Q (F0 m pc ls (.int i2 :: .int i1 :: .ref a :: .int i0 :: .ref t :: rest)) := by
  obtain ⟨⟨hx, hb, hml, hown, hts⟩, hK, hST, hA⟩ := X
  obtain ⟨r, p1, p2⟩ := hF
  have w' := w.perm p1
  obtain ⟨cell, t1, ⟨t2, k0, hk0, cm0, hkk0⟩, t3, t4, -, t5, t6⟩ := hT
  have hlt : t < s.heap.size := (Array.getElem?_eq_some_iff.mp t1).1
  have ht : H[t]? = some cell := by rw [w.2.2.2.1 t hlt t6]; exact t1
  have hc1 : H[a]? = some (vp_cell (D.1 100) (n1, .inl g)) := w'.1 0 _ rfl
  obtain ⟨-, k1, hk1, cm1, hkk1⟩ := (hK.2 0 _ rfl).1 n1 (fun j => .int (g j))
  subst e0; subst e1; subst e2
  have b0 : sp < 2 ^ 31 := by omega
  have b1 : dp < 2 ^ 31 := by omega
  have b2 : n < 2 ^ 31 := by omega
  intro T hTH Xs
  obtain ⟨vm', X', step⟩ := Xs.arraycopy hx hown (hts _ F.1) (hts _ F.2.1) (hts _ F.2.2.1) (hts _ F.2.2.2) (src := t) (dst := a) (cs := cell) (cd := vp_cell (D.1 100) (n1, .inl g)) (srcPos := nI sp) (destPos := nI dp) (n := nI n) (by rw [hTH]; exact ht) (by rw [hTH]; exact hc1)
    t2 (fun _ h => by cases h) t3 (fun h => by cases h) hk0 hk1 hkk0 hkk1 (by simp) (nI_pos b0) (nI_pos b1) (nI_pos b2)
    (by rw [nI_toInt b0, nI_toInt b2]; omega)
    (by rw [nI_toInt b1, nI_toInt b2]; show ¬ _ > ((arrV (D.1 100) n1 (fun j => .int (g j))).slots.size : Int); rw [arrV_size]; omega)
    (fun vm₁ _ i hi => by
      rw [nI_clamp b2] at hi
      have e : cell.slots.getD ((nI sp).toNatClampNeg + i) .null = .int (kf L (sp + i)) := by
        rw [nI_clamp b0, Array.getD_eq_getD_getElem?, t5 (sp + i) (by omega)]
        rfl
      rw [e]
      exact ⟨rfl, trivial⟩)
    (g := F0 m pc ls (.int (nI n) :: .int (nI dp) :: .ref a :: .int (nI sp) :: .ref t :: rest)) rfl (by show ls.size = _; rw [hsize, hml]) (rest := rest) rfl (by rw [hb]; exact hdg) hR.1 (by show 2 * 0 + _ + _ ≤ _; have := hR.2; omega)
  have e1 : copied cell (vp_cell (D.1 100) (n1, .inl g)) (nI sp) (nI dp) (nI n) = vp_cell (D.1 100) (n1, .inl (va_cpy (kf L) g sp dp n)) := by
    have q := va_copiedX (fun z => Value.int z) cell (D.1 100) (n1 := n1) (sp := (nI sp).toNatClampNeg) (dp := (nI dp).toNatClampNeg) (n := (nI n).toNatClampNeg) (kf L) g t5 (by rw [nI_clamp b0, nI_clamp b2]; exact h4)
    refine Eq.trans q ?_
    rw [nI_clamp b0, nI_clamp b1, nI_clamp b2]
    rfl
  rw [e1] at X' step
  have hl : a < H.size := (Array.getElem?_eq_some_iff.mp hc1).1
  have hheap : ((T.setVm vm').setCell a (vp_cell (D.1 100) (n1, .inl (va_cpy (kf L) g sp dp n)))).heap = H.setIfInBounds a (vp_cell (D.1 100) (n1, .inl (va_cpy (kf L) g sp dp n))) := by rw [← hTH]; rfl
  have oq : ∀ q : Nat, q ≠ a → (H.setIfInBounds a (vp_cell (D.1 100) (n1, .inl (va_cpy (kf L) g sp dp n))))[q]? = H[q]? := fun q hq => by simp [Array.getElem?_setIfInBounds, Ne.symm hq]
  have ha0 : ([(a, .inl (D.1 100, n1, .inl g))] ++ r : va_W)[0]? = some (a, .inl (D.1 100, n1, .inl g)) := rfl
  obtain ⟨t9, a9, b9⟩ := kk _ _ (Wd.perm p2.symm ⟨w'.1.set w'.2.1 ha0 (show (H.setIfInBounds a _)[a]? = some _ by simp [Array.getElem?_setIfInBounds, hl]) oq, w'.2.1.set ha0, ⟨by simp; exact w'.2.2.1, fun q g1 g2 => by
      rw [oq q (fun e => g2 (by rw [e]; exact w'.2.1.2 0 _ rfl))]
      exact w'.2.2.2.1 q g1 g2, fun q hq => by
      rcases List.mem_append.mp hq with h | h
      · exact w'.2.2.2.2 q h
      · obtain ⟨z, -, hz⟩ := List.mem_map.mp h
        rw [← hz]
        exact w'.2.1.2 0 _ rfl⟩⟩) _ hheap X'
  exact ⟨t9, step t9 a9, b9⟩
theorem r_callN {S : Type} (X : CX D p m c cc nL s args own A) (hAO : AO s) (w : Wd D A s.heap H locs ws) {y : MethodName} {cy : ByteArray} {ny index n fr mc ms lo : Nat} {As rest : List Value} {b : va_W} {b' W1 : S → va_W} {post : S → Prop}
    (L : LI own index y cy ny n) (hM : MN l y cy ny fr mc ms lo D H.size (.ref a :: As) b post b') (hF : FocU ws b W1 b') (hn : As.length = n) (hsize : ls.size = nL) (hroom : (rest.map fun v => v.category).sum ≤ 8) (hR : fr + 1 ≤ R.frames ∧ 8 + (ny + 11) + lo ≤ R.locals) (hst : st0 = As.reverse ++ .ref a :: rest) (hdg : decode cc pc = .ok (.invokespecial index, 3)) (hf : cells + mc ≤ R.cells ∧ slots + ms ≤ R.slots)
    (kk : ∀ (u : S) (H1 : Heap) (locs1 : List Loc), post u → Wd D A s.heap H1 locs1 (W1 u) → W p l e R s m args below meth c H1 locs1 (cells + mc) (slots + ms) Q (F0 m (pc + 3) ls rest)) : W p l e R s m args below meth c H locs cells slots Q (F0 m pc ls st0) := by
  obtain ⟨r0, p1, p2⟩ := id hF
  refine r_goV (a9 := (Value.ref a :: As).toArray) X w hF ?_ kk
  obtain ⟨hf0, hpre⟩ := Wd.call X w p1
  obtain ⟨⟨hx, hb, hml, hown, hts⟩, hK, hST, hA⟩ := X
  obtain ⟨⟨l1, l2, l3, l4⟩, l5, l6⟩ := L
  exact va_runI (As := As) (rest := rest) ⟨hx, hb, hml, hown, hts⟩ hM ⟨callB_of n hts (good_all l1) rfl rfl rfl (hts _ l2) (hts _ l3) l4 hR, l5, hts _ l6⟩ ⟨PreN.blind, fun U hU hW => ⟨rfl, hpre U hU hW, AO.moved hW.alike hAO⟩⟩ rfl hn hsize hst (lv_room hroom) hdg hf
theorem r_retN {S : Type} (X : CX D p m c cc nL s args own A) (w : Wd D A s.heap H locs ws) (hlocks : meth.locks = false) {post : S → Prop} {b' : S → va_W} {mc ms : Nat} (u : S) (hr : meth.sig.returnType = none) (hu : post u) (ew : ws = b' u) (h1 : cells ≤ mc) (h2 : slots ≤ ms) (hdg : decode cc pc = .ok (.return_, 1)) :
    W p l e R s m args below meth c H locs cells slots (QN below args s D A mc ms post b') (F0 m pc ls []) := by
  obtain ⟨⟨hx, hb, hml, hown, hts⟩, hK, hST, hA⟩ := X
  subst ew
  exact W.widen h1 h2 (W.vret hx hb hr (fun t ht _ => ⟨⟨u, rfl, hu, by rw [ht]; exact w.1, w.2.1⟩, w.2.2.F ht⟩) w.2.2.2.2 hdg hlocks)
theorem r_enterN {S : Type} {y : MethodName} {cy : ByteArray} {ny fr lo sz mc ms : Nat} {As : List Value} {b : va_W} {post : S → Prop} {b' : S → va_W} (hy : plainName y.cls = true) (hlen : (lg_sl As).length ≤ ny)
    (body : ∀ (p : Program) (e : Env) (s : State) (m : MethodId) (args : Array Value) (below : List Frame) (meth : Method) (c : Code) (ls : Array Slot) (A : Nat → Prop), CX D p m c cy ny s args y.cls A → AO s → meth.sig.returnType = none → meth.locks = false → meth.name = y.name → Wd D A s.heap s.heap [] b → lv_has ls ny (lv_args 0 As) →
      W p l e (rmOf fr mc ms lo) s m args below meth c s.heap [] 0 0 (QN below args s D A mc ms post b') (F0 m 0 ls [])) : MN l y cy ny fr mc ms lo D sz As b post b' := by
  refine Met.ofW (cc := cy) (maxL := ny) (ret := none) hy rfl ?_
  intro p e s m args below meth c s₁ B hml hv
  obtain ⟨rfl, ⟨hsz, hP, hK, hD, hS⟩, hAO⟩ := hv
  have hts := atoms_spec (ws := WS y cy ny none) B.pre
  have hl := lv_entry As (n := ny) hlen
  rw [lg_entry_eq]
  subst hsz
  exact body p e s m _ below meth c _ _ ⟨⟨B.exec, B.bytes, hml, findClass_of_methodNamed B.named, fun w h => hts w (List.mem_cons_of_mem _ h)⟩, hK, hS, fun q h => Or.inr h⟩ hAO B.returns B.notSynchronized (name_of_methodNamed B.named B.method).1 ⟨hP, hD.self, va_S.rf⟩ hl
end NWR
