/-! the law's own: focus on some cells of a list; the script in a method; a method that makes cells and answers -/
def pickL : List Nat → va_W → Option (va_W × va_W)
  | [], W => some ([], W)
  | i :: ps, W => match W[i]? with
    | none => none
    | some x => match pickL ps (W.eraseIdx i) with
      | none => none
      | some q => some (x :: q.1, q.2)
theorem pickL_perm : ∀ (ps : List Nat) (W : va_W) (q : va_W × va_W), pickL ps W = some q → W.Perm (q.1 ++ q.2)
  | [], W, q, h => by cases h; exact List.Perm.refl _
  | i :: ps, W, q, h => by
    unfold pickL at h
    cases e : W[i]? with
    | none => rw [e] at h; cases h
    | some x =>
      rw [e] at h
      dsimp only at h
      cases e2 : pickL ps (W.eraseIdx i) with
      | none => rw [e2] at h; cases h
      | some q2 =>
        rw [e2] at h
        cases h
        exact (perm_erase W i x e).trans ((pickL_perm ps _ q2 e2).cons x)
theorem Foc.pick (ps : List Nat) {W b W' b' r : va_W} (h : pickL ps W = some (b, r)) (h' : pickL ps W' = some (b', r)) : Foc W b W' b' := ⟨r, pickL_perm _ _ _ h, pickL_perm _ _ _ h'⟩
abbrev cellV (L : Nat) (xs : Nat → Int32) (k : Nat) : Int32 := if k < L then xs k else 40503 * nI (k + 3)
abbrev MIN (l : Launch) (y : MethodName) (cy : ByteArray) (ny : Nat) (ret : Option FieldType) (fr mc ms lo : Nat) (D : va_G) (sz : Nat) (As : List Value) (b : va_W) (r : Int32) (b' : va_W) : Prop :=
  Met l y (WS y cy ny ret) (rmOf fr mc ms lo) (va_Pc As (PreW D sz b)) (va_Qi (fun (r' : Int32) (_ : Unit) => r' = r) (fun _ t => EndW D (va_A b sz) b' t) (va_A b sz)) mc ms (va_A b sz)
abbrev QIN (below : List Frame) (args : Array Value) (s : State) (D : va_G) (A : Nat → Prop) (mc ms : Nat) (r : Int32) (b' : va_W) : State → Prop := MQ below (va_Qi (fun (r' : Int32) (_ : Unit) => r' = r) (fun _ t => EndW D A b' t) A) args s mc ms A
section LW
variable {p : Program} {l : Launch} {e : Env} {R : Room} {s : State} {m : MethodId} {args : Array Value} {below : List Frame} {meth : Method} {c : Code} {H : Heap} {locs : List Loc} {cells slots : Nat} {Q : State → Prop}
variable {cc : ByteArray} {nL pc : Nat} {ls : Array Slot} {rest st0 : List Value} {D : va_G} {A : Nat → Prop} {a : Nat} {ws ws' : va_W} {own : String}
theorem r_enterM {y : MethodName} {cy : ByteArray} {ny fr mc ms lo sz : Nat} {As : List Value} {b : va_W} {ret : Option FieldType} {r : Int32} {b' : va_W} (hy : plainName y.cls = true) (hlen : (lg_sl As).length ≤ ny)
    (body : ∀ (p : Program) (e : Env) (s : State) (m : MethodId) (args : Array Value) (below : List Frame) (meth : Method) (c : Code) (ls : Array Slot) (A : Nat → Prop), CX D p m c cy ny s args y.cls A → meth.sig.returnType = ret → meth.locks = false → Wd D A s.heap s.heap [] b → lv_has ls ny (lv_args 0 As) →
      W p l e (rmOf fr mc ms lo) s m args below meth c s.heap [] 0 0 (QIN below args s D A mc ms r b') (F0 m 0 ls [])) : MIN l y cy ny ret fr mc ms lo D sz As b r b' :=
  r_enter hy hlen (fun p e s m args below meth c ls X hr hk _ _ w hl => body p e s m args below meth c ls _ X hr hk w hl)
theorem r_retM (X : CX D p m c cc nL s args own A) (w : Wd D A s.heap H locs ws) (hp : ∃ r9, ws.Perm (ws' ++ r9)) (hlocks : meth.locks = false) {ret : FieldType} {v r : Int32} {mc ms : Nat} (hr : meth.sig.returnType = some ret) (hn : narrow ret (.int v) = .int v) (ev : v = r) (h1 : cells ≤ mc) (h2 : slots ≤ ms) (hdg : decode cc pc = .ok (.ireturn, 1)) :
    W p l e R s m args below meth c H locs cells slots (QIN below args s D A mc ms r ws') (F0 m pc ls [.int v]) := by
  obtain ⟨⟨hx, hb, hml, hown, hts⟩, hK, hST, hA⟩ := X
  obtain ⟨r9, hp⟩ := hp
  have w' := w.perm hp
  exact W.widen h1 h2 (W.zret hx hb hr hn (fun t ht _ => ⟨⟨v, (), rfl, ev, by rw [ht]; exact va_P_left w'.1, va_D_left w'.2.1⟩, w'.2.2.F ht⟩) w'.2.2.2.2 hdg hlocks)
theorem r_callSM (X : CX D p m c cc nL s args own A) (w : Wd D A s.heap H locs ws) {y : MethodName} {cy : ByteArray} {ny index n fr lo mc ms : Nat} {ret : Option FieldType} {As rest : List Value} {b b' : va_W} {r : Int32}
    (L : LkS own index y cy ny ret n) (hM : MIN l y cy ny ret fr mc ms lo D H.size As b r b') (hF : Foc ws b ws' b') (hn : As.length = n) (hsize : ls.size = nL) (hroom : (rest.map fun v => v.category).sum ≤ 8) (hR : fr + 1 ≤ R.frames ∧ 8 + (ny + 11) + lo ≤ R.locals) (hst : st0 = As.reverse ++ rest) (hdg : decode cc pc = .ok (.invokestatic index, 3)) (hf : cells + mc ≤ R.cells ∧ slots + ms ≤ R.slots)
    (kk : ∀ (H1 : Heap) (locs1 : List Loc), Wd D A s.heap H1 locs1 ws' → W p l e R s m args below meth c H1 locs1 (cells + mc) (slots + ms) Q (F0 m (pc + 3) ls (.int r :: rest))) : W p l e R s m args below meth c H locs cells slots Q (F0 m pc ls st0) := by
  have hF' := FocU.of hF
  obtain ⟨r0, p1, p2⟩ := id hF'
  exact r_goI X w hF' (r_runS X w L hM p1 hn hsize hroom hR hf hst hdg) (fun r' u H1 locs1 hr w1 => by rw [hr]; exact kk H1 locs1 w1)
theorem r_callSU {S : Type} (X : CX D p m c cc nL s args own A) (w : Wd D A s.heap H locs ws) {y : MethodName} {cy : ByteArray} {ny index n fr lo : Nat} {ret : Option FieldType} {As rest : List Value} {b : va_W} {b' W1 : S → va_W} {r : Int32} {post : S → Prop}
    (L : LkS own index y cy ny ret n) (hM : MIU l y cy ny ret fr lo D H.size As b r post b') (hF : FocU ws b W1 b') (hn : As.length = n) (hsize : ls.size = nL) (hroom : (rest.map fun v => v.category).sum ≤ 8) (hR : fr + 1 ≤ R.frames ∧ 8 + (ny + 11) + lo ≤ R.locals) (hst : st0 = As.reverse ++ rest) (hdg : decode cc pc = .ok (.invokestatic index, 3)) (hf : cells ≤ R.cells ∧ slots ≤ R.slots)
    (kk : ∀ (u : S) (H1 : Heap) (locs1 : List Loc), post u → Wd D A s.heap H1 locs1 (W1 u) → W p l e R s m args below meth c H1 locs1 cells slots Q (F0 m (pc + 3) ls (.int r :: rest))) : W p l e R s m args below meth c H locs cells slots Q (F0 m pc ls st0) := by
  obtain ⟨r0, p1, p2⟩ := id hF
  exact r_goI X w hF (r_runS X w L hM p1 hn hsize hroom hR hf hst hdg) (fun r' u H1 locs1 hr w1 => by rw [hr.1]; exact kk u H1 locs1 hr.2 w1)
end LW
/-- the script, as a method sees it -/
abbrev SX (b L : Nat) (xs : Nat → Int32) (A : Nat → Prop) (U : State) (H : Heap) : Prop := va_T .int b L (fun j => .int (xs j)) A U H
set_option maxRecDepth 100000 in
theorem c_L_cell (l : Launch) (D : va_G) (sz : Nat) (b L k : Nat) (xs : Nat → Int32) (hL : L ≤ 260) (hk9 : k < 56) : Met l yL_cell (WS yL_cell cL_cell 2 (some .int)) (rmOf 0 0 0 0) (va_Pc [.ref b, .int (nI k)] (fun U => PreW D sz [] U ∧ SX b L xs (va_A [] sz) U U.heap)) (va_Qi (fun (r' : Int32) (_ : Unit) => r' = cellV L xs k) (fun _ t => EndW D (va_A [] sz) [] t) (va_A [] sz)) 0 0 (va_A [] sz) := by
  refine Met.ofW (cc := cL_cell) (maxL := 2) (ret := some .int) (by decide) rfl ?_
  intro p e s m args below meth c s₁ B hml hv
  obtain ⟨rfl, ⟨hsz, hP, hK, hD, hS⟩, hT⟩ := hv
  have hts := atoms_spec (ws := WS yL_cell cL_cell 2 (some .int)) B.pre
  have hl : lv_has _ 2 [(0, .ref b), (1, .int (nI k))] := lv_entry [.ref b, .int (nI k)] (n := 2) (Nat.le_of_ble_eq_true rfl)
  rw [lg_entry_eq]
  subst hsz
  have X : CX D p m c cL_cell 2 s _ RL (va_A [] s.heap.size) := ⟨⟨B.exec, B.bytes, hml, findClass_of_methodNamed B.named, fun w h => hts w (List.mem_cons_of_mem _ h)⟩, hK, hS, fun q h => Or.inr h⟩
  have hw : Wd D (va_A [] s.heap.size) s.heap s.heap [] [] := ⟨hP, hD.self, va_S.rf⟩
  have hx := X.1.1
  have hb := X.1.2.1
  have hown := X.1.2.2.2.1
  have htb := X.1.2.2.2.2
  have hret := B.returns
  have hk := B.notSynchronized
  refine lv_iload_n hx hb dL_cell_0 rfl (lv_at hl 1 rfl) ?_
  refine lv_aload_n hx hb dL_cell_1 rfl (lv_at hl 0 rfl) ?_
  refine va_tlen hx hb hT hw.2.2 (v := nI L) rfl dL_cell_2 ?_
  refine r_geN (tgt := 12) hx hb k L rfl rfl (by omega) (by omega) dL_cell_3 (by decide) (fun c1 => ?_) (fun c1 => ?_)
  · skip
    refine lv_ldc (v := 40503) hx hb hown (htb _ kc_L_7) dL_cell_12 ?_
    refine lv_iload_n hx hb dL_cell_14 rfl (lv_at hl 1 rfl) ?_
    refine lv_iconst (v := 3) hx hb dL_cell_15 (by decide) ?_
    refine r_addN hx hb k 3 rfl rfl dL_cell_16 ?_
    refine lv_imul hx hb dL_cell_17 ?_
    exact r_ret X hw hk hret rfl (by unfold cellV; rw [if_neg (by omega)]) rfl dL_cell_18
  · skip
    refine lv_aload_n hx hb dL_cell_6 rfl (lv_at hl 0 rfl) ?_
    refine lv_iload_n hx hb dL_cell_7 rfl (lv_at hl 1 rfl) ?_
    refine va_ti hx hb hT hw.2.2 (v := .int (xs k)) (vp_in_nI c1 (by omega)) (by rw [nI_clamp (by omega)]) dL_cell_8 ?_
    refine lv_goto (tgt := 18) hx hb dL_cell_9 (by decide) ?_
    exact r_ret X hw hk hret rfl (by unfold cellV; rw [if_pos c1]) rfl dL_cell_18
section LW2
variable {p : Program} {l : Launch} {e : Env} {R : Room} {s : State} {m : MethodId} {args : Array Value} {below : List Frame} {meth : Method} {c : Code} {H : Heap} {locs : List Loc} {cells slots : Nat} {Q : State → Prop}
variable {cc : ByteArray} {nL pc : Nat} {ls : Array Slot} {rest st0 : List Value} {D : va_G} {A : Nat → Prop} {ws : va_W} {own : String}
theorem SX.blind {sz b L : Nat} {xs : Nat → Int32} {As : List Value} : FrameBlind (va_Pc As (fun U => PreW D sz [] U ∧ SX b L xs (va_A [] sz) U U.heap)) := by
  intro a U g mk q
  obtain ⟨q0, q1, q2⟩ := q
  obtain ⟨-, h⟩ := PreW.blind (D := D) (sz := sz) (ws := []) (As := As) a U g mk ⟨q0, q1⟩
  exact ⟨q0, h, va_T.moved (u := U) (U := U.calling g mk a) (Vm.Alike.refl U.vm) q2⟩
theorem r_callC (X : CX D p m c cc nL s args own A) (w : Wd D A s.heap H locs ws) {index b L k : Nat} {xs : Nat → Int32} (hT : SX b L xs A s s.heap) (hL : L ≤ 260) (hk : k < 56)
    (Lk : LkS own index yL_cell cL_cell 2 (some .int) 2) (hsize : ls.size = nL) (hroom : (rest.map fun v => v.category).sum ≤ 8) (hR : 0 + 1 ≤ R.frames ∧ 8 + (2 + 11) + 0 ≤ R.locals) (hdg : decode cc pc = .ok (.invokestatic index, 3)) (hf : cells ≤ R.cells ∧ slots ≤ R.slots)
    (kk : ∀ (H1 : Heap) (locs1 : List Loc), Wd D A s.heap H1 locs1 ws → W p l e R s m args below meth c H1 locs1 cells slots Q (F0 m (pc + 3) ls (.int (cellV L xs k) :: rest))) : W p l e R s m args below meth c H locs cells slots Q (F0 m pc ls (.int (nI k) :: .ref b :: rest)) := by
  have hF' := FocU.of (Foc.nil (W0 := ws))
  obtain ⟨r0, p1, p2⟩ := id hF'
  have hrun : va_Run p l e R s m args below meth c H locs cells slots 0 0 (F0 m pc ls (.int (nI k) :: .ref b :: rest)) rest (va_Qi (fun (r' : Int32) (_ : Unit) => r' = cellV L xs k) (fun _ t => EndW D (va_A [] H.size) [] t) (va_A [] H.size) ([.ref b, .int (nI k)] : List Value).toArray) (va_A [] H.size) := by
    obtain ⟨hf0, hpre⟩ := Wd.call X w p1
    obtain ⟨⟨hx, hb, hml, hown, hts⟩, hK, hST, hA⟩ := X
    obtain ⟨⟨l1, l2, l3, l4⟩, l5⟩ := Lk
    exact va_runS (As := [.ref b, .int (nI k)]) (rest := rest) ⟨hx, hb, hml, hown, hts⟩ (c_L_cell l D H.size b L k xs hL hk) ⟨callB_of 2 hts (good_all l1) rfl rfl rfl (hts _ l2) (hts _ l3) l4 hR, hts _ l5⟩ ⟨SX.blind, fun U hU hW => ⟨rfl, hpre U hU hW, by rw [hU]; exact ((hT.moved hW.alike).kept w.2.2.2.1).narrow hf0⟩⟩ rfl rfl hsize rfl (lv_room hroom) hdg hf
  exact r_goI X w hF' hrun (fun r' u H1 locs1 hr w1 => by rw [hr]; exact kk H1 locs1 w1)
end LW2
