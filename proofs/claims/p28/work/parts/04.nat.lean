/-! rows over small whole numbers; a method's beginning by the kind of its end -/
section RN
variable {p : Program} {l : Launch} {e : Env} {R : Room} {s : State} {m : MethodId} {args : Array Value} {below : List Frame} {meth : Method} {c : Code} {H : Heap} {locs : List Loc} {cells slots : Nat} {Q : State → Prop}
variable {cc : ByteArray} {pc : Nat} {ls : Array Slot} {rest : List Value} {x y : Int32} {i j : Nat}
theorem n_addN (i j : Nat) : nI i + nI j = nI (i + j) := nI_add i j
theorem r_addN (hx : p.tables.exec = Jvm.exec) (hb : c.code = cc) (i j : Nat) (ex : x = nI i) (ey : y = nI j) (hdg : decode cc pc = .ok (.iadd, 1)) (k : W p l e R s m args below meth c H locs cells slots Q (F0 m (pc + 1) ls (.int (nI (i + j)) :: rest))) : W p l e R s m args below meth c H locs cells slots Q (F0 m pc ls (.int y :: .int x :: rest)) := by
  subst ex; subst ey
  exact lv_iadd hx hb hdg (by rw [nI_add]; exact k)
theorem r_mulN (hx : p.tables.exec = Jvm.exec) (hb : c.code = cc) (i j : Nat) (ex : x = nI i) (ey : y = nI j) (hdg : decode cc pc = .ok (.imul, 1)) (k : W p l e R s m args below meth c H locs cells slots Q (F0 m (pc + 1) ls (.int (nI (i * j)) :: rest))) : W p l e R s m args below meth c H locs cells slots Q (F0 m pc ls (.int y :: .int x :: rest)) := by
  subst ex; subst ey
  exact lv_imul hx hb hdg (by rw [pk_mul]; exact k)
theorem r_subN (hx : p.tables.exec = Jvm.exec) (hb : c.code = cc) (i j : Nat) (ex : x = nI i) (ey : y = nI j) (h : j ≤ i) (hdg : decode cc pc = .ok (.isub, 1)) (k : W p l e R s m args below meth c H locs cells slots Q (F0 m (pc + 1) ls (.int (nI (i - j)) :: rest))) : W p l e R s m args below meth c H locs cells slots Q (F0 m pc ls (.int y :: .int x :: rest)) := by
  subst ex; subst ey
  exact lv_isub hx hb hdg (by rw [pk_sub h]; exact k)
theorem r_ltN (hx : p.tables.exec = Jvm.exec) (hb : c.code = cc) (i j : Nat) {off : Int} {tgt : Nat} (ex : x = nI i) (ey : y = nI j) (hi : i < 2 ^ 31) (hj : j < 2 ^ 31) (hdg : decode cc pc = .ok (.if_icmp .lt off, 3)) (ht : (pc : Int) + off = (tgt : Int)) (kt : i < j → W p l e R s m args below meth c H locs cells slots Q (F0 m tgt ls rest)) (kf : j ≤ i → W p l e R s m args below meth c H locs cells slots Q (F0 m (pc + 3) ls rest)) : W p l e R s m args below meth c H locs cells slots Q (F0 m pc ls (.int y :: .int x :: rest)) := by
  subst ex; subst ey
  exact lv_icmp_lt hx hb hdg ht (fun h => kt ((nI_ltI hi hj).mp h)) (fun h => kf (Nat.not_lt.mp fun q => h ((nI_ltI hi hj).mpr q)))
theorem r_geN (hx : p.tables.exec = Jvm.exec) (hb : c.code = cc) (i j : Nat) {off : Int} {tgt : Nat} (ex : x = nI i) (ey : y = nI j) (hi : i < 2 ^ 31) (hj : j < 2 ^ 31) (hdg : decode cc pc = .ok (.if_icmp .ge off, 3)) (ht : (pc : Int) + off = (tgt : Int)) (kt : j ≤ i → W p l e R s m args below meth c H locs cells slots Q (F0 m tgt ls rest)) (kf : i < j → W p l e R s m args below meth c H locs cells slots Q (F0 m (pc + 3) ls rest)) : W p l e R s m args below meth c H locs cells slots Q (F0 m pc ls (.int y :: .int x :: rest)) := by
  subst ex; subst ey
  exact lv_icmp_ge hx hb hdg ht (fun h => kt ((nI_leI hj hi).mp h)) (fun h => kf (Nat.not_le.mp fun q => h ((nI_leI hj hi).mpr q)))
theorem r_gtN (hx : p.tables.exec = Jvm.exec) (hb : c.code = cc) (i j : Nat) {off : Int} {tgt : Nat} (ex : x = nI i) (ey : y = nI j) (hi : i < 2 ^ 31) (hj : j < 2 ^ 31) (hdg : decode cc pc = .ok (.if_icmp .gt off, 3)) (ht : (pc : Int) + off = (tgt : Int)) (kt : j < i → W p l e R s m args below meth c H locs cells slots Q (F0 m tgt ls rest)) (kf : i ≤ j → W p l e R s m args below meth c H locs cells slots Q (F0 m (pc + 3) ls rest)) : W p l e R s m args below meth c H locs cells slots Q (F0 m pc ls (.int y :: .int x :: rest)) := by
  subst ex; subst ey
  exact lv_icmp_gt hx hb hdg ht (fun h => kt ((nI_ltI hj hi).mp h)) (fun h => kf (Nat.not_lt.mp fun q => h ((nI_ltI hj hi).mpr q)))
theorem r_leN (hx : p.tables.exec = Jvm.exec) (hb : c.code = cc) (i j : Nat) {off : Int} {tgt : Nat} (ex : x = nI i) (ey : y = nI j) (hi : i < 2 ^ 31) (hj : j < 2 ^ 31) (hdg : decode cc pc = .ok (.if_icmp .le off, 3)) (ht : (pc : Int) + off = (tgt : Int)) (kt : i ≤ j → W p l e R s m args below meth c H locs cells slots Q (F0 m tgt ls rest)) (kf : j < i → W p l e R s m args below meth c H locs cells slots Q (F0 m (pc + 3) ls rest)) : W p l e R s m args below meth c H locs cells slots Q (F0 m pc ls (.int y :: .int x :: rest)) := by
  subst ex; subst ey
  exact lv_icmp_le hx hb hdg ht (fun h => kt ((nI_leI hi hj).mp h)) (fun h => kf (Nat.not_le.mp fun q => h ((nI_leI hi hj).mpr q)))
theorem r_eqN (hx : p.tables.exec = Jvm.exec) (hb : c.code = cc) (i j : Nat) {off : Int} {tgt : Nat} (ex : x = nI i) (ey : y = nI j) (hi : i < 2 ^ 31) (hj : j < 2 ^ 31) (hdg : decode cc pc = .ok (.if_icmp .eq off, 3)) (ht : (pc : Int) + off = (tgt : Int)) (kt : i = j → W p l e R s m args below meth c H locs cells slots Q (F0 m tgt ls rest)) (kf : ¬ i = j → W p l e R s m args below meth c H locs cells slots Q (F0 m (pc + 3) ls rest)) : W p l e R s m args below meth c H locs cells slots Q (F0 m pc ls (.int y :: .int x :: rest)) := by
  subst ex; subst ey
  exact lv_icmp_eq hx hb hdg ht (fun h => kt ((nI_eq hi hj).mp h)) (fun h => kf (fun q => h ((nI_eq hi hj).mpr q)))
theorem r_neN (hx : p.tables.exec = Jvm.exec) (hb : c.code = cc) (i j : Nat) {off : Int} {tgt : Nat} (ex : x = nI i) (ey : y = nI j) (hi : i < 2 ^ 31) (hj : j < 2 ^ 31) (hdg : decode cc pc = .ok (.if_icmp .ne off, 3)) (ht : (pc : Int) + off = (tgt : Int)) (kt : ¬ i = j → W p l e R s m args below meth c H locs cells slots Q (F0 m tgt ls rest)) (kf : i = j → W p l e R s m args below meth c H locs cells slots Q (F0 m (pc + 3) ls rest)) : W p l e R s m args below meth c H locs cells slots Q (F0 m pc ls (.int y :: .int x :: rest)) := by
  subst ex; subst ey
  exact lv_icmp_ne hx hb hdg ht (fun h => kt (fun q => h ((nI_eq hi hj).mpr q))) (fun h => kf ((nI_eq hi hj).mp h))
theorem r_if0N (hx : p.tables.exec = Jvm.exec) (hb : c.code = cc) (i : Nat) {off : Int} {tgt : Nat} (ex : x = nI i) (hi : i < 2 ^ 31) (hdg : decode cc pc = .ok (.ifCond .eq off, 3)) (ht : (pc : Int) + off = (tgt : Int)) (kt : i = 0 → W p l e R s m args below meth c H locs cells slots Q (F0 m tgt ls rest)) (kf : ¬ i = 0 → W p l e R s m args below meth c H locs cells slots Q (F0 m (pc + 3) ls rest)) : W p l e R s m args below meth c H locs cells slots Q (F0 m pc ls (.int x :: rest)) := by
  subst ex
  exact lv_if_eq hx hb hdg ht (fun h => kt ((nI_eq hi (by decide)).mp h)) (fun h => kf (fun q => h (by rw [q]; rfl)))
theorem r_ifn0N (hx : p.tables.exec = Jvm.exec) (hb : c.code = cc) (i : Nat) {off : Int} {tgt : Nat} (ex : x = nI i) (hi : i < 2 ^ 31) (hdg : decode cc pc = .ok (.ifCond .ne off, 3)) (ht : (pc : Int) + off = (tgt : Int)) (kt : ¬ i = 0 → W p l e R s m args below meth c H locs cells slots Q (F0 m tgt ls rest)) (kf : i = 0 → W p l e R s m args below meth c H locs cells slots Q (F0 m (pc + 3) ls rest)) : W p l e R s m args below meth c H locs cells slots Q (F0 m pc ls (.int x :: rest)) := by
  subst ex
  exact lv_if_ne hx hb hdg ht (fun h => kt (fun q => h (by rw [q]; rfl))) (fun h => kf ((nI_eq hi (by decide)).mp h))
theorem r_iincN (hx : p.tables.exec = Jvm.exec) (hb : c.code = cc) {v nL k : Nat} {n : Int} {lv lv' : List (Nat × Value)} (i d : Nat) (hn : n = (d : Int)) (hdg : decode cc pc = .ok (.iinc v n, 3)) (h : lv_has ls nL lv) (hk : lv[k]? = some (v, .int x)) (ex : x = nI i) (hv : v < nL) (hl : (v, Value.int (nI (i + d))) :: lv.filter (fun q => !(q.1 == v) && !(q.1 + 1 == v && q.2.category == 2)) = lv')
    (kk : ∀ ls' : Array Slot, lv_has ls' nL lv' → W p l e R s m args below meth c H locs cells slots Q (F0 m (pc + 3) ls' rest)) : W p l e R s m args below meth c H locs cells slots Q (F0 m pc ls rest) := by
  subst ex; subst hn
  exact lv_iinc hx hb (k := k) hdg h hk (v := nI (i + d)) (by rw [show Int32.ofInt (d : Int) = nI d from rfl]; exact nI_add i d) hv hl kk
/-- tableswitch at a number that is named -/
theorem r_tabIn (hx : p.tables.exec = Jvm.exec) (hb : c.code = cc) {dflt lo hi : Int} {offs : Array Int} {len : Nat} (kv : Int32) {off : Int} {tgt : Nat} (ex : x = kv) (hdg : decode cc pc = .ok (.tableswitch dflt lo hi offs, len)) (h1 : ¬ kv.toInt < lo) (h2 : ¬ hi < kv.toInt) (ho : offs[(kv.toInt - lo).toNat]? = some off) (ht : (pc : Int) + off = (tgt : Int)) (k : W p l e R s m args below meth c H locs cells slots Q (F0 m tgt ls rest)) : W p l e R s m args below meth c H locs cells slots Q (F0 m pc ls (.int x :: rest)) := by
  subst ex
  exact lv_tableIn hx hb hdg h1 h2 ho ht k
theorem r_lookIn (hx : p.tables.exec = Jvm.exec) (hb : c.code = cc) {dflt : Int} {ps : Array (Int × Int)} {len : Nat} (kv : Int32) {off : Int} {tgt : Nat} (ex : x = kv) (hdg : decode cc pc = .ok (.lookupswitch dflt ps, len)) (hp : (ps.toList.zip (ps.toList.drop 1)).all (fun (a, next) => a.1 < next.1) = true) (ho : Op.lookupswitch.offset ps.toList dflt kv.toInt = off) (ht : (pc : Int) + off = (tgt : Int)) (k : W p l e R s m args below meth c H locs cells slots Q (F0 m tgt ls rest)) : W p l e R s m args below meth c H locs cells slots Q (F0 m pc ls (.int x :: rest)) := by
  subst ex
  exact lv_lookup hx hb hdg hp ho ht k
end RN
theorem i_ne {x k : Int32} (h : ¬ x = k) : ¬ x.toInt = k.toInt := fun q => h (Int32.toInt_inj.mp q)
theorem ui_of {ws : List Cond} (ps : List Nat) (h : ws = ps.filterMap (fun i => lw_tbl[i]?)) (g : ws.all goodWord = true) : ∀ w, w ∈ ws → w ∈ lw_all := fun w hw => by
  refine List.mem_filter.mpr ⟨?_, List.all_eq_true.mp g w hw⟩
  rw [h] at hw
  obtain ⟨i, -, hi⟩ := List.mem_filterMap.mp hw
  exact List.mem_of_getElem? hi
section REN
variable {l : Launch} {D : va_G} {y : MethodName} {cy : ByteArray} {ny fr lo sz : Nat} {As : List Value} {b : va_W}
theorem r_enterI {ret : Option FieldType} {r : Int32} {b' : va_W} (hy : plainName y.cls = true) (hlen : (lg_sl As).length ≤ ny)
    (body : ∀ (p : Program) (e : Env) (s : State) (m : MethodId) (args : Array Value) (below : List Frame) (meth : Method) (c : Code) (ls : Array Slot) (A : Nat → Prop), CX D p m c cy ny s args y.cls A → meth.sig.returnType = ret → meth.locks = false → Wd D A s.heap s.heap [] b → lv_has ls ny (lv_args 0 As) →
      W p l e (rmOf fr 0 0 lo) s m args below meth c s.heap [] 0 0 (QI below args s D A r b') (F0 m 0 ls [])) : MI l y cy ny ret fr lo D sz As b r b' :=
  r_enter hy hlen (fun p e s m args below meth c ls X hr hk _ _ w hl => body p e s m args below meth c ls _ X hr hk w hl)
theorem r_enterV {b' : va_W} (hy : plainName y.cls = true) (hlen : (lg_sl As).length ≤ ny)
    (body : ∀ (p : Program) (e : Env) (s : State) (m : MethodId) (args : Array Value) (below : List Frame) (meth : Method) (c : Code) (ls : Array Slot) (A : Nat → Prop), CX D p m c cy ny s args y.cls A → meth.sig.returnType = none → meth.locks = false → Wd D A s.heap s.heap [] b → lv_has ls ny (lv_args 0 As) →
      W p l e (rmOf fr 0 0 lo) s m args below meth c s.heap [] 0 0 (QV below args s D A b') (F0 m 0 ls [])) : MV l y cy ny fr lo D sz As b b' :=
  r_enter hy hlen (fun p e s m args below meth c ls X hr hk _ _ w hl => body p e s m args below meth c ls _ X hr hk w hl)
theorem r_enterIU {S : Type} {ret : Option FieldType} {r : Int32} {post : S → Prop} {b' : S → va_W} (hy : plainName y.cls = true) (hlen : (lg_sl As).length ≤ ny)
    (body : ∀ (p : Program) (e : Env) (s : State) (m : MethodId) (args : Array Value) (below : List Frame) (meth : Method) (c : Code) (ls : Array Slot) (A : Nat → Prop), CX D p m c cy ny s args y.cls A → meth.sig.returnType = ret → meth.locks = false → Wd D A s.heap s.heap [] b → lv_has ls ny (lv_args 0 As) →
      W p l e (rmOf fr 0 0 lo) s m args below meth c s.heap [] 0 0 (QIU below args s D A r post b') (F0 m 0 ls [])) : MIU l y cy ny ret fr lo D sz As b r post b' :=
  r_enter hy hlen (fun p e s m args below meth c ls X hr hk _ _ w hl => body p e s m args below meth c ls _ X hr hk w hl)
theorem r_enterVU {S : Type} {post : S → Prop} {b' : S → va_W} (hy : plainName y.cls = true) (hlen : (lg_sl As).length ≤ ny)
    (body : ∀ (p : Program) (e : Env) (s : State) (m : MethodId) (args : Array Value) (below : List Frame) (meth : Method) (c : Code) (ls : Array Slot) (A : Nat → Prop), CX D p m c cy ny s args y.cls A → meth.sig.returnType = none → meth.locks = false → Wd D A s.heap s.heap [] b → lv_has ls ny (lv_args 0 As) →
      W p l e (rmOf fr 0 0 lo) s m args below meth c s.heap [] 0 0 (QVU below args s D A post b') (F0 m 0 ls [])) : MVU l y cy ny fr lo D sz As b post b' :=
  r_enter hy hlen (fun p e s m args below meth c ls X hr hk _ _ w hl => body p e s m args below meth c ls _ X hr hk w hl)
end REN
