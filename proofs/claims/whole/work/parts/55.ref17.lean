section REF
variable {l : Launch} {D : va_G} {y : MethodName} {cy : ByteArray} {ny fr lo sz : Nat} {As : List Value} {b : va_W}
theorem r_enterF {mc ms : Nat} {ret : Option FieldType} {Qc : Array Value → State → Outcome → State → Prop} (hy : plainFor y = true) (hlen : (lg_sl As).length ≤ ny)
    (body : ∀ (p : Program) (e : Env) (s : State) (m : MethodId) (args : Array Value) (below : List Frame) (meth : Method) (c : Code) (ls : Array Slot), CX D p m c cy ny s args y.cls (va_A b sz) → meth.sig.returnType = ret → meth.locks = false → meth.name = y.name → s.heap.size = sz → Wd D (va_A b sz) s.heap s.heap [] b → lv_has ls ny (lv_args 0 As) →
      W p l e (rmOf fr mc ms lo) s m args below meth c s.heap [] 0 0 (MQ below Qc args s mc ms (va_A b sz)) (F0 m 0 ls [])) :
    Met l y (WS y cy ny ret) (rmOf fr mc ms lo) (va_Pc As (PreW D sz b)) Qc mc ms (va_A b sz) := by
  refine va_MetF (cc := cy) (maxL := ny) (ret := ret) hy rfl ?_
  intro p e s m args below meth c s₁ B hml hv
  obtain ⟨rfl, hsz, hP, hK, hD, hS⟩ := hv
  have hts := atoms_spec (ws := WS y cy ny ret) B.pre
  have hl := lv_entry As (n := ny) hlen
  rw [lg_entry_eq]
  subst hsz
  exact body p e s m _ below meth c _ ⟨⟨B.exec, B.bytes, hml, findClass_of_methodNamed B.named, fun w h => hts w (List.mem_cons_of_mem _ h)⟩, hK, hS, fun q h => Or.inr h⟩ B.returns B.notSynchronized (name_of_methodNamed B.named B.method).1 rfl ⟨hP, hD.self, va_S.rf⟩ hl
theorem r_enterIF {ret : Option FieldType} {r : Int32} {b' : va_W} (hy : plainFor y = true) (hlen : (lg_sl As).length ≤ ny)
    (body : ∀ (p : Program) (e : Env) (s : State) (m : MethodId) (args : Array Value) (below : List Frame) (meth : Method) (c : Code) (ls : Array Slot) (A : Nat → Prop), CX D p m c cy ny s args y.cls A → meth.sig.returnType = ret → meth.locks = false → Wd D A s.heap s.heap [] b → lv_has ls ny (lv_args 0 As) →
      W p l e (rmOf fr 0 0 lo) s m args below meth c s.heap [] 0 0 (QI below args s D A r b') (F0 m 0 ls [])) : MI l y cy ny ret fr lo D sz As b r b' :=
  r_enterF hy hlen (fun p e s m args below meth c ls X hr hk _ _ w hl => body p e s m args below meth c ls _ X hr hk w hl)
end REF
theorem cmp_eq {a : Int} : compare a a = .eq := by
  show compareOfLessAndEq a a = _
  unfold compareOfLessAndEq
  rw [if_neg (by omega), if_pos rfl]
theorem cmp_self {n : Nat} (h : okQ n) : Jvm.Op.cmpValue (Jvm.FP.fcmp (uN n) (uN n)) .l = 0 := by
  have : Jvm.FP.fcmp (uN n) (uN n) = some .eq := by
    rcases h with h | ⟨h1, h2⟩
    · rw [h]; decide +kernel
    · obtain ⟨E, T, e1, e2, e3, e4⟩ := fl_un h1 (by omega)
      show Jvm.FP.Core.order (Jvm.FP.Core.decode f32 (uN n).toNat) (Jvm.FP.Core.decode f32 (uN n).toNat) = some .eq
      rw [uN_nat (by omega), e4, fl_dec e1 (by omega) e3]
      unfold Jvm.FP.Core.order
      dsimp only
      rw [cmp_eq]
  rw [this]
  rfl

set_option maxRecDepth 100000 in
set_option maxHeartbeats 4000000 in
theorem c_Jxf58ca_isNaN_12338 (l : Launch) (D : va_G) (sz : Nat) (q9 : Nat) (hqz : okQ q9) : MI l yJxf58ca_isNaN_12338 cJxf58ca_isNaN_12338 1 (some .boolean) 0 0 D sz [.float (uN q9)] [] 0 ([]) := by
  refine r_enterIF (by decide +kernel) (Nat.le_of_ble_eq_true rfl) ?_
  intro p e st m args below meth c ls A X hret hk hw hl
  have X : CX D p m c cJxf58ca_isNaN_12338 1 st args RJxf58ca A := X
  have hx := X.1.1
  have hb := X.1.2.1
  have hown := X.1.2.2.2.1
  have hts := X.1.2.2.2.2
  have hl : lv_has ls 1 [(0, .float (uN q9))] := hl
  refine lv_fload_n hx hb dJxf58ca_isNaN_12338_0 rfl (lv_at hl 0 rfl) ?_
  refine lv_fload_n hx hb dJxf58ca_isNaN_12338_1 rfl (lv_at hl 0 rfl) ?_
  refine lv_fcmp hx hb dJxf58ca_isNaN_12338_2 ?_
  refine lv_if_eq (tgt := 10) hx hb dJxf58ca_isNaN_12338_3 (by decide) (fun _ => ?_) (fun h => absurd (cmp_self hqz) h)
  refine lv_iconst (v := 0) hx hb dJxf58ca_isNaN_12338_10 (by decide) ?_
  exact r_ret X hw hk hret rfl rfl rfl dJxf58ca_isNaN_12338_11

set_option maxRecDepth 100000 in
set_option maxHeartbeats 4000000 in
theorem c_Jxf58ca_floatToIntBits_5c35a (l : Launch) (D : va_G) (sz : Nat) (q9 : Nat) (hqz : okQ q9) : MI l yJxf58ca_floatToIntBits_5c35a cJxf58ca_floatToIntBits_5c35a 1 (some .int) 1 26 D sz [.float (uN q9)] [] (nI q9) ([]) := by
  refine r_enterIF (by decide +kernel) (Nat.le_of_ble_eq_true rfl) ?_
  intro p e st m args below meth c ls A X hret hk hw hl
  have X : CX D p m c cJxf58ca_floatToIntBits_5c35a 1 st args RJxf58ca A := X
  have hx := X.1.1
  have hb := X.1.2.1
  have hown := X.1.2.2.2.1
  have hts := X.1.2.2.2.2
  have hl : lv_has ls 1 [(0, .float (uN q9))] := hl
  refine lv_fload_n hx hb dJxf58ca_floatToIntBits_5c35a_0 rfl (lv_at hl 0 rfl) ?_
  refine r_callS X hw (ws' := []) (As := [.float (uN q9)]) (rest := []) lk_Jxf58ca_59 (c_Jxf58ca_isNaN_12338 l D _ q9 hqz) Foc.nil rfl hl.1 (Nat.le_of_ble_eq_true rfl) ⟨Nat.le_of_ble_eq_true rfl, Nat.le_of_ble_eq_true rfl⟩ rfl dJxf58ca_floatToIntBits_5c35a_1 ⟨Nat.le_refl _, Nat.le_refl _⟩ (fun H locs hw => ?_)
  refine lv_if_ne (tgt := 12) hx hb dJxf58ca_floatToIntBits_5c35a_4 (by decide) (fun h => absurd (by decide) h) (fun _ => ?_)
  refine lv_fload_n hx hb dJxf58ca_floatToIntBits_5c35a_7 rfl (lv_at hl 0 rfl) ?_
  refine vn_f2i hx hb (X.1.2.2.1.trans hl.1.symm) hown (hts _ (in_all 896 (by decide +kernel) rfl)) (hts _ (in_all 898 (by decide +kernel) rfl)) (hts _ (in_all 897 (by decide +kernel) rfl)) (hts _ (in_all 47 (by decide +kernel) rfl)) (Nat.le_of_ble_eq_true rfl) (Nat.le_of_ble_eq_true rfl) dJxf58ca_floatToIntBits_5c35a_8 ?_
  rw [uN_i]
  exact r_ret X hw hk hret rfl rfl rfl dJxf58ca_floatToIntBits_5c35a_11

set_option maxRecDepth 100000 in
set_option maxHeartbeats 4000000 in
theorem c_X7_share (l : Launch) (D : va_G) (sz : Nat) (L : Nat → Nat) (s : Row) (o1 : Row) (o2 : Int32) (o3 : Int32) (o4 : Row) (o5 : Row) (o6 : Row) (o7 : Int32) (o8 : Row) (o9 : Int32) (o10 : Row) (o11 : Int32) (o12 : Int32) (o13 : Int32) (o14 : Int32) (o15 : Int32) (o16 : Int32) (o17 : Row) (o18 : Row) (h9 : ¬ s 31 = 0) (q9 : Nat) (hq9 : Jvm.FP.fdiv (Jvm.FP.i2f (s 32)) (Jvm.FP.i2f (s 31)) = uN q9) (hqz : okQ q9) : MI l yX7_share cX7_share 3 (some .int) 2 46 D sz [.ref (L 0)] (mW D L s o1 o2 o3 o4 o5 o6 o7 o8 o9 o10 o11 o12 o13 o14 o15 o16 o17 o18) (nI q9) (mW D L s o1 o2 o3 o4 o5 o6 o7 o8 o9 o10 o11 o12 o13 o14 o15 o16 o17 o18) := by
  refine r_enterI (by decide) (Nat.le_of_ble_eq_true rfl) ?_
  intro p e st m args below meth c ls A X hret hk hw hl
  have X : CX D p m c cX7_share 3 st args RX7 A := X
  have hx := X.1.1
  have hb := X.1.2.1
  have hown := X.1.2.2.2.1
  have hts := X.1.2.2.2.2
  have hl : lv_has ls 3 [(0, .ref (L 0))] := hl
  refine lv_aload_n hx hb dX7_share_0 rfl (lv_at hl 0 rfl) ?_
  refine r_get X hw (v := .ref (L 1)) fl_X7_7 (m_at 0 rfl) rfl dX7_share_1 ?_
  refine lv_bipush (v := 32) hx hb dX7_share_4 (by decide) ?_
  refine r_iald X hw (f := s) 32 (m_at 1 rfl) rfl (by decide) (by decide) dX7_share_6 ?_
  refine lv_i2f hx hb dX7_share_7 ?_
  refine lv_fstore_n (lv' := [(1, .float (Jvm.FP.i2f (s 32))), (0, .ref (L 0))]) hx hb dX7_share_8 rfl hl (by decide) rfl (fun ls hl => ?_)
  refine lv_aload_n hx hb dX7_share_9 rfl (lv_at hl 1 rfl) ?_
  refine r_get X hw (v := .ref (L 1)) fl_X7_7 (m_at 0 rfl) rfl dX7_share_10 ?_
  refine lv_bipush (v := 31) hx hb dX7_share_13 (by decide) ?_
  refine r_iald X hw (f := s) 31 (m_at 1 rfl) rfl (by decide) (by decide) dX7_share_15 ?_
  refine lv_i2f hx hb dX7_share_16 ?_
  refine lv_fstore_n (lv' := [(2, .float (Jvm.FP.i2f (s 31))), (1, .float (Jvm.FP.i2f (s 32))), (0, .ref (L 0))]) hx hb dX7_share_17 rfl hl (by decide) rfl (fun ls hl => ?_)
  refine lv_aload_n hx hb dX7_share_18 rfl (lv_at hl 2 rfl) ?_
  refine r_get X hw (v := .ref (L 1)) fl_X7_7 (m_at 0 rfl) rfl dX7_share_19 ?_
  refine lv_bipush (v := 31) hx hb dX7_share_22 (by decide) ?_
  refine r_iald X hw (f := s) 31 (m_at 1 rfl) rfl (by decide) (by decide) dX7_share_24 ?_
  refine lv_if_ne (tgt := 33) hx hb dX7_share_25 (by decide) (fun _ => ?_) (fun h => absurd h h9)
  refine lv_fload_n hx hb dX7_share_33 rfl (lv_at hl 1 rfl) ?_
  refine lv_fload_n hx hb dX7_share_34 rfl (lv_at hl 0 rfl) ?_
  refine lv_fdiv hx hb dX7_share_35 (by rw [hq9]; exact nan_ok (by unfold okQ at hqz; omega)) ?_
  rw [hq9]
  refine r_callS X hw (ws' := mW D L s o1 o2 o3 o4 o5 o6 o7 o8 o9 o10 o11 o12 o13 o14 o15 o16 o17 o18) (As := [.float (uN q9)]) (rest := []) lk_X7_164 (c_Jxf58ca_floatToIntBits_5c35a l D _ q9 hqz) Foc.nil rfl hl.1 (Nat.le_of_ble_eq_true rfl) ⟨Nat.le_of_ble_eq_true rfl, Nat.le_of_ble_eq_true rfl⟩ rfl dX7_share_36 ⟨Nat.le_refl _, Nat.le_refl _⟩ (fun H locs hw => ?_)
  exact r_ret X hw hk hret rfl rfl rfl dX7_share_39

set_option maxRecDepth 100000 in
set_option maxHeartbeats 4000000 in
theorem c_X7_share_nf (l : Launch) (D : va_G) (sz : Nat) (L : Nat → Nat) (s : Row) (o1 : Row) (o2 : Int32) (o3 : Int32) (o4 : Row) (o5 : Row) (o6 : Row) (o7 : Int32) (o8 : Row) (o9 : Int32) (o10 : Row) (o11 : Int32) (o12 : Int32) (o13 : Int32) (o14 : Int32) (o15 : Int32) (o16 : Int32) (o17 : Row) (o18 : Row) (h9 : s 31 = 0) : MI l yX7_share cX7_share 3 (some .int) 0 0 D sz [.ref (L 0)] (mW D L s o1 o2 o3 o4 o5 o6 o7 o8 o9 o10 o11 o12 o13 o14 o15 o16 o17 o18) (-1000004) (mW D L s o1 o2 o3 o4 o5 o6 o7 o8 o9 o10 o11 o12 o13 o14 o15 o16 o17 o18) := by
  refine r_enterI (by decide) (Nat.le_of_ble_eq_true rfl) ?_
  intro p e st m args below meth c ls A X hret hk hw hl
  have X : CX D p m c cX7_share 3 st args RX7 A := X
  have hx := X.1.1
  have hb := X.1.2.1
  have hown := X.1.2.2.2.1
  have hts := X.1.2.2.2.2
  have hl : lv_has ls 3 [(0, .ref (L 0))] := hl
  refine lv_aload_n hx hb dX7_share_0 rfl (lv_at hl 0 rfl) ?_
  refine r_get X hw (v := .ref (L 1)) fl_X7_7 (m_at 0 rfl) rfl dX7_share_1 ?_
  refine lv_bipush (v := 32) hx hb dX7_share_4 (by decide) ?_
  refine r_iald X hw (f := s) 32 (m_at 1 rfl) rfl (by decide) (by decide) dX7_share_6 ?_
  refine lv_i2f hx hb dX7_share_7 ?_
  refine lv_fstore_n (lv' := [(1, .float (Jvm.FP.i2f (s 32))), (0, .ref (L 0))]) hx hb dX7_share_8 rfl hl (by decide) rfl (fun ls hl => ?_)
  refine lv_aload_n hx hb dX7_share_9 rfl (lv_at hl 1 rfl) ?_
  refine r_get X hw (v := .ref (L 1)) fl_X7_7 (m_at 0 rfl) rfl dX7_share_10 ?_
  refine lv_bipush (v := 31) hx hb dX7_share_13 (by decide) ?_
  refine r_iald X hw (f := s) 31 (m_at 1 rfl) rfl (by decide) (by decide) dX7_share_15 ?_
  refine lv_i2f hx hb dX7_share_16 ?_
  refine lv_fstore_n (lv' := [(2, .float (Jvm.FP.i2f (s 31))), (1, .float (Jvm.FP.i2f (s 32))), (0, .ref (L 0))]) hx hb dX7_share_17 rfl hl (by decide) rfl (fun ls hl => ?_)
  refine lv_aload_n hx hb dX7_share_18 rfl (lv_at hl 2 rfl) ?_
  refine r_get X hw (v := .ref (L 1)) fl_X7_7 (m_at 0 rfl) rfl dX7_share_19 ?_
  refine lv_bipush (v := 31) hx hb dX7_share_22 (by decide) ?_
  refine r_iald X hw (f := s) 31 (m_at 1 rfl) rfl (by decide) (by decide) dX7_share_24 ?_
  refine lv_if_ne (tgt := 33) hx hb dX7_share_25 (by decide) (fun h => absurd h9 h) (fun _ => ?_)
  refine lv_ldc (v := (-1000004)) hx hb hown (hts _ kc_X7_113) dX7_share_28 ?_
  refine lv_goto (tgt := 39) hx hb dX7_share_30 (by decide) ?_
  exact r_ret X hw hk hret rfl rfl rfl dX7_share_39
