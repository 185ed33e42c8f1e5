theorem r_ldcwf {p : Program} {l : Launch} {e : Env} {R : Room} {s : State} {m : MethodId} {args : Array Value} {below : List Frame} {meth : Method} {c : Code} {H : Heap} {locs : List Loc} {cells slots : Nat} {Q : State → Prop} {cc : ByteArray} {pc : Nat} {ls : Array Slot} {rest : List Value} (hexec : p.tables.exec = Jvm.exec) (hb : c.code = cc) {own : String} {index : Nat} {v : UInt32} (hown : s.vm.findClass own = some m.cls) (hconst : (Jvm.Cond.constantFloat own index v).before args s = true) (hdg : decode cc pc = .ok (.ldc_w index, 3)) (k : W p l e R s m args below meth c H locs cells slots Q (F0 m (pc + 3) ls (.float v :: rest))) : W p l e R s m args below meth c H locs cells slots Q (F0 m pc ls rest) := by
  intro T hT X
  obtain ⟨t, a, b⟩ := k T hT X
  obtain ⟨kc, cf, hk, hcf, hcp⟩ := Cond.constantFloat_spec hown hconst
  obtain ⟨k', hk', he⟩ := X.warmed.alike.2.2 _ _ hk
  refine ⟨t, ?_, b⟩
  jvm_step X.here [X.here.top, hexec, hb, hdg, Jvm.Op.ldc_w.wp_float (s := T) (f := F0 m pc ls rest) X.here.top hk' (by rw [he]; exact hcf) hcp]
  exact a

set_option maxRecDepth 100000 in
set_option maxHeartbeats 4000000 in
theorem c_X6_bitsOfShare (l : Launch) (D : va_G) (sz : Nat) (n9 : Nat) (hq9 : okQ n9) : MI l yX6_bitsOfShare cX6_bitsOfShare 3 (some .int) 0 0 D sz [.float (uN n9)] [] (nI n9) ([]) := by
  refine r_enterI (by decide) (Nat.le_of_ble_eq_true rfl) ?_
  intro p e st m args below meth c ls A X hret hk hw hl
  have X : CX D p m c cX6_bitsOfShare 3 st args RX6 A := X
  have hx := X.1.1
  have hb := X.1.2.1
  have hown := X.1.2.2.2.1
  have hts := X.1.2.2.2.2
  have hl : lv_has ls 3 [(0, .float (uN n9))] := hl
  by_cases g0 : n9 = 0
  · skip
    refine lv_fload_n hx hb dX6_bitsOfShare_0 rfl (lv_at hl 0 rfl) ?_
    refine lv_fconst0 hx hb dX6_bitsOfShare_1 ?_
    refine lv_fcmp hx hb dX6_bitsOfShare_2 ?_
    refine lv_if_gt (tgt := 8) hx hb dX6_bitsOfShare_3 (by decide) (fun h => absurd h (by rw [g0]; decide +kernel)) (fun _ => ?_)
    refine lv_iconst (v := 0) hx hb dX6_bitsOfShare_6 (by decide) ?_
    exact r_ret X hw hk hret rfl (by rw [g0]; rfl) rfl dX6_bitsOfShare_7
  · skip
    have hq2 : 8388608 ≤ n9 ∧ n9 ≤ 1065353216 := hq9.resolve_left g0
    refine lv_fload_n hx hb dX6_bitsOfShare_0 rfl (lv_at hl 0 rfl) ?_
    refine lv_fconst0 hx hb dX6_bitsOfShare_1 ?_
    refine lv_fcmp hx hb dX6_bitsOfShare_2 ?_
    refine lv_if_gt (tgt := 8) hx hb dX6_bitsOfShare_3 (by decide) (fun _ => ?_) (fun h => absurd (cmp0_gt (by omega) (by omega)) h)
    refine lv_fload_n hx hb dX6_bitsOfShare_8 rfl (lv_at hl 0 rfl) ?_
    refine lv_fstore_n (lv' := [(1, .float (uN n9)), (0, .float (uN n9))]) hx hb dX6_bitsOfShare_9 rfl hl (by decide) rfl (fun ls hl => ?_)
    refine lv_bipush (v := 127) hx hb dX6_bitsOfShare_10 (by decide) ?_
    refine lv_istore_n (lv' := [(2, .int 127), (1, .float (uN n9)), (0, .float (uN n9))]) hx hb dX6_bitsOfShare_12 rfl hl (by decide) rfl (fun ls hl => ?_)
    have key13 : ∀ (n13 : Nat) (f z x : Nat), (f < n13) → (z = f) → (x + z * 8388608 = n9 + 1065353216) → (1 ≤ z ∧ z ≤ 127) → (8388608 ≤ x ∧ x < 1073741824) → ∀ (H : Heap) (locs : List Loc) (ls : Array Slot), Wd D A st.heap H locs ([]) → lv_has ls 3 [(0, .float (uN n9)), (1, .float (uN x)), (2, .int (nI z))] → W p l e (rmOf 0 0 0 0) st m args below meth c H locs 0 0 (QI below args st D A (nI n9) ([])) (F0 m 13 ls []) := by
      intro n13
      induction n13 with
      | zero => intro f z x hm hef hj he hxr; omega
      | succ n13 ih13 =>
        intro f z x hm hef hj he hxr H locs ls hw hl
        refine lv_iload_n hx hb dX6_bitsOfShare_13 rfl (lv_at hl 2 rfl) ?_
        refine lv_iconst (v := 1) hx hb dX6_bitsOfShare_14 (by decide) ?_
        refine r_leN (tgt := 34) hx hb z 1 rfl rfl (by omega) (by omega) dX6_bitsOfShare_15 (by decide) (fun c1 => ?_) (fun c1 => ?_)
        · skip
          have hx1 : 1065353216 ≤ x := by omega
          refine lv_iload_n hx hb dX6_bitsOfShare_34 rfl (lv_at hl 2 rfl) ?_
          refine lv_bipush (v := 23) hx hb dX6_bitsOfShare_35 (by decide) ?_
          refine lv_ishl hx hb dX6_bitsOfShare_37 ?_
          refine lv_fload_n hx hb dX6_bitsOfShare_38 rfl (lv_at hl 1 rfl) ?_
          refine r_ldcwf (v := 1258291200) hx hb hown (hts _ kc_X6_286) dX6_bitsOfShare_39 ?_
          refine lv_fmul hx hb dX6_bitsOfShare_42 (by rw [up23 (by omega) (by omega)]; exact nan_ok (by omega)) ?_
          refine lv_f2i hx hb dX6_bitsOfShare_43 ?_
          refine lv_iadd hx hb dX6_bitsOfShare_44 ?_
          refine lv_ldcw (v := 8388608) hx hb hown (hts _ kc_X6_287) dX6_bitsOfShare_45 ?_
          refine lv_isub hx hb dX6_bitsOfShare_48 ?_
          exact r_ret X hw hk hret rfl (share_end hj hx1 (by omega) (by omega)) rfl dX6_bitsOfShare_49
        · skip
          by_cases hx1 : 1065353216 ≤ x
          · skip
            refine lv_fload_n hx hb dX6_bitsOfShare_18 rfl (lv_at hl 1 rfl) ?_
            refine lv_fconst1 hx hb dX6_bitsOfShare_19 ?_
            refine lv_fcmp hx hb dX6_bitsOfShare_20 ?_
            refine lv_if_ge (tgt := 34) hx hb dX6_bitsOfShare_21 (by decide) (fun _ => ?_) (fun h => absurd ((cmp1 (by omega) (by omega)).mpr hx1) h)
            refine lv_iload_n hx hb dX6_bitsOfShare_34 rfl (lv_at hl 2 rfl) ?_
            refine lv_bipush (v := 23) hx hb dX6_bitsOfShare_35 (by decide) ?_
            refine lv_ishl hx hb dX6_bitsOfShare_37 ?_
            refine lv_fload_n hx hb dX6_bitsOfShare_38 rfl (lv_at hl 1 rfl) ?_
            refine r_ldcwf (v := 1258291200) hx hb hown (hts _ kc_X6_286) dX6_bitsOfShare_39 ?_
            refine lv_fmul hx hb dX6_bitsOfShare_42 (by rw [up23 (by omega) (by omega)]; exact nan_ok (by omega)) ?_
            refine lv_f2i hx hb dX6_bitsOfShare_43 ?_
            refine lv_iadd hx hb dX6_bitsOfShare_44 ?_
            refine lv_ldcw (v := 8388608) hx hb hown (hts _ kc_X6_287) dX6_bitsOfShare_45 ?_
            refine lv_isub hx hb dX6_bitsOfShare_48 ?_
            exact r_ret X hw hk hret rfl (share_end hj hx1 (by omega) (by omega)) rfl dX6_bitsOfShare_49
          · skip
            refine lv_fload_n hx hb dX6_bitsOfShare_18 rfl (lv_at hl 1 rfl) ?_
            refine lv_fconst1 hx hb dX6_bitsOfShare_19 ?_
            refine lv_fcmp hx hb dX6_bitsOfShare_20 ?_
            refine lv_if_ge (tgt := 34) hx hb dX6_bitsOfShare_21 (by decide) (fun h => absurd h (fun q => hx1 ((cmp1 (by omega) (by omega)).mp q))) (fun _ => ?_)
            refine lv_fload_n hx hb dX6_bitsOfShare_24 rfl (lv_at hl 1 rfl) ?_
            refine lv_fconst2 hx hb dX6_bitsOfShare_25 ?_
            refine lv_fmul hx hb dX6_bitsOfShare_26 (by rw [show Jvm.FP.fmul (uN x) Jvm.FP.fconst2 = uN (x + 8388608) from dbl (by omega) (by omega)]; exact nan_ok (by omega)) ?_
            rw [show Jvm.FP.fmul (uN x) Jvm.FP.fconst2 = uN (x + 8388608) from dbl (by omega) (by omega)]
            refine lv_fstore_n (lv' := [(1, .float (uN (x + 8388608))), (0, .float (uN n9)), (2, .int (nI z))]) hx hb dX6_bitsOfShare_27 rfl hl (by decide) rfl (fun ls hl => ?_)
            refine r_idecN (lv' := [(2, .int (nI (z - 1))), (1, .float (uN (x + 8388608))), (0, .float (uN n9))]) hx hb z (by omega) dX6_bitsOfShare_28 hl (k := 2) rfl rfl (by decide) rfl (fun ls hl => ?_)
            refine lv_goto (tgt := 13) hx hb dX6_bitsOfShare_31 (by decide) ?_
            exact ih13 (f - 1) (z - 1) (x + 8388608) (by omega) (by omega) (by omega) (by omega) (by omega) _ _ _ hw (lv_sub hl [2, 1, 0] rfl)
    exact key13 128 127 127 n9 (by omega) rfl (by omega) (by omega) (by omega) _ _ _ hw (lv_sub hl [2, 1, 0] rfl)

set_option maxRecDepth 100000 in
set_option maxHeartbeats 4000000 in
theorem c_X6_share (l : Launch) (D : va_G) (sz : Nat) (o ha ta : Nat) (L w1 w2 M y1 y2 : Nat → Nat) (HL HW1 HW2 : Nat → Nat → Nat) (b0 b1 b2 b3 : Nat) (bw : Nat → Nat) (u0 u1 : Nat) (tx : Row) (T : Nat) (s t : ChS) (hs : Nat → ChS) (en tb : Row) (sh : Nat → Row) (n0 : Int32) (nu : Row) (lt br le : Int32) (k : Nat) (hk4 : k ≤ 4) (hT : T ≤ 60) (h9 : ¬ s.bc = 0) (q9 : Nat) (hq9 : Jvm.FP.fdiv (Jvm.FP.i2f s.tc) (Jvm.FP.i2f s.bc) = uN q9) (hqz : okQ q9) : MI l yX6_share cX6_share 1 (some .int) 1 22 D sz [.ref o] (([([xB D o ha ta (L 0) (M 0) b0 u0 (nI k) (rows4 HL) tx (nI T), chipB D L w1 w2 s.v s.f s.g s.r s.av s.mk s.cm s.ar s.fl s.en s.la s.zs s.se s.ph s.tk s.pc s.rc s.wc s.bc s.tc, hsB D HL HW1 HW2 hs] : List va_W).flatten, ([chipB D M y1 y2 t.v t.f t.g t.r t.av t.mk t.cm t.ar t.fl t.en t.la t.zs t.se t.ph t.tk t.pc t.rc t.wc t.bc t.tc, buB D b0 b1 b2 b3 bw en tb sh n0, orB D u0 u1 nu lt br le] : List va_W).flatten] : List va_W).flatten) (nI q9) (([([xB D o ha ta (L 0) (M 0) b0 u0 (nI k) (rows4 HL) tx (nI T), chipB D L w1 w2 s.v s.f s.g s.r s.av s.mk s.cm s.ar s.fl s.en s.la s.zs s.se s.ph s.tk s.pc s.rc s.wc s.bc s.tc, hsB D HL HW1 HW2 hs] : List va_W).flatten, ([chipB D M y1 y2 t.v t.f t.g t.r t.av t.mk t.cm t.ar t.fl t.en t.la t.zs t.se t.ph t.tk t.pc t.rc t.wc t.bc t.tc, buB D b0 b1 b2 b3 bw en tb sh n0, orB D u0 u1 nu lt br le] : List va_W).flatten] : List va_W).flatten) := by
  refine r_enterI (by decide) (Nat.le_of_ble_eq_true rfl) ?_
  intro p e st m args below meth c ls A X hret hk hw hl
  have X : CX D p m c cX6_share 1 st args RX6 A := X
  have hx := X.1.1
  have hb := X.1.2.1
  have hown := X.1.2.2.2.1
  have hts := X.1.2.2.2.2
  have hl : lv_has ls 1 [(0, .ref o)] := hl
  refine lv_aload_n hx hb dX6_share_0 rfl (lv_at hl 0 rfl) ?_
  refine r_get X hw (v := .ref (L 0)) fl_X6_10 (m_fl 0 rfl (m_fl 0 rfl (m_at 0 rfl))) rfl dX6_share_1 ?_
  refine r_get X hw (v := .int s.bc) fl_X6_226 (m_fl 0 rfl (m_fl 1 rfl (m_fl 0 rfl (m_at 0 rfl)))) rfl dX6_share_4 ?_
  refine lv_if_ne (tgt := 13) hx hb dX6_share_7 (by decide) (fun _ => ?_) (fun h => absurd h h9)
  refine lv_aload_n hx hb dX6_share_13 rfl (lv_at hl 0 rfl) ?_
  refine r_get X hw (v := .ref (L 0)) fl_X6_10 (m_fl 0 rfl (m_fl 0 rfl (m_at 0 rfl))) rfl dX6_share_14 ?_
  refine r_get X hw (v := .int s.tc) fl_X6_229 (m_fl 0 rfl (m_fl 1 rfl (m_fl 0 rfl (m_at 0 rfl)))) rfl dX6_share_17 ?_
  refine lv_i2f hx hb dX6_share_20 ?_
  refine lv_aload_n hx hb dX6_share_21 rfl (lv_at hl 0 rfl) ?_
  refine r_get X hw (v := .ref (L 0)) fl_X6_10 (m_fl 0 rfl (m_fl 0 rfl (m_at 0 rfl))) rfl dX6_share_22 ?_
  refine r_get X hw (v := .int s.bc) fl_X6_226 (m_fl 0 rfl (m_fl 1 rfl (m_fl 0 rfl (m_at 0 rfl)))) rfl dX6_share_25 ?_
  refine lv_i2f hx hb dX6_share_28 ?_
  refine lv_fdiv hx hb dX6_share_29 (by rw [hq9]; exact nan_ok (by unfold okQ at hqz; omega)) ?_
  rw [hq9]
  refine r_callS X hw (ws' := ([([xB D o ha ta (L 0) (M 0) b0 u0 (nI k) (rows4 HL) tx (nI T), chipB D L w1 w2 s.v s.f s.g s.r s.av s.mk s.cm s.ar s.fl s.en s.la s.zs s.se s.ph s.tk s.pc s.rc s.wc s.bc s.tc, hsB D HL HW1 HW2 hs] : List va_W).flatten, ([chipB D M y1 y2 t.v t.f t.g t.r t.av t.mk t.cm t.ar t.fl t.en t.la t.zs t.se t.ph t.tk t.pc t.rc t.wc t.bc t.tc, buB D b0 b1 b2 b3 bw en tb sh n0, orB D u0 u1 nu lt br le] : List va_W).flatten] : List va_W).flatten) (As := [.float (uN q9)]) (rest := []) lk_X6_232 (c_X6_bitsOfShare l D _ q9 hqz) Foc.nil rfl hl.1 (Nat.le_of_ble_eq_true rfl) ⟨Nat.le_of_ble_eq_true rfl, Nat.le_of_ble_eq_true rfl⟩ rfl dX6_share_30 ⟨Nat.le_refl _, Nat.le_refl _⟩ (fun H locs hw => ?_)
  exact r_ret X hw hk hret rfl rfl rfl dX6_share_33

set_option maxRecDepth 100000 in
set_option maxHeartbeats 4000000 in
theorem c_X6_shareN (l : Launch) (D : va_G) (sz : Nat) (o ha ta : Nat) (L w1 w2 M y1 y2 : Nat → Nat) (HL HW1 HW2 : Nat → Nat → Nat) (b0 b1 b2 b3 : Nat) (bw : Nat → Nat) (u0 u1 : Nat) (tx : Row) (T : Nat) (s t : ChS) (hs : Nat → ChS) (en tb : Row) (sh : Nat → Row) (n0 : Int32) (nu : Row) (lt br le : Int32) (k : Nat) (hk4 : k ≤ 4) (hT : T ≤ 60) (h9 : s.bc = 0) : MI l yX6_share cX6_share 1 (some .int) 0 0 D sz [.ref o] (([([xB D o ha ta (L 0) (M 0) b0 u0 (nI k) (rows4 HL) tx (nI T), chipB D L w1 w2 s.v s.f s.g s.r s.av s.mk s.cm s.ar s.fl s.en s.la s.zs s.se s.ph s.tk s.pc s.rc s.wc s.bc s.tc, hsB D HL HW1 HW2 hs] : List va_W).flatten, ([chipB D M y1 y2 t.v t.f t.g t.r t.av t.mk t.cm t.ar t.fl t.en t.la t.zs t.se t.ph t.tk t.pc t.rc t.wc t.bc t.tc, buB D b0 b1 b2 b3 bw en tb sh n0, orB D u0 u1 nu lt br le] : List va_W).flatten] : List va_W).flatten) (-1000004) (([([xB D o ha ta (L 0) (M 0) b0 u0 (nI k) (rows4 HL) tx (nI T), chipB D L w1 w2 s.v s.f s.g s.r s.av s.mk s.cm s.ar s.fl s.en s.la s.zs s.se s.ph s.tk s.pc s.rc s.wc s.bc s.tc, hsB D HL HW1 HW2 hs] : List va_W).flatten, ([chipB D M y1 y2 t.v t.f t.g t.r t.av t.mk t.cm t.ar t.fl t.en t.la t.zs t.se t.ph t.tk t.pc t.rc t.wc t.bc t.tc, buB D b0 b1 b2 b3 bw en tb sh n0, orB D u0 u1 nu lt br le] : List va_W).flatten] : List va_W).flatten) := by
  refine r_enterI (by decide) (Nat.le_of_ble_eq_true rfl) ?_
  intro p e st m args below meth c ls A X hret hk hw hl
  have X : CX D p m c cX6_share 1 st args RX6 A := X
  have hx := X.1.1
  have hb := X.1.2.1
  have hown := X.1.2.2.2.1
  have hts := X.1.2.2.2.2
  have hl : lv_has ls 1 [(0, .ref o)] := hl
  refine lv_aload_n hx hb dX6_share_0 rfl (lv_at hl 0 rfl) ?_
  refine r_get X hw (v := .ref (L 0)) fl_X6_10 (m_fl 0 rfl (m_fl 0 rfl (m_at 0 rfl))) rfl dX6_share_1 ?_
  refine r_get X hw (v := .int s.bc) fl_X6_226 (m_fl 0 rfl (m_fl 1 rfl (m_fl 0 rfl (m_at 0 rfl)))) rfl dX6_share_4 ?_
  refine lv_if_ne (tgt := 13) hx hb dX6_share_7 (by decide) (fun h => absurd h9 h) (fun _ => ?_)
  refine lv_ldc (v := (-1000004)) hx hb hown (hts _ kc_X6_185) dX6_share_10 ?_
  exact r_ret X hw hk hret rfl rfl rfl dX6_share_12
