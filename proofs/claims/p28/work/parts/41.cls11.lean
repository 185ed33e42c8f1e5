/-! the program's own object: its fields, the history's array, the text -/
def rows4 (HL : Nat → Nat → Nat) : Nat → Option Nat := fun j => if j < 4 then some (HL j 0) else none
abbrev xB (D : va_G) (o ha ta na tr mk od : Nat) (n : Int32) (g : Nat → Option Nat) (tx : Row) (T : Int32) : va_W :=
  [(o, .inr (6, [.ref na, .ref tr, .ref mk, .ref od, .ref ha, .int n, .ref ta, .int T])), (ha, .inl (D.1 103, 4, .inr (.inr (.inr (.inr g))))), (ta, .inl (D.1 101, 60, .inl tx))]
/-- the chips of the history, in its order -/
abbrev hsB (D : va_G) (HL HW1 HW2 : Nat → Nat → Nat) (hs : Nat → ChS) : va_W :=
  ([chipB D (HL 0) (HW1 0) (HW2 0) ((hs 0).v) ((hs 0).f) ((hs 0).g) ((hs 0).r) ((hs 0).av) ((hs 0).mk) ((hs 0).cm) ((hs 0).ar) ((hs 0).fl) ((hs 0).en) ((hs 0).la) ((hs 0).zs) ((hs 0).se) ((hs 0).ph) ((hs 0).tk) ((hs 0).pc) ((hs 0).rc) ((hs 0).wc) ((hs 0).bc) ((hs 0).tc), chipB D (HL 1) (HW1 1) (HW2 1) ((hs 1).v) ((hs 1).f) ((hs 1).g) ((hs 1).r) ((hs 1).av) ((hs 1).mk) ((hs 1).cm) ((hs 1).ar) ((hs 1).fl) ((hs 1).en) ((hs 1).la) ((hs 1).zs) ((hs 1).se) ((hs 1).ph) ((hs 1).tk) ((hs 1).pc) ((hs 1).rc) ((hs 1).wc) ((hs 1).bc) ((hs 1).tc), chipB D (HL 2) (HW1 2) (HW2 2) ((hs 2).v) ((hs 2).f) ((hs 2).g) ((hs 2).r) ((hs 2).av) ((hs 2).mk) ((hs 2).cm) ((hs 2).ar) ((hs 2).fl) ((hs 2).en) ((hs 2).la) ((hs 2).zs) ((hs 2).se) ((hs 2).ph) ((hs 2).tk) ((hs 2).pc) ((hs 2).rc) ((hs 2).wc) ((hs 2).bc) ((hs 2).tc), chipB D (HL 3) (HW1 3) (HW2 3) ((hs 3).v) ((hs 3).f) ((hs 3).g) ((hs 3).r) ((hs 3).av) ((hs 3).mk) ((hs 3).cm) ((hs 3).ar) ((hs 3).fl) ((hs 3).en) ((hs 3).la) ((hs 3).zs) ((hs 3).se) ((hs 3).ph) ((hs 3).tk) ((hs 3).pc) ((hs 3).rc) ((hs 3).wc) ((hs 3).bc) ((hs 3).tc)] : List va_W).flatten
def roN {α : Type} (k : Nat) (f : Nat → α) : Nat → α := if k = 4 then (fun j => f ((j + 1) % 4)) else f
noncomputable def khS (k : Nat) (hs : Nat → ChS) (s : ChS) : Nat → ChS := if k = 4 then va_up (fun j => hs ((j + 1) % 4)) 3 (cpC (hs 0) s) else va_up hs k (cpC (hs k) s)
def khN (k : Nat) : Nat := if k = 4 then 4 else k + 1
theorem w3 {a b c a' b' c' : va_W} (h1 : a = a') (h2 : b = b') (h3 : c = c') : ([a, b, c] : List va_W).flatten = ([a', b', c'] : List va_W).flatten := by
  rw [h1, h2, h3]
theorem rot_perm {x y a b c d : va_W} : (([x, y, ([a, b, c, d] : List va_W).flatten] : List va_W).flatten).Perm (([x, y, ([b, c, d, a] : List va_W).flatten] : List va_W).flatten) := by
  simp only [List.flatten_cons, List.flatten_nil, List.append_nil]
  refine List.Perm.append_left x (List.Perm.append_left y ?_)
  rw [show b ++ (c ++ (d ++ a)) = (b ++ (c ++ d)) ++ a from by simp only [List.append_assoc]]
  exact List.perm_append_comm
theorem rot_rows (HL : Nat → Nat → Nat) : va_up (va_up (va_up (va_up (rows4 HL) 0 (some (HL 1 0))) 1 (some (HL 2 0))) 2 (some (HL 3 0))) 3 (some (HL 0 0)) = rows4 (roN 4 HL) := by
  funext j
  match j with
  | 0 => rfl
  | 1 => rfl
  | 2 => rfl
  | 3 => rfl
  | j + 4 =>
    unfold va_up rows4
    simp
    rw [if_neg (by omega), if_neg (by omega)]

set_option maxRecDepth 100000 in
set_option maxHeartbeats 4000000 in
theorem c_X6_keepState (l : Launch) (D : va_G) (sz : Nat) (o ha ta tr mk od : Nat) (tx : Row) (T : Int32) (L w1 w2 : Nat → Nat) (s : ChS) (HL HW1 HW2 : Nat → Nat → Nat) (hs : Nat → ChS) (k : Nat) (hk4 : k ≤ 4) : MV l yX6_keepState cX6_keepState 3 3 103 D sz [.ref o] (([xB D o ha ta (L 0) tr mk od (nI k) (rows4 HL) tx T, chipB D L w1 w2 s.v s.f s.g s.r s.av s.mk s.cm s.ar s.fl s.en s.la s.zs s.se s.ph s.tk s.pc s.rc s.wc s.bc s.tc, hsB D HL HW1 HW2 hs] : List va_W).flatten) (([xB D o ha ta (L 0) tr mk od (nI (khN k)) (rows4 (roN k HL)) tx T, chipB D L w1 w2 s.v s.f s.g s.r s.av s.mk s.cm s.ar s.fl s.en s.la s.zs s.se s.ph s.tk s.pc s.rc s.wc s.bc s.tc, hsB D (roN k HL) (roN k HW1) (roN k HW2) (khS k hs s)] : List va_W).flatten) := by
  refine r_enterV (by decide) (Nat.le_of_ble_eq_true rfl) ?_
  intro p e st m args below meth c ls A X hret hk hw hl
  have X : CX D p m c cX6_keepState 3 st args RX6 A := X
  have hx := X.1.1
  have hb := X.1.2.1
  have hown := X.1.2.2.2.1
  have hts := X.1.2.2.2.2
  have hl : lv_has ls 3 [(0, .ref o)] := hl
  have hcases : k = 0 ∨ k = 1 ∨ k = 2 ∨ k = 3 ∨ k = 4 := by omega
  rcases hcases with rfl | rfl | rfl | rfl | rfl
  · skip
    refine lv_aload_n hx hb dX6_keepState_0 rfl (lv_at hl 0 rfl) ?_
    refine r_get X hw (v := .int 0) fl_X6_254 (m_fl 0 rfl (m_at 0 rfl)) rfl dX6_keepState_1 ?_
    refine lv_iconst (v := 4) hx hb dX6_keepState_4 (by decide) ?_
    refine lv_icmp_lt (tgt := 54) hx hb dX6_keepState_5 (by decide) (fun _ => ?_) (fun h => absurd (by decide) h)
    refine lv_aload_n hx hb dX6_keepState_54 rfl (lv_at hl 0 rfl) ?_
    refine r_get X hw (v := .ref ha) fl_X6_33 (m_fl 0 rfl (m_at 0 rfl)) rfl dX6_keepState_55 ?_
    refine lv_aload_n hx hb dX6_keepState_58 rfl (lv_at hl 0 rfl) ?_
    refine r_get X hw (v := .int 0) fl_X6_254 (m_fl 0 rfl (m_at 0 rfl)) rfl dX6_keepState_59 ?_
    refine r_aldq X hw (q := (HL 0) 0) 0 (m_fl 0 rfl (m_at 1 rfl)) rfl (by decide) (by decide) rfl dX6_keepState_62 ?_
    refine lv_astore_n (lv' := [(1, .ref ((HL 0) 0)), (0, .ref o)]) hx hb dX6_keepState_63 rfl hl (by decide) rfl (fun ls hl => ?_)
    refine lv_aload_n hx hb dX6_keepState_64 rfl (lv_at hl 0 rfl) ?_
    refine lv_ifnull hx hb dX6_keepState_65 ?_
    refine lv_aload_n hx hb dX6_keepState_68 rfl (lv_at hl 0 rfl) ?_
    refine lv_aload_n hx hb dX6_keepState_69 rfl (lv_at hl 1 rfl) ?_
    refine r_get X hw (v := .ref (L 0)) fl_X6_10 (m_fl 0 rfl (m_at 0 rfl)) rfl dX6_keepState_70 ?_
    refine r_callVv X hw (ws' := ([xB D o ha ta (L 0) tr mk od 0 (rows4 HL) tx T, chipB D L w1 w2 s.v s.f s.g s.r s.av s.mk s.cm s.ar s.fl s.en s.la s.zs s.se s.ph s.tk s.pc s.rc s.wc s.bc s.tc, ([chipB D (HL 0) (HW1 0) (HW2 0) ((cpC (hs 0) s).v) ((cpC (hs 0) s).f) ((cpC (hs 0) s).g) ((cpC (hs 0) s).r) ((cpC (hs 0) s).av) ((cpC (hs 0) s).mk) ((cpC (hs 0) s).cm) ((cpC (hs 0) s).ar) ((cpC (hs 0) s).fl) ((cpC (hs 0) s).en) ((cpC (hs 0) s).la) ((cpC (hs 0) s).zs) ((cpC (hs 0) s).se) ((cpC (hs 0) s).ph) ((cpC (hs 0) s).tk) ((cpC (hs 0) s).pc) ((cpC (hs 0) s).rc) ((cpC (hs 0) s).wc) ((cpC (hs 0) s).bc) ((cpC (hs 0) s).tc), chipB D (HL 1) (HW1 1) (HW2 1) ((hs 1).v) ((hs 1).f) ((hs 1).g) ((hs 1).r) ((hs 1).av) ((hs 1).mk) ((hs 1).cm) ((hs 1).ar) ((hs 1).fl) ((hs 1).en) ((hs 1).la) ((hs 1).zs) ((hs 1).se) ((hs 1).ph) ((hs 1).tk) ((hs 1).pc) ((hs 1).rc) ((hs 1).wc) ((hs 1).bc) ((hs 1).tc), chipB D (HL 2) (HW1 2) (HW2 2) ((hs 2).v) ((hs 2).f) ((hs 2).g) ((hs 2).r) ((hs 2).av) ((hs 2).mk) ((hs 2).cm) ((hs 2).ar) ((hs 2).fl) ((hs 2).en) ((hs 2).la) ((hs 2).zs) ((hs 2).se) ((hs 2).ph) ((hs 2).tk) ((hs 2).pc) ((hs 2).rc) ((hs 2).wc) ((hs 2).bc) ((hs 2).tc), chipB D (HL 3) (HW1 3) (HW2 3) ((hs 3).v) ((hs 3).f) ((hs 3).g) ((hs 3).r) ((hs 3).av) ((hs 3).mk) ((hs 3).cm) ((hs 3).ar) ((hs 3).fl) ((hs 3).en) ((hs 3).la) ((hs 3).zs) ((hs 3).se) ((hs 3).ph) ((hs 3).tk) ((hs 3).pc) ((hs 3).rc) ((hs 3).wc) ((hs 3).bc) ((hs 3).tc)] : List va_W).flatten] : List va_W).flatten) (As := [.ref (L 0)]) (rest := []) lk_X6_216 (c_X3_copyFrom l D _ (HL 0) (HW1 0) (HW2 0) L w1 w2 (hs 0) s) (Foc.trans (Foc.at2 2 1 rfl rfl rfl rfl (ce rfl rfl)) (Foc.pair (Foc.at1 0 rfl rfl (ce rfl (ce rfl (ce rfl rfl)))) Foc.all)) (m_fl 2 rfl (m_fl 0 rfl (m_fl 0 rfl (m_at 0 rfl)))) rfl hl.1 (Nat.le_of_ble_eq_true rfl) ⟨Nat.le_of_ble_eq_true rfl, Nat.le_of_ble_eq_true rfl⟩ rfl dX6_keepState_73 ⟨Nat.le_refl _, Nat.le_refl _⟩ (fun H locs hw => ?_)
    refine lv_aload_n hx hb dX6_keepState_76 rfl (lv_at hl 1 rfl) ?_
    refine lv_dup hx hb dX6_keepState_77 rfl ?_
    refine r_get X hw (v := .int 0) fl_X6_254 (m_fl 0 rfl (m_at 0 rfl)) rfl dX6_keepState_78 ?_
    refine lv_iconst (v := 1) hx hb dX6_keepState_81 (by decide) ?_
    refine r_addN hx hb 0 1 rfl rfl dX6_keepState_82 ?_
    refine r_puti X hw (ws' := ([xB D o ha ta (L 0) tr mk od 1 (rows4 HL) tx T, chipB D L w1 w2 s.v s.f s.g s.r s.av s.mk s.cm s.ar s.fl s.en s.la s.zs s.se s.ph s.tk s.pc s.rc s.wc s.bc s.tc, ([chipB D (HL 0) (HW1 0) (HW2 0) ((cpC (hs 0) s).v) ((cpC (hs 0) s).f) ((cpC (hs 0) s).g) ((cpC (hs 0) s).r) ((cpC (hs 0) s).av) ((cpC (hs 0) s).mk) ((cpC (hs 0) s).cm) ((cpC (hs 0) s).ar) ((cpC (hs 0) s).fl) ((cpC (hs 0) s).en) ((cpC (hs 0) s).la) ((cpC (hs 0) s).zs) ((cpC (hs 0) s).se) ((cpC (hs 0) s).ph) ((cpC (hs 0) s).tk) ((cpC (hs 0) s).pc) ((cpC (hs 0) s).rc) ((cpC (hs 0) s).wc) ((cpC (hs 0) s).bc) ((cpC (hs 0) s).tc), chipB D (HL 1) (HW1 1) (HW2 1) ((hs 1).v) ((hs 1).f) ((hs 1).g) ((hs 1).r) ((hs 1).av) ((hs 1).mk) ((hs 1).cm) ((hs 1).ar) ((hs 1).fl) ((hs 1).en) ((hs 1).la) ((hs 1).zs) ((hs 1).se) ((hs 1).ph) ((hs 1).tk) ((hs 1).pc) ((hs 1).rc) ((hs 1).wc) ((hs 1).bc) ((hs 1).tc), chipB D (HL 2) (HW1 2) (HW2 2) ((hs 2).v) ((hs 2).f) ((hs 2).g) ((hs 2).r) ((hs 2).av) ((hs 2).mk) ((hs 2).cm) ((hs 2).ar) ((hs 2).fl) ((hs 2).en) ((hs 2).la) ((hs 2).zs) ((hs 2).se) ((hs 2).ph) ((hs 2).tk) ((hs 2).pc) ((hs 2).rc) ((hs 2).wc) ((hs 2).bc) ((hs 2).tc), chipB D (HL 3) (HW1 3) (HW2 3) ((hs 3).v) ((hs 3).f) ((hs 3).g) ((hs 3).r) ((hs 3).av) ((hs 3).mk) ((hs 3).cm) ((hs 3).ar) ((hs 3).fl) ((hs 3).en) ((hs 3).la) ((hs 3).zs) ((hs 3).se) ((hs 3).ph) ((hs 3).tk) ((hs 3).pc) ((hs 3).rc) ((hs 3).wc) ((hs 3).bc) ((hs 3).tc)] : List va_W).flatten] : List va_W).flatten) fp_X6_254 (Nat.le_of_ble_eq_true rfl) (Foc.trans (Foc.at1 0 rfl rfl (ce rfl (ce rfl rfl))) (Foc.cell 0 rfl rfl (ce rfl (ce rfl rfl)))) dX6_keepState_83 (fun H locs hw => ?_)
    exact r_retV X hw hk hret (w3 rfl rfl rfl) dX6_keepState_86
  · skip
    refine lv_aload_n hx hb dX6_keepState_0 rfl (lv_at hl 0 rfl) ?_
    refine r_get X hw (v := .int 1) fl_X6_254 (m_fl 0 rfl (m_at 0 rfl)) rfl dX6_keepState_1 ?_
    refine lv_iconst (v := 4) hx hb dX6_keepState_4 (by decide) ?_
    refine lv_icmp_lt (tgt := 54) hx hb dX6_keepState_5 (by decide) (fun _ => ?_) (fun h => absurd (by decide) h)
    refine lv_aload_n hx hb dX6_keepState_54 rfl (lv_at hl 0 rfl) ?_
    refine r_get X hw (v := .ref ha) fl_X6_33 (m_fl 0 rfl (m_at 0 rfl)) rfl dX6_keepState_55 ?_
    refine lv_aload_n hx hb dX6_keepState_58 rfl (lv_at hl 0 rfl) ?_
    refine r_get X hw (v := .int 1) fl_X6_254 (m_fl 0 rfl (m_at 0 rfl)) rfl dX6_keepState_59 ?_
    refine r_aldq X hw (q := (HL 1) 0) 1 (m_fl 0 rfl (m_at 1 rfl)) rfl (by decide) (by decide) rfl dX6_keepState_62 ?_
    refine lv_astore_n (lv' := [(1, .ref ((HL 1) 0)), (0, .ref o)]) hx hb dX6_keepState_63 rfl hl (by decide) rfl (fun ls hl => ?_)
    refine lv_aload_n hx hb dX6_keepState_64 rfl (lv_at hl 0 rfl) ?_
    refine lv_ifnull hx hb dX6_keepState_65 ?_
    refine lv_aload_n hx hb dX6_keepState_68 rfl (lv_at hl 0 rfl) ?_
    refine lv_aload_n hx hb dX6_keepState_69 rfl (lv_at hl 1 rfl) ?_
    refine r_get X hw (v := .ref (L 0)) fl_X6_10 (m_fl 0 rfl (m_at 0 rfl)) rfl dX6_keepState_70 ?_
    refine r_callVv X hw (ws' := ([xB D o ha ta (L 0) tr mk od 1 (rows4 HL) tx T, chipB D L w1 w2 s.v s.f s.g s.r s.av s.mk s.cm s.ar s.fl s.en s.la s.zs s.se s.ph s.tk s.pc s.rc s.wc s.bc s.tc, ([chipB D (HL 0) (HW1 0) (HW2 0) ((hs 0).v) ((hs 0).f) ((hs 0).g) ((hs 0).r) ((hs 0).av) ((hs 0).mk) ((hs 0).cm) ((hs 0).ar) ((hs 0).fl) ((hs 0).en) ((hs 0).la) ((hs 0).zs) ((hs 0).se) ((hs 0).ph) ((hs 0).tk) ((hs 0).pc) ((hs 0).rc) ((hs 0).wc) ((hs 0).bc) ((hs 0).tc), chipB D (HL 1) (HW1 1) (HW2 1) ((cpC (hs 1) s).v) ((cpC (hs 1) s).f) ((cpC (hs 1) s).g) ((cpC (hs 1) s).r) ((cpC (hs 1) s).av) ((cpC (hs 1) s).mk) ((cpC (hs 1) s).cm) ((cpC (hs 1) s).ar) ((cpC (hs 1) s).fl) ((cpC (hs 1) s).en) ((cpC (hs 1) s).la) ((cpC (hs 1) s).zs) ((cpC (hs 1) s).se) ((cpC (hs 1) s).ph) ((cpC (hs 1) s).tk) ((cpC (hs 1) s).pc) ((cpC (hs 1) s).rc) ((cpC (hs 1) s).wc) ((cpC (hs 1) s).bc) ((cpC (hs 1) s).tc), chipB D (HL 2) (HW1 2) (HW2 2) ((hs 2).v) ((hs 2).f) ((hs 2).g) ((hs 2).r) ((hs 2).av) ((hs 2).mk) ((hs 2).cm) ((hs 2).ar) ((hs 2).fl) ((hs 2).en) ((hs 2).la) ((hs 2).zs) ((hs 2).se) ((hs 2).ph) ((hs 2).tk) ((hs 2).pc) ((hs 2).rc) ((hs 2).wc) ((hs 2).bc) ((hs 2).tc), chipB D (HL 3) (HW1 3) (HW2 3) ((hs 3).v) ((hs 3).f) ((hs 3).g) ((hs 3).r) ((hs 3).av) ((hs 3).mk) ((hs 3).cm) ((hs 3).ar) ((hs 3).fl) ((hs 3).en) ((hs 3).la) ((hs 3).zs) ((hs 3).se) ((hs 3).ph) ((hs 3).tk) ((hs 3).pc) ((hs 3).rc) ((hs 3).wc) ((hs 3).bc) ((hs 3).tc)] : List va_W).flatten] : List va_W).flatten) (As := [.ref (L 0)]) (rest := []) lk_X6_216 (c_X3_copyFrom l D _ (HL 1) (HW1 1) (HW2 1) L w1 w2 (hs 1) s) (Foc.trans (Foc.at2 2 1 rfl rfl rfl rfl (ce rfl rfl)) (Foc.pair (Foc.at1 1 rfl rfl (ce rfl (ce rfl (ce rfl rfl)))) Foc.all)) (m_fl 2 rfl (m_fl 1 rfl (m_fl 0 rfl (m_at 0 rfl)))) rfl hl.1 (Nat.le_of_ble_eq_true rfl) ⟨Nat.le_of_ble_eq_true rfl, Nat.le_of_ble_eq_true rfl⟩ rfl dX6_keepState_73 ⟨Nat.le_refl _, Nat.le_refl _⟩ (fun H locs hw => ?_)
    refine lv_aload_n hx hb dX6_keepState_76 rfl (lv_at hl 1 rfl) ?_
    refine lv_dup hx hb dX6_keepState_77 rfl ?_
    refine r_get X hw (v := .int 1) fl_X6_254 (m_fl 0 rfl (m_at 0 rfl)) rfl dX6_keepState_78 ?_
    refine lv_iconst (v := 1) hx hb dX6_keepState_81 (by decide) ?_
    refine r_addN hx hb 1 1 rfl rfl dX6_keepState_82 ?_
    refine r_puti X hw (ws' := ([xB D o ha ta (L 0) tr mk od 2 (rows4 HL) tx T, chipB D L w1 w2 s.v s.f s.g s.r s.av s.mk s.cm s.ar s.fl s.en s.la s.zs s.se s.ph s.tk s.pc s.rc s.wc s.bc s.tc, ([chipB D (HL 0) (HW1 0) (HW2 0) ((hs 0).v) ((hs 0).f) ((hs 0).g) ((hs 0).r) ((hs 0).av) ((hs 0).mk) ((hs 0).cm) ((hs 0).ar) ((hs 0).fl) ((hs 0).en) ((hs 0).la) ((hs 0).zs) ((hs 0).se) ((hs 0).ph) ((hs 0).tk) ((hs 0).pc) ((hs 0).rc) ((hs 0).wc) ((hs 0).bc) ((hs 0).tc), chipB D (HL 1) (HW1 1) (HW2 1) ((cpC (hs 1) s).v) ((cpC (hs 1) s).f) ((cpC (hs 1) s).g) ((cpC (hs 1) s).r) ((cpC (hs 1) s).av) ((cpC (hs 1) s).mk) ((cpC (hs 1) s).cm) ((cpC (hs 1) s).ar) ((cpC (hs 1) s).fl) ((cpC (hs 1) s).en) ((cpC (hs 1) s).la) ((cpC (hs 1) s).zs) ((cpC (hs 1) s).se) ((cpC (hs 1) s).ph) ((cpC (hs 1) s).tk) ((cpC (hs 1) s).pc) ((cpC (hs 1) s).rc) ((cpC (hs 1) s).wc) ((cpC (hs 1) s).bc) ((cpC (hs 1) s).tc), chipB D (HL 2) (HW1 2) (HW2 2) ((hs 2).v) ((hs 2).f) ((hs 2).g) ((hs 2).r) ((hs 2).av) ((hs 2).mk) ((hs 2).cm) ((hs 2).ar) ((hs 2).fl) ((hs 2).en) ((hs 2).la) ((hs 2).zs) ((hs 2).se) ((hs 2).ph) ((hs 2).tk) ((hs 2).pc) ((hs 2).rc) ((hs 2).wc) ((hs 2).bc) ((hs 2).tc), chipB D (HL 3) (HW1 3) (HW2 3) ((hs 3).v) ((hs 3).f) ((hs 3).g) ((hs 3).r) ((hs 3).av) ((hs 3).mk) ((hs 3).cm) ((hs 3).ar) ((hs 3).fl) ((hs 3).en) ((hs 3).la) ((hs 3).zs) ((hs 3).se) ((hs 3).ph) ((hs 3).tk) ((hs 3).pc) ((hs 3).rc) ((hs 3).wc) ((hs 3).bc) ((hs 3).tc)] : List va_W).flatten] : List va_W).flatten) fp_X6_254 (Nat.le_of_ble_eq_true rfl) (Foc.trans (Foc.at1 0 rfl rfl (ce rfl (ce rfl rfl))) (Foc.cell 0 rfl rfl (ce rfl (ce rfl rfl)))) dX6_keepState_83 (fun H locs hw => ?_)
    exact r_retV X hw hk hret (w3 rfl rfl rfl) dX6_keepState_86
  · skip
    refine lv_aload_n hx hb dX6_keepState_0 rfl (lv_at hl 0 rfl) ?_
    refine r_get X hw (v := .int 2) fl_X6_254 (m_fl 0 rfl (m_at 0 rfl)) rfl dX6_keepState_1 ?_
    refine lv_iconst (v := 4) hx hb dX6_keepState_4 (by decide) ?_
    refine lv_icmp_lt (tgt := 54) hx hb dX6_keepState_5 (by decide) (fun _ => ?_) (fun h => absurd (by decide) h)
    refine lv_aload_n hx hb dX6_keepState_54 rfl (lv_at hl 0 rfl) ?_
    refine r_get X hw (v := .ref ha) fl_X6_33 (m_fl 0 rfl (m_at 0 rfl)) rfl dX6_keepState_55 ?_
    refine lv_aload_n hx hb dX6_keepState_58 rfl (lv_at hl 0 rfl) ?_
    refine r_get X hw (v := .int 2) fl_X6_254 (m_fl 0 rfl (m_at 0 rfl)) rfl dX6_keepState_59 ?_
    refine r_aldq X hw (q := (HL 2) 0) 2 (m_fl 0 rfl (m_at 1 rfl)) rfl (by decide) (by decide) rfl dX6_keepState_62 ?_
    refine lv_astore_n (lv' := [(1, .ref ((HL 2) 0)), (0, .ref o)]) hx hb dX6_keepState_63 rfl hl (by decide) rfl (fun ls hl => ?_)
    refine lv_aload_n hx hb dX6_keepState_64 rfl (lv_at hl 0 rfl) ?_
    refine lv_ifnull hx hb dX6_keepState_65 ?_
    refine lv_aload_n hx hb dX6_keepState_68 rfl (lv_at hl 0 rfl) ?_
    refine lv_aload_n hx hb dX6_keepState_69 rfl (lv_at hl 1 rfl) ?_
    refine r_get X hw (v := .ref (L 0)) fl_X6_10 (m_fl 0 rfl (m_at 0 rfl)) rfl dX6_keepState_70 ?_
    refine r_callVv X hw (ws' := ([xB D o ha ta (L 0) tr mk od 2 (rows4 HL) tx T, chipB D L w1 w2 s.v s.f s.g s.r s.av s.mk s.cm s.ar s.fl s.en s.la s.zs s.se s.ph s.tk s.pc s.rc s.wc s.bc s.tc, ([chipB D (HL 0) (HW1 0) (HW2 0) ((hs 0).v) ((hs 0).f) ((hs 0).g) ((hs 0).r) ((hs 0).av) ((hs 0).mk) ((hs 0).cm) ((hs 0).ar) ((hs 0).fl) ((hs 0).en) ((hs 0).la) ((hs 0).zs) ((hs 0).se) ((hs 0).ph) ((hs 0).tk) ((hs 0).pc) ((hs 0).rc) ((hs 0).wc) ((hs 0).bc) ((hs 0).tc), chipB D (HL 1) (HW1 1) (HW2 1) ((hs 1).v) ((hs 1).f) ((hs 1).g) ((hs 1).r) ((hs 1).av) ((hs 1).mk) ((hs 1).cm) ((hs 1).ar) ((hs 1).fl) ((hs 1).en) ((hs 1).la) ((hs 1).zs) ((hs 1).se) ((hs 1).ph) ((hs 1).tk) ((hs 1).pc) ((hs 1).rc) ((hs 1).wc) ((hs 1).bc) ((hs 1).tc), chipB D (HL 2) (HW1 2) (HW2 2) ((cpC (hs 2) s).v) ((cpC (hs 2) s).f) ((cpC (hs 2) s).g) ((cpC (hs 2) s).r) ((cpC (hs 2) s).av) ((cpC (hs 2) s).mk) ((cpC (hs 2) s).cm) ((cpC (hs 2) s).ar) ((cpC (hs 2) s).fl) ((cpC (hs 2) s).en) ((cpC (hs 2) s).la) ((cpC (hs 2) s).zs) ((cpC (hs 2) s).se) ((cpC (hs 2) s).ph) ((cpC (hs 2) s).tk) ((cpC (hs 2) s).pc) ((cpC (hs 2) s).rc) ((cpC (hs 2) s).wc) ((cpC (hs 2) s).bc) ((cpC (hs 2) s).tc), chipB D (HL 3) (HW1 3) (HW2 3) ((hs 3).v) ((hs 3).f) ((hs 3).g) ((hs 3).r) ((hs 3).av) ((hs 3).mk) ((hs 3).cm) ((hs 3).ar) ((hs 3).fl) ((hs 3).en) ((hs 3).la) ((hs 3).zs) ((hs 3).se) ((hs 3).ph) ((hs 3).tk) ((hs 3).pc) ((hs 3).rc) ((hs 3).wc) ((hs 3).bc) ((hs 3).tc)] : List va_W).flatten] : List va_W).flatten) (As := [.ref (L 0)]) (rest := []) lk_X6_216 (c_X3_copyFrom l D _ (HL 2) (HW1 2) (HW2 2) L w1 w2 (hs 2) s) (Foc.trans (Foc.at2 2 1 rfl rfl rfl rfl (ce rfl rfl)) (Foc.pair (Foc.at1 2 rfl rfl (ce rfl (ce rfl (ce rfl rfl)))) Foc.all)) (m_fl 2 rfl (m_fl 2 rfl (m_fl 0 rfl (m_at 0 rfl)))) rfl hl.1 (Nat.le_of_ble_eq_true rfl) ⟨Nat.le_of_ble_eq_true rfl, Nat.le_of_ble_eq_true rfl⟩ rfl dX6_keepState_73 ⟨Nat.le_refl _, Nat.le_refl _⟩ (fun H locs hw => ?_)
    refine lv_aload_n hx hb dX6_keepState_76 rfl (lv_at hl 1 rfl) ?_
    refine lv_dup hx hb dX6_keepState_77 rfl ?_
    refine r_get X hw (v := .int 2) fl_X6_254 (m_fl 0 rfl (m_at 0 rfl)) rfl dX6_keepState_78 ?_
    refine lv_iconst (v := 1) hx hb dX6_keepState_81 (by decide) ?_
    refine r_addN hx hb 2 1 rfl rfl dX6_keepState_82 ?_
    refine r_puti X hw (ws' := ([xB D o ha ta (L 0) tr mk od 3 (rows4 HL) tx T, chipB D L w1 w2 s.v s.f s.g s.r s.av s.mk s.cm s.ar s.fl s.en s.la s.zs s.se s.ph s.tk s.pc s.rc s.wc s.bc s.tc, ([chipB D (HL 0) (HW1 0) (HW2 0) ((hs 0).v) ((hs 0).f) ((hs 0).g) ((hs 0).r) ((hs 0).av) ((hs 0).mk) ((hs 0).cm) ((hs 0).ar) ((hs 0).fl) ((hs 0).en) ((hs 0).la) ((hs 0).zs) ((hs 0).se) ((hs 0).ph) ((hs 0).tk) ((hs 0).pc) ((hs 0).rc) ((hs 0).wc) ((hs 0).bc) ((hs 0).tc), chipB D (HL 1) (HW1 1) (HW2 1) ((hs 1).v) ((hs 1).f) ((hs 1).g) ((hs 1).r) ((hs 1).av) ((hs 1).mk) ((hs 1).cm) ((hs 1).ar) ((hs 1).fl) ((hs 1).en) ((hs 1).la) ((hs 1).zs) ((hs 1).se) ((hs 1).ph) ((hs 1).tk) ((hs 1).pc) ((hs 1).rc) ((hs 1).wc) ((hs 1).bc) ((hs 1).tc), chipB D (HL 2) (HW1 2) (HW2 2) ((cpC (hs 2) s).v) ((cpC (hs 2) s).f) ((cpC (hs 2) s).g) ((cpC (hs 2) s).r) ((cpC (hs 2) s).av) ((cpC (hs 2) s).mk) ((cpC (hs 2) s).cm) ((cpC (hs 2) s).ar) ((cpC (hs 2) s).fl) ((cpC (hs 2) s).en) ((cpC (hs 2) s).la) ((cpC (hs 2) s).zs) ((cpC (hs 2) s).se) ((cpC (hs 2) s).ph) ((cpC (hs 2) s).tk) ((cpC (hs 2) s).pc) ((cpC (hs 2) s).rc) ((cpC (hs 2) s).wc) ((cpC (hs 2) s).bc) ((cpC (hs 2) s).tc), chipB D (HL 3) (HW1 3) (HW2 3) ((hs 3).v) ((hs 3).f) ((hs 3).g) ((hs 3).r) ((hs 3).av) ((hs 3).mk) ((hs 3).cm) ((hs 3).ar) ((hs 3).fl) ((hs 3).en) ((hs 3).la) ((hs 3).zs) ((hs 3).se) ((hs 3).ph) ((hs 3).tk) ((hs 3).pc) ((hs 3).rc) ((hs 3).wc) ((hs 3).bc) ((hs 3).tc)] : List va_W).flatten] : List va_W).flatten) fp_X6_254 (Nat.le_of_ble_eq_true rfl) (Foc.trans (Foc.at1 0 rfl rfl (ce rfl (ce rfl rfl))) (Foc.cell 0 rfl rfl (ce rfl (ce rfl rfl)))) dX6_keepState_83 (fun H locs hw => ?_)
    exact r_retV X hw hk hret (w3 rfl rfl rfl) dX6_keepState_86
  · skip
    refine lv_aload_n hx hb dX6_keepState_0 rfl (lv_at hl 0 rfl) ?_
    refine r_get X hw (v := .int 3) fl_X6_254 (m_fl 0 rfl (m_at 0 rfl)) rfl dX6_keepState_1 ?_
    refine lv_iconst (v := 4) hx hb dX6_keepState_4 (by decide) ?_
    refine lv_icmp_lt (tgt := 54) hx hb dX6_keepState_5 (by decide) (fun _ => ?_) (fun h => absurd (by decide) h)
    refine lv_aload_n hx hb dX6_keepState_54 rfl (lv_at hl 0 rfl) ?_
    refine r_get X hw (v := .ref ha) fl_X6_33 (m_fl 0 rfl (m_at 0 rfl)) rfl dX6_keepState_55 ?_
    refine lv_aload_n hx hb dX6_keepState_58 rfl (lv_at hl 0 rfl) ?_
    refine r_get X hw (v := .int 3) fl_X6_254 (m_fl 0 rfl (m_at 0 rfl)) rfl dX6_keepState_59 ?_
    refine r_aldq X hw (q := (HL 3) 0) 3 (m_fl 0 rfl (m_at 1 rfl)) rfl (by decide) (by decide) rfl dX6_keepState_62 ?_
    refine lv_astore_n (lv' := [(1, .ref ((HL 3) 0)), (0, .ref o)]) hx hb dX6_keepState_63 rfl hl (by decide) rfl (fun ls hl => ?_)
    refine lv_aload_n hx hb dX6_keepState_64 rfl (lv_at hl 0 rfl) ?_
    refine lv_ifnull hx hb dX6_keepState_65 ?_
    refine lv_aload_n hx hb dX6_keepState_68 rfl (lv_at hl 0 rfl) ?_
    refine lv_aload_n hx hb dX6_keepState_69 rfl (lv_at hl 1 rfl) ?_
    refine r_get X hw (v := .ref (L 0)) fl_X6_10 (m_fl 0 rfl (m_at 0 rfl)) rfl dX6_keepState_70 ?_
    refine r_callVv X hw (ws' := ([xB D o ha ta (L 0) tr mk od 3 (rows4 HL) tx T, chipB D L w1 w2 s.v s.f s.g s.r s.av s.mk s.cm s.ar s.fl s.en s.la s.zs s.se s.ph s.tk s.pc s.rc s.wc s.bc s.tc, ([chipB D (HL 0) (HW1 0) (HW2 0) ((hs 0).v) ((hs 0).f) ((hs 0).g) ((hs 0).r) ((hs 0).av) ((hs 0).mk) ((hs 0).cm) ((hs 0).ar) ((hs 0).fl) ((hs 0).en) ((hs 0).la) ((hs 0).zs) ((hs 0).se) ((hs 0).ph) ((hs 0).tk) ((hs 0).pc) ((hs 0).rc) ((hs 0).wc) ((hs 0).bc) ((hs 0).tc), chipB D (HL 1) (HW1 1) (HW2 1) ((hs 1).v) ((hs 1).f) ((hs 1).g) ((hs 1).r) ((hs 1).av) ((hs 1).mk) ((hs 1).cm) ((hs 1).ar) ((hs 1).fl) ((hs 1).en) ((hs 1).la) ((hs 1).zs) ((hs 1).se) ((hs 1).ph) ((hs 1).tk) ((hs 1).pc) ((hs 1).rc) ((hs 1).wc) ((hs 1).bc) ((hs 1).tc), chipB D (HL 2) (HW1 2) (HW2 2) ((hs 2).v) ((hs 2).f) ((hs 2).g) ((hs 2).r) ((hs 2).av) ((hs 2).mk) ((hs 2).cm) ((hs 2).ar) ((hs 2).fl) ((hs 2).en) ((hs 2).la) ((hs 2).zs) ((hs 2).se) ((hs 2).ph) ((hs 2).tk) ((hs 2).pc) ((hs 2).rc) ((hs 2).wc) ((hs 2).bc) ((hs 2).tc), chipB D (HL 3) (HW1 3) (HW2 3) ((cpC (hs 3) s).v) ((cpC (hs 3) s).f) ((cpC (hs 3) s).g) ((cpC (hs 3) s).r) ((cpC (hs 3) s).av) ((cpC (hs 3) s).mk) ((cpC (hs 3) s).cm) ((cpC (hs 3) s).ar) ((cpC (hs 3) s).fl) ((cpC (hs 3) s).en) ((cpC (hs 3) s).la) ((cpC (hs 3) s).zs) ((cpC (hs 3) s).se) ((cpC (hs 3) s).ph) ((cpC (hs 3) s).tk) ((cpC (hs 3) s).pc) ((cpC (hs 3) s).rc) ((cpC (hs 3) s).wc) ((cpC (hs 3) s).bc) ((cpC (hs 3) s).tc)] : List va_W).flatten] : List va_W).flatten) (As := [.ref (L 0)]) (rest := []) lk_X6_216 (c_X3_copyFrom l D _ (HL 3) (HW1 3) (HW2 3) L w1 w2 (hs 3) s) (Foc.trans (Foc.at2 2 1 rfl rfl rfl rfl (ce rfl rfl)) (Foc.pair (Foc.at1 3 rfl rfl (ce rfl (ce rfl (ce rfl rfl)))) Foc.all)) (m_fl 2 rfl (m_fl 3 rfl (m_fl 0 rfl (m_at 0 rfl)))) rfl hl.1 (Nat.le_of_ble_eq_true rfl) ⟨Nat.le_of_ble_eq_true rfl, Nat.le_of_ble_eq_true rfl⟩ rfl dX6_keepState_73 ⟨Nat.le_refl _, Nat.le_refl _⟩ (fun H locs hw => ?_)
    refine lv_aload_n hx hb dX6_keepState_76 rfl (lv_at hl 1 rfl) ?_
    refine lv_dup hx hb dX6_keepState_77 rfl ?_
    refine r_get X hw (v := .int 3) fl_X6_254 (m_fl 0 rfl (m_at 0 rfl)) rfl dX6_keepState_78 ?_
    refine lv_iconst (v := 1) hx hb dX6_keepState_81 (by decide) ?_
    refine r_addN hx hb 3 1 rfl rfl dX6_keepState_82 ?_
    refine r_puti X hw (ws' := ([xB D o ha ta (L 0) tr mk od 4 (rows4 HL) tx T, chipB D L w1 w2 s.v s.f s.g s.r s.av s.mk s.cm s.ar s.fl s.en s.la s.zs s.se s.ph s.tk s.pc s.rc s.wc s.bc s.tc, ([chipB D (HL 0) (HW1 0) (HW2 0) ((hs 0).v) ((hs 0).f) ((hs 0).g) ((hs 0).r) ((hs 0).av) ((hs 0).mk) ((hs 0).cm) ((hs 0).ar) ((hs 0).fl) ((hs 0).en) ((hs 0).la) ((hs 0).zs) ((hs 0).se) ((hs 0).ph) ((hs 0).tk) ((hs 0).pc) ((hs 0).rc) ((hs 0).wc) ((hs 0).bc) ((hs 0).tc), chipB D (HL 1) (HW1 1) (HW2 1) ((hs 1).v) ((hs 1).f) ((hs 1).g) ((hs 1).r) ((hs 1).av) ((hs 1).mk) ((hs 1).cm) ((hs 1).ar) ((hs 1).fl) ((hs 1).en) ((hs 1).la) ((hs 1).zs) ((hs 1).se) ((hs 1).ph) ((hs 1).tk) ((hs 1).pc) ((hs 1).rc) ((hs 1).wc) ((hs 1).bc) ((hs 1).tc), chipB D (HL 2) (HW1 2) (HW2 2) ((hs 2).v) ((hs 2).f) ((hs 2).g) ((hs 2).r) ((hs 2).av) ((hs 2).mk) ((hs 2).cm) ((hs 2).ar) ((hs 2).fl) ((hs 2).en) ((hs 2).la) ((hs 2).zs) ((hs 2).se) ((hs 2).ph) ((hs 2).tk) ((hs 2).pc) ((hs 2).rc) ((hs 2).wc) ((hs 2).bc) ((hs 2).tc), chipB D (HL 3) (HW1 3) (HW2 3) ((cpC (hs 3) s).v) ((cpC (hs 3) s).f) ((cpC (hs 3) s).g) ((cpC (hs 3) s).r) ((cpC (hs 3) s).av) ((cpC (hs 3) s).mk) ((cpC (hs 3) s).cm) ((cpC (hs 3) s).ar) ((cpC (hs 3) s).fl) ((cpC (hs 3) s).en) ((cpC (hs 3) s).la) ((cpC (hs 3) s).zs) ((cpC (hs 3) s).se) ((cpC (hs 3) s).ph) ((cpC (hs 3) s).tk) ((cpC (hs 3) s).pc) ((cpC (hs 3) s).rc) ((cpC (hs 3) s).wc) ((cpC (hs 3) s).bc) ((cpC (hs 3) s).tc)] : List va_W).flatten] : List va_W).flatten) fp_X6_254 (Nat.le_of_ble_eq_true rfl) (Foc.trans (Foc.at1 0 rfl rfl (ce rfl (ce rfl rfl))) (Foc.cell 0 rfl rfl (ce rfl (ce rfl rfl)))) dX6_keepState_83 (fun H locs hw => ?_)
    exact r_retV X hw hk hret (w3 rfl rfl rfl) dX6_keepState_86
  · skip
    refine lv_aload_n hx hb dX6_keepState_0 rfl (lv_at hl 0 rfl) ?_
    refine r_get X hw (v := .int 4) fl_X6_254 (m_fl 0 rfl (m_at 0 rfl)) rfl dX6_keepState_1 ?_
    refine lv_iconst (v := 4) hx hb dX6_keepState_4 (by decide) ?_
    refine lv_icmp_lt (tgt := 54) hx hb dX6_keepState_5 (by decide) (fun h => absurd h (by decide)) (fun _ => ?_)
    refine lv_aload_n hx hb dX6_keepState_8 rfl (lv_at hl 0 rfl) ?_
    refine r_get X hw (v := .ref ha) fl_X6_33 (m_fl 0 rfl (m_at 0 rfl)) rfl dX6_keepState_9 ?_
    refine lv_iconst (v := 0) hx hb dX6_keepState_12 (by decide) ?_
    refine r_aldq X hw (q := (HL 0) 0) 0 (m_fl 0 rfl (m_at 1 rfl)) rfl (by decide) (by decide) rfl dX6_keepState_13 ?_
    refine lv_astore_n (lv' := [(1, .ref ((HL 0) 0)), (0, .ref o)]) hx hb dX6_keepState_14 rfl hl (by decide) rfl (fun ls hl => ?_)
    refine lv_iconst (v := 1) hx hb dX6_keepState_15 (by decide) ?_
    refine lv_istore_n (lv' := [(2, .int 1), (1, .ref ((HL 0) 0)), (0, .ref o)]) hx hb dX6_keepState_16 rfl hl (by decide) rfl (fun ls hl => ?_)
    refine lv_iload_n hx hb dX6_keepState_17 rfl (lv_at hl 0 rfl) ?_
    refine lv_iconst (v := 4) hx hb dX6_keepState_18 (by decide) ?_
    refine lv_icmp_ge (tgt := 42) hx hb dX6_keepState_19 (by decide) (fun h => absurd h (by decide)) (fun _ => ?_)
    refine lv_aload_n hx hb dX6_keepState_22 rfl (lv_at hl 2 rfl) ?_
    refine r_get X hw (v := .ref ha) fl_X6_33 (m_fl 0 rfl (m_at 0 rfl)) rfl dX6_keepState_23 ?_
    refine lv_iload_n hx hb dX6_keepState_26 rfl (lv_at hl 0 rfl) ?_
    refine lv_iconst (v := 1) hx hb dX6_keepState_27 (by decide) ?_
    refine r_subN hx hb 1 1 rfl rfl (by decide) dX6_keepState_28 ?_
    refine lv_aload_n hx hb dX6_keepState_29 rfl (lv_at hl 2 rfl) ?_
    refine r_get X hw (v := .ref ha) fl_X6_33 (m_fl 0 rfl (m_at 0 rfl)) rfl dX6_keepState_30 ?_
    refine lv_iload_n hx hb dX6_keepState_33 rfl (lv_at hl 0 rfl) ?_
    refine r_aldq X hw (q := (HL 1) 0) 1 (m_fl 0 rfl (m_at 1 rfl)) rfl (by decide) (by decide) rfl dX6_keepState_34 ?_
    refine r_astq X hw (ws' := ([xB D o ha ta (L 0) tr mk od 4 (va_up (rows4 HL) 0 (some ((HL 1) 0))) tx T, chipB D L w1 w2 s.v s.f s.g s.r s.av s.mk s.cm s.ar s.fl s.en s.la s.zs s.se s.ph s.tk s.pc s.rc s.wc s.bc s.tc, ([chipB D (HL 0) (HW1 0) (HW2 0) ((hs 0).v) ((hs 0).f) ((hs 0).g) ((hs 0).r) ((hs 0).av) ((hs 0).mk) ((hs 0).cm) ((hs 0).ar) ((hs 0).fl) ((hs 0).en) ((hs 0).la) ((hs 0).zs) ((hs 0).se) ((hs 0).ph) ((hs 0).tk) ((hs 0).pc) ((hs 0).rc) ((hs 0).wc) ((hs 0).bc) ((hs 0).tc), chipB D (HL 1) (HW1 1) (HW2 1) ((hs 1).v) ((hs 1).f) ((hs 1).g) ((hs 1).r) ((hs 1).av) ((hs 1).mk) ((hs 1).cm) ((hs 1).ar) ((hs 1).fl) ((hs 1).en) ((hs 1).la) ((hs 1).zs) ((hs 1).se) ((hs 1).ph) ((hs 1).tk) ((hs 1).pc) ((hs 1).rc) ((hs 1).wc) ((hs 1).bc) ((hs 1).tc), chipB D (HL 2) (HW1 2) (HW2 2) ((hs 2).v) ((hs 2).f) ((hs 2).g) ((hs 2).r) ((hs 2).av) ((hs 2).mk) ((hs 2).cm) ((hs 2).ar) ((hs 2).fl) ((hs 2).en) ((hs 2).la) ((hs 2).zs) ((hs 2).se) ((hs 2).ph) ((hs 2).tk) ((hs 2).pc) ((hs 2).rc) ((hs 2).wc) ((hs 2).bc) ((hs 2).tc), chipB D (HL 3) (HW1 3) (HW2 3) ((hs 3).v) ((hs 3).f) ((hs 3).g) ((hs 3).r) ((hs 3).av) ((hs 3).mk) ((hs 3).cm) ((hs 3).ar) ((hs 3).fl) ((hs 3).en) ((hs 3).la) ((hs 3).zs) ((hs 3).se) ((hs 3).ph) ((hs 3).tk) ((hs 3).pc) ((hs 3).rc) ((hs 3).wc) ((hs 3).bc) ((hs 3).tc)] : List va_W).flatten] : List va_W).flatten) 0 rfl (by decide) (by decide) (m_fl 2 rfl (m_fl 1 rfl (m_fl 0 rfl (m_at 0 rfl)))) (Foc.trans (Foc.at1 0 rfl rfl (ce rfl (ce rfl rfl))) (Foc.cell 1 rfl rfl (ce rfl (ce rfl rfl)))) dX6_keepState_35 (fun H locs hw => ?_)
    refine r_iincN (lv' := [(2, .int 2), (1, .ref ((HL 0) 0)), (0, .ref o)]) hx hb 1 1 rfl dX6_keepState_36 hl (k := 0) rfl rfl (by decide) rfl (fun ls hl => ?_)
    refine lv_goto (tgt := 17) hx hb dX6_keepState_39 (by decide) ?_
    refine lv_iload_n hx hb dX6_keepState_17 rfl (lv_at hl 0 rfl) ?_
    refine lv_iconst (v := 4) hx hb dX6_keepState_18 (by decide) ?_
    refine lv_icmp_ge (tgt := 42) hx hb dX6_keepState_19 (by decide) (fun h => absurd h (by decide)) (fun _ => ?_)
    refine lv_aload_n hx hb dX6_keepState_22 rfl (lv_at hl 2 rfl) ?_
    refine r_get X hw (v := .ref ha) fl_X6_33 (m_fl 0 rfl (m_at 0 rfl)) rfl dX6_keepState_23 ?_
    refine lv_iload_n hx hb dX6_keepState_26 rfl (lv_at hl 0 rfl) ?_
    refine lv_iconst (v := 1) hx hb dX6_keepState_27 (by decide) ?_
    refine r_subN hx hb 2 1 rfl rfl (by decide) dX6_keepState_28 ?_
    refine lv_aload_n hx hb dX6_keepState_29 rfl (lv_at hl 2 rfl) ?_
    refine r_get X hw (v := .ref ha) fl_X6_33 (m_fl 0 rfl (m_at 0 rfl)) rfl dX6_keepState_30 ?_
    refine lv_iload_n hx hb dX6_keepState_33 rfl (lv_at hl 0 rfl) ?_
    refine r_aldq X hw (q := (HL 2) 0) 2 (m_fl 0 rfl (m_at 1 rfl)) rfl (by decide) (by decide) rfl dX6_keepState_34 ?_
    refine r_astq X hw (ws' := ([xB D o ha ta (L 0) tr mk od 4 (va_up (va_up (rows4 HL) 0 (some ((HL 1) 0))) 1 (some ((HL 2) 0))) tx T, chipB D L w1 w2 s.v s.f s.g s.r s.av s.mk s.cm s.ar s.fl s.en s.la s.zs s.se s.ph s.tk s.pc s.rc s.wc s.bc s.tc, ([chipB D (HL 0) (HW1 0) (HW2 0) ((hs 0).v) ((hs 0).f) ((hs 0).g) ((hs 0).r) ((hs 0).av) ((hs 0).mk) ((hs 0).cm) ((hs 0).ar) ((hs 0).fl) ((hs 0).en) ((hs 0).la) ((hs 0).zs) ((hs 0).se) ((hs 0).ph) ((hs 0).tk) ((hs 0).pc) ((hs 0).rc) ((hs 0).wc) ((hs 0).bc) ((hs 0).tc), chipB D (HL 1) (HW1 1) (HW2 1) ((hs 1).v) ((hs 1).f) ((hs 1).g) ((hs 1).r) ((hs 1).av) ((hs 1).mk) ((hs 1).cm) ((hs 1).ar) ((hs 1).fl) ((hs 1).en) ((hs 1).la) ((hs 1).zs) ((hs 1).se) ((hs 1).ph) ((hs 1).tk) ((hs 1).pc) ((hs 1).rc) ((hs 1).wc) ((hs 1).bc) ((hs 1).tc), chipB D (HL 2) (HW1 2) (HW2 2) ((hs 2).v) ((hs 2).f) ((hs 2).g) ((hs 2).r) ((hs 2).av) ((hs 2).mk) ((hs 2).cm) ((hs 2).ar) ((hs 2).fl) ((hs 2).en) ((hs 2).la) ((hs 2).zs) ((hs 2).se) ((hs 2).ph) ((hs 2).tk) ((hs 2).pc) ((hs 2).rc) ((hs 2).wc) ((hs 2).bc) ((hs 2).tc), chipB D (HL 3) (HW1 3) (HW2 3) ((hs 3).v) ((hs 3).f) ((hs 3).g) ((hs 3).r) ((hs 3).av) ((hs 3).mk) ((hs 3).cm) ((hs 3).ar) ((hs 3).fl) ((hs 3).en) ((hs 3).la) ((hs 3).zs) ((hs 3).se) ((hs 3).ph) ((hs 3).tk) ((hs 3).pc) ((hs 3).rc) ((hs 3).wc) ((hs 3).bc) ((hs 3).tc)] : List va_W).flatten] : List va_W).flatten) 1 rfl (by decide) (by decide) (m_fl 2 rfl (m_fl 2 rfl (m_fl 0 rfl (m_at 0 rfl)))) (Foc.trans (Foc.at1 0 rfl rfl (ce rfl (ce rfl rfl))) (Foc.cell 1 rfl rfl (ce rfl (ce rfl rfl)))) dX6_keepState_35 (fun H locs hw => ?_)
    refine r_iincN (lv' := [(2, .int 3), (1, .ref ((HL 0) 0)), (0, .ref o)]) hx hb 2 1 rfl dX6_keepState_36 hl (k := 0) rfl rfl (by decide) rfl (fun ls hl => ?_)
    refine lv_goto (tgt := 17) hx hb dX6_keepState_39 (by decide) ?_
    refine lv_iload_n hx hb dX6_keepState_17 rfl (lv_at hl 0 rfl) ?_
    refine lv_iconst (v := 4) hx hb dX6_keepState_18 (by decide) ?_
    refine lv_icmp_ge (tgt := 42) hx hb dX6_keepState_19 (by decide) (fun h => absurd h (by decide)) (fun _ => ?_)
    refine lv_aload_n hx hb dX6_keepState_22 rfl (lv_at hl 2 rfl) ?_
    refine r_get X hw (v := .ref ha) fl_X6_33 (m_fl 0 rfl (m_at 0 rfl)) rfl dX6_keepState_23 ?_
    refine lv_iload_n hx hb dX6_keepState_26 rfl (lv_at hl 0 rfl) ?_
    refine lv_iconst (v := 1) hx hb dX6_keepState_27 (by decide) ?_
    refine r_subN hx hb 3 1 rfl rfl (by decide) dX6_keepState_28 ?_
    refine lv_aload_n hx hb dX6_keepState_29 rfl (lv_at hl 2 rfl) ?_
    refine r_get X hw (v := .ref ha) fl_X6_33 (m_fl 0 rfl (m_at 0 rfl)) rfl dX6_keepState_30 ?_
    refine lv_iload_n hx hb dX6_keepState_33 rfl (lv_at hl 0 rfl) ?_
    refine r_aldq X hw (q := (HL 3) 0) 3 (m_fl 0 rfl (m_at 1 rfl)) rfl (by decide) (by decide) rfl dX6_keepState_34 ?_
    refine r_astq X hw (ws' := ([xB D o ha ta (L 0) tr mk od 4 (va_up (va_up (va_up (rows4 HL) 0 (some ((HL 1) 0))) 1 (some ((HL 2) 0))) 2 (some ((HL 3) 0))) tx T, chipB D L w1 w2 s.v s.f s.g s.r s.av s.mk s.cm s.ar s.fl s.en s.la s.zs s.se s.ph s.tk s.pc s.rc s.wc s.bc s.tc, ([chipB D (HL 0) (HW1 0) (HW2 0) ((hs 0).v) ((hs 0).f) ((hs 0).g) ((hs 0).r) ((hs 0).av) ((hs 0).mk) ((hs 0).cm) ((hs 0).ar) ((hs 0).fl) ((hs 0).en) ((hs 0).la) ((hs 0).zs) ((hs 0).se) ((hs 0).ph) ((hs 0).tk) ((hs 0).pc) ((hs 0).rc) ((hs 0).wc) ((hs 0).bc) ((hs 0).tc), chipB D (HL 1) (HW1 1) (HW2 1) ((hs 1).v) ((hs 1).f) ((hs 1).g) ((hs 1).r) ((hs 1).av) ((hs 1).mk) ((hs 1).cm) ((hs 1).ar) ((hs 1).fl) ((hs 1).en) ((hs 1).la) ((hs 1).zs) ((hs 1).se) ((hs 1).ph) ((hs 1).tk) ((hs 1).pc) ((hs 1).rc) ((hs 1).wc) ((hs 1).bc) ((hs 1).tc), chipB D (HL 2) (HW1 2) (HW2 2) ((hs 2).v) ((hs 2).f) ((hs 2).g) ((hs 2).r) ((hs 2).av) ((hs 2).mk) ((hs 2).cm) ((hs 2).ar) ((hs 2).fl) ((hs 2).en) ((hs 2).la) ((hs 2).zs) ((hs 2).se) ((hs 2).ph) ((hs 2).tk) ((hs 2).pc) ((hs 2).rc) ((hs 2).wc) ((hs 2).bc) ((hs 2).tc), chipB D (HL 3) (HW1 3) (HW2 3) ((hs 3).v) ((hs 3).f) ((hs 3).g) ((hs 3).r) ((hs 3).av) ((hs 3).mk) ((hs 3).cm) ((hs 3).ar) ((hs 3).fl) ((hs 3).en) ((hs 3).la) ((hs 3).zs) ((hs 3).se) ((hs 3).ph) ((hs 3).tk) ((hs 3).pc) ((hs 3).rc) ((hs 3).wc) ((hs 3).bc) ((hs 3).tc)] : List va_W).flatten] : List va_W).flatten) 2 rfl (by decide) (by decide) (m_fl 2 rfl (m_fl 3 rfl (m_fl 0 rfl (m_at 0 rfl)))) (Foc.trans (Foc.at1 0 rfl rfl (ce rfl (ce rfl rfl))) (Foc.cell 1 rfl rfl (ce rfl (ce rfl rfl)))) dX6_keepState_35 (fun H locs hw => ?_)
    refine r_iincN (lv' := [(2, .int 4), (1, .ref ((HL 0) 0)), (0, .ref o)]) hx hb 3 1 rfl dX6_keepState_36 hl (k := 0) rfl rfl (by decide) rfl (fun ls hl => ?_)
    refine lv_goto (tgt := 17) hx hb dX6_keepState_39 (by decide) ?_
    refine lv_iload_n hx hb dX6_keepState_17 rfl (lv_at hl 0 rfl) ?_
    refine lv_iconst (v := 4) hx hb dX6_keepState_18 (by decide) ?_
    refine lv_icmp_ge (tgt := 42) hx hb dX6_keepState_19 (by decide) (fun _ => ?_) (fun h => absurd (by decide) h)
    refine lv_aload_n hx hb dX6_keepState_42 rfl (lv_at hl 2 rfl) ?_
    refine r_get X hw (v := .ref ha) fl_X6_33 (m_fl 0 rfl (m_at 0 rfl)) rfl dX6_keepState_43 ?_
    refine lv_iconst (v := 3) hx hb dX6_keepState_46 (by decide) ?_
    refine lv_aload_n hx hb dX6_keepState_47 rfl (lv_at hl 1 rfl) ?_
    refine r_astq X hw (ws' := ([xB D o ha ta (L 0) tr mk od 4 (va_up (va_up (va_up (va_up (rows4 HL) 0 (some ((HL 1) 0))) 1 (some ((HL 2) 0))) 2 (some ((HL 3) 0))) 3 (some ((HL 0) 0))) tx T, chipB D L w1 w2 s.v s.f s.g s.r s.av s.mk s.cm s.ar s.fl s.en s.la s.zs s.se s.ph s.tk s.pc s.rc s.wc s.bc s.tc, ([chipB D (HL 0) (HW1 0) (HW2 0) ((hs 0).v) ((hs 0).f) ((hs 0).g) ((hs 0).r) ((hs 0).av) ((hs 0).mk) ((hs 0).cm) ((hs 0).ar) ((hs 0).fl) ((hs 0).en) ((hs 0).la) ((hs 0).zs) ((hs 0).se) ((hs 0).ph) ((hs 0).tk) ((hs 0).pc) ((hs 0).rc) ((hs 0).wc) ((hs 0).bc) ((hs 0).tc), chipB D (HL 1) (HW1 1) (HW2 1) ((hs 1).v) ((hs 1).f) ((hs 1).g) ((hs 1).r) ((hs 1).av) ((hs 1).mk) ((hs 1).cm) ((hs 1).ar) ((hs 1).fl) ((hs 1).en) ((hs 1).la) ((hs 1).zs) ((hs 1).se) ((hs 1).ph) ((hs 1).tk) ((hs 1).pc) ((hs 1).rc) ((hs 1).wc) ((hs 1).bc) ((hs 1).tc), chipB D (HL 2) (HW1 2) (HW2 2) ((hs 2).v) ((hs 2).f) ((hs 2).g) ((hs 2).r) ((hs 2).av) ((hs 2).mk) ((hs 2).cm) ((hs 2).ar) ((hs 2).fl) ((hs 2).en) ((hs 2).la) ((hs 2).zs) ((hs 2).se) ((hs 2).ph) ((hs 2).tk) ((hs 2).pc) ((hs 2).rc) ((hs 2).wc) ((hs 2).bc) ((hs 2).tc), chipB D (HL 3) (HW1 3) (HW2 3) ((hs 3).v) ((hs 3).f) ((hs 3).g) ((hs 3).r) ((hs 3).av) ((hs 3).mk) ((hs 3).cm) ((hs 3).ar) ((hs 3).fl) ((hs 3).en) ((hs 3).la) ((hs 3).zs) ((hs 3).se) ((hs 3).ph) ((hs 3).tk) ((hs 3).pc) ((hs 3).rc) ((hs 3).wc) ((hs 3).bc) ((hs 3).tc)] : List va_W).flatten] : List va_W).flatten) 3 rfl (by decide) (by decide) (m_fl 2 rfl (m_fl 0 rfl (m_fl 0 rfl (m_at 0 rfl)))) (Foc.trans (Foc.at1 0 rfl rfl (ce rfl (ce rfl rfl))) (Foc.cell 1 rfl rfl (ce rfl (ce rfl rfl)))) dX6_keepState_48 (fun H locs hw => ?_)
    refine lv_aload_n hx hb dX6_keepState_49 rfl (lv_at hl 2 rfl) ?_
    refine lv_iconst (v := 3) hx hb dX6_keepState_50 (by decide) ?_
    refine r_puti X hw (ws' := ([xB D o ha ta (L 0) tr mk od 3 (va_up (va_up (va_up (va_up (rows4 HL) 0 (some ((HL 1) 0))) 1 (some ((HL 2) 0))) 2 (some ((HL 3) 0))) 3 (some ((HL 0) 0))) tx T, chipB D L w1 w2 s.v s.f s.g s.r s.av s.mk s.cm s.ar s.fl s.en s.la s.zs s.se s.ph s.tk s.pc s.rc s.wc s.bc s.tc, ([chipB D (HL 0) (HW1 0) (HW2 0) ((hs 0).v) ((hs 0).f) ((hs 0).g) ((hs 0).r) ((hs 0).av) ((hs 0).mk) ((hs 0).cm) ((hs 0).ar) ((hs 0).fl) ((hs 0).en) ((hs 0).la) ((hs 0).zs) ((hs 0).se) ((hs 0).ph) ((hs 0).tk) ((hs 0).pc) ((hs 0).rc) ((hs 0).wc) ((hs 0).bc) ((hs 0).tc), chipB D (HL 1) (HW1 1) (HW2 1) ((hs 1).v) ((hs 1).f) ((hs 1).g) ((hs 1).r) ((hs 1).av) ((hs 1).mk) ((hs 1).cm) ((hs 1).ar) ((hs 1).fl) ((hs 1).en) ((hs 1).la) ((hs 1).zs) ((hs 1).se) ((hs 1).ph) ((hs 1).tk) ((hs 1).pc) ((hs 1).rc) ((hs 1).wc) ((hs 1).bc) ((hs 1).tc), chipB D (HL 2) (HW1 2) (HW2 2) ((hs 2).v) ((hs 2).f) ((hs 2).g) ((hs 2).r) ((hs 2).av) ((hs 2).mk) ((hs 2).cm) ((hs 2).ar) ((hs 2).fl) ((hs 2).en) ((hs 2).la) ((hs 2).zs) ((hs 2).se) ((hs 2).ph) ((hs 2).tk) ((hs 2).pc) ((hs 2).rc) ((hs 2).wc) ((hs 2).bc) ((hs 2).tc), chipB D (HL 3) (HW1 3) (HW2 3) ((hs 3).v) ((hs 3).f) ((hs 3).g) ((hs 3).r) ((hs 3).av) ((hs 3).mk) ((hs 3).cm) ((hs 3).ar) ((hs 3).fl) ((hs 3).en) ((hs 3).la) ((hs 3).zs) ((hs 3).se) ((hs 3).ph) ((hs 3).tk) ((hs 3).pc) ((hs 3).rc) ((hs 3).wc) ((hs 3).bc) ((hs 3).tc)] : List va_W).flatten] : List va_W).flatten) fp_X6_254 (Nat.le_of_ble_eq_true rfl) (Foc.trans (Foc.at1 0 rfl rfl (ce rfl (ce rfl rfl))) (Foc.cell 0 rfl rfl (ce rfl (ce rfl rfl)))) dX6_keepState_51 (fun H locs hw => ?_)
    refine lv_aload_n hx hb dX6_keepState_54 rfl (lv_at hl 2 rfl) ?_
    refine r_get X hw (v := .ref ha) fl_X6_33 (m_fl 0 rfl (m_at 0 rfl)) rfl dX6_keepState_55 ?_
    refine lv_aload_n hx hb dX6_keepState_58 rfl (lv_at hl 2 rfl) ?_
    refine r_get X hw (v := .int 3) fl_X6_254 (m_fl 0 rfl (m_at 0 rfl)) rfl dX6_keepState_59 ?_
    refine r_aldq X hw (q := (HL 0) 0) 3 (m_fl 0 rfl (m_at 1 rfl)) rfl (by decide) (by decide) rfl dX6_keepState_62 ?_
    refine lv_astore_n (lv' := [(1, .ref ((HL 0) 0)), (2, .int 4), (0, .ref o)]) hx hb dX6_keepState_63 rfl hl (by decide) rfl (fun ls hl => ?_)
    refine lv_aload_n hx hb dX6_keepState_64 rfl (lv_at hl 0 rfl) ?_
    refine lv_ifnull hx hb dX6_keepState_65 ?_
    refine lv_aload_n hx hb dX6_keepState_68 rfl (lv_at hl 0 rfl) ?_
    refine lv_aload_n hx hb dX6_keepState_69 rfl (lv_at hl 2 rfl) ?_
    refine r_get X hw (v := .ref (L 0)) fl_X6_10 (m_fl 0 rfl (m_at 0 rfl)) rfl dX6_keepState_70 ?_
    refine r_callVv X hw (ws' := ([xB D o ha ta (L 0) tr mk od 3 (va_up (va_up (va_up (va_up (rows4 HL) 0 (some ((HL 1) 0))) 1 (some ((HL 2) 0))) 2 (some ((HL 3) 0))) 3 (some ((HL 0) 0))) tx T, chipB D L w1 w2 s.v s.f s.g s.r s.av s.mk s.cm s.ar s.fl s.en s.la s.zs s.se s.ph s.tk s.pc s.rc s.wc s.bc s.tc, ([chipB D (HL 0) (HW1 0) (HW2 0) ((cpC (hs 0) s).v) ((cpC (hs 0) s).f) ((cpC (hs 0) s).g) ((cpC (hs 0) s).r) ((cpC (hs 0) s).av) ((cpC (hs 0) s).mk) ((cpC (hs 0) s).cm) ((cpC (hs 0) s).ar) ((cpC (hs 0) s).fl) ((cpC (hs 0) s).en) ((cpC (hs 0) s).la) ((cpC (hs 0) s).zs) ((cpC (hs 0) s).se) ((cpC (hs 0) s).ph) ((cpC (hs 0) s).tk) ((cpC (hs 0) s).pc) ((cpC (hs 0) s).rc) ((cpC (hs 0) s).wc) ((cpC (hs 0) s).bc) ((cpC (hs 0) s).tc), chipB D (HL 1) (HW1 1) (HW2 1) ((hs 1).v) ((hs 1).f) ((hs 1).g) ((hs 1).r) ((hs 1).av) ((hs 1).mk) ((hs 1).cm) ((hs 1).ar) ((hs 1).fl) ((hs 1).en) ((hs 1).la) ((hs 1).zs) ((hs 1).se) ((hs 1).ph) ((hs 1).tk) ((hs 1).pc) ((hs 1).rc) ((hs 1).wc) ((hs 1).bc) ((hs 1).tc), chipB D (HL 2) (HW1 2) (HW2 2) ((hs 2).v) ((hs 2).f) ((hs 2).g) ((hs 2).r) ((hs 2).av) ((hs 2).mk) ((hs 2).cm) ((hs 2).ar) ((hs 2).fl) ((hs 2).en) ((hs 2).la) ((hs 2).zs) ((hs 2).se) ((hs 2).ph) ((hs 2).tk) ((hs 2).pc) ((hs 2).rc) ((hs 2).wc) ((hs 2).bc) ((hs 2).tc), chipB D (HL 3) (HW1 3) (HW2 3) ((hs 3).v) ((hs 3).f) ((hs 3).g) ((hs 3).r) ((hs 3).av) ((hs 3).mk) ((hs 3).cm) ((hs 3).ar) ((hs 3).fl) ((hs 3).en) ((hs 3).la) ((hs 3).zs) ((hs 3).se) ((hs 3).ph) ((hs 3).tk) ((hs 3).pc) ((hs 3).rc) ((hs 3).wc) ((hs 3).bc) ((hs 3).tc)] : List va_W).flatten] : List va_W).flatten) (As := [.ref (L 0)]) (rest := []) lk_X6_216 (c_X3_copyFrom l D _ (HL 0) (HW1 0) (HW2 0) L w1 w2 (hs 0) s) (Foc.trans (Foc.at2 2 1 rfl rfl rfl rfl (ce rfl rfl)) (Foc.pair (Foc.at1 0 rfl rfl (ce rfl (ce rfl (ce rfl rfl)))) Foc.all)) (m_fl 2 rfl (m_fl 0 rfl (m_fl 0 rfl (m_at 0 rfl)))) rfl hl.1 (Nat.le_of_ble_eq_true rfl) ⟨Nat.le_of_ble_eq_true rfl, Nat.le_of_ble_eq_true rfl⟩ rfl dX6_keepState_73 ⟨Nat.le_refl _, Nat.le_refl _⟩ (fun H locs hw => ?_)
    refine lv_aload_n hx hb dX6_keepState_76 rfl (lv_at hl 2 rfl) ?_
    refine lv_dup hx hb dX6_keepState_77 rfl ?_
    refine r_get X hw (v := .int 3) fl_X6_254 (m_fl 0 rfl (m_at 0 rfl)) rfl dX6_keepState_78 ?_
    refine lv_iconst (v := 1) hx hb dX6_keepState_81 (by decide) ?_
    refine r_addN hx hb 3 1 rfl rfl dX6_keepState_82 ?_
    refine r_puti X hw (ws' := ([xB D o ha ta (L 0) tr mk od 4 (va_up (va_up (va_up (va_up (rows4 HL) 0 (some ((HL 1) 0))) 1 (some ((HL 2) 0))) 2 (some ((HL 3) 0))) 3 (some ((HL 0) 0))) tx T, chipB D L w1 w2 s.v s.f s.g s.r s.av s.mk s.cm s.ar s.fl s.en s.la s.zs s.se s.ph s.tk s.pc s.rc s.wc s.bc s.tc, ([chipB D (HL 0) (HW1 0) (HW2 0) ((cpC (hs 0) s).v) ((cpC (hs 0) s).f) ((cpC (hs 0) s).g) ((cpC (hs 0) s).r) ((cpC (hs 0) s).av) ((cpC (hs 0) s).mk) ((cpC (hs 0) s).cm) ((cpC (hs 0) s).ar) ((cpC (hs 0) s).fl) ((cpC (hs 0) s).en) ((cpC (hs 0) s).la) ((cpC (hs 0) s).zs) ((cpC (hs 0) s).se) ((cpC (hs 0) s).ph) ((cpC (hs 0) s).tk) ((cpC (hs 0) s).pc) ((cpC (hs 0) s).rc) ((cpC (hs 0) s).wc) ((cpC (hs 0) s).bc) ((cpC (hs 0) s).tc), chipB D (HL 1) (HW1 1) (HW2 1) ((hs 1).v) ((hs 1).f) ((hs 1).g) ((hs 1).r) ((hs 1).av) ((hs 1).mk) ((hs 1).cm) ((hs 1).ar) ((hs 1).fl) ((hs 1).en) ((hs 1).la) ((hs 1).zs) ((hs 1).se) ((hs 1).ph) ((hs 1).tk) ((hs 1).pc) ((hs 1).rc) ((hs 1).wc) ((hs 1).bc) ((hs 1).tc), chipB D (HL 2) (HW1 2) (HW2 2) ((hs 2).v) ((hs 2).f) ((hs 2).g) ((hs 2).r) ((hs 2).av) ((hs 2).mk) ((hs 2).cm) ((hs 2).ar) ((hs 2).fl) ((hs 2).en) ((hs 2).la) ((hs 2).zs) ((hs 2).se) ((hs 2).ph) ((hs 2).tk) ((hs 2).pc) ((hs 2).rc) ((hs 2).wc) ((hs 2).bc) ((hs 2).tc), chipB D (HL 3) (HW1 3) (HW2 3) ((hs 3).v) ((hs 3).f) ((hs 3).g) ((hs 3).r) ((hs 3).av) ((hs 3).mk) ((hs 3).cm) ((hs 3).ar) ((hs 3).fl) ((hs 3).en) ((hs 3).la) ((hs 3).zs) ((hs 3).se) ((hs 3).ph) ((hs 3).tk) ((hs 3).pc) ((hs 3).rc) ((hs 3).wc) ((hs 3).bc) ((hs 3).tc)] : List va_W).flatten] : List va_W).flatten) fp_X6_254 (Nat.le_of_ble_eq_true rfl) (Foc.trans (Foc.at1 0 rfl rfl (ce rfl (ce rfl rfl))) (Foc.cell 0 rfl rfl (ce rfl (ce rfl rfl)))) dX6_keepState_83 (fun H locs hw => ?_)
    replace hw := hw.perm rot_perm
    exact r_retV X hw hk hret (w3 (by rw [← rot_rows]; rfl) rfl rfl) dX6_keepState_86
