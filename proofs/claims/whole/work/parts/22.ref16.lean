/-- the fault of a text: what is asked of it -/
noncomputable def faR (w : Nat) (fn : Int32 × YS) : Int32 := if fn.1 = 0 then (if w = 0 then fn.2.2.2.2.1 else (if w = 1 then fn.2.2.2.2.2.1 else fn.2.2.2.2.2.2.1)) else -1000004
theorem cpy_ok {s he y : Row} {p z q : Nat} (h : rOK s p z q) : rOK (va_cpy (va_cpy s he 0 0 127) y 0 0 127) p z q :=
  rOK_of h (by simp [va_cpy]) (by simp [va_cpy]) (by simp [va_cpy])

set_option maxRecDepth 100000 in
set_option maxHeartbeats 4000000 in
theorem c_X7_fault (l : Launch) (D : va_G) (sz : Nat) (L : Nat → Nat) (s pa : Row) (P : Nat) (td ah sh : Row) (n0 : Int32) (tx : Row) (T : Nat) (nu : Row) (p9 : Nat) (fo re ca os od : Int32) (spa he : Row) (hT : T ≤ 60) (hp9 : p9 ≤ 60) (pp z q : Nat) (hP : P ≤ 4) (hok : rOK s pp z q) (w : Nat) (hw3 : w < 3) : MI l yX7_fault cX7_fault 3 (some .int) 17 372 D sz [.ref (L 0), .int (nI w)] (mW D L s pa (nI P) 0 td ah sh n0 tx (nI T) nu (nI p9) fo re ca os od spa he) (faR w (plR q tx T 61 ((s, td, ah, sh, n0), nu, 0, 0, re, ca, 0, od))) (mW D L (va_cpy (va_cpy s he 0 0 127) (plR q tx T 61 ((s, td, ah, sh, n0), nu, 0, 0, re, ca, 0, od)).2.1.1 0 0 127) pa (nI P) 0 ((plR q tx T 61 ((s, td, ah, sh, n0), nu, 0, 0, re, ca, 0, od)).2.1.2.1) ((plR q tx T 61 ((s, td, ah, sh, n0), nu, 0, 0, re, ca, 0, od)).2.1.2.2.1) ((plR q tx T 61 ((s, td, ah, sh, n0), nu, 0, 0, re, ca, 0, od)).2.1.2.2.2.1) ((plR q tx T 61 ((s, td, ah, sh, n0), nu, 0, 0, re, ca, 0, od)).2.1.2.2.2.2) tx (nI T) ((plR q tx T 61 ((s, td, ah, sh, n0), nu, 0, 0, re, ca, 0, od)).2.2.1) (nI (plR q tx T 61 ((s, td, ah, sh, n0), nu, 0, 0, re, ca, 0, od)).2.2.2.1) ((plR q tx T 61 ((s, td, ah, sh, n0), nu, 0, 0, re, ca, 0, od)).2.2.2.2.1) ((plR q tx T 61 ((s, td, ah, sh, n0), nu, 0, 0, re, ca, 0, od)).2.2.2.2.2.1) ((plR q tx T 61 ((s, td, ah, sh, n0), nu, 0, 0, re, ca, 0, od)).2.2.2.2.2.2.1) ((plR q tx T 61 ((s, td, ah, sh, n0), nu, 0, 0, re, ca, 0, od)).2.2.2.2.2.2.2.1) ((plR q tx T 61 ((s, td, ah, sh, n0), nu, 0, 0, re, ca, 0, od)).2.2.2.2.2.2.2.2) spa (va_cpy s he 0 0 127)) := by
  refine r_enterI (by decide) (Nat.le_of_ble_eq_true rfl) ?_
  intro p e st m args below meth c ls A X hret hk hw hl
  have X : CX D p m c cX7_fault 3 st args RX7 A := X
  have hx := X.1.1
  have hb := X.1.2.1
  have hown := X.1.2.2.2.1
  have hts := X.1.2.2.2.2
  have hl : lv_has ls 3 [(0, .ref (L 0)), (1, .int (nI w))] := hl
  refine lv_iload_n hx hb dX7_fault_0 rfl (lv_at hl 1 rfl) ?_
  refine lv_iconst (v := 0) hx hb dX7_fault_1 (by decide) ?_
  refine lv_iconst (v := 2) hx hb dX7_fault_2 (by decide) ?_
  refine r_callS X hw (ws' := mW D L s pa (nI P) 0 td ah sh n0 tx (nI T) nu (nI p9) fo re ca os od spa he) (As := [.int (nI w), .int 0, .int 2]) (rest := []) lk_X7_45 (c_X7_in l D _ (nI w) 0 2) Foc.nil rfl hl.1 (Nat.le_of_ble_eq_true rfl) ⟨Nat.le_of_ble_eq_true rfl, Nat.le_of_ble_eq_true rfl⟩ rfl dX7_fault_3 ⟨Nat.le_refl _, Nat.le_refl _⟩ (fun H locs hw => ?_)
  refine lv_if_ne (tgt := 12) hx hb dX7_fault_6 (by decide) (fun _ => ?_) (fun h => absurd h (in_ok w 2 (by omega) (by decide)))
  refine lv_aload_n hx hb dX7_fault_12 rfl (lv_at hl 0 rfl) ?_
  refine r_get X hw (v := .ref (L 1)) fl_X7_7 (m_at 0 rfl) rfl dX7_fault_13 ?_
  refine lv_aload_n hx hb dX7_fault_16 rfl (lv_at hl 0 rfl) ?_
  refine r_get X hw (v := .ref (L 4)) fl_X7_19 (m_at 0 rfl) rfl dX7_fault_17 ?_
  refine r_callSv X hw (ws' := mW D L s pa (nI P) 0 td ah sh n0 tx (nI T) nu (nI p9) fo re ca os od spa (va_cpy s he 0 0 127)) (As := [.ref (L 1), .ref (L 4)]) (rest := []) lk_X7_160 (c_X7_copies l D _ (L 1) (L 4) s he) (cp14 D L s pa (nI P) 0 td ah sh n0 tx (nI T) nu (nI p9) fo re ca os od spa he (va_cpy s he 0 0 127)) rfl hl.1 (Nat.le_of_ble_eq_true rfl) ⟨Nat.le_of_ble_eq_true rfl, Nat.le_of_ble_eq_true rfl⟩ rfl dX7_fault_20 ⟨Nat.le_refl _, Nat.le_refl _⟩ (fun H locs hw => ?_)
  refine lv_aload_n hx hb dX7_fault_23 rfl (lv_at hl 0 rfl) ?_
  refine r_callV X hw (ws' := mW D L ((plR q tx T 61 ((s, td, ah, sh, n0), nu, 0, 0, re, ca, 0, od)).2.1.1) pa (nI P) 0 ((plR q tx T 61 ((s, td, ah, sh, n0), nu, 0, 0, re, ca, 0, od)).2.1.2.1) ((plR q tx T 61 ((s, td, ah, sh, n0), nu, 0, 0, re, ca, 0, od)).2.1.2.2.1) ((plR q tx T 61 ((s, td, ah, sh, n0), nu, 0, 0, re, ca, 0, od)).2.1.2.2.2.1) ((plR q tx T 61 ((s, td, ah, sh, n0), nu, 0, 0, re, ca, 0, od)).2.1.2.2.2.2) tx (nI T) ((plR q tx T 61 ((s, td, ah, sh, n0), nu, 0, 0, re, ca, 0, od)).2.2.1) (nI (plR q tx T 61 ((s, td, ah, sh, n0), nu, 0, 0, re, ca, 0, od)).2.2.2.1) ((plR q tx T 61 ((s, td, ah, sh, n0), nu, 0, 0, re, ca, 0, od)).2.2.2.2.1) ((plR q tx T 61 ((s, td, ah, sh, n0), nu, 0, 0, re, ca, 0, od)).2.2.2.2.2.1) ((plR q tx T 61 ((s, td, ah, sh, n0), nu, 0, 0, re, ca, 0, od)).2.2.2.2.2.2.1) ((plR q tx T 61 ((s, td, ah, sh, n0), nu, 0, 0, re, ca, 0, od)).2.2.2.2.2.2.2.1) ((plR q tx T 61 ((s, td, ah, sh, n0), nu, 0, 0, re, ca, 0, od)).2.2.2.2.2.2.2.2) spa (va_cpy s he 0 0 127)) (As := []) (rest := []) lk_X7_234 (c_X7_plays l D _ L s pa P 0 td ah sh n0 tx T nu p9 fo re ca os od spa (va_cpy s he 0 0 127) (by omega) (by omega) pp z q (by omega) hok) Foc.all (m_at 0 rfl) rfl hl.1 (Nat.le_of_ble_eq_true rfl) ⟨Nat.le_of_ble_eq_true rfl, Nat.le_of_ble_eq_true rfl⟩ rfl dX7_fault_24 ⟨Nat.le_refl _, Nat.le_refl _⟩ (fun H locs hw => ?_)
  obtain ⟨fn, hfn⟩ : ∃ y, y = (plR q tx T 61 ((s, td, ah, sh, n0), nu, 0, 0, re, ca, 0, od)) := ⟨_, rfl⟩
  rw [← hfn] at hw
  rw [← hfn]
  refine lv_istore_n (lv' := [(2, .int fn.1), (0, .ref (L 0)), (1, .int (nI w))]) hx hb dX7_fault_27 rfl hl (by decide) rfl (fun ls hl => ?_)
  refine lv_aload_n hx hb dX7_fault_28 rfl (lv_at hl 1 rfl) ?_
  refine r_get X hw (v := .ref (L 4)) fl_X7_19 (m_at 0 rfl) rfl dX7_fault_29 ?_
  refine lv_aload_n hx hb dX7_fault_32 rfl (lv_at hl 1 rfl) ?_
  refine r_get X hw (v := .ref (L 1)) fl_X7_7 (m_at 0 rfl) rfl dX7_fault_33 ?_
  refine r_callSv X hw (ws' := mW D L (va_cpy (va_cpy s he 0 0 127) fn.2.1.1 0 0 127) pa (nI P) 0 fn.2.1.2.1 fn.2.1.2.2.1 fn.2.1.2.2.2.1 fn.2.1.2.2.2.2 tx (nI T) fn.2.2.1 (nI fn.2.2.2.1) fn.2.2.2.2.1 fn.2.2.2.2.2.1 fn.2.2.2.2.2.2.1 fn.2.2.2.2.2.2.2.1 fn.2.2.2.2.2.2.2.2 spa (va_cpy s he 0 0 127)) (As := [.ref (L 4), .ref (L 1)]) (rest := []) lk_X7_160 (c_X7_copies l D _ (L 4) (L 1) (va_cpy s he 0 0 127) fn.2.1.1) (cp41 D L fn.2.1.1 pa (nI P) 0 fn.2.1.2.1 fn.2.1.2.2.1 fn.2.1.2.2.2.1 fn.2.1.2.2.2.2 tx (nI T) fn.2.2.1 (nI fn.2.2.2.1) fn.2.2.2.2.1 fn.2.2.2.2.2.1 fn.2.2.2.2.2.2.1 fn.2.2.2.2.2.2.2.1 fn.2.2.2.2.2.2.2.2 spa (va_cpy s he 0 0 127) (va_cpy (va_cpy s he 0 0 127) fn.2.1.1 0 0 127)) rfl hl.1 (Nat.le_of_ble_eq_true rfl) ⟨Nat.le_of_ble_eq_true rfl, Nat.le_of_ble_eq_true rfl⟩ rfl dX7_fault_36 ⟨Nat.le_refl _, Nat.le_refl _⟩ (fun H locs hw => ?_)
  refine lv_iload_n hx hb dX7_fault_39 rfl (lv_at hl 0 rfl) ?_
  refine lv_if_eq (tgt := 48) hx hb dX7_fault_40 (by decide) (fun c1 => ?_) (fun c1 => ?_)
  · skip
    refine lv_iload_n hx hb dX7_fault_48 rfl (lv_at hl 2 rfl) ?_
    refine r_ifn0N (tgt := 59) hx hb w rfl (by omega) dX7_fault_49 (by decide) (fun c2 => ?_) (fun c2 => ?_)
    · skip
      refine lv_iload_n hx hb dX7_fault_59 rfl (lv_at hl 2 rfl) ?_
      refine lv_iconst (v := 1) hx hb dX7_fault_60 (by decide) ?_
      refine r_neN (tgt := 71) hx hb w 1 rfl rfl (by omega) (by omega) dX7_fault_61 (by decide) (fun c3 => ?_) (fun c3 => ?_)
      · skip
        refine lv_aload_n hx hb dX7_fault_71 rfl (lv_at hl 1 rfl) ?_
        refine r_get X hw (v := .int fn.2.2.2.2.2.2.1) fl_X7_231 (m_at 0 rfl) rfl dX7_fault_72 ?_
        exact r_ret X hw hk hret rfl (by unfold faR; rw [if_pos c1]; rw [if_neg c2]; rw [if_neg c3]) rfl dX7_fault_75
      · skip
        refine lv_aload_n hx hb dX7_fault_64 rfl (lv_at hl 1 rfl) ?_
        refine r_get X hw (v := .int fn.2.2.2.2.2.1) fl_X7_228 (m_at 0 rfl) rfl dX7_fault_65 ?_
        refine lv_goto (tgt := 75) hx hb dX7_fault_68 (by decide) ?_
        exact r_ret X hw hk hret rfl (by unfold faR; rw [if_pos c1]; rw [if_neg c2]; rw [if_pos c3]) rfl dX7_fault_75
    · skip
      refine lv_aload_n hx hb dX7_fault_52 rfl (lv_at hl 1 rfl) ?_
      refine r_get X hw (v := .int fn.2.2.2.2.1) fl_X7_216 (m_at 0 rfl) rfl dX7_fault_53 ?_
      refine lv_goto (tgt := 75) hx hb dX7_fault_56 (by decide) ?_
      exact r_ret X hw hk hret rfl (by unfold faR; rw [if_pos c1]; rw [if_pos c2]) rfl dX7_fault_75
  · skip
    refine lv_ldc (v := (-1000004)) hx hb hown (hts _ kc_X7_113) dX7_fault_43 ?_
    refine lv_goto (tgt := 75) hx hb dX7_fault_45 (by decide) ?_
    exact r_ret X hw hk hret rfl (by unfold faR; rw [if_neg c1]) rfl dX7_fault_75

set_option maxRecDepth 100000 in
set_option maxHeartbeats 4000000 in
theorem c_X7_fault_bad (l : Launch) (D : va_G) (sz : Nat) (L : Nat → Nat) (o0 : Row) (o1 : Row) (o2 : Int32) (o3 : Int32) (o4 : Row) (o5 : Row) (o6 : Row) (o7 : Int32) (o8 : Row) (o9 : Int32) (o10 : Row) (o11 : Int32) (o12 : Int32) (o13 : Int32) (o14 : Int32) (o15 : Int32) (o16 : Int32) (o17 : Row) (o18 : Row) (a1 : Int32) (hbad : ¬ (¬ sp_X7_in a1 0 2 = 0)) : MI l yX7_fault cX7_fault 3 (some .int) 1 22 D sz [.ref (L 0), .int a1] (mW D L o0 o1 o2 o3 o4 o5 o6 o7 o8 o9 o10 o11 o12 o13 o14 o15 o16 o17 o18) (-1000001) (mW D L o0 o1 o2 o3 o4 o5 o6 o7 o8 o9 o10 o11 o12 o13 o14 o15 o16 o17 o18) := by
  refine r_enterI (by decide) (Nat.le_of_ble_eq_true rfl) ?_
  intro p e st m args below meth c ls A X hret hk hw hl
  have X : CX D p m c cX7_fault 3 st args RX7 A := X
  have hx := X.1.1
  have hb := X.1.2.1
  have hown := X.1.2.2.2.1
  have hts := X.1.2.2.2.2
  have hl : lv_has ls 3 [(0, .ref (L 0)), (1, .int a1)] := hl
  refine lv_iload_n hx hb dX7_fault_0 rfl (lv_at hl 1 rfl) ?_
  refine lv_iconst (v := 0) hx hb dX7_fault_1 (by decide) ?_
  refine lv_iconst (v := 2) hx hb dX7_fault_2 (by decide) ?_
  refine r_callS X hw (ws' := mW D L o0 o1 o2 o3 o4 o5 o6 o7 o8 o9 o10 o11 o12 o13 o14 o15 o16 o17 o18) (As := [.int a1, .int 0, .int 2]) (rest := []) lk_X7_45 (c_X7_in l D _ a1 0 2) Foc.nil rfl hl.1 (Nat.le_of_ble_eq_true rfl) ⟨Nat.le_of_ble_eq_true rfl, Nat.le_of_ble_eq_true rfl⟩ rfl dX7_fault_3 ⟨Nat.le_refl _, Nat.le_refl _⟩ (fun H locs hw => ?_)
  refine lv_if_ne (tgt := 12) hx hb dX7_fault_6 (by decide) (fun c1 => ?_) (fun c1 => ?_)
  · skip
    exact absurd c1 hbad
  · skip
    refine lv_ldc (v := (-1000001)) hx hb hown (hts _ kc_X7_106) dX7_fault_9 ?_
    exact r_ret X hw hk hret rfl rfl rfl dX7_fault_11

theorem plR_le {q : Nat} {tx : Row} {T : Nat} (hT : T ≤ 60) : ∀ (f : Nat) (y : YS), y.2.2.1 ≤ 60 → (plR q tx T f y).2.2.2.1 ≤ 60
  | 0, y, h => h
  | f + 1, y, h => by
    unfold plR
    split
    · exact h
    · rename_i c
      have hle := rdR_le tx y.2.1 hT (p := y.2.2.1) (by omega)
      have h2 : (plS q tx T y).2.2.2.1 ≤ 60 := by
        unfold plS
        split
        · dsimp only; exact hle.2.1
        · split
          · dsimp only; exact hle.2.1
          · dsimp only; exact hle.2.1
      generalize plS q tx T y = w9 at h2 ⊢
      split
      · dsimp only; exact h2
      · exact plR_le hT f w9.2 h2

set_option maxRecDepth 100000 in
set_option maxHeartbeats 4000000 in
theorem c_X7_play_np (l : Launch) (D : va_G) (sz : Nat) (L : Nat → Nat) (s pa : Row) (P : Nat) (td ah sh : Row) (n0 : Int32) (tx : Row) (T : Nat) (nu : Row) (p9 : Nat) (fo re ca os od : Int32) (spa he : Row) (hT : T ≤ 60) (hp9 : p9 ≤ 60) (pp z q : Nat) (hP : P ≤ 4) (hok : rOK s pp z q) (hnp : (plR q tx T 61 ((s, td, ah, sh, n0), nu, 0, 0, re, ca, 0, od)).1 = 0) : MI l yX7_play cX7_play 2 (some .int) 17 372 D sz [.ref (L 0)] (mW D L s pa (nI P) 0 td ah sh n0 tx (nI T) nu (nI p9) fo re ca os od spa he) (-1000002) (mW D L (va_cpy (va_cpy s he 0 0 127) (plR q tx T 61 ((s, td, ah, sh, n0), nu, 0, 0, re, ca, 0, od)).2.1.1 0 0 127) pa (nI P) 0 ((plR q tx T 61 ((s, td, ah, sh, n0), nu, 0, 0, re, ca, 0, od)).2.1.2.1) ((plR q tx T 61 ((s, td, ah, sh, n0), nu, 0, 0, re, ca, 0, od)).2.1.2.2.1) ((plR q tx T 61 ((s, td, ah, sh, n0), nu, 0, 0, re, ca, 0, od)).2.1.2.2.2.1) ((plR q tx T 61 ((s, td, ah, sh, n0), nu, 0, 0, re, ca, 0, od)).2.1.2.2.2.2) tx (nI T) ((plR q tx T 61 ((s, td, ah, sh, n0), nu, 0, 0, re, ca, 0, od)).2.2.1) (nI (plR q tx T 61 ((s, td, ah, sh, n0), nu, 0, 0, re, ca, 0, od)).2.2.2.1) ((plR q tx T 61 ((s, td, ah, sh, n0), nu, 0, 0, re, ca, 0, od)).2.2.2.2.1) ((plR q tx T 61 ((s, td, ah, sh, n0), nu, 0, 0, re, ca, 0, od)).2.2.2.2.2.1) ((plR q tx T 61 ((s, td, ah, sh, n0), nu, 0, 0, re, ca, 0, od)).2.2.2.2.2.2.1) ((plR q tx T 61 ((s, td, ah, sh, n0), nu, 0, 0, re, ca, 0, od)).2.2.2.2.2.2.2.1) ((plR q tx T 61 ((s, td, ah, sh, n0), nu, 0, 0, re, ca, 0, od)).2.2.2.2.2.2.2.2) spa (va_cpy s he 0 0 127)) := by
  refine r_enterI (by decide) (Nat.le_of_ble_eq_true rfl) ?_
  intro p e st m args below meth c ls A X hret hk hw hl
  have X : CX D p m c cX7_play 2 st args RX7 A := X
  have hx := X.1.1
  have hb := X.1.2.1
  have hown := X.1.2.2.2.1
  have hts := X.1.2.2.2.2
  have hl : lv_has ls 2 [(0, .ref (L 0))] := hl
  refine lv_aload_n hx hb dX7_play_0 rfl (lv_at hl 0 rfl) ?_
  refine r_get X hw (v := .ref (L 1)) fl_X7_7 (m_at 0 rfl) rfl dX7_play_1 ?_
  refine lv_aload_n hx hb dX7_play_4 rfl (lv_at hl 0 rfl) ?_
  refine r_get X hw (v := .ref (L 4)) fl_X7_19 (m_at 0 rfl) rfl dX7_play_5 ?_
  refine r_callSv X hw (ws' := mW D L s pa (nI P) 0 td ah sh n0 tx (nI T) nu (nI p9) fo re ca os od spa (va_cpy s he 0 0 127)) (As := [.ref (L 1), .ref (L 4)]) (rest := []) lk_X7_160 (c_X7_copies l D _ (L 1) (L 4) s he) (cp14 D L s pa (nI P) 0 td ah sh n0 tx (nI T) nu (nI p9) fo re ca os od spa he (va_cpy s he 0 0 127)) rfl hl.1 (Nat.le_of_ble_eq_true rfl) ⟨Nat.le_of_ble_eq_true rfl, Nat.le_of_ble_eq_true rfl⟩ rfl dX7_play_8 ⟨Nat.le_refl _, Nat.le_refl _⟩ (fun H locs hw => ?_)
  refine lv_aload_n hx hb dX7_play_11 rfl (lv_at hl 0 rfl) ?_
  refine r_callV X hw (ws' := mW D L ((plR q tx T 61 ((s, td, ah, sh, n0), nu, 0, 0, re, ca, 0, od)).2.1.1) pa (nI P) 0 ((plR q tx T 61 ((s, td, ah, sh, n0), nu, 0, 0, re, ca, 0, od)).2.1.2.1) ((plR q tx T 61 ((s, td, ah, sh, n0), nu, 0, 0, re, ca, 0, od)).2.1.2.2.1) ((plR q tx T 61 ((s, td, ah, sh, n0), nu, 0, 0, re, ca, 0, od)).2.1.2.2.2.1) ((plR q tx T 61 ((s, td, ah, sh, n0), nu, 0, 0, re, ca, 0, od)).2.1.2.2.2.2) tx (nI T) ((plR q tx T 61 ((s, td, ah, sh, n0), nu, 0, 0, re, ca, 0, od)).2.2.1) (nI (plR q tx T 61 ((s, td, ah, sh, n0), nu, 0, 0, re, ca, 0, od)).2.2.2.1) ((plR q tx T 61 ((s, td, ah, sh, n0), nu, 0, 0, re, ca, 0, od)).2.2.2.2.1) ((plR q tx T 61 ((s, td, ah, sh, n0), nu, 0, 0, re, ca, 0, od)).2.2.2.2.2.1) ((plR q tx T 61 ((s, td, ah, sh, n0), nu, 0, 0, re, ca, 0, od)).2.2.2.2.2.2.1) ((plR q tx T 61 ((s, td, ah, sh, n0), nu, 0, 0, re, ca, 0, od)).2.2.2.2.2.2.2.1) ((plR q tx T 61 ((s, td, ah, sh, n0), nu, 0, 0, re, ca, 0, od)).2.2.2.2.2.2.2.2) spa (va_cpy s he 0 0 127)) (As := []) (rest := []) lk_X7_234 (c_X7_plays l D _ L s pa P 0 td ah sh n0 tx T nu p9 fo re ca os od spa (va_cpy s he 0 0 127) (by omega) (by omega) pp z q (by omega) hok) Foc.all (m_at 0 rfl) rfl hl.1 (Nat.le_of_ble_eq_true rfl) ⟨Nat.le_of_ble_eq_true rfl, Nat.le_of_ble_eq_true rfl⟩ rfl dX7_play_12 ⟨Nat.le_refl _, Nat.le_refl _⟩ (fun H locs hw => ?_)
  obtain ⟨fn, hfn⟩ : ∃ y, y = (plR q tx T 61 ((s, td, ah, sh, n0), nu, 0, 0, re, ca, 0, od)) := ⟨_, rfl⟩
  rw [← hfn] at hw
  rw [← hfn]
  refine lv_istore_n (lv' := [(1, .int fn.1), (0, .ref (L 0))]) hx hb dX7_play_15 rfl hl (by decide) rfl (fun ls hl => ?_)
  refine lv_aload_n hx hb dX7_play_16 rfl (lv_at hl 1 rfl) ?_
  refine r_get X hw (v := .ref (L 4)) fl_X7_19 (m_at 0 rfl) rfl dX7_play_17 ?_
  refine lv_aload_n hx hb dX7_play_20 rfl (lv_at hl 1 rfl) ?_
  refine r_get X hw (v := .ref (L 1)) fl_X7_7 (m_at 0 rfl) rfl dX7_play_21 ?_
  refine r_callSv X hw (ws' := mW D L (va_cpy (va_cpy s he 0 0 127) fn.2.1.1 0 0 127) pa (nI P) 0 fn.2.1.2.1 fn.2.1.2.2.1 fn.2.1.2.2.2.1 fn.2.1.2.2.2.2 tx (nI T) fn.2.2.1 (nI fn.2.2.2.1) fn.2.2.2.2.1 fn.2.2.2.2.2.1 fn.2.2.2.2.2.2.1 fn.2.2.2.2.2.2.2.1 fn.2.2.2.2.2.2.2.2 spa (va_cpy s he 0 0 127)) (As := [.ref (L 4), .ref (L 1)]) (rest := []) lk_X7_160 (c_X7_copies l D _ (L 4) (L 1) (va_cpy s he 0 0 127) fn.2.1.1) (cp41 D L fn.2.1.1 pa (nI P) 0 fn.2.1.2.1 fn.2.1.2.2.1 fn.2.1.2.2.2.1 fn.2.1.2.2.2.2 tx (nI T) fn.2.2.1 (nI fn.2.2.2.1) fn.2.2.2.2.1 fn.2.2.2.2.2.1 fn.2.2.2.2.2.2.1 fn.2.2.2.2.2.2.2.1 fn.2.2.2.2.2.2.2.2 spa (va_cpy s he 0 0 127) (va_cpy (va_cpy s he 0 0 127) fn.2.1.1 0 0 127)) rfl hl.1 (Nat.le_of_ble_eq_true rfl) ⟨Nat.le_of_ble_eq_true rfl, Nat.le_of_ble_eq_true rfl⟩ rfl dX7_play_24 ⟨Nat.le_refl _, Nat.le_refl _⟩ (fun H locs hw => ?_)
  refine lv_iload_n hx hb dX7_play_27 rfl (lv_at hl 0 rfl) ?_
  have hnp9 := hnp
  rw [← hfn] at hnp9
  refine lv_if_ne (tgt := 34) hx hb dX7_play_28 (by decide) (fun h => absurd hnp9 h) (fun _ => ?_)
  refine lv_ldc (v := (-1000002)) hx hb hown (hts _ kc_X7_146) dX7_play_31 ?_
  exact r_ret X hw hk hret rfl rfl rfl dX7_play_33

set_option maxRecDepth 100000 in
set_option maxHeartbeats 4000000 in
theorem c_X7_play_ok (l : Launch) (D : va_G) (sz : Nat) (L : Nat → Nat) (s pa : Row) (P : Nat) (td ah sh : Row) (n0 : Int32) (tx : Row) (T : Nat) (nu : Row) (p9 : Nat) (fo re ca os od : Int32) (spa he : Row) (hT : T ≤ 60) (hp9 : p9 ≤ 60) (pp z q : Nat) (hP : P ≤ 4) (hok : rOK s pp z q) (hnp : ¬ (plR q tx T 61 ((s, td, ah, sh, n0), nu, 0, 0, re, ca, 0, od)).1 = 0) : MI l yX7_play cX7_play 2 (some .int) 17 372 D sz [.ref (L 0)] (mW D L s pa (nI P) 0 td ah sh n0 tx (nI T) nu (nI p9) fo re ca os od spa he) (if (plR q tx T 61 ((va_cpy (va_cpy s he 0 0 127) (plR q tx T 61 ((s, td, ah, sh, n0), nu, 0, 0, re, ca, 0, od)).2.1.1 0 0 127, (plR q tx T 61 ((s, td, ah, sh, n0), nu, 0, 0, re, ca, 0, od)).2.1.2.1, (plR q tx T 61 ((s, td, ah, sh, n0), nu, 0, 0, re, ca, 0, od)).2.1.2.2.1, (plR q tx T 61 ((s, td, ah, sh, n0), nu, 0, 0, re, ca, 0, od)).2.1.2.2.2.1, (plR q tx T 61 ((s, td, ah, sh, n0), nu, 0, 0, re, ca, 0, od)).2.1.2.2.2.2), (plR q tx T 61 ((s, td, ah, sh, n0), nu, 0, 0, re, ca, 0, od)).2.2.1, 0, 0, (plR q tx T 61 ((s, td, ah, sh, n0), nu, 0, 0, re, ca, 0, od)).2.2.2.2.2.1, (plR q tx T 61 ((s, td, ah, sh, n0), nu, 0, 0, re, ca, 0, od)).2.2.2.2.2.2.1, 0, (plR q tx T 61 ((s, td, ah, sh, n0), nu, 0, 0, re, ca, 0, od)).2.2.2.2.2.2.2.2)).1 = 0 then -1000004 else (plR q tx T 61 ((va_cpy (va_cpy s he 0 0 127) (plR q tx T 61 ((s, td, ah, sh, n0), nu, 0, 0, re, ca, 0, od)).2.1.1 0 0 127, (plR q tx T 61 ((s, td, ah, sh, n0), nu, 0, 0, re, ca, 0, od)).2.1.2.1, (plR q tx T 61 ((s, td, ah, sh, n0), nu, 0, 0, re, ca, 0, od)).2.1.2.2.1, (plR q tx T 61 ((s, td, ah, sh, n0), nu, 0, 0, re, ca, 0, od)).2.1.2.2.2.1, (plR q tx T 61 ((s, td, ah, sh, n0), nu, 0, 0, re, ca, 0, od)).2.1.2.2.2.2), (plR q tx T 61 ((s, td, ah, sh, n0), nu, 0, 0, re, ca, 0, od)).2.2.1, 0, 0, (plR q tx T 61 ((s, td, ah, sh, n0), nu, 0, 0, re, ca, 0, od)).2.2.2.2.2.1, (plR q tx T 61 ((s, td, ah, sh, n0), nu, 0, 0, re, ca, 0, od)).2.2.2.2.2.2.1, 0, (plR q tx T 61 ((s, td, ah, sh, n0), nu, 0, 0, re, ca, 0, od)).2.2.2.2.2.2.2.2)).2.2.2.2.2.2.2.1) (mW D L ((plR q tx T 61 ((va_cpy (va_cpy s he 0 0 127) (plR q tx T 61 ((s, td, ah, sh, n0), nu, 0, 0, re, ca, 0, od)).2.1.1 0 0 127, (plR q tx T 61 ((s, td, ah, sh, n0), nu, 0, 0, re, ca, 0, od)).2.1.2.1, (plR q tx T 61 ((s, td, ah, sh, n0), nu, 0, 0, re, ca, 0, od)).2.1.2.2.1, (plR q tx T 61 ((s, td, ah, sh, n0), nu, 0, 0, re, ca, 0, od)).2.1.2.2.2.1, (plR q tx T 61 ((s, td, ah, sh, n0), nu, 0, 0, re, ca, 0, od)).2.1.2.2.2.2), (plR q tx T 61 ((s, td, ah, sh, n0), nu, 0, 0, re, ca, 0, od)).2.2.1, 0, 0, (plR q tx T 61 ((s, td, ah, sh, n0), nu, 0, 0, re, ca, 0, od)).2.2.2.2.2.1, (plR q tx T 61 ((s, td, ah, sh, n0), nu, 0, 0, re, ca, 0, od)).2.2.2.2.2.2.1, 0, (plR q tx T 61 ((s, td, ah, sh, n0), nu, 0, 0, re, ca, 0, od)).2.2.2.2.2.2.2.2)).2.1.1) ((pushR (va_cpy (va_cpy s he 0 0 127) (plR q tx T 61 ((s, td, ah, sh, n0), nu, 0, 0, re, ca, 0, od)).2.1.1 0 0 127) pa P).1) (nI (pushR (va_cpy (va_cpy s he 0 0 127) (plR q tx T 61 ((s, td, ah, sh, n0), nu, 0, 0, re, ca, 0, od)).2.1.1 0 0 127) pa P).2) 0 ((plR q tx T 61 ((va_cpy (va_cpy s he 0 0 127) (plR q tx T 61 ((s, td, ah, sh, n0), nu, 0, 0, re, ca, 0, od)).2.1.1 0 0 127, (plR q tx T 61 ((s, td, ah, sh, n0), nu, 0, 0, re, ca, 0, od)).2.1.2.1, (plR q tx T 61 ((s, td, ah, sh, n0), nu, 0, 0, re, ca, 0, od)).2.1.2.2.1, (plR q tx T 61 ((s, td, ah, sh, n0), nu, 0, 0, re, ca, 0, od)).2.1.2.2.2.1, (plR q tx T 61 ((s, td, ah, sh, n0), nu, 0, 0, re, ca, 0, od)).2.1.2.2.2.2), (plR q tx T 61 ((s, td, ah, sh, n0), nu, 0, 0, re, ca, 0, od)).2.2.1, 0, 0, (plR q tx T 61 ((s, td, ah, sh, n0), nu, 0, 0, re, ca, 0, od)).2.2.2.2.2.1, (plR q tx T 61 ((s, td, ah, sh, n0), nu, 0, 0, re, ca, 0, od)).2.2.2.2.2.2.1, 0, (plR q tx T 61 ((s, td, ah, sh, n0), nu, 0, 0, re, ca, 0, od)).2.2.2.2.2.2.2.2)).2.1.2.1) ((plR q tx T 61 ((va_cpy (va_cpy s he 0 0 127) (plR q tx T 61 ((s, td, ah, sh, n0), nu, 0, 0, re, ca, 0, od)).2.1.1 0 0 127, (plR q tx T 61 ((s, td, ah, sh, n0), nu, 0, 0, re, ca, 0, od)).2.1.2.1, (plR q tx T 61 ((s, td, ah, sh, n0), nu, 0, 0, re, ca, 0, od)).2.1.2.2.1, (plR q tx T 61 ((s, td, ah, sh, n0), nu, 0, 0, re, ca, 0, od)).2.1.2.2.2.1, (plR q tx T 61 ((s, td, ah, sh, n0), nu, 0, 0, re, ca, 0, od)).2.1.2.2.2.2), (plR q tx T 61 ((s, td, ah, sh, n0), nu, 0, 0, re, ca, 0, od)).2.2.1, 0, 0, (plR q tx T 61 ((s, td, ah, sh, n0), nu, 0, 0, re, ca, 0, od)).2.2.2.2.2.1, (plR q tx T 61 ((s, td, ah, sh, n0), nu, 0, 0, re, ca, 0, od)).2.2.2.2.2.2.1, 0, (plR q tx T 61 ((s, td, ah, sh, n0), nu, 0, 0, re, ca, 0, od)).2.2.2.2.2.2.2.2)).2.1.2.2.1) ((plR q tx T 61 ((va_cpy (va_cpy s he 0 0 127) (plR q tx T 61 ((s, td, ah, sh, n0), nu, 0, 0, re, ca, 0, od)).2.1.1 0 0 127, (plR q tx T 61 ((s, td, ah, sh, n0), nu, 0, 0, re, ca, 0, od)).2.1.2.1, (plR q tx T 61 ((s, td, ah, sh, n0), nu, 0, 0, re, ca, 0, od)).2.1.2.2.1, (plR q tx T 61 ((s, td, ah, sh, n0), nu, 0, 0, re, ca, 0, od)).2.1.2.2.2.1, (plR q tx T 61 ((s, td, ah, sh, n0), nu, 0, 0, re, ca, 0, od)).2.1.2.2.2.2), (plR q tx T 61 ((s, td, ah, sh, n0), nu, 0, 0, re, ca, 0, od)).2.2.1, 0, 0, (plR q tx T 61 ((s, td, ah, sh, n0), nu, 0, 0, re, ca, 0, od)).2.2.2.2.2.1, (plR q tx T 61 ((s, td, ah, sh, n0), nu, 0, 0, re, ca, 0, od)).2.2.2.2.2.2.1, 0, (plR q tx T 61 ((s, td, ah, sh, n0), nu, 0, 0, re, ca, 0, od)).2.2.2.2.2.2.2.2)).2.1.2.2.2.1) ((plR q tx T 61 ((va_cpy (va_cpy s he 0 0 127) (plR q tx T 61 ((s, td, ah, sh, n0), nu, 0, 0, re, ca, 0, od)).2.1.1 0 0 127, (plR q tx T 61 ((s, td, ah, sh, n0), nu, 0, 0, re, ca, 0, od)).2.1.2.1, (plR q tx T 61 ((s, td, ah, sh, n0), nu, 0, 0, re, ca, 0, od)).2.1.2.2.1, (plR q tx T 61 ((s, td, ah, sh, n0), nu, 0, 0, re, ca, 0, od)).2.1.2.2.2.1, (plR q tx T 61 ((s, td, ah, sh, n0), nu, 0, 0, re, ca, 0, od)).2.1.2.2.2.2), (plR q tx T 61 ((s, td, ah, sh, n0), nu, 0, 0, re, ca, 0, od)).2.2.1, 0, 0, (plR q tx T 61 ((s, td, ah, sh, n0), nu, 0, 0, re, ca, 0, od)).2.2.2.2.2.1, (plR q tx T 61 ((s, td, ah, sh, n0), nu, 0, 0, re, ca, 0, od)).2.2.2.2.2.2.1, 0, (plR q tx T 61 ((s, td, ah, sh, n0), nu, 0, 0, re, ca, 0, od)).2.2.2.2.2.2.2.2)).2.1.2.2.2.2) tx (nI T) ((plR q tx T 61 ((va_cpy (va_cpy s he 0 0 127) (plR q tx T 61 ((s, td, ah, sh, n0), nu, 0, 0, re, ca, 0, od)).2.1.1 0 0 127, (plR q tx T 61 ((s, td, ah, sh, n0), nu, 0, 0, re, ca, 0, od)).2.1.2.1, (plR q tx T 61 ((s, td, ah, sh, n0), nu, 0, 0, re, ca, 0, od)).2.1.2.2.1, (plR q tx T 61 ((s, td, ah, sh, n0), nu, 0, 0, re, ca, 0, od)).2.1.2.2.2.1, (plR q tx T 61 ((s, td, ah, sh, n0), nu, 0, 0, re, ca, 0, od)).2.1.2.2.2.2), (plR q tx T 61 ((s, td, ah, sh, n0), nu, 0, 0, re, ca, 0, od)).2.2.1, 0, 0, (plR q tx T 61 ((s, td, ah, sh, n0), nu, 0, 0, re, ca, 0, od)).2.2.2.2.2.1, (plR q tx T 61 ((s, td, ah, sh, n0), nu, 0, 0, re, ca, 0, od)).2.2.2.2.2.2.1, 0, (plR q tx T 61 ((s, td, ah, sh, n0), nu, 0, 0, re, ca, 0, od)).2.2.2.2.2.2.2.2)).2.2.1) (nI (plR q tx T 61 ((va_cpy (va_cpy s he 0 0 127) (plR q tx T 61 ((s, td, ah, sh, n0), nu, 0, 0, re, ca, 0, od)).2.1.1 0 0 127, (plR q tx T 61 ((s, td, ah, sh, n0), nu, 0, 0, re, ca, 0, od)).2.1.2.1, (plR q tx T 61 ((s, td, ah, sh, n0), nu, 0, 0, re, ca, 0, od)).2.1.2.2.1, (plR q tx T 61 ((s, td, ah, sh, n0), nu, 0, 0, re, ca, 0, od)).2.1.2.2.2.1, (plR q tx T 61 ((s, td, ah, sh, n0), nu, 0, 0, re, ca, 0, od)).2.1.2.2.2.2), (plR q tx T 61 ((s, td, ah, sh, n0), nu, 0, 0, re, ca, 0, od)).2.2.1, 0, 0, (plR q tx T 61 ((s, td, ah, sh, n0), nu, 0, 0, re, ca, 0, od)).2.2.2.2.2.1, (plR q tx T 61 ((s, td, ah, sh, n0), nu, 0, 0, re, ca, 0, od)).2.2.2.2.2.2.1, 0, (plR q tx T 61 ((s, td, ah, sh, n0), nu, 0, 0, re, ca, 0, od)).2.2.2.2.2.2.2.2)).2.2.2.1) ((plR q tx T 61 ((va_cpy (va_cpy s he 0 0 127) (plR q tx T 61 ((s, td, ah, sh, n0), nu, 0, 0, re, ca, 0, od)).2.1.1 0 0 127, (plR q tx T 61 ((s, td, ah, sh, n0), nu, 0, 0, re, ca, 0, od)).2.1.2.1, (plR q tx T 61 ((s, td, ah, sh, n0), nu, 0, 0, re, ca, 0, od)).2.1.2.2.1, (plR q tx T 61 ((s, td, ah, sh, n0), nu, 0, 0, re, ca, 0, od)).2.1.2.2.2.1, (plR q tx T 61 ((s, td, ah, sh, n0), nu, 0, 0, re, ca, 0, od)).2.1.2.2.2.2), (plR q tx T 61 ((s, td, ah, sh, n0), nu, 0, 0, re, ca, 0, od)).2.2.1, 0, 0, (plR q tx T 61 ((s, td, ah, sh, n0), nu, 0, 0, re, ca, 0, od)).2.2.2.2.2.1, (plR q tx T 61 ((s, td, ah, sh, n0), nu, 0, 0, re, ca, 0, od)).2.2.2.2.2.2.1, 0, (plR q tx T 61 ((s, td, ah, sh, n0), nu, 0, 0, re, ca, 0, od)).2.2.2.2.2.2.2.2)).2.2.2.2.1) ((plR q tx T 61 ((va_cpy (va_cpy s he 0 0 127) (plR q tx T 61 ((s, td, ah, sh, n0), nu, 0, 0, re, ca, 0, od)).2.1.1 0 0 127, (plR q tx T 61 ((s, td, ah, sh, n0), nu, 0, 0, re, ca, 0, od)).2.1.2.1, (plR q tx T 61 ((s, td, ah, sh, n0), nu, 0, 0, re, ca, 0, od)).2.1.2.2.1, (plR q tx T 61 ((s, td, ah, sh, n0), nu, 0, 0, re, ca, 0, od)).2.1.2.2.2.1, (plR q tx T 61 ((s, td, ah, sh, n0), nu, 0, 0, re, ca, 0, od)).2.1.2.2.2.2), (plR q tx T 61 ((s, td, ah, sh, n0), nu, 0, 0, re, ca, 0, od)).2.2.1, 0, 0, (plR q tx T 61 ((s, td, ah, sh, n0), nu, 0, 0, re, ca, 0, od)).2.2.2.2.2.1, (plR q tx T 61 ((s, td, ah, sh, n0), nu, 0, 0, re, ca, 0, od)).2.2.2.2.2.2.1, 0, (plR q tx T 61 ((s, td, ah, sh, n0), nu, 0, 0, re, ca, 0, od)).2.2.2.2.2.2.2.2)).2.2.2.2.2.1) ((plR q tx T 61 ((va_cpy (va_cpy s he 0 0 127) (plR q tx T 61 ((s, td, ah, sh, n0), nu, 0, 0, re, ca, 0, od)).2.1.1 0 0 127, (plR q tx T 61 ((s, td, ah, sh, n0), nu, 0, 0, re, ca, 0, od)).2.1.2.1, (plR q tx T 61 ((s, td, ah, sh, n0), nu, 0, 0, re, ca, 0, od)).2.1.2.2.1, (plR q tx T 61 ((s, td, ah, sh, n0), nu, 0, 0, re, ca, 0, od)).2.1.2.2.2.1, (plR q tx T 61 ((s, td, ah, sh, n0), nu, 0, 0, re, ca, 0, od)).2.1.2.2.2.2), (plR q tx T 61 ((s, td, ah, sh, n0), nu, 0, 0, re, ca, 0, od)).2.2.1, 0, 0, (plR q tx T 61 ((s, td, ah, sh, n0), nu, 0, 0, re, ca, 0, od)).2.2.2.2.2.1, (plR q tx T 61 ((s, td, ah, sh, n0), nu, 0, 0, re, ca, 0, od)).2.2.2.2.2.2.1, 0, (plR q tx T 61 ((s, td, ah, sh, n0), nu, 0, 0, re, ca, 0, od)).2.2.2.2.2.2.2.2)).2.2.2.2.2.2.1) ((plR q tx T 61 ((va_cpy (va_cpy s he 0 0 127) (plR q tx T 61 ((s, td, ah, sh, n0), nu, 0, 0, re, ca, 0, od)).2.1.1 0 0 127, (plR q tx T 61 ((s, td, ah, sh, n0), nu, 0, 0, re, ca, 0, od)).2.1.2.1, (plR q tx T 61 ((s, td, ah, sh, n0), nu, 0, 0, re, ca, 0, od)).2.1.2.2.1, (plR q tx T 61 ((s, td, ah, sh, n0), nu, 0, 0, re, ca, 0, od)).2.1.2.2.2.1, (plR q tx T 61 ((s, td, ah, sh, n0), nu, 0, 0, re, ca, 0, od)).2.1.2.2.2.2), (plR q tx T 61 ((s, td, ah, sh, n0), nu, 0, 0, re, ca, 0, od)).2.2.1, 0, 0, (plR q tx T 61 ((s, td, ah, sh, n0), nu, 0, 0, re, ca, 0, od)).2.2.2.2.2.1, (plR q tx T 61 ((s, td, ah, sh, n0), nu, 0, 0, re, ca, 0, od)).2.2.2.2.2.2.1, 0, (plR q tx T 61 ((s, td, ah, sh, n0), nu, 0, 0, re, ca, 0, od)).2.2.2.2.2.2.2.2)).2.2.2.2.2.2.2.1) ((plR q tx T 61 ((va_cpy (va_cpy s he 0 0 127) (plR q tx T 61 ((s, td, ah, sh, n0), nu, 0, 0, re, ca, 0, od)).2.1.1 0 0 127, (plR q tx T 61 ((s, td, ah, sh, n0), nu, 0, 0, re, ca, 0, od)).2.1.2.1, (plR q tx T 61 ((s, td, ah, sh, n0), nu, 0, 0, re, ca, 0, od)).2.1.2.2.1, (plR q tx T 61 ((s, td, ah, sh, n0), nu, 0, 0, re, ca, 0, od)).2.1.2.2.2.1, (plR q tx T 61 ((s, td, ah, sh, n0), nu, 0, 0, re, ca, 0, od)).2.1.2.2.2.2), (plR q tx T 61 ((s, td, ah, sh, n0), nu, 0, 0, re, ca, 0, od)).2.2.1, 0, 0, (plR q tx T 61 ((s, td, ah, sh, n0), nu, 0, 0, re, ca, 0, od)).2.2.2.2.2.1, (plR q tx T 61 ((s, td, ah, sh, n0), nu, 0, 0, re, ca, 0, od)).2.2.2.2.2.2.1, 0, (plR q tx T 61 ((s, td, ah, sh, n0), nu, 0, 0, re, ca, 0, od)).2.2.2.2.2.2.2.2)).2.2.2.2.2.2.2.2) spa (va_cpy s he 0 0 127)) := by
  refine r_enterI (by decide) (Nat.le_of_ble_eq_true rfl) ?_
  intro p e st m args below meth c ls A X hret hk hw hl
  have X : CX D p m c cX7_play 2 st args RX7 A := X
  have hx := X.1.1
  have hb := X.1.2.1
  have hown := X.1.2.2.2.1
  have hts := X.1.2.2.2.2
  have hl : lv_has ls 2 [(0, .ref (L 0))] := hl
  refine lv_aload_n hx hb dX7_play_0 rfl (lv_at hl 0 rfl) ?_
  refine r_get X hw (v := .ref (L 1)) fl_X7_7 (m_at 0 rfl) rfl dX7_play_1 ?_
  refine lv_aload_n hx hb dX7_play_4 rfl (lv_at hl 0 rfl) ?_
  refine r_get X hw (v := .ref (L 4)) fl_X7_19 (m_at 0 rfl) rfl dX7_play_5 ?_
  refine r_callSv X hw (ws' := mW D L s pa (nI P) 0 td ah sh n0 tx (nI T) nu (nI p9) fo re ca os od spa (va_cpy s he 0 0 127)) (As := [.ref (L 1), .ref (L 4)]) (rest := []) lk_X7_160 (c_X7_copies l D _ (L 1) (L 4) s he) (cp14 D L s pa (nI P) 0 td ah sh n0 tx (nI T) nu (nI p9) fo re ca os od spa he (va_cpy s he 0 0 127)) rfl hl.1 (Nat.le_of_ble_eq_true rfl) ⟨Nat.le_of_ble_eq_true rfl, Nat.le_of_ble_eq_true rfl⟩ rfl dX7_play_8 ⟨Nat.le_refl _, Nat.le_refl _⟩ (fun H locs hw => ?_)
  refine lv_aload_n hx hb dX7_play_11 rfl (lv_at hl 0 rfl) ?_
  refine r_callV X hw (ws' := mW D L ((plR q tx T 61 ((s, td, ah, sh, n0), nu, 0, 0, re, ca, 0, od)).2.1.1) pa (nI P) 0 ((plR q tx T 61 ((s, td, ah, sh, n0), nu, 0, 0, re, ca, 0, od)).2.1.2.1) ((plR q tx T 61 ((s, td, ah, sh, n0), nu, 0, 0, re, ca, 0, od)).2.1.2.2.1) ((plR q tx T 61 ((s, td, ah, sh, n0), nu, 0, 0, re, ca, 0, od)).2.1.2.2.2.1) ((plR q tx T 61 ((s, td, ah, sh, n0), nu, 0, 0, re, ca, 0, od)).2.1.2.2.2.2) tx (nI T) ((plR q tx T 61 ((s, td, ah, sh, n0), nu, 0, 0, re, ca, 0, od)).2.2.1) (nI (plR q tx T 61 ((s, td, ah, sh, n0), nu, 0, 0, re, ca, 0, od)).2.2.2.1) ((plR q tx T 61 ((s, td, ah, sh, n0), nu, 0, 0, re, ca, 0, od)).2.2.2.2.1) ((plR q tx T 61 ((s, td, ah, sh, n0), nu, 0, 0, re, ca, 0, od)).2.2.2.2.2.1) ((plR q tx T 61 ((s, td, ah, sh, n0), nu, 0, 0, re, ca, 0, od)).2.2.2.2.2.2.1) ((plR q tx T 61 ((s, td, ah, sh, n0), nu, 0, 0, re, ca, 0, od)).2.2.2.2.2.2.2.1) ((plR q tx T 61 ((s, td, ah, sh, n0), nu, 0, 0, re, ca, 0, od)).2.2.2.2.2.2.2.2) spa (va_cpy s he 0 0 127)) (As := []) (rest := []) lk_X7_234 (c_X7_plays l D _ L s pa P 0 td ah sh n0 tx T nu p9 fo re ca os od spa (va_cpy s he 0 0 127) (by omega) (by omega) pp z q (by omega) hok) Foc.all (m_at 0 rfl) rfl hl.1 (Nat.le_of_ble_eq_true rfl) ⟨Nat.le_of_ble_eq_true rfl, Nat.le_of_ble_eq_true rfl⟩ rfl dX7_play_12 ⟨Nat.le_refl _, Nat.le_refl _⟩ (fun H locs hw => ?_)
  obtain ⟨fn, hfn⟩ : ∃ y, y = (plR q tx T 61 ((s, td, ah, sh, n0), nu, 0, 0, re, ca, 0, od)) := ⟨_, rfl⟩
  rw [← hfn] at hw
  rw [← hfn]
  refine lv_istore_n (lv' := [(1, .int fn.1), (0, .ref (L 0))]) hx hb dX7_play_15 rfl hl (by decide) rfl (fun ls hl => ?_)
  refine lv_aload_n hx hb dX7_play_16 rfl (lv_at hl 1 rfl) ?_
  refine r_get X hw (v := .ref (L 4)) fl_X7_19 (m_at 0 rfl) rfl dX7_play_17 ?_
  refine lv_aload_n hx hb dX7_play_20 rfl (lv_at hl 1 rfl) ?_
  refine r_get X hw (v := .ref (L 1)) fl_X7_7 (m_at 0 rfl) rfl dX7_play_21 ?_
  refine r_callSv X hw (ws' := mW D L (va_cpy (va_cpy s he 0 0 127) fn.2.1.1 0 0 127) pa (nI P) 0 fn.2.1.2.1 fn.2.1.2.2.1 fn.2.1.2.2.2.1 fn.2.1.2.2.2.2 tx (nI T) fn.2.2.1 (nI fn.2.2.2.1) fn.2.2.2.2.1 fn.2.2.2.2.2.1 fn.2.2.2.2.2.2.1 fn.2.2.2.2.2.2.2.1 fn.2.2.2.2.2.2.2.2 spa (va_cpy s he 0 0 127)) (As := [.ref (L 4), .ref (L 1)]) (rest := []) lk_X7_160 (c_X7_copies l D _ (L 4) (L 1) (va_cpy s he 0 0 127) fn.2.1.1) (cp41 D L fn.2.1.1 pa (nI P) 0 fn.2.1.2.1 fn.2.1.2.2.1 fn.2.1.2.2.2.1 fn.2.1.2.2.2.2 tx (nI T) fn.2.2.1 (nI fn.2.2.2.1) fn.2.2.2.2.1 fn.2.2.2.2.2.1 fn.2.2.2.2.2.2.1 fn.2.2.2.2.2.2.2.1 fn.2.2.2.2.2.2.2.2 spa (va_cpy s he 0 0 127) (va_cpy (va_cpy s he 0 0 127) fn.2.1.1 0 0 127)) rfl hl.1 (Nat.le_of_ble_eq_true rfl) ⟨Nat.le_of_ble_eq_true rfl, Nat.le_of_ble_eq_true rfl⟩ rfl dX7_play_24 ⟨Nat.le_refl _, Nat.le_refl _⟩ (fun H locs hw => ?_)
  refine lv_iload_n hx hb dX7_play_27 rfl (lv_at hl 0 rfl) ?_
  have hnp9 := hnp
  rw [← hfn] at hnp9
  refine lv_if_ne (tgt := 34) hx hb dX7_play_28 (by decide) (fun _ => ?_) (fun h => absurd h hnp9)
  refine lv_aload_n hx hb dX7_play_34 rfl (lv_at hl 1 rfl) ?_
  refine r_callVv X hw (ws' := mW D L (va_cpy (va_cpy s he 0 0 127) fn.2.1.1 0 0 127) ((pushR (va_cpy (va_cpy s he 0 0 127) fn.2.1.1 0 0 127) pa P).1) (nI (pushR (va_cpy (va_cpy s he 0 0 127) fn.2.1.1 0 0 127) pa P).2) 0 fn.2.1.2.1 fn.2.1.2.2.1 fn.2.1.2.2.2.1 fn.2.1.2.2.2.2 tx (nI T) fn.2.2.1 (nI fn.2.2.2.1) fn.2.2.2.2.1 fn.2.2.2.2.2.1 fn.2.2.2.2.2.2.1 fn.2.2.2.2.2.2.2.1 fn.2.2.2.2.2.2.2.2 spa (va_cpy s he 0 0 127)) (As := []) (rest := []) lk_X7_107 (c_X7_changes0 l D _ L (va_cpy (va_cpy s he 0 0 127) fn.2.1.1 0 0 127) pa P 0 fn.2.1.2.1 fn.2.1.2.2.1 fn.2.1.2.2.2.1 fn.2.1.2.2.2.2 tx (nI T) fn.2.2.1 (nI fn.2.2.2.1) fn.2.2.2.2.1 fn.2.2.2.2.2.1 fn.2.2.2.2.2.2.1 fn.2.2.2.2.2.2.2.1 fn.2.2.2.2.2.2.2.2 spa (va_cpy s he 0 0 127) (by omega)) Foc.all (m_at 0 rfl) rfl hl.1 (Nat.le_of_ble_eq_true rfl) ⟨Nat.le_of_ble_eq_true rfl, Nat.le_of_ble_eq_true rfl⟩ rfl dX7_play_35 ⟨Nat.le_refl _, Nat.le_refl _⟩ (fun H locs hw => ?_)
  have hP2 : (pushR (va_cpy (va_cpy s he 0 0 127) fn.2.1.1 0 0 127) pa P).2 ≤ 4 := by unfold pushR; split <;> (dsimp only; omega)
  have hp60 : fn.2.2.2.1 ≤ 60 := by rw [hfn]; exact plR_le hT 61 _ (by dsimp only; omega)
  refine lv_aload_n hx hb dX7_play_38 rfl (lv_at hl 1 rfl) ?_
  refine r_callV X hw (ws' := mW D L ((plR q tx T 61 ((va_cpy (va_cpy s he 0 0 127) fn.2.1.1 0 0 127, fn.2.1.2.1, fn.2.1.2.2.1, fn.2.1.2.2.2.1, fn.2.1.2.2.2.2), fn.2.2.1, 0, 0, fn.2.2.2.2.2.1, fn.2.2.2.2.2.2.1, 0, fn.2.2.2.2.2.2.2.2)).2.1.1) ((pushR (va_cpy (va_cpy s he 0 0 127) fn.2.1.1 0 0 127) pa P).1) (nI (pushR (va_cpy (va_cpy s he 0 0 127) fn.2.1.1 0 0 127) pa P).2) 0 ((plR q tx T 61 ((va_cpy (va_cpy s he 0 0 127) fn.2.1.1 0 0 127, fn.2.1.2.1, fn.2.1.2.2.1, fn.2.1.2.2.2.1, fn.2.1.2.2.2.2), fn.2.2.1, 0, 0, fn.2.2.2.2.2.1, fn.2.2.2.2.2.2.1, 0, fn.2.2.2.2.2.2.2.2)).2.1.2.1) ((plR q tx T 61 ((va_cpy (va_cpy s he 0 0 127) fn.2.1.1 0 0 127, fn.2.1.2.1, fn.2.1.2.2.1, fn.2.1.2.2.2.1, fn.2.1.2.2.2.2), fn.2.2.1, 0, 0, fn.2.2.2.2.2.1, fn.2.2.2.2.2.2.1, 0, fn.2.2.2.2.2.2.2.2)).2.1.2.2.1) ((plR q tx T 61 ((va_cpy (va_cpy s he 0 0 127) fn.2.1.1 0 0 127, fn.2.1.2.1, fn.2.1.2.2.1, fn.2.1.2.2.2.1, fn.2.1.2.2.2.2), fn.2.2.1, 0, 0, fn.2.2.2.2.2.1, fn.2.2.2.2.2.2.1, 0, fn.2.2.2.2.2.2.2.2)).2.1.2.2.2.1) ((plR q tx T 61 ((va_cpy (va_cpy s he 0 0 127) fn.2.1.1 0 0 127, fn.2.1.2.1, fn.2.1.2.2.1, fn.2.1.2.2.2.1, fn.2.1.2.2.2.2), fn.2.2.1, 0, 0, fn.2.2.2.2.2.1, fn.2.2.2.2.2.2.1, 0, fn.2.2.2.2.2.2.2.2)).2.1.2.2.2.2) tx (nI T) ((plR q tx T 61 ((va_cpy (va_cpy s he 0 0 127) fn.2.1.1 0 0 127, fn.2.1.2.1, fn.2.1.2.2.1, fn.2.1.2.2.2.1, fn.2.1.2.2.2.2), fn.2.2.1, 0, 0, fn.2.2.2.2.2.1, fn.2.2.2.2.2.2.1, 0, fn.2.2.2.2.2.2.2.2)).2.2.1) (nI (plR q tx T 61 ((va_cpy (va_cpy s he 0 0 127) fn.2.1.1 0 0 127, fn.2.1.2.1, fn.2.1.2.2.1, fn.2.1.2.2.2.1, fn.2.1.2.2.2.2), fn.2.2.1, 0, 0, fn.2.2.2.2.2.1, fn.2.2.2.2.2.2.1, 0, fn.2.2.2.2.2.2.2.2)).2.2.2.1) ((plR q tx T 61 ((va_cpy (va_cpy s he 0 0 127) fn.2.1.1 0 0 127, fn.2.1.2.1, fn.2.1.2.2.1, fn.2.1.2.2.2.1, fn.2.1.2.2.2.2), fn.2.2.1, 0, 0, fn.2.2.2.2.2.1, fn.2.2.2.2.2.2.1, 0, fn.2.2.2.2.2.2.2.2)).2.2.2.2.1) ((plR q tx T 61 ((va_cpy (va_cpy s he 0 0 127) fn.2.1.1 0 0 127, fn.2.1.2.1, fn.2.1.2.2.1, fn.2.1.2.2.2.1, fn.2.1.2.2.2.2), fn.2.2.1, 0, 0, fn.2.2.2.2.2.1, fn.2.2.2.2.2.2.1, 0, fn.2.2.2.2.2.2.2.2)).2.2.2.2.2.1) ((plR q tx T 61 ((va_cpy (va_cpy s he 0 0 127) fn.2.1.1 0 0 127, fn.2.1.2.1, fn.2.1.2.2.1, fn.2.1.2.2.2.1, fn.2.1.2.2.2.2), fn.2.2.1, 0, 0, fn.2.2.2.2.2.1, fn.2.2.2.2.2.2.1, 0, fn.2.2.2.2.2.2.2.2)).2.2.2.2.2.2.1) ((plR q tx T 61 ((va_cpy (va_cpy s he 0 0 127) fn.2.1.1 0 0 127, fn.2.1.2.1, fn.2.1.2.2.1, fn.2.1.2.2.2.1, fn.2.1.2.2.2.2), fn.2.2.1, 0, 0, fn.2.2.2.2.2.1, fn.2.2.2.2.2.2.1, 0, fn.2.2.2.2.2.2.2.2)).2.2.2.2.2.2.2.1) ((plR q tx T 61 ((va_cpy (va_cpy s he 0 0 127) fn.2.1.1 0 0 127, fn.2.1.2.1, fn.2.1.2.2.1, fn.2.1.2.2.2.1, fn.2.1.2.2.2.2), fn.2.2.1, 0, 0, fn.2.2.2.2.2.1, fn.2.2.2.2.2.2.1, 0, fn.2.2.2.2.2.2.2.2)).2.2.2.2.2.2.2.2) spa (va_cpy s he 0 0 127)) (As := []) (rest := []) lk_X7_234 (c_X7_plays l D _ L (va_cpy (va_cpy s he 0 0 127) fn.2.1.1 0 0 127) ((pushR (va_cpy (va_cpy s he 0 0 127) fn.2.1.1 0 0 127) pa P).1) ((pushR (va_cpy (va_cpy s he 0 0 127) fn.2.1.1 0 0 127) pa P).2) 0 fn.2.1.2.1 fn.2.1.2.2.1 fn.2.1.2.2.2.1 fn.2.1.2.2.2.2 tx T fn.2.2.1 fn.2.2.2.1 fn.2.2.2.2.1 fn.2.2.2.2.2.1 fn.2.2.2.2.2.2.1 fn.2.2.2.2.2.2.2.1 fn.2.2.2.2.2.2.2.2 spa (va_cpy s he 0 0 127) (by omega) (by omega) pp z q (by omega) (cpy_ok hok)) Foc.all (m_at 0 rfl) rfl hl.1 (Nat.le_of_ble_eq_true rfl) ⟨Nat.le_of_ble_eq_true rfl, Nat.le_of_ble_eq_true rfl⟩ rfl dX7_play_39 ⟨Nat.le_refl _, Nat.le_refl _⟩ (fun H locs hw => ?_)
  obtain ⟨gn, hgn⟩ : ∃ y, y = (plR q tx T 61 ((va_cpy (va_cpy s he 0 0 127) fn.2.1.1 0 0 127, fn.2.1.2.1, fn.2.1.2.2.1, fn.2.1.2.2.2.1, fn.2.1.2.2.2.2), fn.2.2.1, 0, 0, fn.2.2.2.2.2.1, fn.2.2.2.2.2.2.1, 0, fn.2.2.2.2.2.2.2.2)) := ⟨_, rfl⟩
  rw [← hgn] at hw
  rw [← hgn]
  refine lv_if_eq (tgt := 52) hx hb dX7_play_42 (by decide) (fun c1 => ?_) (fun c1 => ?_)
  · skip
    refine lv_ldc (v := (-1000004)) hx hb hown (hts _ kc_X7_113) dX7_play_52 ?_
    exact r_ret X hw hk hret rfl (by rw [if_pos c1]) rfl dX7_play_54
  · skip
    refine lv_aload_n hx hb dX7_play_45 rfl (lv_at hl 1 rfl) ?_
    refine r_get X hw (v := .int gn.2.2.2.2.2.2.2.1) fl_X7_219 (m_at 0 rfl) rfl dX7_play_46 ?_
    refine lv_goto (tgt := 54) hx hb dX7_play_49 (by decide) ?_
    exact r_ret X hw hk hret rfl (by rw [if_neg c1]) rfl dX7_play_54
