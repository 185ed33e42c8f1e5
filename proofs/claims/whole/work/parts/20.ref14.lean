/-! orders are done -/
theorem in_iffL (x : Int32) (l N : Nat) (hN : N < 2147483648) (hl : l < 2147483648) : ¬ sp_X7_in x (nI l) (nI N) = 0 ↔ ∃ k, k < N + 1 ∧ l ≤ k ∧ x = nI k := by
  constructor
  · intro h
    unfold sp_X7_in at h
    by_cases h1 : x < nI l
    · rw [if_pos h1] at h; exact absurd rfl h
    · rw [if_neg h1] at h
      by_cases h2 : nI N < x
      · rw [if_pos h2] at h; exact absurd rfl h
      · have h0 : ¬ x < 0 := fun q => h1 (Int32.lt_of_lt_of_le q (nI_pos' hl))
        obtain ⟨j, hj, e⟩ := nI_of h0
        subst e
        have g1 := (not_congr (nI_ltI hj hl)).mp h1
        have g2 := (not_congr (nI_ltI hN hj)).mp h2
        exact ⟨j, by omega, by omega, rfl⟩
  · rintro ⟨k, hk, hk2, rfl⟩
    exact in_okL k l N hk2 (by omega) hN
theorem in_iffM (x : Int32) (N : Nat) (hN : N < 2147483648) : ¬ sp_X7_in x (-1) (nI N) = 0 ↔ x = -1 ∨ ∃ k, k < N + 1 ∧ x = nI k := by
  constructor
  · intro h
    unfold sp_X7_in at h
    by_cases h1 : x < -1
    · rw [if_pos h1] at h; exact absurd rfl h
    · rw [if_neg h1] at h
      by_cases h2 : nI N < x
      · rw [if_pos h2] at h; exact absurd rfl h
      · by_cases h0 : x < 0
        · left
          have a1 := (not_congr Int32.lt_iff_toInt_lt).mp h1
          have a2 := Int32.lt_iff_toInt_lt.mp h0
          have a3 : (-1 : Int32).toInt = -1 := by decide
          have a4 : (0 : Int32).toInt = 0 := by decide
          exact Int32.toInt_inj.mp (by omega)
        · obtain ⟨j, hj, e⟩ := nI_of h0
          subst e
          have g2 := (not_congr (nI_ltI hN hj)).mp h2
          exact Or.inr ⟨j, by omega, rfl⟩
  · rintro (rfl | ⟨k, hk, rfl⟩)
    · unfold sp_X7_in
      rw [if_neg (by decide), if_neg (fun q => absurd (Int32.lt_trans q (show (-1 : Int32) < 0 from by decide)) (nI_pos hN))]
      decide
    · exact in_okM k N (by omega) hN
/-- the row, what is told, ahead, shown, how often: as an order leaves them -/
abbrev XS : Type := Row × Row × Row × Row × Int32
abbrev nc (x : Int32) : Nat := x.toNatClampNeg
/-- what an order answers, and what it leaves -/
noncomputable def doR (q : Nat) (od : Int32) (nu : Row) (x : XS) : Int32 × XS :=
  if od = 97 then (if (¬ sp_X7_isAlarm (nu 0) = 0) ∧ (¬ sp_X7_in (nu 1) 0 4 = 0) ∧ ¬ sp_X7_in (nu 2) 0 255 = 0 then ((sp_X7_alarm x.1 (nc (nu 0)) (nc (nu 1)) (nc (nu 2))).1, (sp_X7_alarm x.1 (nc (nu 0)) (nc (nu 1)) (nc (nu 2))).2, x.2) else (-1000001, x))
  else (if od = 98 then (if ¬ sp_X7_in (nu 0) 0 2 = 0 then (bTorn (buR x.1 x.2.1 x.2.2.1 x.2.2.2.1 q (nc (nu 0))).1, buS x.1 x.2.1 x.2.2.1 x.2.2.2.1 q (nc (nu 0)), (buR x.1 x.2.1 x.2.2.1 x.2.2.2.1 q (nc (nu 0))).1.2.1, (buR x.1 x.2.1 x.2.2.1 x.2.2.2.1 q (nc (nu 0))).1.2.2.1, (buR x.1 x.2.1 x.2.2.1 x.2.2.2.1 q (nc (nu 0))).1.2.2.2.1, nI (buR x.1 x.2.1 x.2.2.1 x.2.2.2.1 q (nc (nu 0))).1.2.2.2.2) else (-1000001, x))
  else (if od = 112 then (if ¬ sp_X7_in (nu 0) 1 9999 = 0 then (phN x.1 (nc (nu 0)), phF x.1 (nc (nu 0)), x.2) else (-1000001, x))
  else (if od = 114 then (if ¬ sp_X7_isRegister (nu 0) = 0 then ((sp_X7_read x.1 (nc (nu 0)) q).1, (sp_X7_read x.1 (nc (nu 0)) q).2, x.2) else (-1000001, x))
  else (if od = 119 then (if (¬ sp_X7_isRegister (nu 0) = 0) ∧ ¬ sp_X7_in (nu 1) 0 255 = 0 then ((sp_X7_write x.1 (nc (nu 0)) (nc (nu 1))).1, (sp_X7_write x.1 (nc (nu 0)) (nc (nu 1))).2, x.2) else (-1000001, x))
  else (if (¬ sp_X7_isAlarm (nu 0) = 0) ∧ ¬ sp_X7_in (nu 1) (-1) 31 = 0 then (if nu 1 = -1 then ((sp_X7_armM x.1 (nc (nu 0))).1, (sp_X7_armM x.1 (nc (nu 0))).2, x.2) else ((sp_X7_arm x.1 (nc (nu 0)) (nc (nu 1))).1, (sp_X7_arm x.1 (nc (nu 0)) (nc (nu 1))).2, x.2)) else (-1000001, x))))))

set_option maxRecDepth 100000 in
set_option maxHeartbeats 4000000 in
theorem c_X7_does (l : Launch) (D : va_G) (sz : Nat) (L : Nat → Nat) (s pa : Row) (P : Nat) (td ah sh : Row) (n0 : Int32) (tx : Row) (T : Nat) (nu : Row) (p9 : Nat) (fo re ca os od : Int32) (spa he : Row) (hT : T ≤ 60) (hp9 : p9 ≤ 60) (pp z q : Nat) (hP : P ≤ 4) (hok : rOK s pp z q) : MI l yX7_does cX7_does 1 (some .int) 15 329 D sz [.ref (L 0)] (mW D L s pa (nI P) 1 td ah sh n0 tx (nI T) nu (nI p9) fo re ca os od spa he) ((doR q od nu (s, td, ah, sh, n0)).1) (mW D L ((doR q od nu (s, td, ah, sh, n0)).2.1) pa (nI P) 1 ((doR q od nu (s, td, ah, sh, n0)).2.2.1) ((doR q od nu (s, td, ah, sh, n0)).2.2.2.1) ((doR q od nu (s, td, ah, sh, n0)).2.2.2.2.1) ((doR q od nu (s, td, ah, sh, n0)).2.2.2.2.2) tx (nI T) nu (nI p9) fo re ca os od spa he) := by
  refine r_enterI (by decide) (Nat.le_of_ble_eq_true rfl) ?_
  intro p e st m args below meth c ls A X hret hk hw hl
  have X : CX D p m c cX7_does 1 st args RX7 A := X
  have hx := X.1.1
  have hb := X.1.2.1
  have hown := X.1.2.2.2.1
  have hts := X.1.2.2.2.2
  have hl : lv_has ls 1 [(0, .ref (L 0))] := hl
  refine lv_aload_n hx hb dX7_does_0 rfl (lv_at hl 0 rfl) ?_
  refine r_get X hw (v := .int od) fl_X7_184 (m_at 0 rfl) rfl dX7_does_1 ?_
  by_cases w1 : od = 97
  · skip
    refine r_lookIn (tgt := 106) hx hb 97 w1 dX7_does_4 (by decide) rfl (by decide) ?_
    refine lv_aload_n hx hb dX7_does_106 rfl (lv_at hl 0 rfl) ?_
    refine lv_aload_n hx hb dX7_does_107 rfl (lv_at hl 0 rfl) ?_
    refine r_get X hw (v := .ref (L 9)) fl_X7_34 (m_at 0 rfl) rfl dX7_does_108 ?_
    refine lv_iconst (v := 0) hx hb dX7_does_111 (by decide) ?_
    refine r_iald X hw (f := nu) 0 (m_at 9 rfl) rfl (by decide) (by decide) dX7_does_112 ?_
    refine lv_aload_n hx hb dX7_does_113 rfl (lv_at hl 0 rfl) ?_
    refine r_get X hw (v := .ref (L 9)) fl_X7_34 (m_at 0 rfl) rfl dX7_does_114 ?_
    refine lv_iconst (v := 1) hx hb dX7_does_117 (by decide) ?_
    refine r_iald X hw (f := nu) 1 (m_at 9 rfl) rfl (by decide) (by decide) dX7_does_118 ?_
    refine lv_aload_n hx hb dX7_does_119 rfl (lv_at hl 0 rfl) ?_
    refine r_get X hw (v := .ref (L 9)) fl_X7_34 (m_at 0 rfl) rfl dX7_does_120 ?_
    refine lv_iconst (v := 2) hx hb dX7_does_123 (by decide) ?_
    refine r_iald X hw (f := nu) 2 (m_at 9 rfl) rfl (by decide) (by decide) dX7_does_124 ?_
    by_cases g2 : (¬ sp_X7_isAlarm (nu 0) = 0) ∧ (¬ sp_X7_in (nu 1) 0 4 = 0) ∧ ¬ sp_X7_in (nu 2) 0 255 = 0
    · skip
      obtain ⟨a9, ha9, ea9⟩ := (in_iff (nu 0) 2 (by decide)).mp g2.1; obtain ⟨r, hr, er⟩ := (in_iff (nu 1) 4 (by decide)).mp g2.2.1; obtain ⟨v, hv, ev⟩ := (in_iff (nu 2) 255 (by decide)).mp g2.2.2; rw [ea9, er, ev]
      refine r_callV X hw (ws' := mW D L ((sp_X7_alarm s a9 r v).2) pa (nI P) 1 td ah sh n0 tx (nI T) nu (nI p9) fo re ca os od spa he) (As := [.int (nI a9), .int (nI r), .int (nI v)]) (rest := []) lk_X7_209 (c_X7_alarm_1 l D _ L s pa P td ah sh n0 tx (nI T) nu (nI p9) fo re ca os od spa he a9 r v (by omega) (by omega) (by omega) (by omega)) Foc.all (m_at 0 rfl) rfl hl.1 (Nat.le_of_ble_eq_true rfl) ⟨Nat.le_of_ble_eq_true rfl, Nat.le_of_ble_eq_true rfl⟩ rfl dX7_does_125 ⟨Nat.le_refl _, Nat.le_refl _⟩ (fun H locs hw => ?_)
      exact r_ret X hw hk hret rfl (by unfold doR; rw [if_pos w1]; rw [if_pos g2]; rw [show nc (nu 0) = a9 from by rw [nc, ea9, nI_clamp (by omega)], show nc (nu 1) = r from by rw [nc, er, nI_clamp (by omega)], show nc (nu 2) = v from by rw [nc, ev, nI_clamp (by omega)]]) (by unfold doR; rw [if_pos w1]; rw [if_pos g2]; rw [show nc (nu 0) = a9 from by rw [nc, ea9, nI_clamp (by omega)], show nc (nu 1) = r from by rw [nc, er, nI_clamp (by omega)], show nc (nu 2) = v from by rw [nc, ev, nI_clamp (by omega)]]) dX7_does_128
    · skip
      refine r_callV X hw (ws' := mW D L s pa (nI P) 1 td ah sh n0 tx (nI T) nu (nI p9) fo re ca os od spa he) (As := [.int (nu 0), .int (nu 1), .int (nu 2)]) (rest := []) lk_X7_209 (c_X7_alarm_bad l D _ L s pa (nI P) 1 td ah sh n0 tx (nI T) nu (nI p9) fo re ca os od spa he (nu 0) (nu 1) (nu 2) g2) Foc.all (m_at 0 rfl) rfl hl.1 (Nat.le_of_ble_eq_true rfl) ⟨Nat.le_of_ble_eq_true rfl, Nat.le_of_ble_eq_true rfl⟩ rfl dX7_does_125 ⟨Nat.le_refl _, Nat.le_refl _⟩ (fun H locs hw => ?_)
      exact r_ret X hw hk hret rfl (by unfold doR; rw [if_pos w1]; rw [if_neg g2]) (by unfold doR; rw [if_pos w1]; rw [if_neg g2]) dX7_does_128
  · skip
    by_cases w3 : od = 98
    · skip
      refine r_lookIn (tgt := 84) hx hb 98 w3 dX7_does_4 (by decide) rfl (by decide) ?_
      refine lv_aload_n hx hb dX7_does_84 rfl (lv_at hl 0 rfl) ?_
      refine lv_aload_n hx hb dX7_does_85 rfl (lv_at hl 0 rfl) ?_
      refine r_get X hw (v := .ref (L 9)) fl_X7_34 (m_at 0 rfl) rfl dX7_does_86 ?_
      refine lv_iconst (v := 0) hx hb dX7_does_89 (by decide) ?_
      refine r_iald X hw (f := nu) 0 (m_at 9 rfl) rfl (by decide) (by decide) dX7_does_90 ?_
      by_cases g4 : ¬ sp_X7_in (nu 0) 0 2 = 0
      · skip
        obtain ⟨md, hmd, emd⟩ := (in_iff (nu 0) 2 (by decide)).mp g4; rw [emd]
        refine r_callV X hw (ws' := mW D L (buS s td ah sh q md) pa (nI P) 1 ((buR s td ah sh q md).1.2.1) ((buR s td ah sh q md).1.2.2.1) ((buR s td ah sh q md).1.2.2.2.1) (nI (buR s td ah sh q md).1.2.2.2.2) tx (nI T) nu (nI p9) fo re ca os od spa he) (As := [.int (nI md)]) (rest := []) lk_X7_203 (c_X7_burst_1 l D _ L s pa P td ah sh n0 tx (nI T) nu (nI p9) fo re ca os od spa he pp z q md (by omega) hok (by omega)) Foc.all (m_at 0 rfl) rfl hl.1 (Nat.le_of_ble_eq_true rfl) ⟨Nat.le_of_ble_eq_true rfl, Nat.le_of_ble_eq_true rfl⟩ rfl dX7_does_91 ⟨Nat.le_refl _, Nat.le_refl _⟩ (fun H locs hw => ?_)
        exact r_ret X hw hk hret rfl (by unfold doR; rw [if_neg w1]; rw [if_pos w3]; rw [if_pos g4]; rw [show nc (nu 0) = md from by rw [nc, emd, nI_clamp (by omega)]]) (by unfold doR; rw [if_neg w1]; rw [if_pos w3]; rw [if_pos g4]; rw [show nc (nu 0) = md from by rw [nc, emd, nI_clamp (by omega)]]) dX7_does_94
      · skip
        refine r_callV X hw (ws' := mW D L s pa (nI P) 1 td ah sh n0 tx (nI T) nu (nI p9) fo re ca os od spa he) (As := [.int (nu 0)]) (rest := []) lk_X7_203 (c_X7_burst_bad l D _ L s pa (nI P) 1 td ah sh n0 tx (nI T) nu (nI p9) fo re ca os od spa he (nu 0) g4) Foc.all (m_at 0 rfl) rfl hl.1 (Nat.le_of_ble_eq_true rfl) ⟨Nat.le_of_ble_eq_true rfl, Nat.le_of_ble_eq_true rfl⟩ rfl dX7_does_91 ⟨Nat.le_refl _, Nat.le_refl _⟩ (fun H locs hw => ?_)
        exact r_ret X hw hk hret rfl (by unfold doR; rw [if_neg w1]; rw [if_pos w3]; rw [if_neg g4]) (by unfold doR; rw [if_neg w1]; rw [if_pos w3]; rw [if_neg g4]) dX7_does_94
    · skip
      by_cases w5 : od = 112
      · skip
        refine r_lookIn (tgt := 95) hx hb 112 w5 dX7_does_4 (by decide) rfl (by decide) ?_
        refine lv_aload_n hx hb dX7_does_95 rfl (lv_at hl 0 rfl) ?_
        refine lv_aload_n hx hb dX7_does_96 rfl (lv_at hl 0 rfl) ?_
        refine r_get X hw (v := .ref (L 9)) fl_X7_34 (m_at 0 rfl) rfl dX7_does_97 ?_
        refine lv_iconst (v := 0) hx hb dX7_does_100 (by decide) ?_
        refine r_iald X hw (f := nu) 0 (m_at 9 rfl) rfl (by decide) (by decide) dX7_does_101 ?_
        by_cases g6 : ¬ sp_X7_in (nu 0) 1 9999 = 0
        · skip
          obtain ⟨n9, hn9, hln9, en9⟩ := (in_iffL (nu 0) 1 9999 (by decide) (by decide)).mp g6; rw [en9]
          refine r_callV X hw (ws' := mW D L (phF s n9) pa (nI P) 1 td ah sh n0 tx (nI T) nu (nI p9) fo re ca os od spa he) (As := [.int (nI n9)]) (rest := []) lk_X7_206 (c_X7_pass_1 l D _ L s pa P td ah sh n0 tx (nI T) nu (nI p9) fo re ca os od spa he n9 (by omega) (by omega) (by omega)) Foc.all (m_at 0 rfl) rfl hl.1 (Nat.le_of_ble_eq_true rfl) ⟨Nat.le_of_ble_eq_true rfl, Nat.le_of_ble_eq_true rfl⟩ rfl dX7_does_102 ⟨Nat.le_refl _, Nat.le_refl _⟩ (fun H locs hw => ?_)
          exact r_ret X hw hk hret rfl (by unfold doR; rw [if_neg w1]; rw [if_neg w3]; rw [if_pos w5]; rw [if_pos g6]; rw [show nc (nu 0) = n9 from by rw [nc, en9, nI_clamp (by omega)]]) (by unfold doR; rw [if_neg w1]; rw [if_neg w3]; rw [if_pos w5]; rw [if_pos g6]; rw [show nc (nu 0) = n9 from by rw [nc, en9, nI_clamp (by omega)]]) dX7_does_105
        · skip
          refine r_callV X hw (ws' := mW D L s pa (nI P) 1 td ah sh n0 tx (nI T) nu (nI p9) fo re ca os od spa he) (As := [.int (nu 0)]) (rest := []) lk_X7_206 (c_X7_pass_bad l D _ L s pa (nI P) 1 td ah sh n0 tx (nI T) nu (nI p9) fo re ca os od spa he (nu 0) g6) Foc.all (m_at 0 rfl) rfl hl.1 (Nat.le_of_ble_eq_true rfl) ⟨Nat.le_of_ble_eq_true rfl, Nat.le_of_ble_eq_true rfl⟩ rfl dX7_does_102 ⟨Nat.le_refl _, Nat.le_refl _⟩ (fun H locs hw => ?_)
          exact r_ret X hw hk hret rfl (by unfold doR; rw [if_neg w1]; rw [if_neg w3]; rw [if_pos w5]; rw [if_neg g6]) (by unfold doR; rw [if_neg w1]; rw [if_neg w3]; rw [if_pos w5]; rw [if_neg g6]) dX7_does_105
      · skip
        by_cases w7 : od = 114
        · skip
          refine r_lookIn (tgt := 73) hx hb 114 w7 dX7_does_4 (by decide) rfl (by decide) ?_
          refine lv_aload_n hx hb dX7_does_73 rfl (lv_at hl 0 rfl) ?_
          refine lv_aload_n hx hb dX7_does_74 rfl (lv_at hl 0 rfl) ?_
          refine r_get X hw (v := .ref (L 9)) fl_X7_34 (m_at 0 rfl) rfl dX7_does_75 ?_
          refine lv_iconst (v := 0) hx hb dX7_does_78 (by decide) ?_
          refine r_iald X hw (f := nu) 0 (m_at 9 rfl) rfl (by decide) (by decide) dX7_does_79 ?_
          by_cases g8 : ¬ sp_X7_isRegister (nu 0) = 0
          · skip
            obtain ⟨r, hr, er⟩ := (in_iff (nu 0) 6 (by decide)).mp g8; rw [er]
            refine r_callV X hw (ws' := mW D L ((sp_X7_read s r q).2) pa (nI P) 1 td ah sh n0 tx (nI T) nu (nI p9) fo re ca os od spa he) (As := [.int (nI r)]) (rest := []) lk_X7_200 (c_X7_read_1 l D _ L s pa P td ah sh n0 tx (nI T) nu (nI p9) fo re ca os od spa he r (by omega) (by omega) q hok.2.2.2.2.2.2 hok.2.2.1) Foc.all (m_at 0 rfl) rfl hl.1 (Nat.le_of_ble_eq_true rfl) ⟨Nat.le_of_ble_eq_true rfl, Nat.le_of_ble_eq_true rfl⟩ rfl dX7_does_80 ⟨Nat.le_refl _, Nat.le_refl _⟩ (fun H locs hw => ?_)
            exact r_ret X hw hk hret rfl (by unfold doR; rw [if_neg w1]; rw [if_neg w3]; rw [if_neg w5]; rw [if_pos w7]; rw [if_pos g8]; rw [show nc (nu 0) = r from by rw [nc, er, nI_clamp (by omega)]]) (by unfold doR; rw [if_neg w1]; rw [if_neg w3]; rw [if_neg w5]; rw [if_pos w7]; rw [if_pos g8]; rw [show nc (nu 0) = r from by rw [nc, er, nI_clamp (by omega)]]) dX7_does_83
          · skip
            refine r_callV X hw (ws' := mW D L s pa (nI P) 1 td ah sh n0 tx (nI T) nu (nI p9) fo re ca os od spa he) (As := [.int (nu 0)]) (rest := []) lk_X7_200 (c_X7_read_bad l D _ L s pa (nI P) 1 td ah sh n0 tx (nI T) nu (nI p9) fo re ca os od spa he (nu 0) g8) Foc.all (m_at 0 rfl) rfl hl.1 (Nat.le_of_ble_eq_true rfl) ⟨Nat.le_of_ble_eq_true rfl, Nat.le_of_ble_eq_true rfl⟩ rfl dX7_does_80 ⟨Nat.le_refl _, Nat.le_refl _⟩ (fun H locs hw => ?_)
            exact r_ret X hw hk hret rfl (by unfold doR; rw [if_neg w1]; rw [if_neg w3]; rw [if_neg w5]; rw [if_pos w7]; rw [if_neg g8]) (by unfold doR; rw [if_neg w1]; rw [if_neg w3]; rw [if_neg w5]; rw [if_pos w7]; rw [if_neg g8]) dX7_does_83
        · skip
          by_cases w9 : od = 119
          · skip
            refine r_lookIn (tgt := 56) hx hb 119 w9 dX7_does_4 (by decide) rfl (by decide) ?_
            refine lv_aload_n hx hb dX7_does_56 rfl (lv_at hl 0 rfl) ?_
            refine lv_aload_n hx hb dX7_does_57 rfl (lv_at hl 0 rfl) ?_
            refine r_get X hw (v := .ref (L 9)) fl_X7_34 (m_at 0 rfl) rfl dX7_does_58 ?_
            refine lv_iconst (v := 0) hx hb dX7_does_61 (by decide) ?_
            refine r_iald X hw (f := nu) 0 (m_at 9 rfl) rfl (by decide) (by decide) dX7_does_62 ?_
            refine lv_aload_n hx hb dX7_does_63 rfl (lv_at hl 0 rfl) ?_
            refine r_get X hw (v := .ref (L 9)) fl_X7_34 (m_at 0 rfl) rfl dX7_does_64 ?_
            refine lv_iconst (v := 1) hx hb dX7_does_67 (by decide) ?_
            refine r_iald X hw (f := nu) 1 (m_at 9 rfl) rfl (by decide) (by decide) dX7_does_68 ?_
            by_cases g10 : (¬ sp_X7_isRegister (nu 0) = 0) ∧ ¬ sp_X7_in (nu 1) 0 255 = 0
            · skip
              obtain ⟨r, hr, er⟩ := (in_iff (nu 0) 6 (by decide)).mp g10.1; obtain ⟨v, hv, ev⟩ := (in_iff (nu 1) 255 (by decide)).mp g10.2; rw [er, ev]
              refine r_callV X hw (ws' := mW D L ((sp_X7_write s r v).2) pa (nI P) 1 td ah sh n0 tx (nI T) nu (nI p9) fo re ca os od spa he) (As := [.int (nI r), .int (nI v)]) (rest := []) lk_X7_196 (c_X7_write_1 l D _ L s pa P td ah sh n0 tx (nI T) nu (nI p9) fo re ca os od spa he r v (by omega) (by omega) (by omega)) Foc.all (m_at 0 rfl) rfl hl.1 (Nat.le_of_ble_eq_true rfl) ⟨Nat.le_of_ble_eq_true rfl, Nat.le_of_ble_eq_true rfl⟩ rfl dX7_does_69 ⟨Nat.le_refl _, Nat.le_refl _⟩ (fun H locs hw => ?_)
              exact r_ret X hw hk hret rfl (by unfold doR; rw [if_neg w1]; rw [if_neg w3]; rw [if_neg w5]; rw [if_neg w7]; rw [if_pos w9]; rw [if_pos g10]; rw [show nc (nu 0) = r from by rw [nc, er, nI_clamp (by omega)], show nc (nu 1) = v from by rw [nc, ev, nI_clamp (by omega)]]) (by unfold doR; rw [if_neg w1]; rw [if_neg w3]; rw [if_neg w5]; rw [if_neg w7]; rw [if_pos w9]; rw [if_pos g10]; rw [show nc (nu 0) = r from by rw [nc, er, nI_clamp (by omega)], show nc (nu 1) = v from by rw [nc, ev, nI_clamp (by omega)]]) dX7_does_72
            · skip
              refine r_callV X hw (ws' := mW D L s pa (nI P) 1 td ah sh n0 tx (nI T) nu (nI p9) fo re ca os od spa he) (As := [.int (nu 0), .int (nu 1)]) (rest := []) lk_X7_196 (c_X7_write_bad l D _ L s pa (nI P) 1 td ah sh n0 tx (nI T) nu (nI p9) fo re ca os od spa he (nu 0) (nu 1) g10) Foc.all (m_at 0 rfl) rfl hl.1 (Nat.le_of_ble_eq_true rfl) ⟨Nat.le_of_ble_eq_true rfl, Nat.le_of_ble_eq_true rfl⟩ rfl dX7_does_69 ⟨Nat.le_refl _, Nat.le_refl _⟩ (fun H locs hw => ?_)
              exact r_ret X hw hk hret rfl (by unfold doR; rw [if_neg w1]; rw [if_neg w3]; rw [if_neg w5]; rw [if_neg w7]; rw [if_pos w9]; rw [if_neg g10]) (by unfold doR; rw [if_neg w1]; rw [if_neg w3]; rw [if_neg w5]; rw [if_neg w7]; rw [if_pos w9]; rw [if_neg g10]) dX7_does_72
          · skip
            refine lv_lookup (tgt := 129) hx hb dX7_does_4 (by decide) (off := 125) (by have g0 := i_ne w1; have g1 := i_ne w3; have g2 := i_ne w5; have g3 := i_ne w7; have g4 := i_ne w9; rw [show (97 : Int32).toInt = 97 from rfl] at g0; rw [show (98 : Int32).toInt = 98 from rfl] at g1; rw [show (112 : Int32).toInt = 112 from rfl] at g2; rw [show (114 : Int32).toInt = 114 from rfl] at g3; rw [show (119 : Int32).toInt = 119 from rfl] at g4; simp [Op.lookupswitch.offset, g0, g1, g2, g3, g4, Ne.symm g0, Ne.symm g1, Ne.symm g2, Ne.symm g3, Ne.symm g4]) (by decide) ?_
            refine lv_aload_n hx hb dX7_does_129 rfl (lv_at hl 0 rfl) ?_
            refine lv_aload_n hx hb dX7_does_130 rfl (lv_at hl 0 rfl) ?_
            refine r_get X hw (v := .ref (L 9)) fl_X7_34 (m_at 0 rfl) rfl dX7_does_131 ?_
            refine lv_iconst (v := 0) hx hb dX7_does_134 (by decide) ?_
            refine r_iald X hw (f := nu) 0 (m_at 9 rfl) rfl (by decide) (by decide) dX7_does_135 ?_
            refine lv_aload_n hx hb dX7_does_136 rfl (lv_at hl 0 rfl) ?_
            refine r_get X hw (v := .ref (L 9)) fl_X7_34 (m_at 0 rfl) rfl dX7_does_137 ?_
            refine lv_iconst (v := 1) hx hb dX7_does_140 (by decide) ?_
            refine r_iald X hw (f := nu) 1 (m_at 9 rfl) rfl (by decide) (by decide) dX7_does_141 ?_
            by_cases g11 : (¬ sp_X7_isAlarm (nu 0) = 0) ∧ ¬ sp_X7_in (nu 1) (-1) 31 = 0
            · skip
              obtain ⟨a9, ha9, ea9⟩ := (in_iff (nu 0) 2 (by decide)).mp g11.1; rw [ea9]
              by_cases g12 : nu 1 = -1
              · skip
                rw [g12]
                refine r_callV X hw (ws' := mW D L ((sp_X7_armM s a9).2) pa (nI P) 1 td ah sh n0 tx (nI T) nu (nI p9) fo re ca os od spa he) (As := [.int (nI a9), .int (-1)]) (rest := []) lk_X7_213 (c_X7_armM_1 l D _ L s pa P td ah sh n0 tx (nI T) nu (nI p9) fo re ca os od spa he a9 (by omega) (by omega)) Foc.all (m_at 0 rfl) rfl hl.1 (Nat.le_of_ble_eq_true rfl) ⟨Nat.le_of_ble_eq_true rfl, Nat.le_of_ble_eq_true rfl⟩ rfl dX7_does_142 ⟨Nat.le_refl _, Nat.le_refl _⟩ (fun H locs hw => ?_)
                exact r_ret X hw hk hret rfl (by unfold doR; rw [if_neg w1]; rw [if_neg w3]; rw [if_neg w5]; rw [if_neg w7]; rw [if_neg w9]; rw [if_pos g11]; rw [if_pos g12]; rw [show nc (nu 0) = a9 from by rw [nc, ea9, nI_clamp (by omega)]]) (by unfold doR; rw [if_neg w1]; rw [if_neg w3]; rw [if_neg w5]; rw [if_neg w7]; rw [if_neg w9]; rw [if_pos g11]; rw [if_pos g12]; rw [show nc (nu 0) = a9 from by rw [nc, ea9, nI_clamp (by omega)]]) dX7_does_145
              · skip
                obtain ⟨v, hv, ev⟩ := ((in_iffM (nu 1) 31 (by decide)).mp g11.2).resolve_left g12
                rw [ev]
                refine r_callV X hw (ws' := mW D L ((sp_X7_arm s a9 v).2) pa (nI P) 1 td ah sh n0 tx (nI T) nu (nI p9) fo re ca os od spa he) (As := [.int (nI a9), .int (nI v)]) (rest := []) lk_X7_213 (c_X7_arm_1 l D _ L s pa P td ah sh n0 tx (nI T) nu (nI p9) fo re ca os od spa he a9 v (by omega) (by omega) (by omega)) Foc.all (m_at 0 rfl) rfl hl.1 (Nat.le_of_ble_eq_true rfl) ⟨Nat.le_of_ble_eq_true rfl, Nat.le_of_ble_eq_true rfl⟩ rfl dX7_does_142 ⟨Nat.le_refl _, Nat.le_refl _⟩ (fun H locs hw => ?_)
                exact r_ret X hw hk hret rfl (by unfold doR; rw [if_neg w1]; rw [if_neg w3]; rw [if_neg w5]; rw [if_neg w7]; rw [if_neg w9]; rw [if_pos g11]; rw [if_neg g12]; rw [show nc (nu 0) = a9 from by rw [nc, ea9, nI_clamp (by omega)], show nc (nu 1) = v from by rw [nc, ev, nI_clamp (by omega)]]) (by unfold doR; rw [if_neg w1]; rw [if_neg w3]; rw [if_neg w5]; rw [if_neg w7]; rw [if_neg w9]; rw [if_pos g11]; rw [if_neg g12]; rw [show nc (nu 0) = a9 from by rw [nc, ea9, nI_clamp (by omega)], show nc (nu 1) = v from by rw [nc, ev, nI_clamp (by omega)]]) dX7_does_145
            · skip
              refine r_callV X hw (ws' := mW D L s pa (nI P) 1 td ah sh n0 tx (nI T) nu (nI p9) fo re ca os od spa he) (As := [.int (nu 0), .int (nu 1)]) (rest := []) lk_X7_213 (c_X7_arm_bad l D _ L s pa (nI P) 1 td ah sh n0 tx (nI T) nu (nI p9) fo re ca os od spa he (nu 0) (nu 1) g11) Foc.all (m_at 0 rfl) rfl hl.1 (Nat.le_of_ble_eq_true rfl) ⟨Nat.le_of_ble_eq_true rfl, Nat.le_of_ble_eq_true rfl⟩ rfl dX7_does_142 ⟨Nat.le_refl _, Nat.le_refl _⟩ (fun H locs hw => ?_)
              exact r_ret X hw hk hret rfl (by unfold doR; rw [if_neg w1]; rw [if_neg w3]; rw [if_neg w5]; rw [if_neg w7]; rw [if_neg w9]; rw [if_neg g11]) (by unfold doR; rw [if_neg w1]; rw [if_neg w3]; rw [if_neg w5]; rw [if_neg w7]; rw [if_neg w9]; rw [if_neg g11]) dX7_does_145
