/-- the row, what is told, what was told ahead, what was shown, how often -/
abbrev BS : Type := Row × Row × Row × Row × Nat
noncomputable def agS (q : Nat) (x : BS) : BS := ((rdK x.1 x.2.1 x.2.2.2.1 q 7).1, (rdK x.1 x.2.1 x.2.2.2.1 q 7).2.1, va_cpy x.2.1 x.2.2.1 0 0 7, (rdK x.1 x.2.1 x.2.2.2.1 q 7).2.2.1, (rdK x.1 x.2.1 x.2.2.2.1 q 7).2.2.2)
noncomputable def agR (q : Nat) : Nat → Nat → BS → BS × Nat
  | 0, n, x => (x, n)
  | f + 1, n, x => if 5 ≤ n + 1 then (agS q x, n + 1) else (if sp_X7_isAsAhead (agS q x).2.1 (agS q x).2.2.1 = 0 then agR q f (n + 1) (agS q x) else (agS q x, n + 1))
noncomputable def rdB (s td ah sh : Row) (q : Nat) : BS := ((rdK s td sh q 7).1, (rdK s td sh q 7).2.1, ah, (rdK s td sh q 7).2.2.1, (rdK s td sh q 7).2.2.2)
theorem rdK_7 {s : Row} (td sh : Row) {p z q : Nat} (h : rOK s p z q) : (∃ p', rOK (rdK s td sh q 7).1 p' z q) ∧ (rdK s td sh q 7).2.2.2 ≤ 13 := by
  obtain ⟨p', h1, -, -, h2⟩ := rdK_ok (td := td) (sh := sh) h 7 (by omega)
  exact ⟨⟨p', h1⟩, h2⟩
theorem agR_ok {z q : Nat} : ∀ (f n : Nat) (x : BS) {p : Nat}, rOK x.1 p z q → x.2.2.2.2 ≤ 13 → (∃ p', rOK (agR q f n x).1.1 p' z q) ∧ (agR q f n x).1.2.2.2.2 ≤ 13
  | 0, n, x, p, h, h2 => ⟨⟨p, h⟩, h2⟩
  | f + 1, n, x, p, h, h2 => by
    have g := rdK_7 x.2.1 x.2.2.2.1 h
    obtain ⟨⟨p', g1⟩, g2⟩ := g
    have k : (∃ p', rOK (agS q x).1 p' z q) ∧ (agS q x).2.2.2.2 ≤ 13 := ⟨⟨p', g1⟩, g2⟩
    unfold agR
    by_cases c1 : 5 ≤ n + 1
    · rw [if_pos c1]; exact k
    · rw [if_neg c1]
      by_cases c2 : sp_X7_isAsAhead (agS q x).2.1 (agS q x).2.2.1 = 0
      · rw [if_pos c2]; exact agR_ok f (n + 1) (agS q x) g1 g2
      · rw [if_neg c2]; exact k
/-- what a burst of a mode reads, and how many it takes -/
noncomputable def buR (s td ah sh : Row) (q md : Nat) : BS × Nat := if md = 0 then (rdB s td ah sh q, 1) else (if md = 1 then ((phF s (7 * q), va_cpy s td 0 0 7, ah, va_cpy s sh 0 (7 * 0) 7, 1), 1) else agR q 4 1 (rdB s td ah sh q))
theorem buR_ok {s : Row} (td ah sh : Row) {p z q : Nat} (h : rOK s p z q) (md : Nat) : (∃ p', rOK (buR s td ah sh q md).1.1 p' z q) ∧ (buR s td ah sh q md).1.2.2.2.2 ≤ 13 := by
  unfold buR
  by_cases c1 : md = 0
  · rw [if_pos c1]; exact rdK_7 td sh h
  · rw [if_neg c1]
    by_cases c2 : md = 1
    · rw [if_pos c2]; exact ⟨phF_ok (7 * q) h, by show 1 ≤ 13; decide⟩
    · rw [if_neg c2]
      obtain ⟨⟨p', g1⟩, g2⟩ := rdK_7 td sh h
      exact agR_ok 4 1 (rdB s td ah sh q) g1 g2
noncomputable def bL3 (x : Row) : Row := upd x 36 (if 6 ≤ x 36 then x 36 + 0 else x 36 + 1)
/-- a burst is logged: mode, torn, how many -/
noncomputable def bLog (s td : Row) (md tn mk : Int32) : Row := upd (upd (bL3 (upd (upd (upd (va_cpy td (va_cpy s s 67 77 50) 0 67 7) 74 md) 75 tn) 76 mk)) 31 ((bL3 (upd (upd (upd (va_cpy td (va_cpy s s 67 77 50) 0 67 7) 74 md) 75 tn) 76 mk)) 31 + 1)) 32 ((upd (bL3 (upd (upd (upd (va_cpy td (va_cpy s s 67 77 50) 0 67 7) 74 md) 75 tn) 76 mk)) 31 ((bL3 (upd (upd (upd (va_cpy td (va_cpy s s 67 77 50) 0 67 7) 74 md) 75 tn) 76 mk)) 31 + 1)) 32 + tn)
noncomputable def bTorn (x : BS) : Int32 := if sp_X7_wasShown x.2.1 x.2.2.2.1 x.2.2.2.2 = 0 then 1 else 0
noncomputable def buS (s td ah sh : Row) (q md : Nat) : Row := bLog (buR s td ah sh q md).1.1 (buR s td ah sh q md).1.2.1 (nI md) (bTorn (buR s td ah sh q md).1) (nI (buR s td ah sh q md).2)

set_option maxRecDepth 100000 in
set_option maxHeartbeats 4000000 in
theorem c_X7_readsAgain (l : Launch) (D : va_G) (sz : Nat) (L : Nat → Nat) (s pa : Row) (P ru : Int32) (td ah sh : Row) (n0 : Int32) (o8 : Row) (o9 : Int32) (o10 : Row) (o11 : Int32) (o12 : Int32) (o13 : Int32) (o14 : Int32) (o15 : Int32) (o16 : Int32) (o17 : Row) (o18 : Row) (pp z q : Nat) (hok : rOK s pp z q) : MI l yX7_readsAgain cX7_readsAgain 4 (some .int) 12 261 D sz [.ref (L 0)] (mW D L s pa P ru td ah sh n0 o8 o9 o10 o11 o12 o13 o14 o15 o16 o17 o18) (nI (agR q 4 1 (rdB s td ah sh q)).2) (mW D L ((agR q 4 1 (rdB s td ah sh q)).1.1) pa P ru ((agR q 4 1 (rdB s td ah sh q)).1.2.1) ((agR q 4 1 (rdB s td ah sh q)).1.2.2.1) ((agR q 4 1 (rdB s td ah sh q)).1.2.2.2.1) (nI (agR q 4 1 (rdB s td ah sh q)).1.2.2.2.2) o8 o9 o10 o11 o12 o13 o14 o15 o16 o17 o18) := by
  refine r_enterI (by decide) (Nat.le_of_ble_eq_true rfl) ?_
  intro p e st m args below meth c ls A X hret hk hw hl
  have X : CX D p m c cX7_readsAgain 4 st args RX7 A := X
  have hx := X.1.1
  have hb := X.1.2.1
  have hown := X.1.2.2.2.1
  have hts := X.1.2.2.2.2
  have hl : lv_has ls 4 [(0, .ref (L 0))] := hl
  obtain ⟨fin, hfin⟩ : ∃ y, y = agR q 4 1 (rdB s td ah sh q) := ⟨_, rfl⟩
  obtain ⟨⟨p1, hok1⟩, -⟩ := rdK_7 td sh hok
  refine lv_iconst (v := 1) hx hb dX7_readsAgain_0 (by decide) ?_
  refine lv_istore_n (lv' := [(1, .int 1), (0, .ref (L 0))]) hx hb dX7_readsAgain_1 rfl hl (by decide) rfl (fun ls hl => ?_)
  refine lv_aload_n hx hb dX7_readsAgain_2 rfl (lv_at hl 1 rfl) ?_
  refine r_callVv X hw (ws' := mW D L ((rdK s td sh q 7).1) pa P ru ((rdK s td sh q 7).2.1) ah ((rdK s td sh q 7).2.2.1) (nI (rdK s td sh q 7).2.2.2) o8 o9 o10 o11 o12 o13 o14 o15 o16 o17 o18) (As := []) (rest := []) lk_X7_119 (c_X7_readsAll l D _ L s pa P ru td ah sh n0 o8 o9 o10 o11 o12 o13 o14 o15 o16 o17 o18 pp z q hok) Foc.all (m_at 0 rfl) rfl hl.1 (Nat.le_of_ble_eq_true rfl) ⟨Nat.le_of_ble_eq_true rfl, Nat.le_of_ble_eq_true rfl⟩ rfl dX7_readsAgain_3 ⟨Nat.le_refl _, Nat.le_refl _⟩ (fun H locs hw => ?_)
  refine lv_iconst (v := 1) hx hb dX7_readsAgain_6 (by decide) ?_
  refine lv_istore_n (lv' := [(2, .int 1), (1, .int 1), (0, .ref (L 0))]) hx hb dX7_readsAgain_7 rfl hl (by decide) rfl (fun ls hl => ?_)
  have key8 : ∀ (n8 : Nat) (n p1 : Nat) (x : BS), (1 ≤ n) → (n ≤ 4) → (5 - n < n8) → (rOK x.1 p1 z q) → (agR q (5 - n) n x = fin) → ∀ (H : Heap) (locs : List Loc) (ls : Array Slot), Wd D A st.heap H locs (mW D L x.1 pa P ru x.2.1 x.2.2.1 x.2.2.2.1 (nI x.2.2.2.2) o8 o9 o10 o11 o12 o13 o14 o15 o16 o17 o18) → lv_has ls 4 [(0, .ref (L 0)), (1, .int (nI n)), (2, .int 1)] → W p l e (rmOf 12 0 0 261) st m args below meth c H locs 0 0 (QI below args st D A (nI (agR q 4 1 (rdB s td ah sh q)).2) (mW D L ((agR q 4 1 (rdB s td ah sh q)).1.1) pa P ru ((agR q 4 1 (rdB s td ah sh q)).1.2.1) ((agR q 4 1 (rdB s td ah sh q)).1.2.2.1) ((agR q 4 1 (rdB s td ah sh q)).1.2.2.2.1) (nI (agR q 4 1 (rdB s td ah sh q)).1.2.2.2.2) o8 o9 o10 o11 o12 o13 o14 o15 o16 o17 o18)) (F0 m 8 ls []) := by
    intro n8
    induction n8 with
    | zero => intro n p1 x hn1 hn4 hm hok1 hq; omega
    | succ n8 ih8 =>
      intro n p1 x hn1 hn4 hm hok1 hq H locs ls hw hl
      obtain ⟨⟨p2, hok2⟩, -⟩ := rdK_7 x.2.1 x.2.2.2.1 hok1
      refine lv_iload_n hx hb dX7_readsAgain_8 rfl (lv_at hl 2 rfl) ?_
      refine lv_if_eq (tgt := 66) hx hb dX7_readsAgain_9 (by decide) (fun h => absurd h (by decide)) (fun _ => ?_)
      refine lv_iconst (v := 0) hx hb dX7_readsAgain_12 (by decide) ?_
      refine lv_istore_n (lv' := [(3, .int 0), (0, .ref (L 0)), (1, .int (nI n)), (2, .int 1)]) hx hb dX7_readsAgain_13 rfl hl (by decide) rfl (fun ls hl => ?_)
      have key14 : ∀ (n14 : Nat) (i : Nat), (i ≤ 7) → (7 - i < n14) → ∀ (H : Heap) (locs : List Loc) (ls : Array Slot), Wd D A st.heap H locs (mW D L x.1 pa P ru x.2.1 (va_cpy x.2.1 x.2.2.1 0 0 i) x.2.2.2.1 (nI x.2.2.2.2) o8 o9 o10 o11 o12 o13 o14 o15 o16 o17 o18) → lv_has ls 4 [(0, .ref (L 0)), (1, .int (nI n)), (2, .int 1), (3, .int (nI i))] → W p l e (rmOf 12 0 0 261) st m args below meth c H locs 0 0 (QI below args st D A (nI (agR q 4 1 (rdB s td ah sh q)).2) (mW D L ((agR q 4 1 (rdB s td ah sh q)).1.1) pa P ru ((agR q 4 1 (rdB s td ah sh q)).1.2.1) ((agR q 4 1 (rdB s td ah sh q)).1.2.2.1) ((agR q 4 1 (rdB s td ah sh q)).1.2.2.2.1) (nI (agR q 4 1 (rdB s td ah sh q)).1.2.2.2.2) o8 o9 o10 o11 o12 o13 o14 o15 o16 o17 o18)) (F0 m 14 ls []) := by
        intro n14
        induction n14 with
        | zero => intro i hi hm2; omega
        | succ n14 ih14 =>
          intro i hi hm2 H locs ls hw hl
          refine lv_iload_n hx hb dX7_readsAgain_14 rfl (lv_at hl 3 rfl) ?_
          refine lv_bipush (v := 7) hx hb dX7_readsAgain_15 (by decide) ?_
          refine r_geN (tgt := 38) hx hb i 7 rfl rfl (by omega) (by omega) dX7_readsAgain_17 (by decide) (fun c1 => ?_) (fun c1 => ?_)
          · skip
            refine lv_aload_n hx hb dX7_readsAgain_38 rfl (lv_at hl 0 rfl) ?_
            have hi7 : i = 7 := by omega
            subst hi7
            refine r_callVv X hw (ws' := mW D L ((rdK x.1 x.2.1 x.2.2.2.1 q 7).1) pa P ru ((rdK x.1 x.2.1 x.2.2.2.1 q 7).2.1) (va_cpy x.2.1 x.2.2.1 0 0 7) ((rdK x.1 x.2.1 x.2.2.2.1 q 7).2.2.1) (nI (rdK x.1 x.2.1 x.2.2.2.1 q 7).2.2.2) o8 o9 o10 o11 o12 o13 o14 o15 o16 o17 o18) (As := []) (rest := []) lk_X7_119 (c_X7_readsAll l D _ L x.1 pa P ru x.2.1 (va_cpy x.2.1 x.2.2.1 0 0 7) x.2.2.2.1 (nI x.2.2.2.2) o8 o9 o10 o11 o12 o13 o14 o15 o16 o17 o18 p1 z q hok1) Foc.all (m_at 0 rfl) rfl hl.1 (Nat.le_of_ble_eq_true rfl) ⟨Nat.le_of_ble_eq_true rfl, Nat.le_of_ble_eq_true rfl⟩ rfl dX7_readsAgain_39 ⟨Nat.le_refl _, Nat.le_refl _⟩ (fun H locs hw => ?_)
            refine r_iincN (lv' := [(1, .int (nI (n + 1))), (0, .ref (L 0)), (2, .int 1), (3, .int 7)]) hx hb n 1 rfl dX7_readsAgain_42 hl (k := 1) rfl rfl (by decide) rfl (fun ls hl => ?_)
            refine lv_iload_n hx hb dX7_readsAgain_45 rfl (lv_at hl 0 rfl) ?_
            refine lv_iconst (v := 5) hx hb dX7_readsAgain_46 (by decide) ?_
            refine r_geN (tgt := 61) hx hb (n + 1) 5 rfl rfl (by omega) (by omega) dX7_readsAgain_47 (by decide) (fun c2 => ?_) (fun c2 => ?_)
            · skip
              refine lv_iconst (v := 0) hx hb dX7_readsAgain_61 (by decide) ?_
              refine lv_istore_n (lv' := [(2, .int 0), (1, .int (nI (n + 1))), (0, .ref (L 0)), (3, .int 7)]) hx hb dX7_readsAgain_62 rfl hl (by decide) rfl (fun ls hl => ?_)
              refine lv_goto (tgt := 8) hx hb dX7_readsAgain_63 (by decide) ?_
              refine lv_iload_n hx hb dX7_readsAgain_8 rfl (lv_at hl 0 rfl) ?_
              refine lv_if_eq (tgt := 66) hx hb dX7_readsAgain_9 (by decide) (fun _ => ?_) (fun h => absurd (by decide) h)
              refine lv_iload_n hx hb dX7_readsAgain_66 rfl (lv_at hl 1 rfl) ?_
              exact r_ret X hw hk hret rfl (by rw [show 5 - n = (5 - (n + 1)) + 1 from by omega] at hq; unfold agR agS at hq; dsimp only at hq; rw [if_pos c2] at hq; rw [← hfin, ← hq]) (by rw [show 5 - n = (5 - (n + 1)) + 1 from by omega] at hq; unfold agR agS at hq; dsimp only at hq; rw [if_pos c2] at hq; rw [← hfin, ← hq]) dX7_readsAgain_67
            · skip
              refine lv_aload_n hx hb dX7_readsAgain_50 rfl (lv_at hl 1 rfl) ?_
              refine r_callV X hw (ws' := mW D L ((rdK x.1 x.2.1 x.2.2.2.1 q 7).1) pa P ru ((rdK x.1 x.2.1 x.2.2.2.1 q 7).2.1) (va_cpy x.2.1 x.2.2.1 0 0 7) ((rdK x.1 x.2.1 x.2.2.2.1 q 7).2.2.1) (nI (rdK x.1 x.2.1 x.2.2.2.1 q 7).2.2.2) o8 o9 o10 o11 o12 o13 o14 o15 o16 o17 o18) (As := []) (rest := []) lk_X7_122 (c_X7_isAsAhead l D _ L ((rdK x.1 x.2.1 x.2.2.2.1 q 7).1) pa P ru ((rdK x.1 x.2.1 x.2.2.2.1 q 7).2.1) (va_cpy x.2.1 x.2.2.1 0 0 7) ((rdK x.1 x.2.1 x.2.2.2.1 q 7).2.2.1) (nI (rdK x.1 x.2.1 x.2.2.2.1 q 7).2.2.2) o8 o9 o10 o11 o12 o13 o14 o15 o16 o17 o18) Foc.all (m_at 0 rfl) rfl hl.1 (Nat.le_of_ble_eq_true rfl) ⟨Nat.le_of_ble_eq_true rfl, Nat.le_of_ble_eq_true rfl⟩ rfl dX7_readsAgain_51 ⟨Nat.le_refl _, Nat.le_refl _⟩ (fun H locs hw => ?_)
              refine lv_if_ne (tgt := 61) hx hb dX7_readsAgain_54 (by decide) (fun c3 => ?_) (fun c3 => ?_)
              · skip
                refine lv_iconst (v := 0) hx hb dX7_readsAgain_61 (by decide) ?_
                refine lv_istore_n (lv' := [(2, .int 0), (1, .int (nI (n + 1))), (0, .ref (L 0)), (3, .int 7)]) hx hb dX7_readsAgain_62 rfl hl (by decide) rfl (fun ls hl => ?_)
                refine lv_goto (tgt := 8) hx hb dX7_readsAgain_63 (by decide) ?_
                refine lv_iload_n hx hb dX7_readsAgain_8 rfl (lv_at hl 0 rfl) ?_
                refine lv_if_eq (tgt := 66) hx hb dX7_readsAgain_9 (by decide) (fun _ => ?_) (fun h => absurd (by decide) h)
                refine lv_iload_n hx hb dX7_readsAgain_66 rfl (lv_at hl 1 rfl) ?_
                exact r_ret X hw hk hret rfl (by rw [show 5 - n = (5 - (n + 1)) + 1 from by omega] at hq; unfold agR agS at hq; dsimp only at hq; rw [if_neg (Nat.not_le.mpr c2)] at hq; rw [if_neg c3] at hq; rw [← hfin, ← hq]) (by rw [show 5 - n = (5 - (n + 1)) + 1 from by omega] at hq; unfold agR agS at hq; dsimp only at hq; rw [if_neg (Nat.not_le.mpr c2)] at hq; rw [if_neg c3] at hq; rw [← hfin, ← hq]) dX7_readsAgain_67
              · skip
                refine lv_iconst (v := 1) hx hb dX7_readsAgain_57 (by decide) ?_
                refine lv_goto (tgt := 62) hx hb dX7_readsAgain_58 (by decide) ?_
                refine lv_istore_n (lv' := [(2, .int 1), (1, .int (nI (n + 1))), (0, .ref (L 0)), (3, .int 7)]) hx hb dX7_readsAgain_62 rfl hl (by decide) rfl (fun ls hl => ?_)
                refine lv_goto (tgt := 8) hx hb dX7_readsAgain_63 (by decide) ?_
                exact ih8 (n + 1) p2 (agS q x) (by omega) (by omega) (by omega) hok2 (by rw [show 5 - n = (5 - (n + 1)) + 1 from by omega] at hq; unfold agR agS at hq; dsimp only at hq; rw [if_neg (Nat.not_le.mpr c2)] at hq; rw [if_pos c3] at hq; exact hq) _ _ _ hw (lv_sub hl [2, 1, 0] rfl)
          · skip
            refine lv_aload_n hx hb dX7_readsAgain_20 rfl (lv_at hl 0 rfl) ?_
            refine r_get X hw (v := .ref (L 7)) fl_X7_28 (m_at 0 rfl) rfl dX7_readsAgain_21 ?_
            refine lv_iload_n hx hb dX7_readsAgain_24 rfl (lv_at hl 3 rfl) ?_
            refine lv_aload_n hx hb dX7_readsAgain_25 rfl (lv_at hl 0 rfl) ?_
            refine r_get X hw (v := .ref (L 6)) fl_X7_25 (m_at 0 rfl) rfl dX7_readsAgain_26 ?_
            refine lv_iload_n hx hb dX7_readsAgain_29 rfl (lv_at hl 3 rfl) ?_
            refine r_iald X hw (f := x.2.1) i (m_at 6 rfl) rfl (by omega) (by decide) dX7_readsAgain_30 ?_
            refine r_iast X hw (ws' := mW D L x.1 pa P ru x.2.1 (upd (va_cpy x.2.1 x.2.2.1 0 0 i) i (x.2.1 i)) x.2.2.2.1 (nI x.2.2.2.2) o8 o9 o10 o11 o12 o13 o14 o15 o16 o17 o18) i rfl (by omega) (by decide) (Foc.cell 7 rfl rfl (ce rfl (ce rfl (ce rfl (ce rfl (ce rfl (ce rfl (ce rfl (ce rfl (ce rfl rfl)))))))))) dX7_readsAgain_31 (fun H locs hw => ?_)
            refine r_iincN (lv' := [(3, .int (nI (i + 1))), (0, .ref (L 0)), (1, .int (nI n)), (2, .int 1)]) hx hb i 1 rfl dX7_readsAgain_32 hl (k := 3) rfl rfl (by decide) rfl (fun ls hl => ?_)
            refine lv_goto (tgt := 14) hx hb dX7_readsAgain_35 (by decide) ?_
            exact ih14 (i + 1) (by omega) (by omega) _ _ _ (by rw [← cpy_step00]; exact hw) (lv_sub hl [1, 2, 3, 0] rfl)
      exact key14 8 0 (by omega) (by omega) _ _ _ (by rw [cpy_0]; exact hw) (lv_sub hl [1, 2, 3, 0] rfl)
  exact key8 5 1 p1 (rdB s td ah sh q) (by omega) (by omega) (by omega) hok1 hfin.symm _ _ _ hw (lv_sub hl [2, 1, 0] rfl)

set_option maxRecDepth 100000 in
set_option maxHeartbeats 4000000 in
theorem c_X7_bursts (l : Launch) (D : va_G) (sz : Nat) (L : Nat → Nat) (s pa : Row) (P ru : Int32) (td ah sh : Row) (n0 : Int32) (o8 : Row) (o9 : Int32) (o10 : Row) (o11 : Int32) (o12 : Int32) (o13 : Int32) (o14 : Int32) (o15 : Int32) (o16 : Int32) (o17 : Row) (o18 : Row) (pp z q md : Nat) (hok : rOK s pp z q) (hmd : md < 3) : MI l yX7_bursts cX7_bursts 5 (some .int) 13 284 D sz [.ref (L 0), .int (nI md)] (mW D L s pa P ru td ah sh n0 o8 o9 o10 o11 o12 o13 o14 o15 o16 o17 o18) (bTorn (buR s td ah sh q md).1) (mW D L (buS s td ah sh q md) pa P ru ((buR s td ah sh q md).1.2.1) ((buR s td ah sh q md).1.2.2.1) ((buR s td ah sh q md).1.2.2.2.1) (nI (buR s td ah sh q md).1.2.2.2.2) o8 o9 o10 o11 o12 o13 o14 o15 o16 o17 o18) := by
  refine r_enterI (by decide) (Nat.le_of_ble_eq_true rfl) ?_
  intro p e st m args below meth c ls A X hret hk hw hl
  have X : CX D p m c cX7_bursts 5 st args RX7 A := X
  have hx := X.1.1
  have hb := X.1.2.1
  have hown := X.1.2.2.2.1
  have hts := X.1.2.2.2.2
  have hl : lv_has ls 5 [(0, .ref (L 0)), (1, .int (nI md))] := hl
  have cut43 : ∀ (x : BS) (made : Nat) (tn : Int32), (buR s td ah sh q md = (x, made)) → (tn = bTorn x) → ∀ (H : Heap) (locs : List Loc) (ls : Array Slot), Wd D A st.heap H locs (mW D L x.1 pa P ru x.2.1 x.2.2.1 x.2.2.2.1 (nI x.2.2.2.2) o8 o9 o10 o11 o12 o13 o14 o15 o16 o17 o18) → lv_has ls 5 [(0, .ref (L 0)), (1, .int (nI md)), (2, .int (nI made)), (3, .int tn)] → W p l e (rmOf 13 0 0 284) st m args below meth c H locs 0 0 (QI below args st D A (bTorn (buR s td ah sh q md).1) (mW D L (buS s td ah sh q md) pa P ru ((buR s td ah sh q md).1.2.1) ((buR s td ah sh q md).1.2.2.1) ((buR s td ah sh q md).1.2.2.2.1) (nI (buR s td ah sh q md).1.2.2.2.2) o8 o9 o10 o11 o12 o13 o14 o15 o16 o17 o18)) (F0 m 43 ls []) := by
    intro x made tn hx9 htn H locs ls hw hl
    refine lv_bipush (v := 59) hx hb dX7_bursts_43 (by decide) ?_
    refine lv_istore (lv' := [(4, .int 59), (0, .ref (L 0)), (1, .int (nI md)), (2, .int (nI made)), (3, .int tn)]) hx hb dX7_bursts_45 hl (by decide) rfl (fun ls hl => ?_)
    have key47 : ∀ (n47 : Nat) (k : Nat), (k ≤ 59) → (9 ≤ k) → (k < n47) → ∀ (H : Heap) (locs : List Loc) (ls : Array Slot), Wd D A st.heap H locs (mW D L (va_cpy x.1 x.1 (57 + (k + 1)) (67 + (k + 1)) (60 - (k + 1))) pa P ru x.2.1 x.2.2.1 x.2.2.2.1 (nI x.2.2.2.2) o8 o9 o10 o11 o12 o13 o14 o15 o16 o17 o18) → lv_has ls 5 [(0, .ref (L 0)), (1, .int (nI md)), (2, .int (nI made)), (3, .int tn), (4, .int (nI k))] → W p l e (rmOf 13 0 0 284) st m args below meth c H locs 0 0 (QI below args st D A (bTorn (buR s td ah sh q md).1) (mW D L (buS s td ah sh q md) pa P ru ((buR s td ah sh q md).1.2.1) ((buR s td ah sh q md).1.2.2.1) ((buR s td ah sh q md).1.2.2.2.1) (nI (buR s td ah sh q md).1.2.2.2.2) o8 o9 o10 o11 o12 o13 o14 o15 o16 o17 o18)) (F0 m 47 ls []) := by
      intro n47
      induction n47 with
      | zero => intro k hk59 hk9 hm; omega
      | succ n47 ih47 =>
        intro k hk59 hk9 hm H locs ls hw hl
        refine lv_iload hx hb dX7_bursts_47 (lv_at hl 4 rfl) ?_
        refine lv_bipush (v := 10) hx hb dX7_bursts_49 (by decide) ?_
        refine r_ltN (tgt := 83) hx hb k 10 rfl rfl (by omega) (by omega) dX7_bursts_51 (by decide) (fun c1 => ?_) (fun c1 => ?_)
        · skip
          have hk9 : k = 9 := by omega
          subst hk9
          refine lv_iconst (v := 0) hx hb dX7_bursts_83 (by decide) ?_
          refine lv_istore (lv' := [(4, .int 0), (0, .ref (L 0)), (1, .int (nI md)), (2, .int (nI made)), (3, .int tn)]) hx hb dX7_bursts_84 hl (by decide) rfl (fun ls hl => ?_)
          have key86 : ∀ (n86 : Nat) (i : Nat), (i ≤ 7) → (7 - i < n86) → ∀ (H : Heap) (locs : List Loc) (ls : Array Slot), Wd D A st.heap H locs (mW D L (va_cpy x.2.1 (va_cpy x.1 x.1 67 77 50) 0 67 i) pa P ru x.2.1 x.2.2.1 x.2.2.2.1 (nI x.2.2.2.2) o8 o9 o10 o11 o12 o13 o14 o15 o16 o17 o18) → lv_has ls 5 [(0, .ref (L 0)), (1, .int (nI md)), (2, .int (nI made)), (3, .int tn), (4, .int (nI i))] → W p l e (rmOf 13 0 0 284) st m args below meth c H locs 0 0 (QI below args st D A (bTorn (buR s td ah sh q md).1) (mW D L (buS s td ah sh q md) pa P ru ((buR s td ah sh q md).1.2.1) ((buR s td ah sh q md).1.2.2.1) ((buR s td ah sh q md).1.2.2.2.1) (nI (buR s td ah sh q md).1.2.2.2.2) o8 o9 o10 o11 o12 o13 o14 o15 o16 o17 o18)) (F0 m 86 ls []) := by
            intro n86
            induction n86 with
            | zero => intro i hi hm2; omega
            | succ n86 ih86 =>
              intro i hi hm2 H locs ls hw hl
              refine lv_iload hx hb dX7_bursts_86 (lv_at hl 4 rfl) ?_
              refine lv_bipush (v := 7) hx hb dX7_bursts_88 (by decide) ?_
              refine r_geN (tgt := 116) hx hb i 7 rfl rfl (by omega) (by omega) dX7_bursts_90 (by decide) (fun c2 => ?_) (fun c2 => ?_)
              · skip
                have hi7 : i = 7 := by omega
                subst hi7
                refine lv_aload_n hx hb dX7_bursts_116 rfl (lv_at hl 0 rfl) ?_
                refine r_get X hw (v := .ref (L 1)) fl_X7_7 (m_at 0 rfl) rfl dX7_bursts_117 ?_
                refine lv_bipush (v := 74) hx hb dX7_bursts_120 (by decide) ?_
                refine lv_iload_n hx hb dX7_bursts_122 rfl (lv_at hl 1 rfl) ?_
                refine r_iast X hw (ws' := mW D L (upd (va_cpy x.2.1 (va_cpy x.1 x.1 67 77 50) 0 67 7) 74 (nI md)) pa P ru x.2.1 x.2.2.1 x.2.2.2.1 (nI x.2.2.2.2) o8 o9 o10 o11 o12 o13 o14 o15 o16 o17 o18) 74 rfl (by decide) (by decide) (Foc.cell 1 rfl rfl (ce rfl (ce rfl (ce rfl (ce rfl (ce rfl (ce rfl (ce rfl (ce rfl (ce rfl rfl)))))))))) dX7_bursts_123 (fun H locs hw => ?_)
                refine lv_aload_n hx hb dX7_bursts_124 rfl (lv_at hl 0 rfl) ?_
                refine r_get X hw (v := .ref (L 1)) fl_X7_7 (m_at 0 rfl) rfl dX7_bursts_125 ?_
                refine lv_bipush (v := 75) hx hb dX7_bursts_128 (by decide) ?_
                refine lv_iload_n hx hb dX7_bursts_130 rfl (lv_at hl 3 rfl) ?_
                refine r_iast X hw (ws' := mW D L (upd (upd (va_cpy x.2.1 (va_cpy x.1 x.1 67 77 50) 0 67 7) 74 (nI md)) 75 tn) pa P ru x.2.1 x.2.2.1 x.2.2.2.1 (nI x.2.2.2.2) o8 o9 o10 o11 o12 o13 o14 o15 o16 o17 o18) 75 rfl (by decide) (by decide) (Foc.cell 1 rfl rfl (ce rfl (ce rfl (ce rfl (ce rfl (ce rfl (ce rfl (ce rfl (ce rfl (ce rfl rfl)))))))))) dX7_bursts_131 (fun H locs hw => ?_)
                refine lv_aload_n hx hb dX7_bursts_132 rfl (lv_at hl 0 rfl) ?_
                refine r_get X hw (v := .ref (L 1)) fl_X7_7 (m_at 0 rfl) rfl dX7_bursts_133 ?_
                refine lv_bipush (v := 76) hx hb dX7_bursts_136 (by decide) ?_
                refine lv_iload_n hx hb dX7_bursts_138 rfl (lv_at hl 2 rfl) ?_
                refine r_iast X hw (ws' := mW D L (upd (upd (upd (va_cpy x.2.1 (va_cpy x.1 x.1 67 77 50) 0 67 7) 74 (nI md)) 75 tn) 76 (nI made)) pa P ru x.2.1 x.2.2.1 x.2.2.2.1 (nI x.2.2.2.2) o8 o9 o10 o11 o12 o13 o14 o15 o16 o17 o18) 76 rfl (by decide) (by decide) (Foc.cell 1 rfl rfl (ce rfl (ce rfl (ce rfl (ce rfl (ce rfl (ce rfl (ce rfl (ce rfl (ce rfl rfl)))))))))) dX7_bursts_139 (fun H locs hw => ?_)
                refine lv_aload_n hx hb dX7_bursts_140 rfl (lv_at hl 0 rfl) ?_
                refine r_get X hw (v := .ref (L 1)) fl_X7_7 (m_at 0 rfl) rfl dX7_bursts_141 ?_
                refine lv_bipush (v := 36) hx hb dX7_bursts_144 (by decide) ?_
                refine lv_dup2_11 hx hb dX7_bursts_146 rfl rfl ?_
                refine r_iald X hw (f := upd (upd (upd (va_cpy x.2.1 (va_cpy x.1 x.1 67 77 50) 0 67 7) 74 (nI md)) 75 tn) 76 (nI made)) 36 (m_at 1 rfl) rfl (by decide) (by decide) dX7_bursts_147 ?_
                refine lv_aload_n hx hb dX7_bursts_148 rfl (lv_at hl 0 rfl) ?_
                refine r_get X hw (v := .ref (L 1)) fl_X7_7 (m_at 0 rfl) rfl dX7_bursts_149 ?_
                refine lv_bipush (v := 36) hx hb dX7_bursts_152 (by decide) ?_
                refine r_iald X hw (f := upd (upd (upd (va_cpy x.2.1 (va_cpy x.1 x.1 67 77 50) 0 67 7) 74 (nI md)) 75 tn) 76 (nI made)) 36 (m_at 1 rfl) rfl (by decide) (by decide) dX7_bursts_154 ?_
                refine lv_bipush (v := 6) hx hb dX7_bursts_155 (by decide) ?_
                refine lv_icmp_ge (tgt := 164) hx hb dX7_bursts_157 (by decide) (fun c3 => ?_) (fun c3 => ?_)
                · skip
                  refine lv_iconst (v := 0) hx hb dX7_bursts_164 (by decide) ?_
                  refine lv_iadd hx hb dX7_bursts_165 ?_
                  refine r_iast X hw (ws' := mW D L (upd (upd (upd (upd (va_cpy x.2.1 (va_cpy x.1 x.1 67 77 50) 0 67 7) 74 (nI md)) 75 tn) 76 (nI made)) 36 (((upd (upd (upd (va_cpy x.2.1 (va_cpy x.1 x.1 67 77 50) 0 67 7) 74 (nI md)) 75 tn) 76 (nI made)) 36) + 0)) pa P ru x.2.1 x.2.2.1 x.2.2.2.1 (nI x.2.2.2.2) o8 o9 o10 o11 o12 o13 o14 o15 o16 o17 o18) 36 rfl (by decide) (by decide) (Foc.cell 1 rfl rfl (ce rfl (ce rfl (ce rfl (ce rfl (ce rfl (ce rfl (ce rfl (ce rfl (ce rfl rfl)))))))))) dX7_bursts_166 (fun H locs hw => ?_)
                  refine lv_aload_n hx hb dX7_bursts_167 rfl (lv_at hl 0 rfl) ?_
                  refine r_get X hw (v := .ref (L 1)) fl_X7_7 (m_at 0 rfl) rfl dX7_bursts_168 ?_
                  refine lv_bipush (v := 31) hx hb dX7_bursts_171 (by decide) ?_
                  refine lv_dup2_11 hx hb dX7_bursts_173 rfl rfl ?_
                  refine r_iald X hw (f := upd (upd (upd (upd (va_cpy x.2.1 (va_cpy x.1 x.1 67 77 50) 0 67 7) 74 (nI md)) 75 tn) 76 (nI made)) 36 (((upd (upd (upd (va_cpy x.2.1 (va_cpy x.1 x.1 67 77 50) 0 67 7) 74 (nI md)) 75 tn) 76 (nI made)) 36) + 0)) 31 (m_at 1 rfl) rfl (by decide) (by decide) dX7_bursts_174 ?_
                  refine lv_iconst (v := 1) hx hb dX7_bursts_175 (by decide) ?_
                  refine lv_iadd hx hb dX7_bursts_176 ?_
                  refine r_iast X hw (ws' := mW D L (upd (upd (upd (upd (upd (va_cpy x.2.1 (va_cpy x.1 x.1 67 77 50) 0 67 7) 74 (nI md)) 75 tn) 76 (nI made)) 36 (((upd (upd (upd (va_cpy x.2.1 (va_cpy x.1 x.1 67 77 50) 0 67 7) 74 (nI md)) 75 tn) 76 (nI made)) 36) + 0)) 31 (((upd (upd (upd (upd (va_cpy x.2.1 (va_cpy x.1 x.1 67 77 50) 0 67 7) 74 (nI md)) 75 tn) 76 (nI made)) 36 (((upd (upd (upd (va_cpy x.2.1 (va_cpy x.1 x.1 67 77 50) 0 67 7) 74 (nI md)) 75 tn) 76 (nI made)) 36) + 0)) 31) + 1)) pa P ru x.2.1 x.2.2.1 x.2.2.2.1 (nI x.2.2.2.2) o8 o9 o10 o11 o12 o13 o14 o15 o16 o17 o18) 31 rfl (by decide) (by decide) (Foc.cell 1 rfl rfl (ce rfl (ce rfl (ce rfl (ce rfl (ce rfl (ce rfl (ce rfl (ce rfl (ce rfl rfl)))))))))) dX7_bursts_177 (fun H locs hw => ?_)
                  refine lv_aload_n hx hb dX7_bursts_178 rfl (lv_at hl 0 rfl) ?_
                  refine r_get X hw (v := .ref (L 1)) fl_X7_7 (m_at 0 rfl) rfl dX7_bursts_179 ?_
                  refine lv_bipush (v := 32) hx hb dX7_bursts_182 (by decide) ?_
                  refine lv_dup2_11 hx hb dX7_bursts_184 rfl rfl ?_
                  refine r_iald X hw (f := upd (upd (upd (upd (upd (va_cpy x.2.1 (va_cpy x.1 x.1 67 77 50) 0 67 7) 74 (nI md)) 75 tn) 76 (nI made)) 36 (((upd (upd (upd (va_cpy x.2.1 (va_cpy x.1 x.1 67 77 50) 0 67 7) 74 (nI md)) 75 tn) 76 (nI made)) 36) + 0)) 31 (((upd (upd (upd (upd (va_cpy x.2.1 (va_cpy x.1 x.1 67 77 50) 0 67 7) 74 (nI md)) 75 tn) 76 (nI made)) 36 (((upd (upd (upd (va_cpy x.2.1 (va_cpy x.1 x.1 67 77 50) 0 67 7) 74 (nI md)) 75 tn) 76 (nI made)) 36) + 0)) 31) + 1)) 32 (m_at 1 rfl) rfl (by decide) (by decide) dX7_bursts_185 ?_
                  refine lv_iload_n hx hb dX7_bursts_186 rfl (lv_at hl 3 rfl) ?_
                  refine lv_iadd hx hb dX7_bursts_187 ?_
                  refine r_iast X hw (ws' := mW D L (upd (upd (upd (upd (upd (upd (va_cpy x.2.1 (va_cpy x.1 x.1 67 77 50) 0 67 7) 74 (nI md)) 75 tn) 76 (nI made)) 36 (((upd (upd (upd (va_cpy x.2.1 (va_cpy x.1 x.1 67 77 50) 0 67 7) 74 (nI md)) 75 tn) 76 (nI made)) 36) + 0)) 31 (((upd (upd (upd (upd (va_cpy x.2.1 (va_cpy x.1 x.1 67 77 50) 0 67 7) 74 (nI md)) 75 tn) 76 (nI made)) 36 (((upd (upd (upd (va_cpy x.2.1 (va_cpy x.1 x.1 67 77 50) 0 67 7) 74 (nI md)) 75 tn) 76 (nI made)) 36) + 0)) 31) + 1)) 32 (((upd (upd (upd (upd (upd (va_cpy x.2.1 (va_cpy x.1 x.1 67 77 50) 0 67 7) 74 (nI md)) 75 tn) 76 (nI made)) 36 (((upd (upd (upd (va_cpy x.2.1 (va_cpy x.1 x.1 67 77 50) 0 67 7) 74 (nI md)) 75 tn) 76 (nI made)) 36) + 0)) 31 (((upd (upd (upd (upd (va_cpy x.2.1 (va_cpy x.1 x.1 67 77 50) 0 67 7) 74 (nI md)) 75 tn) 76 (nI made)) 36 (((upd (upd (upd (va_cpy x.2.1 (va_cpy x.1 x.1 67 77 50) 0 67 7) 74 (nI md)) 75 tn) 76 (nI made)) 36) + 0)) 31) + 1)) 32) + tn)) pa P ru x.2.1 x.2.2.1 x.2.2.2.1 (nI x.2.2.2.2) o8 o9 o10 o11 o12 o13 o14 o15 o16 o17 o18) 32 rfl (by decide) (by decide) (Foc.cell 1 rfl rfl (ce rfl (ce rfl (ce rfl (ce rfl (ce rfl (ce rfl (ce rfl (ce rfl (ce rfl rfl)))))))))) dX7_bursts_188 (fun H locs hw => ?_)
                  refine lv_iload_n hx hb dX7_bursts_189 rfl (lv_at hl 3 rfl) ?_
                  exact r_ret X hw hk hret rfl (by rw [hx9]; exact htn) (by unfold buS bLog bL3; rw [hx9]; dsimp only; rw [← htn]; rw [if_pos c3]) dX7_bursts_190
                · skip
                  refine lv_iconst (v := 1) hx hb dX7_bursts_160 (by decide) ?_
                  refine lv_goto (tgt := 165) hx hb dX7_bursts_161 (by decide) ?_
                  refine lv_iadd hx hb dX7_bursts_165 ?_
                  refine r_iast X hw (ws' := mW D L (upd (upd (upd (upd (va_cpy x.2.1 (va_cpy x.1 x.1 67 77 50) 0 67 7) 74 (nI md)) 75 tn) 76 (nI made)) 36 (((upd (upd (upd (va_cpy x.2.1 (va_cpy x.1 x.1 67 77 50) 0 67 7) 74 (nI md)) 75 tn) 76 (nI made)) 36) + 1)) pa P ru x.2.1 x.2.2.1 x.2.2.2.1 (nI x.2.2.2.2) o8 o9 o10 o11 o12 o13 o14 o15 o16 o17 o18) 36 rfl (by decide) (by decide) (Foc.cell 1 rfl rfl (ce rfl (ce rfl (ce rfl (ce rfl (ce rfl (ce rfl (ce rfl (ce rfl (ce rfl rfl)))))))))) dX7_bursts_166 (fun H locs hw => ?_)
                  refine lv_aload_n hx hb dX7_bursts_167 rfl (lv_at hl 0 rfl) ?_
                  refine r_get X hw (v := .ref (L 1)) fl_X7_7 (m_at 0 rfl) rfl dX7_bursts_168 ?_
                  refine lv_bipush (v := 31) hx hb dX7_bursts_171 (by decide) ?_
                  refine lv_dup2_11 hx hb dX7_bursts_173 rfl rfl ?_
                  refine r_iald X hw (f := upd (upd (upd (upd (va_cpy x.2.1 (va_cpy x.1 x.1 67 77 50) 0 67 7) 74 (nI md)) 75 tn) 76 (nI made)) 36 (((upd (upd (upd (va_cpy x.2.1 (va_cpy x.1 x.1 67 77 50) 0 67 7) 74 (nI md)) 75 tn) 76 (nI made)) 36) + 1)) 31 (m_at 1 rfl) rfl (by decide) (by decide) dX7_bursts_174 ?_
                  refine lv_iconst (v := 1) hx hb dX7_bursts_175 (by decide) ?_
                  refine lv_iadd hx hb dX7_bursts_176 ?_
                  refine r_iast X hw (ws' := mW D L (upd (upd (upd (upd (upd (va_cpy x.2.1 (va_cpy x.1 x.1 67 77 50) 0 67 7) 74 (nI md)) 75 tn) 76 (nI made)) 36 (((upd (upd (upd (va_cpy x.2.1 (va_cpy x.1 x.1 67 77 50) 0 67 7) 74 (nI md)) 75 tn) 76 (nI made)) 36) + 1)) 31 (((upd (upd (upd (upd (va_cpy x.2.1 (va_cpy x.1 x.1 67 77 50) 0 67 7) 74 (nI md)) 75 tn) 76 (nI made)) 36 (((upd (upd (upd (va_cpy x.2.1 (va_cpy x.1 x.1 67 77 50) 0 67 7) 74 (nI md)) 75 tn) 76 (nI made)) 36) + 1)) 31) + 1)) pa P ru x.2.1 x.2.2.1 x.2.2.2.1 (nI x.2.2.2.2) o8 o9 o10 o11 o12 o13 o14 o15 o16 o17 o18) 31 rfl (by decide) (by decide) (Foc.cell 1 rfl rfl (ce rfl (ce rfl (ce rfl (ce rfl (ce rfl (ce rfl (ce rfl (ce rfl (ce rfl rfl)))))))))) dX7_bursts_177 (fun H locs hw => ?_)
                  refine lv_aload_n hx hb dX7_bursts_178 rfl (lv_at hl 0 rfl) ?_
                  refine r_get X hw (v := .ref (L 1)) fl_X7_7 (m_at 0 rfl) rfl dX7_bursts_179 ?_
                  refine lv_bipush (v := 32) hx hb dX7_bursts_182 (by decide) ?_
                  refine lv_dup2_11 hx hb dX7_bursts_184 rfl rfl ?_
                  refine r_iald X hw (f := upd (upd (upd (upd (upd (va_cpy x.2.1 (va_cpy x.1 x.1 67 77 50) 0 67 7) 74 (nI md)) 75 tn) 76 (nI made)) 36 (((upd (upd (upd (va_cpy x.2.1 (va_cpy x.1 x.1 67 77 50) 0 67 7) 74 (nI md)) 75 tn) 76 (nI made)) 36) + 1)) 31 (((upd (upd (upd (upd (va_cpy x.2.1 (va_cpy x.1 x.1 67 77 50) 0 67 7) 74 (nI md)) 75 tn) 76 (nI made)) 36 (((upd (upd (upd (va_cpy x.2.1 (va_cpy x.1 x.1 67 77 50) 0 67 7) 74 (nI md)) 75 tn) 76 (nI made)) 36) + 1)) 31) + 1)) 32 (m_at 1 rfl) rfl (by decide) (by decide) dX7_bursts_185 ?_
                  refine lv_iload_n hx hb dX7_bursts_186 rfl (lv_at hl 3 rfl) ?_
                  refine lv_iadd hx hb dX7_bursts_187 ?_
                  refine r_iast X hw (ws' := mW D L (upd (upd (upd (upd (upd (upd (va_cpy x.2.1 (va_cpy x.1 x.1 67 77 50) 0 67 7) 74 (nI md)) 75 tn) 76 (nI made)) 36 (((upd (upd (upd (va_cpy x.2.1 (va_cpy x.1 x.1 67 77 50) 0 67 7) 74 (nI md)) 75 tn) 76 (nI made)) 36) + 1)) 31 (((upd (upd (upd (upd (va_cpy x.2.1 (va_cpy x.1 x.1 67 77 50) 0 67 7) 74 (nI md)) 75 tn) 76 (nI made)) 36 (((upd (upd (upd (va_cpy x.2.1 (va_cpy x.1 x.1 67 77 50) 0 67 7) 74 (nI md)) 75 tn) 76 (nI made)) 36) + 1)) 31) + 1)) 32 (((upd (upd (upd (upd (upd (va_cpy x.2.1 (va_cpy x.1 x.1 67 77 50) 0 67 7) 74 (nI md)) 75 tn) 76 (nI made)) 36 (((upd (upd (upd (va_cpy x.2.1 (va_cpy x.1 x.1 67 77 50) 0 67 7) 74 (nI md)) 75 tn) 76 (nI made)) 36) + 1)) 31 (((upd (upd (upd (upd (va_cpy x.2.1 (va_cpy x.1 x.1 67 77 50) 0 67 7) 74 (nI md)) 75 tn) 76 (nI made)) 36 (((upd (upd (upd (va_cpy x.2.1 (va_cpy x.1 x.1 67 77 50) 0 67 7) 74 (nI md)) 75 tn) 76 (nI made)) 36) + 1)) 31) + 1)) 32) + tn)) pa P ru x.2.1 x.2.2.1 x.2.2.2.1 (nI x.2.2.2.2) o8 o9 o10 o11 o12 o13 o14 o15 o16 o17 o18) 32 rfl (by decide) (by decide) (Foc.cell 1 rfl rfl (ce rfl (ce rfl (ce rfl (ce rfl (ce rfl (ce rfl (ce rfl (ce rfl (ce rfl rfl)))))))))) dX7_bursts_188 (fun H locs hw => ?_)
                  refine lv_iload_n hx hb dX7_bursts_189 rfl (lv_at hl 3 rfl) ?_
                  exact r_ret X hw hk hret rfl (by rw [hx9]; exact htn) (by unfold buS bLog bL3; rw [hx9]; dsimp only; rw [← htn]; rw [if_neg c3]) dX7_bursts_190
              · skip
                refine lv_aload_n hx hb dX7_bursts_93 rfl (lv_at hl 0 rfl) ?_
                refine r_get X hw (v := .ref (L 1)) fl_X7_7 (m_at 0 rfl) rfl dX7_bursts_94 ?_
                refine lv_bipush (v := 67) hx hb dX7_bursts_97 (by decide) ?_
                refine lv_iload hx hb dX7_bursts_99 (lv_at hl 4 rfl) ?_
                refine r_addN hx hb 67 i rfl rfl dX7_bursts_101 ?_
                refine lv_aload_n hx hb dX7_bursts_102 rfl (lv_at hl 0 rfl) ?_
                refine r_get X hw (v := .ref (L 6)) fl_X7_25 (m_at 0 rfl) rfl dX7_bursts_103 ?_
                refine lv_iload hx hb dX7_bursts_106 (lv_at hl 4 rfl) ?_
                refine r_iald X hw (f := x.2.1) i (m_at 6 rfl) rfl (by omega) (by decide) dX7_bursts_108 ?_
                refine r_iast X hw (ws' := mW D L (upd (va_cpy x.2.1 (va_cpy x.1 x.1 67 77 50) 0 67 i) (67 + i) (x.2.1 i)) pa P ru x.2.1 x.2.2.1 x.2.2.2.1 (nI x.2.2.2.2) o8 o9 o10 o11 o12 o13 o14 o15 o16 o17 o18) (67 + i) rfl (by omega) (by decide) (Foc.cell 1 rfl rfl (ce rfl (ce rfl (ce rfl (ce rfl (ce rfl (ce rfl (ce rfl (ce rfl (ce rfl rfl)))))))))) dX7_bursts_109 (fun H locs hw => ?_)
                refine r_iincN (lv' := [(4, .int (nI (i + 1))), (0, .ref (L 0)), (1, .int (nI md)), (2, .int (nI made)), (3, .int tn)]) hx hb i 1 rfl dX7_bursts_110 hl (k := 4) rfl rfl (by decide) rfl (fun ls hl => ?_)
                refine lv_goto (tgt := 86) hx hb dX7_bursts_113 (by decide) ?_
                exact ih86 (i + 1) (by omega) (by omega) _ _ _ (by rw [← cpy_step0]; exact hw) (lv_sub hl [1, 2, 3, 4, 0] rfl)
          exact key86 8 0 (by omega) (by omega) _ _ _ (by rw [cpy_0]; exact hw) (lv_sub hl [1, 2, 3, 4, 0] rfl)
        · skip
          refine lv_aload_n hx hb dX7_bursts_54 rfl (lv_at hl 0 rfl) ?_
          refine r_get X hw (v := .ref (L 1)) fl_X7_7 (m_at 0 rfl) rfl dX7_bursts_55 ?_
          refine lv_bipush (v := 67) hx hb dX7_bursts_58 (by decide) ?_
          refine lv_iload hx hb dX7_bursts_60 (lv_at hl 4 rfl) ?_
          refine r_addN hx hb 67 k rfl rfl dX7_bursts_62 ?_
          refine lv_aload_n hx hb dX7_bursts_63 rfl (lv_at hl 0 rfl) ?_
          refine r_get X hw (v := .ref (L 1)) fl_X7_7 (m_at 0 rfl) rfl dX7_bursts_64 ?_
          refine lv_bipush (v := 67) hx hb dX7_bursts_67 (by decide) ?_
          refine lv_iload hx hb dX7_bursts_69 (lv_at hl 4 rfl) ?_
          refine r_addN hx hb 67 k rfl rfl dX7_bursts_71 ?_
          refine lv_bipush (v := 10) hx hb dX7_bursts_72 (by decide) ?_
          refine r_subN hx hb (67 + k) 10 rfl rfl (by omega) dX7_bursts_74 ?_
          refine r_iald X hw (f := va_cpy x.1 x.1 (57 + (k + 1)) (67 + (k + 1)) (60 - (k + 1))) ((67 + k) - 10) (m_at 1 rfl) rfl (by omega) (by decide) dX7_bursts_75 ?_
          refine r_iast X hw (ws' := mW D L (upd (va_cpy x.1 x.1 (57 + (k + 1)) (67 + (k + 1)) (60 - (k + 1))) (67 + k) ((va_cpy x.1 x.1 (57 + (k + 1)) (67 + (k + 1)) (60 - (k + 1))) ((67 + k) - 10))) pa P ru x.2.1 x.2.2.1 x.2.2.2.1 (nI x.2.2.2.2) o8 o9 o10 o11 o12 o13 o14 o15 o16 o17 o18) (67 + k) rfl (by omega) (by decide) (Foc.cell 1 rfl rfl (ce rfl (ce rfl (ce rfl (ce rfl (ce rfl (ce rfl (ce rfl (ce rfl (ce rfl rfl)))))))))) dX7_bursts_76 (fun H locs hw => ?_)
          refine r_idecN (lv' := [(4, .int (nI (k - 1))), (0, .ref (L 0)), (1, .int (nI md)), (2, .int (nI made)), (3, .int tn)]) hx hb k (by omega) dX7_bursts_77 hl (k := 4) rfl rfl (by decide) rfl (fun ls hl => ?_)
          refine lv_goto (tgt := 47) hx hb dX7_bursts_80 (by decide) ?_
          exact ih47 (k - 1) (by omega) (by omega) (by omega) _ _ _ (by rw [show k - 1 + 1 = k from by omega, ← down_step x.1 k (by omega) (by omega)]; exact hw) (lv_sub hl [1, 2, 3, 4, 0] rfl)
    exact key47 60 59 (by omega) (by omega) (by omega) _ _ _ (by rw [cpy_0]; exact hw) (lv_sub hl [1, 2, 3, 4, 0] rfl)
  have cut30 : ∀ (x : BS) (made : Nat), (buR s td ah sh q md = (x, made)) → (x.2.2.2.2 ≤ 15) → ∀ (H : Heap) (locs : List Loc) (ls : Array Slot), Wd D A st.heap H locs (mW D L x.1 pa P ru x.2.1 x.2.2.1 x.2.2.2.1 (nI x.2.2.2.2) o8 o9 o10 o11 o12 o13 o14 o15 o16 o17 o18) → lv_has ls 5 [(0, .ref (L 0)), (1, .int (nI md)), (2, .int (nI made))] → W p l e (rmOf 13 0 0 284) st m args below meth c H locs 0 0 (QI below args st D A (bTorn (buR s td ah sh q md).1) (mW D L (buS s td ah sh q md) pa P ru ((buR s td ah sh q md).1.2.1) ((buR s td ah sh q md).1.2.2.1) ((buR s td ah sh q md).1.2.2.2.1) (nI (buR s td ah sh q md).1.2.2.2.2) o8 o9 o10 o11 o12 o13 o14 o15 o16 o17 o18)) (F0 m 30 ls []) := by
    intro x made hx9 hn9 H locs ls hw hl
    refine lv_aload_n hx hb dX7_bursts_30 rfl (lv_at hl 0 rfl) ?_
    refine r_callV X hw (ws' := mW D L x.1 pa P ru x.2.1 x.2.2.1 x.2.2.2.1 (nI x.2.2.2.2) o8 o9 o10 o11 o12 o13 o14 o15 o16 o17 o18) (As := []) (rest := []) lk_X7_131 (c_X7_wasShown l D _ L x.1 pa P ru x.2.1 x.2.2.1 x.2.2.2.1 x.2.2.2.2 o8 o9 o10 o11 o12 o13 o14 o15 o16 o17 o18 (by omega)) Foc.all (m_at 0 rfl) rfl hl.1 (Nat.le_of_ble_eq_true rfl) ⟨Nat.le_of_ble_eq_true rfl, Nat.le_of_ble_eq_true rfl⟩ rfl dX7_bursts_31 ⟨Nat.le_refl _, Nat.le_refl _⟩ (fun H locs hw => ?_)
    refine lv_if_eq (tgt := 41) hx hb dX7_bursts_34 (by decide) (fun c4 => ?_) (fun c4 => ?_)
    · skip
      refine lv_iconst (v := 1) hx hb dX7_bursts_41 (by decide) ?_
      refine lv_istore_n (lv' := [(3, .int 1), (0, .ref (L 0)), (1, .int (nI md)), (2, .int (nI made))]) hx hb dX7_bursts_42 rfl hl (by decide) rfl (fun ls hl => ?_)
      exact cut43 x made 1 hx9 (by unfold bTorn; rw [if_pos c4]) _ _ _ hw (lv_sub hl [1, 2, 3, 0] rfl)
    · skip
      refine lv_iconst (v := 0) hx hb dX7_bursts_37 (by decide) ?_
      refine lv_goto (tgt := 42) hx hb dX7_bursts_38 (by decide) ?_
      refine lv_istore_n (lv' := [(3, .int 0), (0, .ref (L 0)), (1, .int (nI md)), (2, .int (nI made))]) hx hb dX7_bursts_42 rfl hl (by decide) rfl (fun ls hl => ?_)
      exact cut43 x made 0 hx9 (by unfold bTorn; rw [if_neg c4]) _ _ _ hw (lv_sub hl [1, 2, 3, 0] rfl)
  refine lv_iconst (v := 1) hx hb dX7_bursts_0 (by decide) ?_
  refine lv_istore_n (lv' := [(2, .int 1), (0, .ref (L 0)), (1, .int (nI md))]) hx hb dX7_bursts_1 rfl hl (by decide) rfl (fun ls hl => ?_)
  refine lv_iload_n hx hb dX7_bursts_2 rfl (lv_at hl 2 rfl) ?_
  refine r_ifn0N (tgt := 13) hx hb md rfl (by omega) dX7_bursts_3 (by decide) (fun c5 => ?_) (fun c5 => ?_)
  · skip
    refine lv_iload_n hx hb dX7_bursts_13 rfl (lv_at hl 2 rfl) ?_
    refine lv_iconst (v := 1) hx hb dX7_bursts_14 (by decide) ?_
    refine r_neN (tgt := 25) hx hb md 1 rfl rfl (by omega) (by omega) dX7_bursts_15 (by decide) (fun c6 => ?_) (fun c6 => ?_)
    · skip
      refine lv_aload_n hx hb dX7_bursts_25 rfl (lv_at hl 1 rfl) ?_
      refine r_callV X hw (ws' := mW D L ((agR q 4 1 (rdB s td ah sh q)).1.1) pa P ru ((agR q 4 1 (rdB s td ah sh q)).1.2.1) ((agR q 4 1 (rdB s td ah sh q)).1.2.2.1) ((agR q 4 1 (rdB s td ah sh q)).1.2.2.2.1) (nI (agR q 4 1 (rdB s td ah sh q)).1.2.2.2.2) o8 o9 o10 o11 o12 o13 o14 o15 o16 o17 o18) (As := []) (rest := []) lk_X7_128 (c_X7_readsAgain l D _ L s pa P ru td ah sh n0 o8 o9 o10 o11 o12 o13 o14 o15 o16 o17 o18 pp z q hok) Foc.all (m_at 0 rfl) rfl hl.1 (Nat.le_of_ble_eq_true rfl) ⟨Nat.le_of_ble_eq_true rfl, Nat.le_of_ble_eq_true rfl⟩ rfl dX7_bursts_26 ⟨Nat.le_refl _, Nat.le_refl _⟩ (fun H locs hw => ?_)
      refine lv_istore_n (lv' := [(2, .int (nI ((agR q 4 1 (rdB s td ah sh q)).2))), (0, .ref (L 0)), (1, .int (nI md))]) hx hb dX7_bursts_29 rfl hl (by decide) rfl (fun ls hl => ?_)
      exact cut30 ((agR q 4 1 (rdB s td ah sh q)).1.1, (agR q 4 1 (rdB s td ah sh q)).1.2.1, (agR q 4 1 (rdB s td ah sh q)).1.2.2.1, (agR q 4 1 (rdB s td ah sh q)).1.2.2.2.1, (agR q 4 1 (rdB s td ah sh q)).1.2.2.2.2) ((agR q 4 1 (rdB s td ah sh q)).2) (by unfold buR rdB; rw [if_neg c5]; rw [if_neg c6]) (by have g := (buR_ok td ah sh hok md).2; unfold buR at g; rw [if_neg c5] at g; rw [if_neg c6] at g; dsimp only [rdB] at g ⊢; omega) _ _ _ hw (lv_sub hl [1, 2, 0] rfl)
    · skip
      refine lv_aload_n hx hb dX7_bursts_18 rfl (lv_at hl 1 rfl) ?_
      refine r_callVv X hw (ws' := mW D L (phF s (7 * q)) pa P ru (va_cpy s td 0 0 7) ah (va_cpy s sh 0 (7 * 0) 7) 1 o8 o9 o10 o11 o12 o13 o14 o15 o16 o17 o18) (As := []) (rest := []) lk_X7_125 (c_X7_readsAtOnce l D _ L s pa P ru td ah sh n0 o8 o9 o10 o11 o12 o13 o14 o15 o16 o17 o18 pp z q hok) Foc.all (m_at 0 rfl) rfl hl.1 (Nat.le_of_ble_eq_true rfl) ⟨Nat.le_of_ble_eq_true rfl, Nat.le_of_ble_eq_true rfl⟩ rfl dX7_bursts_19 ⟨Nat.le_refl _, Nat.le_refl _⟩ (fun H locs hw => ?_)
      refine lv_goto (tgt := 30) hx hb dX7_bursts_22 (by decide) ?_
      exact cut30 (phF s (7 * q), va_cpy s td 0 0 7, ah, va_cpy s sh 0 (7 * 0) 7, 1) 1 (by unfold buR rdB; rw [if_neg c5]; rw [if_pos c6]) (by have g := (buR_ok td ah sh hok md).2; unfold buR at g; rw [if_neg c5] at g; rw [if_pos c6] at g; dsimp only [rdB] at g ⊢; omega) _ _ _ hw (lv_sub hl [1, 2, 0] rfl)
  · skip
    refine lv_aload_n hx hb dX7_bursts_6 rfl (lv_at hl 1 rfl) ?_
    refine r_callVv X hw (ws' := mW D L ((rdK s td sh q 7).1) pa P ru ((rdK s td sh q 7).2.1) ah ((rdK s td sh q 7).2.2.1) (nI (rdK s td sh q 7).2.2.2) o8 o9 o10 o11 o12 o13 o14 o15 o16 o17 o18) (As := []) (rest := []) lk_X7_119 (c_X7_readsAll l D _ L s pa P ru td ah sh n0 o8 o9 o10 o11 o12 o13 o14 o15 o16 o17 o18 pp z q hok) Foc.all (m_at 0 rfl) rfl hl.1 (Nat.le_of_ble_eq_true rfl) ⟨Nat.le_of_ble_eq_true rfl, Nat.le_of_ble_eq_true rfl⟩ rfl dX7_bursts_7 ⟨Nat.le_refl _, Nat.le_refl _⟩ (fun H locs hw => ?_)
    refine lv_goto (tgt := 30) hx hb dX7_bursts_10 (by decide) ?_
    exact cut30 ((rdK s td sh q 7).1, (rdK s td sh q 7).2.1, ah, (rdK s td sh q 7).2.2.1, (rdK s td sh q 7).2.2.2) 1 (by unfold buR rdB; rw [if_pos c5]) (by have g := (buR_ok td ah sh hok md).2; unfold buR at g; rw [if_pos c5] at g; dsimp only [rdB] at g ⊢; omega) _ _ _ hw (lv_sub hl [1, 2, 0] rfl)
