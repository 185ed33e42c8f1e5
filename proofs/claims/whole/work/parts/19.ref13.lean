/-! an order is read -/
theorem dgR_le {tx : Row} {T p : Nat} (hT : T ≤ 60) : ∀ (f d : Nat) (v : Int32), p + d ≤ 60 → p + (dgR tx T p f d v).1 ≤ 60
  | 0, d, v, h => h
  | f + 1, d, v, h => by
    unfold dgR
    by_cases c : sp_X7_isAt tx T (p + d) 48 57 = 0
    · rw [if_pos c]; exact h
    · rw [if_neg c]
      have h2 := isAt_lt c
      by_cases c2 : 3 ≤ d
      · rw [if_pos c2]; exact h
      · rw [if_neg c2]; exact dgR_le hT f (d + 1) _ (by omega)
theorem dg_le (tx : Row) {T p : Nat} (hT : T ≤ 60) (hp : p ≤ 60) : p + (dg tx T p).1 ≤ 60 := dgR_le hT 4 0 0 hp
def sep (r : Nat) : Int32 := if r = 0 then 59 else 44
/-- r numbers from a place on, each with its sign behind it: whether they are there, where it ends, the numbers -/
noncomputable def prs (tx : Row) (T : Nat) : Nat → Nat → Nat → Row → Int32 × Nat × Row
  | 0, _, p, nu => (1, p, nu)
  | r + 1, i, p, nu => if (dg tx T p).1 = 0 then (0, p + (dg tx T p).1, upd nu i (dg tx T p).2) else (if sp_X7_isAt tx T (p + (dg tx T p).1) (sep r) (sep r) = 0 then (0, p + (dg tx T p).1, upd nu i (dg tx T p).2) else prs tx T r (i + 1) (p + (dg tx T p).1 + 1) (upd nu i (dg tx T p).2))
noncomputable def rdO (tx : Row) (T p : Nat) : Int32 := if sp_X7_isAt tx T p 33 126 = 0 then 0 else tx p
noncomputable def nbN (od : Int32) : Nat := if sp_X7_numbersOf od = 3 then 3 else (if sp_X7_numbersOf od = 2 then 2 else (if sp_X7_numbersOf od = 1 then 1 else 0))
theorem nbo (od : Int32) : sp_X7_numbersOf od = 0 ∨ sp_X7_numbersOf od = 1 ∨ sp_X7_numbersOf od = 2 ∨ sp_X7_numbersOf od = 3 := by
  unfold sp_X7_numbersOf
  (repeat' split) <;> first | exact Or.inl rfl | exact Or.inr (Or.inl rfl) | exact Or.inr (Or.inr (Or.inl rfl)) | exact Or.inr (Or.inr (Or.inr rfl))
noncomputable def rdR (tx : Row) (T p : Nat) (nu : Row) : Int32 × Nat × Row := if nbN (rdO tx T p) = 0 then (0, p, nu) else prs tx T (nbN (rdO tx T p)) 0 (p + 1) nu

set_option maxRecDepth 100000 in
set_option maxHeartbeats 4000000 in
theorem c_X7_reads (l : Launch) (D : va_G) (sz : Nat) (L : Nat → Nat) (s pa : Row) (P ru : Int32) (td ah sh : Row) (n0 : Int32) (tx : Row) (T : Nat) (nu : Row) (p9 : Nat) (fo re ca os od : Int32) (spa he : Row) (hT : T ≤ 60) (hp9 : p9 ≤ 60) : MI l yX7_reads cX7_reads 4 (some .boolean) 3 66 D sz [.ref (L 0)] (mW D L s pa P ru td ah sh n0 tx (nI T) nu (nI p9) fo re ca os od spa he) ((rdR tx T p9 nu).1) (mW D L s pa P ru td ah sh n0 tx (nI T) ((rdR tx T p9 nu).2.2) (nI (rdR tx T p9 nu).2.1) fo re ca os (rdO tx T p9) spa he) := by
  refine r_enterI (by decide) (Nat.le_of_ble_eq_true rfl) ?_
  intro p e st m args below meth c ls A X hret hk hw hl
  have X : CX D p m c cX7_reads 4 st args RX7 A := X
  have hx := X.1.1
  have hb := X.1.2.1
  have hown := X.1.2.2.2.1
  have hts := X.1.2.2.2.2
  have hl : lv_has ls 4 [(0, .ref (L 0))] := hl
  refine lv_aload_n hx hb dX7_reads_0 rfl (lv_at hl 0 rfl) ?_
  refine lv_aload_n hx hb dX7_reads_1 rfl (lv_at hl 0 rfl) ?_
  refine lv_bipush (v := 33) hx hb dX7_reads_2 (by decide) ?_
  refine lv_bipush (v := 126) hx hb dX7_reads_4 (by decide) ?_
  refine r_callV X hw (ws' := mW D L s pa P ru td ah sh n0 tx (nI T) nu (nI p9) fo re ca os od spa he) (As := [.int 33, .int 126]) (rest := [.ref (L 0)]) lk_X7_180 (c_X7_isAt l D _ L s pa P ru td ah sh n0 tx T nu p9 fo re ca os od spa he (by omega) (by omega) 33 126) Foc.all (m_at 0 rfl) rfl hl.1 (Nat.le_of_ble_eq_true rfl) ⟨Nat.le_of_ble_eq_true rfl, Nat.le_of_ble_eq_true rfl⟩ rfl dX7_reads_6 ⟨Nat.le_refl _, Nat.le_refl _⟩ (fun H locs hw => ?_)
  refine lv_if_eq (tgt := 24) hx hb dX7_reads_9 (by decide) (fun c1 => ?_) (fun c1 => ?_)
  · skip
    refine lv_iconst (v := 0) hx hb dX7_reads_24 (by decide) ?_
    refine r_puti X hw (ws' := mW D L s pa P ru td ah sh n0 tx (nI T) nu (nI p9) fo re ca os 0 spa he) fp_X7_184 (Nat.le_of_ble_eq_true rfl) (Foc.cell 0 rfl rfl (ce rfl (ce rfl (ce rfl (ce rfl (ce rfl (ce rfl (ce rfl (ce rfl (ce rfl rfl)))))))))) dX7_reads_25 (fun H locs hw => ?_)
    refine lv_aload_n hx hb dX7_reads_28 rfl (lv_at hl 0 rfl) ?_
    refine r_get X hw (v := .int 0) fl_X7_184 (m_at 0 rfl) rfl dX7_reads_29 ?_
    refine r_callS X hw (ws' := mW D L s pa P ru td ah sh n0 tx (nI T) nu (nI p9) fo re ca os 0 spa he) (As := [.int 0]) (rest := []) lk_X7_187 (c_X7_numbersOf l D _ 0) Foc.nil rfl hl.1 (Nat.le_of_ble_eq_true rfl) ⟨Nat.le_of_ble_eq_true rfl, Nat.le_of_ble_eq_true rfl⟩ rfl dX7_reads_32 ⟨Nat.le_refl _, Nat.le_refl _⟩ (fun H locs hw => ?_)
    refine lv_istore_n (lv' := [(1, .int (sp_X7_numbersOf 0)), (0, .ref (L 0))]) hx hb dX7_reads_35 rfl hl (by decide) rfl (fun ls hl => ?_)
    have hod : rdO tx T p9 = 0 := by unfold rdO; rw [if_pos c1]
    have hm : sp_X7_numbersOf 0 = 0 := by unfold sp_X7_numbersOf; decide
    rw [hm] at hl
    have hm2 : nbN (rdO tx T p9) = 0 := by rw [hod]; unfold nbN; rw [hm]; decide
    refine lv_iload_n hx hb dX7_reads_36 rfl (lv_at hl 0 rfl) ?_
    refine lv_if_ne (tgt := 42) hx hb dX7_reads_37 (by decide) (fun h => absurd (by decide) h) (fun _ => ?_)
    refine lv_iconst (v := 0) hx hb dX7_reads_40 (by decide) ?_
    exact r_ret X hw hk hret rfl (by unfold rdR; rw [hm2]; rfl) (by unfold rdR; rw [hm2, hod]; rfl) dX7_reads_41
  · skip
    have hlt8 := isAt_lt c1
    refine lv_aload_n hx hb dX7_reads_12 rfl (lv_at hl 0 rfl) ?_
    refine r_get X hw (v := .ref (L 5)) fl_X7_22 (m_at 0 rfl) rfl dX7_reads_13 ?_
    refine lv_aload_n hx hb dX7_reads_16 rfl (lv_at hl 0 rfl) ?_
    refine r_get X hw (v := .int (nI p9)) fl_X7_177 (m_at 0 rfl) rfl dX7_reads_17 ?_
    refine r_iald X hw (f := tx) p9 (m_at 5 rfl) rfl (by omega) (by decide) dX7_reads_20 ?_
    refine lv_goto (tgt := 25) hx hb dX7_reads_21 (by decide) ?_
    refine r_puti X hw (ws' := mW D L s pa P ru td ah sh n0 tx (nI T) nu (nI p9) fo re ca os (tx p9) spa he) fp_X7_184 (Nat.le_of_ble_eq_true rfl) (Foc.cell 0 rfl rfl (ce rfl (ce rfl (ce rfl (ce rfl (ce rfl (ce rfl (ce rfl (ce rfl (ce rfl rfl)))))))))) dX7_reads_25 (fun H locs hw => ?_)
    refine lv_aload_n hx hb dX7_reads_28 rfl (lv_at hl 0 rfl) ?_
    refine r_get X hw (v := .int (tx p9)) fl_X7_184 (m_at 0 rfl) rfl dX7_reads_29 ?_
    refine r_callS X hw (ws' := mW D L s pa P ru td ah sh n0 tx (nI T) nu (nI p9) fo re ca os (tx p9) spa he) (As := [.int (tx p9)]) (rest := []) lk_X7_187 (c_X7_numbersOf l D _ (tx p9)) Foc.nil rfl hl.1 (Nat.le_of_ble_eq_true rfl) ⟨Nat.le_of_ble_eq_true rfl, Nat.le_of_ble_eq_true rfl⟩ rfl dX7_reads_32 ⟨Nat.le_refl _, Nat.le_refl _⟩ (fun H locs hw => ?_)
    refine lv_istore_n (lv' := [(1, .int (sp_X7_numbersOf (tx p9))), (0, .ref (L 0))]) hx hb dX7_reads_35 rfl hl (by decide) rfl (fun ls hl => ?_)
    have hod : rdO tx T p9 = tx p9 := by unfold rdO; rw [if_neg c1]
    have hlt9 := isAt_lt c1
    rcases nbo (tx p9) with hm | hm | hm | hm
    · skip
      rw [hm] at hl
      have hm2 : nbN (rdO tx T p9) = 0 := by rw [hod]; unfold nbN; rw [hm]; decide
      refine lv_iload_n hx hb dX7_reads_36 rfl (lv_at hl 0 rfl) ?_
      refine lv_if_ne (tgt := 42) hx hb dX7_reads_37 (by decide) (fun h => absurd (by decide) h) (fun _ => ?_)
      refine lv_iconst (v := 0) hx hb dX7_reads_40 (by decide) ?_
      exact r_ret X hw hk hret rfl (by unfold rdR; rw [hm2]; rfl) (by unfold rdR; rw [hm2, hod]; rfl) dX7_reads_41
    · skip
      rw [hm] at hl
      have hm2 : nbN (rdO tx T p9) = 1 := by rw [hod]; unfold nbN; rw [hm]; decide
      refine lv_iload_n hx hb dX7_reads_36 rfl (lv_at hl 0 rfl) ?_
      refine lv_if_ne (tgt := 42) hx hb dX7_reads_37 (by decide) (fun _ => ?_) (fun h => absurd h (by decide))
      refine lv_aload_n hx hb dX7_reads_42 rfl (lv_at hl 1 rfl) ?_
      refine lv_dup hx hb dX7_reads_43 rfl ?_
      refine r_get X hw (v := .int (nI p9)) fl_X7_177 (m_at 0 rfl) rfl dX7_reads_44 ?_
      refine lv_iconst (v := 1) hx hb dX7_reads_47 (by decide) ?_
      refine r_addN hx hb p9 1 rfl rfl dX7_reads_48 ?_
      refine r_puti X hw (ws' := mW D L s pa P ru td ah sh n0 tx (nI T) nu (nI (p9 + 1)) fo re ca os (tx p9) spa he) fp_X7_177 (Nat.le_of_ble_eq_true rfl) (Foc.cell 0 rfl rfl (ce rfl (ce rfl (ce rfl (ce rfl (ce rfl (ce rfl (ce rfl (ce rfl (ce rfl rfl)))))))))) dX7_reads_49 (fun H locs hw => ?_)
      refine lv_aload_n hx hb dX7_reads_52 rfl (lv_at hl 1 rfl) ?_
      refine lv_iconst (v := 0) hx hb dX7_reads_53 (by decide) ?_
      by_cases g2 : (dg tx T (p9 + 1)).1 = 0
      · skip
        have hbg2 := dg_le tx hT (show (p9 + 1) ≤ 60 from by omega)
        refine r_callV X hw (ws' := mW D L s pa P ru td ah sh n0 tx (nI T) (upd nu 0 (dg tx T (p9 + 1)).2) (nI (p9 + 1 + (dg tx T (p9 + 1)).1)) fo re ca os (tx p9) spa he) (As := [.int 0]) (rest := []) lk_X7_190 (c_X7_numbered0 l D _ L s pa P ru td ah sh n0 tx T nu (p9 + 1) fo re ca os (tx p9) spa he (by omega) (by omega) 0 (by omega) g2) Foc.all (m_at 0 rfl) rfl hl.1 (Nat.le_of_ble_eq_true rfl) ⟨Nat.le_of_ble_eq_true rfl, Nat.le_of_ble_eq_true rfl⟩ rfl dX7_reads_54 ⟨Nat.le_refl _, Nat.le_refl _⟩ (fun H locs hw => ?_)
        refine lv_istore_n (lv' := [(2, .int 0), (1, .int 1), (0, .ref (L 0))]) hx hb dX7_reads_57 rfl hl (by decide) rfl (fun ls hl => ?_)
        refine lv_iconst (v := 1) hx hb dX7_reads_58 (by decide) ?_
        refine lv_istore_n (lv' := [(3, .int 1), (2, .int 0), (1, .int 1), (0, .ref (L 0))]) hx hb dX7_reads_59 rfl hl (by decide) rfl (fun ls hl => ?_)
        refine lv_iload_n hx hb dX7_reads_60 rfl (lv_at hl 0 rfl) ?_
        refine lv_iload_n hx hb dX7_reads_61 rfl (lv_at hl 2 rfl) ?_
        refine lv_icmp_ge (tgt := 98) hx hb dX7_reads_62 (by decide) (fun _ => ?_) (fun h => absurd (by decide) h)
        refine lv_iload_n hx hb dX7_reads_98 rfl (lv_at hl 1 rfl) ?_
        refine lv_if_eq (tgt := 115) hx hb dX7_reads_99 (by decide) (fun _ => ?_) (fun h => absurd (by decide) h)
        refine lv_iconst (v := 0) hx hb dX7_reads_115 (by decide) ?_
        exact r_ret X hw hk hret rfl (by unfold rdR; rw [hm2]; simp [prs, sep, g2]) (by unfold rdR; rw [hm2, hod]; simp [prs, sep, g2]) dX7_reads_116
      · skip
        have hbg2 := dg_le tx hT (show (p9 + 1) ≤ 60 from by omega)
        refine r_callV X hw (ws' := mW D L s pa P ru td ah sh n0 tx (nI T) (upd nu 0 (dg tx T (p9 + 1)).2) (nI (p9 + 1 + (dg tx T (p9 + 1)).1)) fo re ca os (tx p9) spa he) (As := [.int 0]) (rest := []) lk_X7_190 (c_X7_numbered1 l D _ L s pa P ru td ah sh n0 tx T nu (p9 + 1) fo re ca os (tx p9) spa he (by omega) (by omega) 0 (by omega) g2) Foc.all (m_at 0 rfl) rfl hl.1 (Nat.le_of_ble_eq_true rfl) ⟨Nat.le_of_ble_eq_true rfl, Nat.le_of_ble_eq_true rfl⟩ rfl dX7_reads_54 ⟨Nat.le_refl _, Nat.le_refl _⟩ (fun H locs hw => ?_)
        refine lv_istore_n (lv' := [(2, .int 1), (1, .int 1), (0, .ref (L 0))]) hx hb dX7_reads_57 rfl hl (by decide) rfl (fun ls hl => ?_)
        refine lv_iconst (v := 1) hx hb dX7_reads_58 (by decide) ?_
        refine lv_istore_n (lv' := [(3, .int 1), (2, .int 1), (1, .int 1), (0, .ref (L 0))]) hx hb dX7_reads_59 rfl hl (by decide) rfl (fun ls hl => ?_)
        refine lv_iload_n hx hb dX7_reads_60 rfl (lv_at hl 0 rfl) ?_
        refine lv_iload_n hx hb dX7_reads_61 rfl (lv_at hl 2 rfl) ?_
        refine lv_icmp_ge (tgt := 98) hx hb dX7_reads_62 (by decide) (fun _ => ?_) (fun h => absurd (by decide) h)
        refine lv_iload_n hx hb dX7_reads_98 rfl (lv_at hl 1 rfl) ?_
        refine lv_if_eq (tgt := 115) hx hb dX7_reads_99 (by decide) (fun h => absurd h (by decide)) (fun _ => ?_)
        refine lv_aload_n hx hb dX7_reads_102 rfl (lv_at hl 3 rfl) ?_
        refine lv_bipush (v := 59) hx hb dX7_reads_103 (by decide) ?_
        by_cases g3 : sp_X7_isAt tx T (p9 + 1 + (dg tx T (p9 + 1)).1) 59 59 = 0
        · skip
          refine r_callV X hw (ws' := mW D L s pa P ru td ah sh n0 tx (nI T) (upd nu 0 (dg tx T (p9 + 1)).2) (nI (p9 + 1 + (dg tx T (p9 + 1)).1)) fo re ca os (tx p9) spa he) (As := [.int 59]) (rest := []) lk_X7_193 (c_X7_sign0 l D _ L s pa P ru td ah sh n0 tx T (upd nu 0 (dg tx T (p9 + 1)).2) (p9 + 1 + (dg tx T (p9 + 1)).1) fo re ca os (tx p9) spa he (by omega) (by omega) 59 g3) Foc.all (m_at 0 rfl) rfl hl.1 (Nat.le_of_ble_eq_true rfl) ⟨Nat.le_of_ble_eq_true rfl, Nat.le_of_ble_eq_true rfl⟩ rfl dX7_reads_105 ⟨Nat.le_refl _, Nat.le_refl _⟩ (fun H locs hw => ?_)
          refine lv_if_eq (tgt := 115) hx hb dX7_reads_108 (by decide) (fun _ => ?_) (fun h => absurd (by decide) h)
          refine lv_iconst (v := 0) hx hb dX7_reads_115 (by decide) ?_
          exact r_ret X hw hk hret rfl (by unfold rdR; rw [hm2]; simp [prs, sep, g2, g3]) (by unfold rdR; rw [hm2, hod]; simp [prs, sep, g2, g3]) dX7_reads_116
        · skip
          have hbg3 := isAt_lt g3
          refine r_callV X hw (ws' := mW D L s pa P ru td ah sh n0 tx (nI T) (upd nu 0 (dg tx T (p9 + 1)).2) (nI (p9 + 1 + (dg tx T (p9 + 1)).1 + 1)) fo re ca os (tx p9) spa he) (As := [.int 59]) (rest := []) lk_X7_193 (c_X7_sign1 l D _ L s pa P ru td ah sh n0 tx T (upd nu 0 (dg tx T (p9 + 1)).2) (p9 + 1 + (dg tx T (p9 + 1)).1) fo re ca os (tx p9) spa he (by omega) (by omega) 59 g3) Foc.all (m_at 0 rfl) rfl hl.1 (Nat.le_of_ble_eq_true rfl) ⟨Nat.le_of_ble_eq_true rfl, Nat.le_of_ble_eq_true rfl⟩ rfl dX7_reads_105 ⟨Nat.le_refl _, Nat.le_refl _⟩ (fun H locs hw => ?_)
          refine lv_if_eq (tgt := 115) hx hb dX7_reads_108 (by decide) (fun h => absurd h (by decide)) (fun _ => ?_)
          refine lv_iconst (v := 1) hx hb dX7_reads_111 (by decide) ?_
          refine lv_goto (tgt := 116) hx hb dX7_reads_112 (by decide) ?_
          exact r_ret X hw hk hret rfl (by unfold rdR; rw [hm2]; simp [prs, sep, g2, g3]) (by unfold rdR; rw [hm2, hod]; simp [prs, sep, g2, g3]) dX7_reads_116
    · skip
      rw [hm] at hl
      have hm2 : nbN (rdO tx T p9) = 2 := by rw [hod]; unfold nbN; rw [hm]; decide
      refine lv_iload_n hx hb dX7_reads_36 rfl (lv_at hl 0 rfl) ?_
      refine lv_if_ne (tgt := 42) hx hb dX7_reads_37 (by decide) (fun _ => ?_) (fun h => absurd h (by decide))
      refine lv_aload_n hx hb dX7_reads_42 rfl (lv_at hl 1 rfl) ?_
      refine lv_dup hx hb dX7_reads_43 rfl ?_
      refine r_get X hw (v := .int (nI p9)) fl_X7_177 (m_at 0 rfl) rfl dX7_reads_44 ?_
      refine lv_iconst (v := 1) hx hb dX7_reads_47 (by decide) ?_
      refine r_addN hx hb p9 1 rfl rfl dX7_reads_48 ?_
      refine r_puti X hw (ws' := mW D L s pa P ru td ah sh n0 tx (nI T) nu (nI (p9 + 1)) fo re ca os (tx p9) spa he) fp_X7_177 (Nat.le_of_ble_eq_true rfl) (Foc.cell 0 rfl rfl (ce rfl (ce rfl (ce rfl (ce rfl (ce rfl (ce rfl (ce rfl (ce rfl (ce rfl rfl)))))))))) dX7_reads_49 (fun H locs hw => ?_)
      refine lv_aload_n hx hb dX7_reads_52 rfl (lv_at hl 1 rfl) ?_
      refine lv_iconst (v := 0) hx hb dX7_reads_53 (by decide) ?_
      by_cases g4 : (dg tx T (p9 + 1)).1 = 0
      · skip
        have hbg4 := dg_le tx hT (show (p9 + 1) ≤ 60 from by omega)
        refine r_callV X hw (ws' := mW D L s pa P ru td ah sh n0 tx (nI T) (upd nu 0 (dg tx T (p9 + 1)).2) (nI (p9 + 1 + (dg tx T (p9 + 1)).1)) fo re ca os (tx p9) spa he) (As := [.int 0]) (rest := []) lk_X7_190 (c_X7_numbered0 l D _ L s pa P ru td ah sh n0 tx T nu (p9 + 1) fo re ca os (tx p9) spa he (by omega) (by omega) 0 (by omega) g4) Foc.all (m_at 0 rfl) rfl hl.1 (Nat.le_of_ble_eq_true rfl) ⟨Nat.le_of_ble_eq_true rfl, Nat.le_of_ble_eq_true rfl⟩ rfl dX7_reads_54 ⟨Nat.le_refl _, Nat.le_refl _⟩ (fun H locs hw => ?_)
        refine lv_istore_n (lv' := [(2, .int 0), (1, .int 2), (0, .ref (L 0))]) hx hb dX7_reads_57 rfl hl (by decide) rfl (fun ls hl => ?_)
        refine lv_iconst (v := 1) hx hb dX7_reads_58 (by decide) ?_
        refine lv_istore_n (lv' := [(3, .int 1), (2, .int 0), (1, .int 2), (0, .ref (L 0))]) hx hb dX7_reads_59 rfl hl (by decide) rfl (fun ls hl => ?_)
        refine lv_iload_n hx hb dX7_reads_60 rfl (lv_at hl 0 rfl) ?_
        refine lv_iload_n hx hb dX7_reads_61 rfl (lv_at hl 2 rfl) ?_
        refine lv_icmp_ge (tgt := 98) hx hb dX7_reads_62 (by decide) (fun h => absurd h (by decide)) (fun _ => ?_)
        refine lv_iload_n hx hb dX7_reads_65 rfl (lv_at hl 1 rfl) ?_
        refine lv_if_eq (tgt := 98) hx hb dX7_reads_66 (by decide) (fun _ => ?_) (fun h => absurd (by decide) h)
        refine lv_iload_n hx hb dX7_reads_98 rfl (lv_at hl 1 rfl) ?_
        refine lv_if_eq (tgt := 115) hx hb dX7_reads_99 (by decide) (fun _ => ?_) (fun h => absurd (by decide) h)
        refine lv_iconst (v := 0) hx hb dX7_reads_115 (by decide) ?_
        exact r_ret X hw hk hret rfl (by unfold rdR; rw [hm2]; simp [prs, sep, g4]) (by unfold rdR; rw [hm2, hod]; simp [prs, sep, g4]) dX7_reads_116
      · skip
        have hbg4 := dg_le tx hT (show (p9 + 1) ≤ 60 from by omega)
        refine r_callV X hw (ws' := mW D L s pa P ru td ah sh n0 tx (nI T) (upd nu 0 (dg tx T (p9 + 1)).2) (nI (p9 + 1 + (dg tx T (p9 + 1)).1)) fo re ca os (tx p9) spa he) (As := [.int 0]) (rest := []) lk_X7_190 (c_X7_numbered1 l D _ L s pa P ru td ah sh n0 tx T nu (p9 + 1) fo re ca os (tx p9) spa he (by omega) (by omega) 0 (by omega) g4) Foc.all (m_at 0 rfl) rfl hl.1 (Nat.le_of_ble_eq_true rfl) ⟨Nat.le_of_ble_eq_true rfl, Nat.le_of_ble_eq_true rfl⟩ rfl dX7_reads_54 ⟨Nat.le_refl _, Nat.le_refl _⟩ (fun H locs hw => ?_)
        refine lv_istore_n (lv' := [(2, .int 1), (1, .int 2), (0, .ref (L 0))]) hx hb dX7_reads_57 rfl hl (by decide) rfl (fun ls hl => ?_)
        refine lv_iconst (v := 1) hx hb dX7_reads_58 (by decide) ?_
        refine lv_istore_n (lv' := [(3, .int 1), (2, .int 1), (1, .int 2), (0, .ref (L 0))]) hx hb dX7_reads_59 rfl hl (by decide) rfl (fun ls hl => ?_)
        refine lv_iload_n hx hb dX7_reads_60 rfl (lv_at hl 0 rfl) ?_
        refine lv_iload_n hx hb dX7_reads_61 rfl (lv_at hl 2 rfl) ?_
        refine lv_icmp_ge (tgt := 98) hx hb dX7_reads_62 (by decide) (fun h => absurd h (by decide)) (fun _ => ?_)
        refine lv_iload_n hx hb dX7_reads_65 rfl (lv_at hl 1 rfl) ?_
        refine lv_if_eq (tgt := 98) hx hb dX7_reads_66 (by decide) (fun h => absurd h (by decide)) (fun _ => ?_)
        refine lv_aload_n hx hb dX7_reads_69 rfl (lv_at hl 3 rfl) ?_
        refine lv_bipush (v := 44) hx hb dX7_reads_70 (by decide) ?_
        by_cases g5 : sp_X7_isAt tx T (p9 + 1 + (dg tx T (p9 + 1)).1) 44 44 = 0
        · skip
          refine r_callV X hw (ws' := mW D L s pa P ru td ah sh n0 tx (nI T) (upd nu 0 (dg tx T (p9 + 1)).2) (nI (p9 + 1 + (dg tx T (p9 + 1)).1)) fo re ca os (tx p9) spa he) (As := [.int 44]) (rest := []) lk_X7_193 (c_X7_sign0 l D _ L s pa P ru td ah sh n0 tx T (upd nu 0 (dg tx T (p9 + 1)).2) (p9 + 1 + (dg tx T (p9 + 1)).1) fo re ca os (tx p9) spa he (by omega) (by omega) 44 g5) Foc.all (m_at 0 rfl) rfl hl.1 (Nat.le_of_ble_eq_true rfl) ⟨Nat.le_of_ble_eq_true rfl, Nat.le_of_ble_eq_true rfl⟩ rfl dX7_reads_72 ⟨Nat.le_refl _, Nat.le_refl _⟩ (fun H locs hw => ?_)
          refine lv_if_eq (tgt := 90) hx hb dX7_reads_75 (by decide) (fun _ => ?_) (fun h => absurd (by decide) h)
          refine lv_iconst (v := 0) hx hb dX7_reads_90 (by decide) ?_
          refine lv_istore_n (lv' := [(2, .int 0), (3, .int 1), (1, .int 2), (0, .ref (L 0))]) hx hb dX7_reads_91 rfl hl (by decide) rfl (fun ls hl => ?_)
          refine r_iincN (lv' := [(3, .int 2), (2, .int 0), (1, .int 2), (0, .ref (L 0))]) hx hb 1 1 rfl dX7_reads_92 hl (k := 1) rfl rfl (by decide) rfl (fun ls hl => ?_)
          refine lv_goto (tgt := 60) hx hb dX7_reads_95 (by decide) ?_
          refine lv_iload_n hx hb dX7_reads_60 rfl (lv_at hl 0 rfl) ?_
          refine lv_iload_n hx hb dX7_reads_61 rfl (lv_at hl 2 rfl) ?_
          refine lv_icmp_ge (tgt := 98) hx hb dX7_reads_62 (by decide) (fun _ => ?_) (fun h => absurd (by decide) h)
          refine lv_iload_n hx hb dX7_reads_98 rfl (lv_at hl 1 rfl) ?_
          refine lv_if_eq (tgt := 115) hx hb dX7_reads_99 (by decide) (fun _ => ?_) (fun h => absurd (by decide) h)
          refine lv_iconst (v := 0) hx hb dX7_reads_115 (by decide) ?_
          exact r_ret X hw hk hret rfl (by unfold rdR; rw [hm2]; simp [prs, sep, g4, g5]) (by unfold rdR; rw [hm2, hod]; simp [prs, sep, g4, g5]) dX7_reads_116
        · skip
          have hbg5 := isAt_lt g5
          refine r_callV X hw (ws' := mW D L s pa P ru td ah sh n0 tx (nI T) (upd nu 0 (dg tx T (p9 + 1)).2) (nI (p9 + 1 + (dg tx T (p9 + 1)).1 + 1)) fo re ca os (tx p9) spa he) (As := [.int 44]) (rest := []) lk_X7_193 (c_X7_sign1 l D _ L s pa P ru td ah sh n0 tx T (upd nu 0 (dg tx T (p9 + 1)).2) (p9 + 1 + (dg tx T (p9 + 1)).1) fo re ca os (tx p9) spa he (by omega) (by omega) 44 g5) Foc.all (m_at 0 rfl) rfl hl.1 (Nat.le_of_ble_eq_true rfl) ⟨Nat.le_of_ble_eq_true rfl, Nat.le_of_ble_eq_true rfl⟩ rfl dX7_reads_72 ⟨Nat.le_refl _, Nat.le_refl _⟩ (fun H locs hw => ?_)
          refine lv_if_eq (tgt := 90) hx hb dX7_reads_75 (by decide) (fun h => absurd h (by decide)) (fun _ => ?_)
          refine lv_aload_n hx hb dX7_reads_78 rfl (lv_at hl 3 rfl) ?_
          refine lv_iload_n hx hb dX7_reads_79 rfl (lv_at hl 0 rfl) ?_
          by_cases g6 : (dg tx T (p9 + 1 + (dg tx T (p9 + 1)).1 + 1)).1 = 0
          · skip
            have hbg6 := dg_le tx hT (show (p9 + 1 + (dg tx T (p9 + 1)).1 + 1) ≤ 60 from by omega)
            refine r_callV X hw (ws' := mW D L s pa P ru td ah sh n0 tx (nI T) (upd (upd nu 0 (dg tx T (p9 + 1)).2) 1 (dg tx T (p9 + 1 + (dg tx T (p9 + 1)).1 + 1)).2) (nI (p9 + 1 + (dg tx T (p9 + 1)).1 + 1 + (dg tx T (p9 + 1 + (dg tx T (p9 + 1)).1 + 1)).1)) fo re ca os (tx p9) spa he) (As := [.int 1]) (rest := []) lk_X7_190 (c_X7_numbered0 l D _ L s pa P ru td ah sh n0 tx T (upd nu 0 (dg tx T (p9 + 1)).2) (p9 + 1 + (dg tx T (p9 + 1)).1 + 1) fo re ca os (tx p9) spa he (by omega) (by omega) 1 (by omega) g6) Foc.all (m_at 0 rfl) rfl hl.1 (Nat.le_of_ble_eq_true rfl) ⟨Nat.le_of_ble_eq_true rfl, Nat.le_of_ble_eq_true rfl⟩ rfl dX7_reads_80 ⟨Nat.le_refl _, Nat.le_refl _⟩ (fun H locs hw => ?_)
            refine lv_if_eq (tgt := 90) hx hb dX7_reads_83 (by decide) (fun _ => ?_) (fun h => absurd (by decide) h)
            refine lv_iconst (v := 0) hx hb dX7_reads_90 (by decide) ?_
            refine lv_istore_n (lv' := [(2, .int 0), (3, .int 1), (1, .int 2), (0, .ref (L 0))]) hx hb dX7_reads_91 rfl hl (by decide) rfl (fun ls hl => ?_)
            refine r_iincN (lv' := [(3, .int 2), (2, .int 0), (1, .int 2), (0, .ref (L 0))]) hx hb 1 1 rfl dX7_reads_92 hl (k := 1) rfl rfl (by decide) rfl (fun ls hl => ?_)
            refine lv_goto (tgt := 60) hx hb dX7_reads_95 (by decide) ?_
            refine lv_iload_n hx hb dX7_reads_60 rfl (lv_at hl 0 rfl) ?_
            refine lv_iload_n hx hb dX7_reads_61 rfl (lv_at hl 2 rfl) ?_
            refine lv_icmp_ge (tgt := 98) hx hb dX7_reads_62 (by decide) (fun _ => ?_) (fun h => absurd (by decide) h)
            refine lv_iload_n hx hb dX7_reads_98 rfl (lv_at hl 1 rfl) ?_
            refine lv_if_eq (tgt := 115) hx hb dX7_reads_99 (by decide) (fun _ => ?_) (fun h => absurd (by decide) h)
            refine lv_iconst (v := 0) hx hb dX7_reads_115 (by decide) ?_
            exact r_ret X hw hk hret rfl (by unfold rdR; rw [hm2]; simp [prs, sep, g4, g5, g6]) (by unfold rdR; rw [hm2, hod]; simp [prs, sep, g4, g5, g6]) dX7_reads_116
          · skip
            have hbg6 := dg_le tx hT (show (p9 + 1 + (dg tx T (p9 + 1)).1 + 1) ≤ 60 from by omega)
            refine r_callV X hw (ws' := mW D L s pa P ru td ah sh n0 tx (nI T) (upd (upd nu 0 (dg tx T (p9 + 1)).2) 1 (dg tx T (p9 + 1 + (dg tx T (p9 + 1)).1 + 1)).2) (nI (p9 + 1 + (dg tx T (p9 + 1)).1 + 1 + (dg tx T (p9 + 1 + (dg tx T (p9 + 1)).1 + 1)).1)) fo re ca os (tx p9) spa he) (As := [.int 1]) (rest := []) lk_X7_190 (c_X7_numbered1 l D _ L s pa P ru td ah sh n0 tx T (upd nu 0 (dg tx T (p9 + 1)).2) (p9 + 1 + (dg tx T (p9 + 1)).1 + 1) fo re ca os (tx p9) spa he (by omega) (by omega) 1 (by omega) g6) Foc.all (m_at 0 rfl) rfl hl.1 (Nat.le_of_ble_eq_true rfl) ⟨Nat.le_of_ble_eq_true rfl, Nat.le_of_ble_eq_true rfl⟩ rfl dX7_reads_80 ⟨Nat.le_refl _, Nat.le_refl _⟩ (fun H locs hw => ?_)
            refine lv_if_eq (tgt := 90) hx hb dX7_reads_83 (by decide) (fun h => absurd h (by decide)) (fun _ => ?_)
            refine lv_iconst (v := 1) hx hb dX7_reads_86 (by decide) ?_
            refine lv_goto (tgt := 91) hx hb dX7_reads_87 (by decide) ?_
            refine lv_istore_n (lv' := [(2, .int 1), (3, .int 1), (1, .int 2), (0, .ref (L 0))]) hx hb dX7_reads_91 rfl hl (by decide) rfl (fun ls hl => ?_)
            refine r_iincN (lv' := [(3, .int 2), (2, .int 1), (1, .int 2), (0, .ref (L 0))]) hx hb 1 1 rfl dX7_reads_92 hl (k := 1) rfl rfl (by decide) rfl (fun ls hl => ?_)
            refine lv_goto (tgt := 60) hx hb dX7_reads_95 (by decide) ?_
            refine lv_iload_n hx hb dX7_reads_60 rfl (lv_at hl 0 rfl) ?_
            refine lv_iload_n hx hb dX7_reads_61 rfl (lv_at hl 2 rfl) ?_
            refine lv_icmp_ge (tgt := 98) hx hb dX7_reads_62 (by decide) (fun _ => ?_) (fun h => absurd (by decide) h)
            refine lv_iload_n hx hb dX7_reads_98 rfl (lv_at hl 1 rfl) ?_
            refine lv_if_eq (tgt := 115) hx hb dX7_reads_99 (by decide) (fun h => absurd h (by decide)) (fun _ => ?_)
            refine lv_aload_n hx hb dX7_reads_102 rfl (lv_at hl 3 rfl) ?_
            refine lv_bipush (v := 59) hx hb dX7_reads_103 (by decide) ?_
            by_cases g7 : sp_X7_isAt tx T (p9 + 1 + (dg tx T (p9 + 1)).1 + 1 + (dg tx T (p9 + 1 + (dg tx T (p9 + 1)).1 + 1)).1) 59 59 = 0
            · skip
              refine r_callV X hw (ws' := mW D L s pa P ru td ah sh n0 tx (nI T) (upd (upd nu 0 (dg tx T (p9 + 1)).2) 1 (dg tx T (p9 + 1 + (dg tx T (p9 + 1)).1 + 1)).2) (nI (p9 + 1 + (dg tx T (p9 + 1)).1 + 1 + (dg tx T (p9 + 1 + (dg tx T (p9 + 1)).1 + 1)).1)) fo re ca os (tx p9) spa he) (As := [.int 59]) (rest := []) lk_X7_193 (c_X7_sign0 l D _ L s pa P ru td ah sh n0 tx T (upd (upd nu 0 (dg tx T (p9 + 1)).2) 1 (dg tx T (p9 + 1 + (dg tx T (p9 + 1)).1 + 1)).2) (p9 + 1 + (dg tx T (p9 + 1)).1 + 1 + (dg tx T (p9 + 1 + (dg tx T (p9 + 1)).1 + 1)).1) fo re ca os (tx p9) spa he (by omega) (by omega) 59 g7) Foc.all (m_at 0 rfl) rfl hl.1 (Nat.le_of_ble_eq_true rfl) ⟨Nat.le_of_ble_eq_true rfl, Nat.le_of_ble_eq_true rfl⟩ rfl dX7_reads_105 ⟨Nat.le_refl _, Nat.le_refl _⟩ (fun H locs hw => ?_)
              refine lv_if_eq (tgt := 115) hx hb dX7_reads_108 (by decide) (fun _ => ?_) (fun h => absurd (by decide) h)
              refine lv_iconst (v := 0) hx hb dX7_reads_115 (by decide) ?_
              exact r_ret X hw hk hret rfl (by unfold rdR; rw [hm2]; simp [prs, sep, g4, g5, g6, g7]) (by unfold rdR; rw [hm2, hod]; simp [prs, sep, g4, g5, g6, g7]) dX7_reads_116
            · skip
              have hbg7 := isAt_lt g7
              refine r_callV X hw (ws' := mW D L s pa P ru td ah sh n0 tx (nI T) (upd (upd nu 0 (dg tx T (p9 + 1)).2) 1 (dg tx T (p9 + 1 + (dg tx T (p9 + 1)).1 + 1)).2) (nI (p9 + 1 + (dg tx T (p9 + 1)).1 + 1 + (dg tx T (p9 + 1 + (dg tx T (p9 + 1)).1 + 1)).1 + 1)) fo re ca os (tx p9) spa he) (As := [.int 59]) (rest := []) lk_X7_193 (c_X7_sign1 l D _ L s pa P ru td ah sh n0 tx T (upd (upd nu 0 (dg tx T (p9 + 1)).2) 1 (dg tx T (p9 + 1 + (dg tx T (p9 + 1)).1 + 1)).2) (p9 + 1 + (dg tx T (p9 + 1)).1 + 1 + (dg tx T (p9 + 1 + (dg tx T (p9 + 1)).1 + 1)).1) fo re ca os (tx p9) spa he (by omega) (by omega) 59 g7) Foc.all (m_at 0 rfl) rfl hl.1 (Nat.le_of_ble_eq_true rfl) ⟨Nat.le_of_ble_eq_true rfl, Nat.le_of_ble_eq_true rfl⟩ rfl dX7_reads_105 ⟨Nat.le_refl _, Nat.le_refl _⟩ (fun H locs hw => ?_)
              refine lv_if_eq (tgt := 115) hx hb dX7_reads_108 (by decide) (fun h => absurd h (by decide)) (fun _ => ?_)
              refine lv_iconst (v := 1) hx hb dX7_reads_111 (by decide) ?_
              refine lv_goto (tgt := 116) hx hb dX7_reads_112 (by decide) ?_
              exact r_ret X hw hk hret rfl (by unfold rdR; rw [hm2]; simp [prs, sep, g4, g5, g6, g7]) (by unfold rdR; rw [hm2, hod]; simp [prs, sep, g4, g5, g6, g7]) dX7_reads_116
    · skip
      rw [hm] at hl
      have hm2 : nbN (rdO tx T p9) = 3 := by rw [hod]; unfold nbN; rw [hm]; decide
      refine lv_iload_n hx hb dX7_reads_36 rfl (lv_at hl 0 rfl) ?_
      refine lv_if_ne (tgt := 42) hx hb dX7_reads_37 (by decide) (fun _ => ?_) (fun h => absurd h (by decide))
      refine lv_aload_n hx hb dX7_reads_42 rfl (lv_at hl 1 rfl) ?_
      refine lv_dup hx hb dX7_reads_43 rfl ?_
      refine r_get X hw (v := .int (nI p9)) fl_X7_177 (m_at 0 rfl) rfl dX7_reads_44 ?_
      refine lv_iconst (v := 1) hx hb dX7_reads_47 (by decide) ?_
      refine r_addN hx hb p9 1 rfl rfl dX7_reads_48 ?_
      refine r_puti X hw (ws' := mW D L s pa P ru td ah sh n0 tx (nI T) nu (nI (p9 + 1)) fo re ca os (tx p9) spa he) fp_X7_177 (Nat.le_of_ble_eq_true rfl) (Foc.cell 0 rfl rfl (ce rfl (ce rfl (ce rfl (ce rfl (ce rfl (ce rfl (ce rfl (ce rfl (ce rfl rfl)))))))))) dX7_reads_49 (fun H locs hw => ?_)
      refine lv_aload_n hx hb dX7_reads_52 rfl (lv_at hl 1 rfl) ?_
      refine lv_iconst (v := 0) hx hb dX7_reads_53 (by decide) ?_
      by_cases g8 : (dg tx T (p9 + 1)).1 = 0
      · skip
        have hbg8 := dg_le tx hT (show (p9 + 1) ≤ 60 from by omega)
        refine r_callV X hw (ws' := mW D L s pa P ru td ah sh n0 tx (nI T) (upd nu 0 (dg tx T (p9 + 1)).2) (nI (p9 + 1 + (dg tx T (p9 + 1)).1)) fo re ca os (tx p9) spa he) (As := [.int 0]) (rest := []) lk_X7_190 (c_X7_numbered0 l D _ L s pa P ru td ah sh n0 tx T nu (p9 + 1) fo re ca os (tx p9) spa he (by omega) (by omega) 0 (by omega) g8) Foc.all (m_at 0 rfl) rfl hl.1 (Nat.le_of_ble_eq_true rfl) ⟨Nat.le_of_ble_eq_true rfl, Nat.le_of_ble_eq_true rfl⟩ rfl dX7_reads_54 ⟨Nat.le_refl _, Nat.le_refl _⟩ (fun H locs hw => ?_)
        refine lv_istore_n (lv' := [(2, .int 0), (1, .int 3), (0, .ref (L 0))]) hx hb dX7_reads_57 rfl hl (by decide) rfl (fun ls hl => ?_)
        refine lv_iconst (v := 1) hx hb dX7_reads_58 (by decide) ?_
        refine lv_istore_n (lv' := [(3, .int 1), (2, .int 0), (1, .int 3), (0, .ref (L 0))]) hx hb dX7_reads_59 rfl hl (by decide) rfl (fun ls hl => ?_)
        refine lv_iload_n hx hb dX7_reads_60 rfl (lv_at hl 0 rfl) ?_
        refine lv_iload_n hx hb dX7_reads_61 rfl (lv_at hl 2 rfl) ?_
        refine lv_icmp_ge (tgt := 98) hx hb dX7_reads_62 (by decide) (fun h => absurd h (by decide)) (fun _ => ?_)
        refine lv_iload_n hx hb dX7_reads_65 rfl (lv_at hl 1 rfl) ?_
        refine lv_if_eq (tgt := 98) hx hb dX7_reads_66 (by decide) (fun _ => ?_) (fun h => absurd (by decide) h)
        refine lv_iload_n hx hb dX7_reads_98 rfl (lv_at hl 1 rfl) ?_
        refine lv_if_eq (tgt := 115) hx hb dX7_reads_99 (by decide) (fun _ => ?_) (fun h => absurd (by decide) h)
        refine lv_iconst (v := 0) hx hb dX7_reads_115 (by decide) ?_
        exact r_ret X hw hk hret rfl (by unfold rdR; rw [hm2]; simp [prs, sep, g8]) (by unfold rdR; rw [hm2, hod]; simp [prs, sep, g8]) dX7_reads_116
      · skip
        have hbg8 := dg_le tx hT (show (p9 + 1) ≤ 60 from by omega)
        refine r_callV X hw (ws' := mW D L s pa P ru td ah sh n0 tx (nI T) (upd nu 0 (dg tx T (p9 + 1)).2) (nI (p9 + 1 + (dg tx T (p9 + 1)).1)) fo re ca os (tx p9) spa he) (As := [.int 0]) (rest := []) lk_X7_190 (c_X7_numbered1 l D _ L s pa P ru td ah sh n0 tx T nu (p9 + 1) fo re ca os (tx p9) spa he (by omega) (by omega) 0 (by omega) g8) Foc.all (m_at 0 rfl) rfl hl.1 (Nat.le_of_ble_eq_true rfl) ⟨Nat.le_of_ble_eq_true rfl, Nat.le_of_ble_eq_true rfl⟩ rfl dX7_reads_54 ⟨Nat.le_refl _, Nat.le_refl _⟩ (fun H locs hw => ?_)
        refine lv_istore_n (lv' := [(2, .int 1), (1, .int 3), (0, .ref (L 0))]) hx hb dX7_reads_57 rfl hl (by decide) rfl (fun ls hl => ?_)
        refine lv_iconst (v := 1) hx hb dX7_reads_58 (by decide) ?_
        refine lv_istore_n (lv' := [(3, .int 1), (2, .int 1), (1, .int 3), (0, .ref (L 0))]) hx hb dX7_reads_59 rfl hl (by decide) rfl (fun ls hl => ?_)
        refine lv_iload_n hx hb dX7_reads_60 rfl (lv_at hl 0 rfl) ?_
        refine lv_iload_n hx hb dX7_reads_61 rfl (lv_at hl 2 rfl) ?_
        refine lv_icmp_ge (tgt := 98) hx hb dX7_reads_62 (by decide) (fun h => absurd h (by decide)) (fun _ => ?_)
        refine lv_iload_n hx hb dX7_reads_65 rfl (lv_at hl 1 rfl) ?_
        refine lv_if_eq (tgt := 98) hx hb dX7_reads_66 (by decide) (fun h => absurd h (by decide)) (fun _ => ?_)
        refine lv_aload_n hx hb dX7_reads_69 rfl (lv_at hl 3 rfl) ?_
        refine lv_bipush (v := 44) hx hb dX7_reads_70 (by decide) ?_
        by_cases g9 : sp_X7_isAt tx T (p9 + 1 + (dg tx T (p9 + 1)).1) 44 44 = 0
        · skip
          refine r_callV X hw (ws' := mW D L s pa P ru td ah sh n0 tx (nI T) (upd nu 0 (dg tx T (p9 + 1)).2) (nI (p9 + 1 + (dg tx T (p9 + 1)).1)) fo re ca os (tx p9) spa he) (As := [.int 44]) (rest := []) lk_X7_193 (c_X7_sign0 l D _ L s pa P ru td ah sh n0 tx T (upd nu 0 (dg tx T (p9 + 1)).2) (p9 + 1 + (dg tx T (p9 + 1)).1) fo re ca os (tx p9) spa he (by omega) (by omega) 44 g9) Foc.all (m_at 0 rfl) rfl hl.1 (Nat.le_of_ble_eq_true rfl) ⟨Nat.le_of_ble_eq_true rfl, Nat.le_of_ble_eq_true rfl⟩ rfl dX7_reads_72 ⟨Nat.le_refl _, Nat.le_refl _⟩ (fun H locs hw => ?_)
          refine lv_if_eq (tgt := 90) hx hb dX7_reads_75 (by decide) (fun _ => ?_) (fun h => absurd (by decide) h)
          refine lv_iconst (v := 0) hx hb dX7_reads_90 (by decide) ?_
          refine lv_istore_n (lv' := [(2, .int 0), (3, .int 1), (1, .int 3), (0, .ref (L 0))]) hx hb dX7_reads_91 rfl hl (by decide) rfl (fun ls hl => ?_)
          refine r_iincN (lv' := [(3, .int 2), (2, .int 0), (1, .int 3), (0, .ref (L 0))]) hx hb 1 1 rfl dX7_reads_92 hl (k := 1) rfl rfl (by decide) rfl (fun ls hl => ?_)
          refine lv_goto (tgt := 60) hx hb dX7_reads_95 (by decide) ?_
          refine lv_iload_n hx hb dX7_reads_60 rfl (lv_at hl 0 rfl) ?_
          refine lv_iload_n hx hb dX7_reads_61 rfl (lv_at hl 2 rfl) ?_
          refine lv_icmp_ge (tgt := 98) hx hb dX7_reads_62 (by decide) (fun h => absurd h (by decide)) (fun _ => ?_)
          refine lv_iload_n hx hb dX7_reads_65 rfl (lv_at hl 1 rfl) ?_
          refine lv_if_eq (tgt := 98) hx hb dX7_reads_66 (by decide) (fun _ => ?_) (fun h => absurd (by decide) h)
          refine lv_iload_n hx hb dX7_reads_98 rfl (lv_at hl 1 rfl) ?_
          refine lv_if_eq (tgt := 115) hx hb dX7_reads_99 (by decide) (fun _ => ?_) (fun h => absurd (by decide) h)
          refine lv_iconst (v := 0) hx hb dX7_reads_115 (by decide) ?_
          exact r_ret X hw hk hret rfl (by unfold rdR; rw [hm2]; simp [prs, sep, g8, g9]) (by unfold rdR; rw [hm2, hod]; simp [prs, sep, g8, g9]) dX7_reads_116
        · skip
          have hbg9 := isAt_lt g9
          refine r_callV X hw (ws' := mW D L s pa P ru td ah sh n0 tx (nI T) (upd nu 0 (dg tx T (p9 + 1)).2) (nI (p9 + 1 + (dg tx T (p9 + 1)).1 + 1)) fo re ca os (tx p9) spa he) (As := [.int 44]) (rest := []) lk_X7_193 (c_X7_sign1 l D _ L s pa P ru td ah sh n0 tx T (upd nu 0 (dg tx T (p9 + 1)).2) (p9 + 1 + (dg tx T (p9 + 1)).1) fo re ca os (tx p9) spa he (by omega) (by omega) 44 g9) Foc.all (m_at 0 rfl) rfl hl.1 (Nat.le_of_ble_eq_true rfl) ⟨Nat.le_of_ble_eq_true rfl, Nat.le_of_ble_eq_true rfl⟩ rfl dX7_reads_72 ⟨Nat.le_refl _, Nat.le_refl _⟩ (fun H locs hw => ?_)
          refine lv_if_eq (tgt := 90) hx hb dX7_reads_75 (by decide) (fun h => absurd h (by decide)) (fun _ => ?_)
          refine lv_aload_n hx hb dX7_reads_78 rfl (lv_at hl 3 rfl) ?_
          refine lv_iload_n hx hb dX7_reads_79 rfl (lv_at hl 0 rfl) ?_
          by_cases g10 : (dg tx T (p9 + 1 + (dg tx T (p9 + 1)).1 + 1)).1 = 0
          · skip
            have hbg10 := dg_le tx hT (show (p9 + 1 + (dg tx T (p9 + 1)).1 + 1) ≤ 60 from by omega)
            refine r_callV X hw (ws' := mW D L s pa P ru td ah sh n0 tx (nI T) (upd (upd nu 0 (dg tx T (p9 + 1)).2) 1 (dg tx T (p9 + 1 + (dg tx T (p9 + 1)).1 + 1)).2) (nI (p9 + 1 + (dg tx T (p9 + 1)).1 + 1 + (dg tx T (p9 + 1 + (dg tx T (p9 + 1)).1 + 1)).1)) fo re ca os (tx p9) spa he) (As := [.int 1]) (rest := []) lk_X7_190 (c_X7_numbered0 l D _ L s pa P ru td ah sh n0 tx T (upd nu 0 (dg tx T (p9 + 1)).2) (p9 + 1 + (dg tx T (p9 + 1)).1 + 1) fo re ca os (tx p9) spa he (by omega) (by omega) 1 (by omega) g10) Foc.all (m_at 0 rfl) rfl hl.1 (Nat.le_of_ble_eq_true rfl) ⟨Nat.le_of_ble_eq_true rfl, Nat.le_of_ble_eq_true rfl⟩ rfl dX7_reads_80 ⟨Nat.le_refl _, Nat.le_refl _⟩ (fun H locs hw => ?_)
            refine lv_if_eq (tgt := 90) hx hb dX7_reads_83 (by decide) (fun _ => ?_) (fun h => absurd (by decide) h)
            refine lv_iconst (v := 0) hx hb dX7_reads_90 (by decide) ?_
            refine lv_istore_n (lv' := [(2, .int 0), (3, .int 1), (1, .int 3), (0, .ref (L 0))]) hx hb dX7_reads_91 rfl hl (by decide) rfl (fun ls hl => ?_)
            refine r_iincN (lv' := [(3, .int 2), (2, .int 0), (1, .int 3), (0, .ref (L 0))]) hx hb 1 1 rfl dX7_reads_92 hl (k := 1) rfl rfl (by decide) rfl (fun ls hl => ?_)
            refine lv_goto (tgt := 60) hx hb dX7_reads_95 (by decide) ?_
            refine lv_iload_n hx hb dX7_reads_60 rfl (lv_at hl 0 rfl) ?_
            refine lv_iload_n hx hb dX7_reads_61 rfl (lv_at hl 2 rfl) ?_
            refine lv_icmp_ge (tgt := 98) hx hb dX7_reads_62 (by decide) (fun h => absurd h (by decide)) (fun _ => ?_)
            refine lv_iload_n hx hb dX7_reads_65 rfl (lv_at hl 1 rfl) ?_
            refine lv_if_eq (tgt := 98) hx hb dX7_reads_66 (by decide) (fun _ => ?_) (fun h => absurd (by decide) h)
            refine lv_iload_n hx hb dX7_reads_98 rfl (lv_at hl 1 rfl) ?_
            refine lv_if_eq (tgt := 115) hx hb dX7_reads_99 (by decide) (fun _ => ?_) (fun h => absurd (by decide) h)
            refine lv_iconst (v := 0) hx hb dX7_reads_115 (by decide) ?_
            exact r_ret X hw hk hret rfl (by unfold rdR; rw [hm2]; simp [prs, sep, g8, g9, g10]) (by unfold rdR; rw [hm2, hod]; simp [prs, sep, g8, g9, g10]) dX7_reads_116
          · skip
            have hbg10 := dg_le tx hT (show (p9 + 1 + (dg tx T (p9 + 1)).1 + 1) ≤ 60 from by omega)
            refine r_callV X hw (ws' := mW D L s pa P ru td ah sh n0 tx (nI T) (upd (upd nu 0 (dg tx T (p9 + 1)).2) 1 (dg tx T (p9 + 1 + (dg tx T (p9 + 1)).1 + 1)).2) (nI (p9 + 1 + (dg tx T (p9 + 1)).1 + 1 + (dg tx T (p9 + 1 + (dg tx T (p9 + 1)).1 + 1)).1)) fo re ca os (tx p9) spa he) (As := [.int 1]) (rest := []) lk_X7_190 (c_X7_numbered1 l D _ L s pa P ru td ah sh n0 tx T (upd nu 0 (dg tx T (p9 + 1)).2) (p9 + 1 + (dg tx T (p9 + 1)).1 + 1) fo re ca os (tx p9) spa he (by omega) (by omega) 1 (by omega) g10) Foc.all (m_at 0 rfl) rfl hl.1 (Nat.le_of_ble_eq_true rfl) ⟨Nat.le_of_ble_eq_true rfl, Nat.le_of_ble_eq_true rfl⟩ rfl dX7_reads_80 ⟨Nat.le_refl _, Nat.le_refl _⟩ (fun H locs hw => ?_)
            refine lv_if_eq (tgt := 90) hx hb dX7_reads_83 (by decide) (fun h => absurd h (by decide)) (fun _ => ?_)
            refine lv_iconst (v := 1) hx hb dX7_reads_86 (by decide) ?_
            refine lv_goto (tgt := 91) hx hb dX7_reads_87 (by decide) ?_
            refine lv_istore_n (lv' := [(2, .int 1), (3, .int 1), (1, .int 3), (0, .ref (L 0))]) hx hb dX7_reads_91 rfl hl (by decide) rfl (fun ls hl => ?_)
            refine r_iincN (lv' := [(3, .int 2), (2, .int 1), (1, .int 3), (0, .ref (L 0))]) hx hb 1 1 rfl dX7_reads_92 hl (k := 1) rfl rfl (by decide) rfl (fun ls hl => ?_)
            refine lv_goto (tgt := 60) hx hb dX7_reads_95 (by decide) ?_
            refine lv_iload_n hx hb dX7_reads_60 rfl (lv_at hl 0 rfl) ?_
            refine lv_iload_n hx hb dX7_reads_61 rfl (lv_at hl 2 rfl) ?_
            refine lv_icmp_ge (tgt := 98) hx hb dX7_reads_62 (by decide) (fun h => absurd h (by decide)) (fun _ => ?_)
            refine lv_iload_n hx hb dX7_reads_65 rfl (lv_at hl 1 rfl) ?_
            refine lv_if_eq (tgt := 98) hx hb dX7_reads_66 (by decide) (fun h => absurd h (by decide)) (fun _ => ?_)
            refine lv_aload_n hx hb dX7_reads_69 rfl (lv_at hl 3 rfl) ?_
            refine lv_bipush (v := 44) hx hb dX7_reads_70 (by decide) ?_
            by_cases g11 : sp_X7_isAt tx T (p9 + 1 + (dg tx T (p9 + 1)).1 + 1 + (dg tx T (p9 + 1 + (dg tx T (p9 + 1)).1 + 1)).1) 44 44 = 0
            · skip
              refine r_callV X hw (ws' := mW D L s pa P ru td ah sh n0 tx (nI T) (upd (upd nu 0 (dg tx T (p9 + 1)).2) 1 (dg tx T (p9 + 1 + (dg tx T (p9 + 1)).1 + 1)).2) (nI (p9 + 1 + (dg tx T (p9 + 1)).1 + 1 + (dg tx T (p9 + 1 + (dg tx T (p9 + 1)).1 + 1)).1)) fo re ca os (tx p9) spa he) (As := [.int 44]) (rest := []) lk_X7_193 (c_X7_sign0 l D _ L s pa P ru td ah sh n0 tx T (upd (upd nu 0 (dg tx T (p9 + 1)).2) 1 (dg tx T (p9 + 1 + (dg tx T (p9 + 1)).1 + 1)).2) (p9 + 1 + (dg tx T (p9 + 1)).1 + 1 + (dg tx T (p9 + 1 + (dg tx T (p9 + 1)).1 + 1)).1) fo re ca os (tx p9) spa he (by omega) (by omega) 44 g11) Foc.all (m_at 0 rfl) rfl hl.1 (Nat.le_of_ble_eq_true rfl) ⟨Nat.le_of_ble_eq_true rfl, Nat.le_of_ble_eq_true rfl⟩ rfl dX7_reads_72 ⟨Nat.le_refl _, Nat.le_refl _⟩ (fun H locs hw => ?_)
              refine lv_if_eq (tgt := 90) hx hb dX7_reads_75 (by decide) (fun _ => ?_) (fun h => absurd (by decide) h)
              refine lv_iconst (v := 0) hx hb dX7_reads_90 (by decide) ?_
              refine lv_istore_n (lv' := [(2, .int 0), (3, .int 2), (1, .int 3), (0, .ref (L 0))]) hx hb dX7_reads_91 rfl hl (by decide) rfl (fun ls hl => ?_)
              refine r_iincN (lv' := [(3, .int 3), (2, .int 0), (1, .int 3), (0, .ref (L 0))]) hx hb 2 1 rfl dX7_reads_92 hl (k := 1) rfl rfl (by decide) rfl (fun ls hl => ?_)
              refine lv_goto (tgt := 60) hx hb dX7_reads_95 (by decide) ?_
              refine lv_iload_n hx hb dX7_reads_60 rfl (lv_at hl 0 rfl) ?_
              refine lv_iload_n hx hb dX7_reads_61 rfl (lv_at hl 2 rfl) ?_
              refine lv_icmp_ge (tgt := 98) hx hb dX7_reads_62 (by decide) (fun _ => ?_) (fun h => absurd (by decide) h)
              refine lv_iload_n hx hb dX7_reads_98 rfl (lv_at hl 1 rfl) ?_
              refine lv_if_eq (tgt := 115) hx hb dX7_reads_99 (by decide) (fun _ => ?_) (fun h => absurd (by decide) h)
              refine lv_iconst (v := 0) hx hb dX7_reads_115 (by decide) ?_
              exact r_ret X hw hk hret rfl (by unfold rdR; rw [hm2]; simp [prs, sep, g8, g9, g10, g11]) (by unfold rdR; rw [hm2, hod]; simp [prs, sep, g8, g9, g10, g11]) dX7_reads_116
            · skip
              have hbg11 := isAt_lt g11
              refine r_callV X hw (ws' := mW D L s pa P ru td ah sh n0 tx (nI T) (upd (upd nu 0 (dg tx T (p9 + 1)).2) 1 (dg tx T (p9 + 1 + (dg tx T (p9 + 1)).1 + 1)).2) (nI (p9 + 1 + (dg tx T (p9 + 1)).1 + 1 + (dg tx T (p9 + 1 + (dg tx T (p9 + 1)).1 + 1)).1 + 1)) fo re ca os (tx p9) spa he) (As := [.int 44]) (rest := []) lk_X7_193 (c_X7_sign1 l D _ L s pa P ru td ah sh n0 tx T (upd (upd nu 0 (dg tx T (p9 + 1)).2) 1 (dg tx T (p9 + 1 + (dg tx T (p9 + 1)).1 + 1)).2) (p9 + 1 + (dg tx T (p9 + 1)).1 + 1 + (dg tx T (p9 + 1 + (dg tx T (p9 + 1)).1 + 1)).1) fo re ca os (tx p9) spa he (by omega) (by omega) 44 g11) Foc.all (m_at 0 rfl) rfl hl.1 (Nat.le_of_ble_eq_true rfl) ⟨Nat.le_of_ble_eq_true rfl, Nat.le_of_ble_eq_true rfl⟩ rfl dX7_reads_72 ⟨Nat.le_refl _, Nat.le_refl _⟩ (fun H locs hw => ?_)
              refine lv_if_eq (tgt := 90) hx hb dX7_reads_75 (by decide) (fun h => absurd h (by decide)) (fun _ => ?_)
              refine lv_aload_n hx hb dX7_reads_78 rfl (lv_at hl 3 rfl) ?_
              refine lv_iload_n hx hb dX7_reads_79 rfl (lv_at hl 0 rfl) ?_
              by_cases g12 : (dg tx T (p9 + 1 + (dg tx T (p9 + 1)).1 + 1 + (dg tx T (p9 + 1 + (dg tx T (p9 + 1)).1 + 1)).1 + 1)).1 = 0
              · skip
                have hbg12 := dg_le tx hT (show (p9 + 1 + (dg tx T (p9 + 1)).1 + 1 + (dg tx T (p9 + 1 + (dg tx T (p9 + 1)).1 + 1)).1 + 1) ≤ 60 from by omega)
                refine r_callV X hw (ws' := mW D L s pa P ru td ah sh n0 tx (nI T) (upd (upd (upd nu 0 (dg tx T (p9 + 1)).2) 1 (dg tx T (p9 + 1 + (dg tx T (p9 + 1)).1 + 1)).2) 2 (dg tx T (p9 + 1 + (dg tx T (p9 + 1)).1 + 1 + (dg tx T (p9 + 1 + (dg tx T (p9 + 1)).1 + 1)).1 + 1)).2) (nI (p9 + 1 + (dg tx T (p9 + 1)).1 + 1 + (dg tx T (p9 + 1 + (dg tx T (p9 + 1)).1 + 1)).1 + 1 + (dg tx T (p9 + 1 + (dg tx T (p9 + 1)).1 + 1 + (dg tx T (p9 + 1 + (dg tx T (p9 + 1)).1 + 1)).1 + 1)).1)) fo re ca os (tx p9) spa he) (As := [.int 2]) (rest := []) lk_X7_190 (c_X7_numbered0 l D _ L s pa P ru td ah sh n0 tx T (upd (upd nu 0 (dg tx T (p9 + 1)).2) 1 (dg tx T (p9 + 1 + (dg tx T (p9 + 1)).1 + 1)).2) (p9 + 1 + (dg tx T (p9 + 1)).1 + 1 + (dg tx T (p9 + 1 + (dg tx T (p9 + 1)).1 + 1)).1 + 1) fo re ca os (tx p9) spa he (by omega) (by omega) 2 (by omega) g12) Foc.all (m_at 0 rfl) rfl hl.1 (Nat.le_of_ble_eq_true rfl) ⟨Nat.le_of_ble_eq_true rfl, Nat.le_of_ble_eq_true rfl⟩ rfl dX7_reads_80 ⟨Nat.le_refl _, Nat.le_refl _⟩ (fun H locs hw => ?_)
                refine lv_if_eq (tgt := 90) hx hb dX7_reads_83 (by decide) (fun _ => ?_) (fun h => absurd (by decide) h)
                refine lv_iconst (v := 0) hx hb dX7_reads_90 (by decide) ?_
                refine lv_istore_n (lv' := [(2, .int 0), (3, .int 2), (1, .int 3), (0, .ref (L 0))]) hx hb dX7_reads_91 rfl hl (by decide) rfl (fun ls hl => ?_)
                refine r_iincN (lv' := [(3, .int 3), (2, .int 0), (1, .int 3), (0, .ref (L 0))]) hx hb 2 1 rfl dX7_reads_92 hl (k := 1) rfl rfl (by decide) rfl (fun ls hl => ?_)
                refine lv_goto (tgt := 60) hx hb dX7_reads_95 (by decide) ?_
                refine lv_iload_n hx hb dX7_reads_60 rfl (lv_at hl 0 rfl) ?_
                refine lv_iload_n hx hb dX7_reads_61 rfl (lv_at hl 2 rfl) ?_
                refine lv_icmp_ge (tgt := 98) hx hb dX7_reads_62 (by decide) (fun _ => ?_) (fun h => absurd (by decide) h)
                refine lv_iload_n hx hb dX7_reads_98 rfl (lv_at hl 1 rfl) ?_
                refine lv_if_eq (tgt := 115) hx hb dX7_reads_99 (by decide) (fun _ => ?_) (fun h => absurd (by decide) h)
                refine lv_iconst (v := 0) hx hb dX7_reads_115 (by decide) ?_
                exact r_ret X hw hk hret rfl (by unfold rdR; rw [hm2]; simp [prs, sep, g8, g9, g10, g11, g12]) (by unfold rdR; rw [hm2, hod]; simp [prs, sep, g8, g9, g10, g11, g12]) dX7_reads_116
              · skip
                have hbg12 := dg_le tx hT (show (p9 + 1 + (dg tx T (p9 + 1)).1 + 1 + (dg tx T (p9 + 1 + (dg tx T (p9 + 1)).1 + 1)).1 + 1) ≤ 60 from by omega)
                refine r_callV X hw (ws' := mW D L s pa P ru td ah sh n0 tx (nI T) (upd (upd (upd nu 0 (dg tx T (p9 + 1)).2) 1 (dg tx T (p9 + 1 + (dg tx T (p9 + 1)).1 + 1)).2) 2 (dg tx T (p9 + 1 + (dg tx T (p9 + 1)).1 + 1 + (dg tx T (p9 + 1 + (dg tx T (p9 + 1)).1 + 1)).1 + 1)).2) (nI (p9 + 1 + (dg tx T (p9 + 1)).1 + 1 + (dg tx T (p9 + 1 + (dg tx T (p9 + 1)).1 + 1)).1 + 1 + (dg tx T (p9 + 1 + (dg tx T (p9 + 1)).1 + 1 + (dg tx T (p9 + 1 + (dg tx T (p9 + 1)).1 + 1)).1 + 1)).1)) fo re ca os (tx p9) spa he) (As := [.int 2]) (rest := []) lk_X7_190 (c_X7_numbered1 l D _ L s pa P ru td ah sh n0 tx T (upd (upd nu 0 (dg tx T (p9 + 1)).2) 1 (dg tx T (p9 + 1 + (dg tx T (p9 + 1)).1 + 1)).2) (p9 + 1 + (dg tx T (p9 + 1)).1 + 1 + (dg tx T (p9 + 1 + (dg tx T (p9 + 1)).1 + 1)).1 + 1) fo re ca os (tx p9) spa he (by omega) (by omega) 2 (by omega) g12) Foc.all (m_at 0 rfl) rfl hl.1 (Nat.le_of_ble_eq_true rfl) ⟨Nat.le_of_ble_eq_true rfl, Nat.le_of_ble_eq_true rfl⟩ rfl dX7_reads_80 ⟨Nat.le_refl _, Nat.le_refl _⟩ (fun H locs hw => ?_)
                refine lv_if_eq (tgt := 90) hx hb dX7_reads_83 (by decide) (fun h => absurd h (by decide)) (fun _ => ?_)
                refine lv_iconst (v := 1) hx hb dX7_reads_86 (by decide) ?_
                refine lv_goto (tgt := 91) hx hb dX7_reads_87 (by decide) ?_
                refine lv_istore_n (lv' := [(2, .int 1), (3, .int 2), (1, .int 3), (0, .ref (L 0))]) hx hb dX7_reads_91 rfl hl (by decide) rfl (fun ls hl => ?_)
                refine r_iincN (lv' := [(3, .int 3), (2, .int 1), (1, .int 3), (0, .ref (L 0))]) hx hb 2 1 rfl dX7_reads_92 hl (k := 1) rfl rfl (by decide) rfl (fun ls hl => ?_)
                refine lv_goto (tgt := 60) hx hb dX7_reads_95 (by decide) ?_
                refine lv_iload_n hx hb dX7_reads_60 rfl (lv_at hl 0 rfl) ?_
                refine lv_iload_n hx hb dX7_reads_61 rfl (lv_at hl 2 rfl) ?_
                refine lv_icmp_ge (tgt := 98) hx hb dX7_reads_62 (by decide) (fun _ => ?_) (fun h => absurd (by decide) h)
                refine lv_iload_n hx hb dX7_reads_98 rfl (lv_at hl 1 rfl) ?_
                refine lv_if_eq (tgt := 115) hx hb dX7_reads_99 (by decide) (fun h => absurd h (by decide)) (fun _ => ?_)
                refine lv_aload_n hx hb dX7_reads_102 rfl (lv_at hl 3 rfl) ?_
                refine lv_bipush (v := 59) hx hb dX7_reads_103 (by decide) ?_
                by_cases g13 : sp_X7_isAt tx T (p9 + 1 + (dg tx T (p9 + 1)).1 + 1 + (dg tx T (p9 + 1 + (dg tx T (p9 + 1)).1 + 1)).1 + 1 + (dg tx T (p9 + 1 + (dg tx T (p9 + 1)).1 + 1 + (dg tx T (p9 + 1 + (dg tx T (p9 + 1)).1 + 1)).1 + 1)).1) 59 59 = 0
                · skip
                  refine r_callV X hw (ws' := mW D L s pa P ru td ah sh n0 tx (nI T) (upd (upd (upd nu 0 (dg tx T (p9 + 1)).2) 1 (dg tx T (p9 + 1 + (dg tx T (p9 + 1)).1 + 1)).2) 2 (dg tx T (p9 + 1 + (dg tx T (p9 + 1)).1 + 1 + (dg tx T (p9 + 1 + (dg tx T (p9 + 1)).1 + 1)).1 + 1)).2) (nI (p9 + 1 + (dg tx T (p9 + 1)).1 + 1 + (dg tx T (p9 + 1 + (dg tx T (p9 + 1)).1 + 1)).1 + 1 + (dg tx T (p9 + 1 + (dg tx T (p9 + 1)).1 + 1 + (dg tx T (p9 + 1 + (dg tx T (p9 + 1)).1 + 1)).1 + 1)).1)) fo re ca os (tx p9) spa he) (As := [.int 59]) (rest := []) lk_X7_193 (c_X7_sign0 l D _ L s pa P ru td ah sh n0 tx T (upd (upd (upd nu 0 (dg tx T (p9 + 1)).2) 1 (dg tx T (p9 + 1 + (dg tx T (p9 + 1)).1 + 1)).2) 2 (dg tx T (p9 + 1 + (dg tx T (p9 + 1)).1 + 1 + (dg tx T (p9 + 1 + (dg tx T (p9 + 1)).1 + 1)).1 + 1)).2) (p9 + 1 + (dg tx T (p9 + 1)).1 + 1 + (dg tx T (p9 + 1 + (dg tx T (p9 + 1)).1 + 1)).1 + 1 + (dg tx T (p9 + 1 + (dg tx T (p9 + 1)).1 + 1 + (dg tx T (p9 + 1 + (dg tx T (p9 + 1)).1 + 1)).1 + 1)).1) fo re ca os (tx p9) spa he (by omega) (by omega) 59 g13) Foc.all (m_at 0 rfl) rfl hl.1 (Nat.le_of_ble_eq_true rfl) ⟨Nat.le_of_ble_eq_true rfl, Nat.le_of_ble_eq_true rfl⟩ rfl dX7_reads_105 ⟨Nat.le_refl _, Nat.le_refl _⟩ (fun H locs hw => ?_)
                  refine lv_if_eq (tgt := 115) hx hb dX7_reads_108 (by decide) (fun _ => ?_) (fun h => absurd (by decide) h)
                  refine lv_iconst (v := 0) hx hb dX7_reads_115 (by decide) ?_
                  exact r_ret X hw hk hret rfl (by unfold rdR; rw [hm2]; simp [prs, sep, g8, g9, g10, g11, g12, g13]) (by unfold rdR; rw [hm2, hod]; simp [prs, sep, g8, g9, g10, g11, g12, g13]) dX7_reads_116
                · skip
                  have hbg13 := isAt_lt g13
                  refine r_callV X hw (ws' := mW D L s pa P ru td ah sh n0 tx (nI T) (upd (upd (upd nu 0 (dg tx T (p9 + 1)).2) 1 (dg tx T (p9 + 1 + (dg tx T (p9 + 1)).1 + 1)).2) 2 (dg tx T (p9 + 1 + (dg tx T (p9 + 1)).1 + 1 + (dg tx T (p9 + 1 + (dg tx T (p9 + 1)).1 + 1)).1 + 1)).2) (nI (p9 + 1 + (dg tx T (p9 + 1)).1 + 1 + (dg tx T (p9 + 1 + (dg tx T (p9 + 1)).1 + 1)).1 + 1 + (dg tx T (p9 + 1 + (dg tx T (p9 + 1)).1 + 1 + (dg tx T (p9 + 1 + (dg tx T (p9 + 1)).1 + 1)).1 + 1)).1 + 1)) fo re ca os (tx p9) spa he) (As := [.int 59]) (rest := []) lk_X7_193 (c_X7_sign1 l D _ L s pa P ru td ah sh n0 tx T (upd (upd (upd nu 0 (dg tx T (p9 + 1)).2) 1 (dg tx T (p9 + 1 + (dg tx T (p9 + 1)).1 + 1)).2) 2 (dg tx T (p9 + 1 + (dg tx T (p9 + 1)).1 + 1 + (dg tx T (p9 + 1 + (dg tx T (p9 + 1)).1 + 1)).1 + 1)).2) (p9 + 1 + (dg tx T (p9 + 1)).1 + 1 + (dg tx T (p9 + 1 + (dg tx T (p9 + 1)).1 + 1)).1 + 1 + (dg tx T (p9 + 1 + (dg tx T (p9 + 1)).1 + 1 + (dg tx T (p9 + 1 + (dg tx T (p9 + 1)).1 + 1)).1 + 1)).1) fo re ca os (tx p9) spa he (by omega) (by omega) 59 g13) Foc.all (m_at 0 rfl) rfl hl.1 (Nat.le_of_ble_eq_true rfl) ⟨Nat.le_of_ble_eq_true rfl, Nat.le_of_ble_eq_true rfl⟩ rfl dX7_reads_105 ⟨Nat.le_refl _, Nat.le_refl _⟩ (fun H locs hw => ?_)
                  refine lv_if_eq (tgt := 115) hx hb dX7_reads_108 (by decide) (fun h => absurd h (by decide)) (fun _ => ?_)
                  refine lv_iconst (v := 1) hx hb dX7_reads_111 (by decide) ?_
                  refine lv_goto (tgt := 116) hx hb dX7_reads_112 (by decide) ?_
                  exact r_ret X hw hk hret rfl (by unfold rdR; rw [hm2]; simp [prs, sep, g8, g9, g10, g11, g12, g13]) (by unfold rdR; rw [hm2, hod]; simp [prs, sep, g8, g9, g10, g11, g12, g13]) dX7_reads_116
