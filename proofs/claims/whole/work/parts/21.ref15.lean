/-! a text's orders, one behind the other -/
theorem rOK_of {s s' : Row} {p z q : Nat} (h : rOK s p z q) (h1 : s' 28 = s 28) (h2 : s' 39 = s 39) (h3 : s' 37 = s 37) : rOK s' p z q := by
  obtain ⟨g1, g2, g3, g⟩ := h
  exact ⟨h1.trans g1, h2.trans g2, h3.trans g3, g⟩
theorem bLog_ne (s td : Row) (md tn mk : Int32) {j : Nat} (h : j < 67) (h1 : j ≠ 36) (h2 : j ≠ 31) (h3 : j ≠ 32) : bLog s td md tn mk j = s j := by
  unfold bLog bL3
  simp (disch := omega) only [upd_ne]
  unfold va_cpy
  rw [if_neg (by omega), if_neg (by omega)]
theorem buS_ok {s : Row} (td ah sh : Row) {p z q : Nat} (h : rOK s p z q) (md : Nat) : ∃ p', rOK (buS s td ah sh q md) p' z q := by
  obtain ⟨⟨p', g⟩, -⟩ := buR_ok td ah sh h md
  exact ⟨p', rOK_of g (bLog_ne _ _ _ _ _ (by decide) (by decide) (by decide) (by decide)) (bLog_ne _ _ _ _ _ (by decide) (by decide) (by decide) (by decide)) (bLog_ne _ _ _ _ _ (by decide) (by decide) (by decide) (by decide))⟩
theorem doR_ok {q : Nat} (od : Int32) (nu : Row) (x : XS) {p z : Nat} (h : rOK x.1 p z q) : ∃ p', rOK (doR q od nu x).2.1 p' z q := by
  unfold doR
  split
  · split
    · refine ⟨p, rOK_of h ?_ ?_ ?_⟩ <;> (dsimp only; unfold sp_X7_alarm; simp (disch := omega) only [upd_ne])
    · exact ⟨p, h⟩
  · split
    · split
      · exact buS_ok _ _ _ h _
      · exact ⟨p, h⟩
    · split
      · split
        · exact phF_ok _ h
        · exact ⟨p, h⟩
      · split
        · split
          · dsimp only
            unfold sp_X7_read
            exact phF_ok q (rOK_of h (upd_ne _ _ (by decide)) (upd_ne _ _ (by decide)) (upd_ne _ _ (by decide)))
          · exact ⟨p, h⟩
        · split
          · split
            · rename_i g
              obtain ⟨r, hr, er⟩ := (in_iff (nu 0) 6 (by decide)).mp g.1
              have hr2 : nc (nu 0) = r := by rw [nc, er, nI_clamp (by omega)]
              refine ⟨p, rOK_of h ?_ ?_ ?_⟩ <;> (dsimp only; rw [hr2]; unfold sp_X7_write; simp (disch := omega) only [upd_ne, puts_ne])
            · exact ⟨p, h⟩
          · split
            · split
              · refine ⟨p, rOK_of h ?_ ?_ ?_⟩ <;> (dsimp only; unfold sp_X7_armM; simp (disch := omega) only [upd_ne])
              · refine ⟨p, rOK_of h ?_ ?_ ?_⟩ <;> (dsimp only; unfold sp_X7_arm; simp (disch := omega) only [upd_ne])
            · exact ⟨p, h⟩
theorem prs_le {tx : Row} {T : Nat} (hT : T ≤ 60) : ∀ (r i p : Nat) (nu : Row), p ≤ 60 → p ≤ (prs tx T r i p nu).2.1 ∧ (prs tx T r i p nu).2.1 ≤ 60
  | 0, i, p, nu, h => ⟨Nat.le_refl p, h⟩
  | r + 1, i, p, nu, h => by
    have h2 := dg_le tx hT h
    unfold prs
    split
    · exact ⟨Nat.le_add_right _ _, h2⟩
    · split
      · exact ⟨Nat.le_add_right _ _, h2⟩
      · rename_i c
        have h3 := isAt_lt c
        obtain ⟨g1, g2⟩ := prs_le hT r (i + 1) (p + (dg tx T p).1 + 1) (upd nu i (dg tx T p).2) (by omega)
        exact ⟨by omega, g2⟩
theorem rdR_le (tx nu : Row) {T p : Nat} (hT : T ≤ 60) (hp : p < T) : p ≤ (rdR tx T p nu).2.1 ∧ (rdR tx T p nu).2.1 ≤ 60 ∧ (¬ (rdR tx T p nu).1 = 0 → p < (rdR tx T p nu).2.1) := by
  unfold rdR
  split
  · exact ⟨Nat.le_refl p, by dsimp only; omega, fun h => absurd rfl h⟩
  · obtain ⟨g1, g2⟩ := prs_le (tx := tx) hT (nbN (rdO tx T p)) 0 (p + 1) nu (by omega)
    exact ⟨by omega, g2, fun _ => by omega⟩
/-- what is done, the numbers, the place, where the order begins, reason, cause, how many, its letter -/
abbrev YS : Type := XS × Row × Nat × Int32 × Int32 × Int32 × Int32 × Int32
/-- an order: whether all is well, and what it leaves -/
noncomputable def plS (q : Nat) (tx : Row) (T : Nat) (y : YS) : Int32 × YS :=
  if (rdR tx T y.2.2.1 y.2.1).1 = 0 then (0, y.1, (rdR tx T y.2.2.1 y.2.1).2.2, (rdR tx T y.2.2.1 y.2.1).2.1, nI y.2.2.1, 1, nI ((rdR tx T y.2.2.1 y.2.1).2.1 - y.2.2.1), y.2.2.2.2.2.2.1 + 1, rdO tx T y.2.2.1)
  else (if (doR q (rdO tx T y.2.2.1) (rdR tx T y.2.2.1 y.2.1).2.2 y.1).1 < 0 then (0, (doR q (rdO tx T y.2.2.1) (rdR tx T y.2.2.1 y.2.1).2.2 y.1).2, (rdR tx T y.2.2.1 y.2.1).2.2, (rdR tx T y.2.2.1 y.2.1).2.1, nI y.2.2.1, 2, (doR q (rdO tx T y.2.2.1) (rdR tx T y.2.2.1 y.2.1).2.2 y.1).1, y.2.2.2.2.2.2.1 + 1, rdO tx T y.2.2.1)
  else (1, (doR q (rdO tx T y.2.2.1) (rdR tx T y.2.2.1 y.2.1).2.2 y.1).2, (rdR tx T y.2.2.1 y.2.1).2.2, (rdR tx T y.2.2.1 y.2.1).2.1, nI y.2.2.1, 2, (doR q (rdO tx T y.2.2.1) (rdR tx T y.2.2.1 y.2.1).2.2 y.1).1, y.2.2.2.2.2.2.1 + 1, rdO tx T y.2.2.1))
noncomputable def plR (q : Nat) (tx : Row) (T : Nat) : Nat → YS → Int32 × YS
  | 0, y => (1, y)
  | f + 1, y => if T ≤ y.2.2.1 then (1, y) else (if (plS q tx T y).1 = 0 then (0, (plS q tx T y).2) else plR q tx T f (plS q tx T y).2)

set_option maxRecDepth 100000 in
set_option maxHeartbeats 4000000 in
theorem c_X7_plays (l : Launch) (D : va_G) (sz : Nat) (L : Nat → Nat) (s pa : Row) (P : Nat) (ru : Int32) (td ah sh : Row) (n0 : Int32) (tx : Row) (T : Nat) (nu : Row) (p9 : Nat) (fo re ca os od : Int32) (spa he : Row) (hT : T ≤ 60) (hp9 : p9 ≤ 60) (pp z q : Nat) (hP : P ≤ 4) (hok : rOK s pp z q) : MI l yX7_plays cX7_plays 4 (some .boolean) 16 349 D sz [.ref (L 0)] (mW D L s pa (nI P) ru td ah sh n0 tx (nI T) nu (nI p9) fo re ca os od spa he) ((plR q tx T 61 ((s, td, ah, sh, n0), nu, 0, 0, re, ca, 0, od)).1) (mW D L ((plR q tx T 61 ((s, td, ah, sh, n0), nu, 0, 0, re, ca, 0, od)).2.1.1) pa (nI P) 0 ((plR q tx T 61 ((s, td, ah, sh, n0), nu, 0, 0, re, ca, 0, od)).2.1.2.1) ((plR q tx T 61 ((s, td, ah, sh, n0), nu, 0, 0, re, ca, 0, od)).2.1.2.2.1) ((plR q tx T 61 ((s, td, ah, sh, n0), nu, 0, 0, re, ca, 0, od)).2.1.2.2.2.1) ((plR q tx T 61 ((s, td, ah, sh, n0), nu, 0, 0, re, ca, 0, od)).2.1.2.2.2.2) tx (nI T) ((plR q tx T 61 ((s, td, ah, sh, n0), nu, 0, 0, re, ca, 0, od)).2.2.1) (nI (plR q tx T 61 ((s, td, ah, sh, n0), nu, 0, 0, re, ca, 0, od)).2.2.2.1) ((plR q tx T 61 ((s, td, ah, sh, n0), nu, 0, 0, re, ca, 0, od)).2.2.2.2.1) ((plR q tx T 61 ((s, td, ah, sh, n0), nu, 0, 0, re, ca, 0, od)).2.2.2.2.2.1) ((plR q tx T 61 ((s, td, ah, sh, n0), nu, 0, 0, re, ca, 0, od)).2.2.2.2.2.2.1) ((plR q tx T 61 ((s, td, ah, sh, n0), nu, 0, 0, re, ca, 0, od)).2.2.2.2.2.2.2.1) ((plR q tx T 61 ((s, td, ah, sh, n0), nu, 0, 0, re, ca, 0, od)).2.2.2.2.2.2.2.2) spa he) := by
  refine r_enterI (by decide) (Nat.le_of_ble_eq_true rfl) ?_
  intro p e st m args below meth c ls A X hret hk hw hl
  have X : CX D p m c cX7_plays 4 st args RX7 A := X
  have hx := X.1.1
  have hb := X.1.2.1
  have hown := X.1.2.2.2.1
  have hts := X.1.2.2.2.2
  have hl : lv_has ls 4 [(0, .ref (L 0))] := hl
  obtain ⟨fin, hfin⟩ : ∃ y, y = (plR q tx T 61 ((s, td, ah, sh, n0), nu, 0, 0, re, ca, 0, od)) := ⟨_, rfl⟩
  refine lv_aload_n hx hb dX7_plays_0 rfl (lv_at hl 0 rfl) ?_
  refine lv_iconst (v := 1) hx hb dX7_plays_1 (by decide) ?_
  refine r_put X hw (ws' := mW D L s pa (nI P) 1 td ah sh n0 tx (nI T) nu (nI p9) fo re ca os od spa he) fp_X7_37 rfl rfl (Nat.le_of_ble_eq_true rfl) (Foc.cell 0 rfl rfl (ce rfl (ce rfl (ce rfl (ce rfl (ce rfl (ce rfl (ce rfl (ce rfl (ce rfl rfl)))))))))) dX7_plays_2 (fun H locs hw => ?_)
  refine lv_aload_n hx hb dX7_plays_5 rfl (lv_at hl 0 rfl) ?_
  refine lv_iconst (v := 0) hx hb dX7_plays_6 (by decide) ?_
  refine r_puti X hw (ws' := mW D L s pa (nI P) 1 td ah sh n0 tx (nI T) nu 0 fo re ca os od spa he) fp_X7_177 (Nat.le_of_ble_eq_true rfl) (Foc.cell 0 rfl rfl (ce rfl (ce rfl (ce rfl (ce rfl (ce rfl (ce rfl (ce rfl (ce rfl (ce rfl rfl)))))))))) dX7_plays_7 (fun H locs hw => ?_)
  refine lv_aload_n hx hb dX7_plays_10 rfl (lv_at hl 0 rfl) ?_
  refine lv_iconst (v := 0) hx hb dX7_plays_11 (by decide) ?_
  refine r_puti X hw (ws' := mW D L s pa (nI P) 1 td ah sh n0 tx (nI T) nu 0 0 re ca os od spa he) fp_X7_216 (Nat.le_of_ble_eq_true rfl) (Foc.cell 0 rfl rfl (ce rfl (ce rfl (ce rfl (ce rfl (ce rfl (ce rfl (ce rfl (ce rfl (ce rfl rfl)))))))))) dX7_plays_12 (fun H locs hw => ?_)
  refine lv_aload_n hx hb dX7_plays_15 rfl (lv_at hl 0 rfl) ?_
  refine lv_iconst (v := 0) hx hb dX7_plays_16 (by decide) ?_
  refine r_puti X hw (ws' := mW D L s pa (nI P) 1 td ah sh n0 tx (nI T) nu 0 0 re ca 0 od spa he) fp_X7_219 (Nat.le_of_ble_eq_true rfl) (Foc.cell 0 rfl rfl (ce rfl (ce rfl (ce rfl (ce rfl (ce rfl (ce rfl (ce rfl (ce rfl (ce rfl rfl)))))))))) dX7_plays_17 (fun H locs hw => ?_)
  refine lv_iconst (v := 1) hx hb dX7_plays_20 (by decide) ?_
  refine lv_istore_n (lv' := [(1, .int 1), (0, .ref (L 0))]) hx hb dX7_plays_21 rfl hl (by decide) rfl (fun ls hl => ?_)
  have key22 : ∀ (n22 : Nat) (f p1 : Nat) (y : YS), (f < n22) → (T - y.2.2.1 < f) → (y.2.2.1 ≤ 60) → (rOK y.1.1 p1 z q) → (plR q tx T f y = fin) → ∀ (H : Heap) (locs : List Loc) (ls : Array Slot), Wd D A st.heap H locs (mW D L y.1.1 pa (nI P) 1 y.1.2.1 y.1.2.2.1 y.1.2.2.2.1 y.1.2.2.2.2 tx (nI T) y.2.1 (nI y.2.2.1) y.2.2.2.1 y.2.2.2.2.1 y.2.2.2.2.2.1 y.2.2.2.2.2.2.1 y.2.2.2.2.2.2.2 spa he) → lv_has ls 4 [(0, .ref (L 0)), (1, .int 1)] → W p l e (rmOf 16 0 0 349) st m args below meth c H locs 0 0 (QI below args st D A ((plR q tx T 61 ((s, td, ah, sh, n0), nu, 0, 0, re, ca, 0, od)).1) (mW D L ((plR q tx T 61 ((s, td, ah, sh, n0), nu, 0, 0, re, ca, 0, od)).2.1.1) pa (nI P) 0 ((plR q tx T 61 ((s, td, ah, sh, n0), nu, 0, 0, re, ca, 0, od)).2.1.2.1) ((plR q tx T 61 ((s, td, ah, sh, n0), nu, 0, 0, re, ca, 0, od)).2.1.2.2.1) ((plR q tx T 61 ((s, td, ah, sh, n0), nu, 0, 0, re, ca, 0, od)).2.1.2.2.2.1) ((plR q tx T 61 ((s, td, ah, sh, n0), nu, 0, 0, re, ca, 0, od)).2.1.2.2.2.2) tx (nI T) ((plR q tx T 61 ((s, td, ah, sh, n0), nu, 0, 0, re, ca, 0, od)).2.2.1) (nI (plR q tx T 61 ((s, td, ah, sh, n0), nu, 0, 0, re, ca, 0, od)).2.2.2.1) ((plR q tx T 61 ((s, td, ah, sh, n0), nu, 0, 0, re, ca, 0, od)).2.2.2.2.1) ((plR q tx T 61 ((s, td, ah, sh, n0), nu, 0, 0, re, ca, 0, od)).2.2.2.2.2.1) ((plR q tx T 61 ((s, td, ah, sh, n0), nu, 0, 0, re, ca, 0, od)).2.2.2.2.2.2.1) ((plR q tx T 61 ((s, td, ah, sh, n0), nu, 0, 0, re, ca, 0, od)).2.2.2.2.2.2.2.1) ((plR q tx T 61 ((s, td, ah, sh, n0), nu, 0, 0, re, ca, 0, od)).2.2.2.2.2.2.2.2) spa he)) (F0 m 22 ls []) := by
    intro n22
    induction n22 with
    | zero => intro f p1 y hm hf hp6 hok1 hq; omega
    | succ n22 ih22 =>
      intro f p1 y hm hf hp6 hok1 hq H locs ls hw hl
      obtain ⟨p2, hok2⟩ := doR_ok (rdO tx T y.2.2.1) (rdR tx T y.2.2.1 y.2.1).2.2 y.1 hok1
      refine lv_aload_n hx hb dX7_plays_22 rfl (lv_at hl 0 rfl) ?_
      refine r_get X hw (v := .int (nI y.2.2.1)) fl_X7_177 (m_at 0 rfl) rfl dX7_plays_23 ?_
      refine lv_aload_n hx hb dX7_plays_26 rfl (lv_at hl 0 rfl) ?_
      refine r_get X hw (v := .int (nI T)) fl_X7_173 (m_at 0 rfl) rfl dX7_plays_27 ?_
      refine r_geN (tgt := 124) hx hb y.2.2.1 T rfl rfl (by omega) (by omega) dX7_plays_30 (by decide) (fun c1 => ?_) (fun c1 => ?_)
      · skip
        refine lv_aload_n hx hb dX7_plays_124 rfl (lv_at hl 0 rfl) ?_
        refine lv_iconst (v := 0) hx hb dX7_plays_125 (by decide) ?_
        refine r_put X hw (ws' := mW D L y.1.1 pa (nI P) 0 y.1.2.1 y.1.2.2.1 y.1.2.2.2.1 y.1.2.2.2.2 tx (nI T) y.2.1 (nI y.2.2.1) y.2.2.2.1 y.2.2.2.2.1 y.2.2.2.2.2.1 y.2.2.2.2.2.2.1 y.2.2.2.2.2.2.2 spa he) fp_X7_37 rfl rfl (Nat.le_of_ble_eq_true rfl) (Foc.cell 0 rfl rfl (ce rfl (ce rfl (ce rfl (ce rfl (ce rfl (ce rfl (ce rfl (ce rfl (ce rfl rfl)))))))))) dX7_plays_126 (fun H locs hw => ?_)
        refine lv_iload_n hx hb dX7_plays_129 rfl (lv_at hl 1 rfl) ?_
        exact r_ret X hw hk hret rfl (by rw [show f = (f - 1) + 1 from by omega] at hq; unfold plR at hq; rw [if_pos c1] at hq; rw [← hfin, ← hq]) (by rw [show f = (f - 1) + 1 from by omega] at hq; unfold plR at hq; rw [if_pos c1] at hq; rw [← hfin, ← hq]) dX7_plays_130
      · skip
        refine lv_iload_n hx hb dX7_plays_33 rfl (lv_at hl 1 rfl) ?_
        refine lv_if_eq (tgt := 124) hx hb dX7_plays_34 (by decide) (fun h => absurd h (by decide)) (fun _ => ?_)
        have hle := rdR_le tx y.2.1 hT (p := y.2.2.1) (by omega)
        refine lv_aload_n hx hb dX7_plays_37 rfl (lv_at hl 0 rfl) ?_
        refine lv_aload_n hx hb dX7_plays_38 rfl (lv_at hl 0 rfl) ?_
        refine r_get X hw (v := .int (nI y.2.2.1)) fl_X7_177 (m_at 0 rfl) rfl dX7_plays_39 ?_
        refine r_puti X hw (ws' := mW D L y.1.1 pa (nI P) 1 y.1.2.1 y.1.2.2.1 y.1.2.2.2.1 y.1.2.2.2.2 tx (nI T) y.2.1 (nI y.2.2.1) (nI y.2.2.1) y.2.2.2.2.1 y.2.2.2.2.2.1 y.2.2.2.2.2.2.1 y.2.2.2.2.2.2.2 spa he) fp_X7_216 (Nat.le_of_ble_eq_true rfl) (Foc.cell 0 rfl rfl (ce rfl (ce rfl (ce rfl (ce rfl (ce rfl (ce rfl (ce rfl (ce rfl (ce rfl rfl)))))))))) dX7_plays_42 (fun H locs hw => ?_)
        refine lv_aload_n hx hb dX7_plays_45 rfl (lv_at hl 0 rfl) ?_
        refine r_callV X hw (ws' := mW D L y.1.1 pa (nI P) 1 y.1.2.1 y.1.2.2.1 y.1.2.2.2.1 y.1.2.2.2.2 tx (nI T) ((rdR tx T y.2.2.1 y.2.1).2.2) (nI (rdR tx T y.2.2.1 y.2.1).2.1) (nI y.2.2.1) y.2.2.2.2.1 y.2.2.2.2.2.1 y.2.2.2.2.2.2.1 (rdO tx T y.2.2.1) spa he) (As := []) (rest := []) lk_X7_222 (c_X7_reads l D _ L y.1.1 pa (nI P) 1 y.1.2.1 y.1.2.2.1 y.1.2.2.2.1 y.1.2.2.2.2 tx T y.2.1 y.2.2.1 (nI y.2.2.1) y.2.2.2.2.1 y.2.2.2.2.2.1 y.2.2.2.2.2.2.1 y.2.2.2.2.2.2.2 spa he (by omega) (by omega)) Foc.all (m_at 0 rfl) rfl hl.1 (Nat.le_of_ble_eq_true rfl) ⟨Nat.le_of_ble_eq_true rfl, Nat.le_of_ble_eq_true rfl⟩ rfl dX7_plays_46 ⟨Nat.le_refl _, Nat.le_refl _⟩ (fun H locs hw => ?_)
        refine lv_istore_n (lv' := [(2, .int ((rdR tx T y.2.2.1 y.2.1).1)), (0, .ref (L 0)), (1, .int 1)]) hx hb dX7_plays_49 rfl hl (by decide) rfl (fun ls hl => ?_)
        refine lv_iload_n hx hb dX7_plays_50 rfl (lv_at hl 0 rfl) ?_
        refine lv_if_eq (tgt := 61) hx hb dX7_plays_51 (by decide) (fun c2 => ?_) (fun c2 => ?_)
        · skip
          refine lv_iconst (v := 0) hx hb dX7_plays_61 (by decide) ?_
          refine lv_istore_n (lv' := [(3, .int 0), (2, .int ((rdR tx T y.2.2.1 y.2.1).1)), (0, .ref (L 0)), (1, .int 1)]) hx hb dX7_plays_62 rfl hl (by decide) rfl (fun ls hl => ?_)
          refine lv_iload_n hx hb dX7_plays_63 rfl (lv_at hl 1 rfl) ?_
          refine lv_if_eq (tgt := 75) hx hb dX7_plays_64 (by decide) (fun _ => ?_) (fun h => absurd c2 h)
          refine lv_iconst (v := 0) hx hb dX7_plays_75 (by decide) ?_
          refine lv_istore_n (lv' := [(1, .int 0), (3, .int 0), (2, .int ((rdR tx T y.2.2.1 y.2.1).1)), (0, .ref (L 0))]) hx hb dX7_plays_76 rfl hl (by decide) rfl (fun ls hl => ?_)
          refine lv_aload_n hx hb dX7_plays_77 rfl (lv_at hl 3 rfl) ?_
          refine lv_iload_n hx hb dX7_plays_78 rfl (lv_at hl 2 rfl) ?_
          refine lv_if_eq (tgt := 86) hx hb dX7_plays_79 (by decide) (fun _ => ?_) (fun h => absurd c2 h)
          refine lv_iconst (v := 1) hx hb dX7_plays_86 (by decide) ?_
          refine r_puti X hw (ws' := mW D L y.1.1 pa (nI P) 1 y.1.2.1 y.1.2.2.1 y.1.2.2.2.1 y.1.2.2.2.2 tx (nI T) ((rdR tx T y.2.2.1 y.2.1).2.2) (nI ((rdR tx T y.2.2.1 y.2.1).2.1)) (nI y.2.2.1) 1 y.2.2.2.2.2.1 y.2.2.2.2.2.2.1 (rdO tx T y.2.2.1) spa he) fp_X7_228 (Nat.le_of_ble_eq_true rfl) (Foc.cell 0 rfl rfl (ce rfl (ce rfl (ce rfl (ce rfl (ce rfl (ce rfl (ce rfl (ce rfl (ce rfl rfl)))))))))) dX7_plays_87 (fun H locs hw => ?_)
          refine lv_aload_n hx hb dX7_plays_90 rfl (lv_at hl 3 rfl) ?_
          refine lv_iload_n hx hb dX7_plays_91 rfl (lv_at hl 2 rfl) ?_
          refine lv_if_eq (tgt := 99) hx hb dX7_plays_92 (by decide) (fun _ => ?_) (fun h => absurd c2 h)
          refine lv_aload_n hx hb dX7_plays_99 rfl (lv_at hl 3 rfl) ?_
          refine r_get X hw (v := .int (nI ((rdR tx T y.2.2.1 y.2.1).2.1))) fl_X7_177 (m_at 0 rfl) rfl dX7_plays_100 ?_
          refine lv_aload_n hx hb dX7_plays_103 rfl (lv_at hl 3 rfl) ?_
          refine r_get X hw (v := .int (nI y.2.2.1)) fl_X7_216 (m_at 0 rfl) rfl dX7_plays_104 ?_
          refine r_subN hx hb ((rdR tx T y.2.2.1 y.2.1).2.1) y.2.2.1 rfl rfl hle.1 dX7_plays_107 ?_
          refine r_puti X hw (ws' := mW D L y.1.1 pa (nI P) 1 y.1.2.1 y.1.2.2.1 y.1.2.2.2.1 y.1.2.2.2.2 tx (nI T) ((rdR tx T y.2.2.1 y.2.1).2.2) (nI ((rdR tx T y.2.2.1 y.2.1).2.1)) (nI y.2.2.1) 1 (nI (((rdR tx T y.2.2.1 y.2.1).2.1) - y.2.2.1)) y.2.2.2.2.2.2.1 (rdO tx T y.2.2.1) spa he) fp_X7_231 (Nat.le_of_ble_eq_true rfl) (Foc.cell 0 rfl rfl (ce rfl (ce rfl (ce rfl (ce rfl (ce rfl (ce rfl (ce rfl (ce rfl (ce rfl rfl)))))))))) dX7_plays_108 (fun H locs hw => ?_)
          refine lv_aload_n hx hb dX7_plays_111 rfl (lv_at hl 3 rfl) ?_
          refine lv_dup hx hb dX7_plays_112 rfl ?_
          refine r_get X hw (v := .int y.2.2.2.2.2.2.1) fl_X7_219 (m_at 0 rfl) rfl dX7_plays_113 ?_
          refine lv_iconst (v := 1) hx hb dX7_plays_116 (by decide) ?_
          refine lv_iadd hx hb dX7_plays_117 ?_
          refine r_puti X hw (ws' := mW D L y.1.1 pa (nI P) 1 y.1.2.1 y.1.2.2.1 y.1.2.2.2.1 y.1.2.2.2.2 tx (nI T) ((rdR tx T y.2.2.1 y.2.1).2.2) (nI ((rdR tx T y.2.2.1 y.2.1).2.1)) (nI y.2.2.1) 1 (nI (((rdR tx T y.2.2.1 y.2.1).2.1) - y.2.2.1)) (y.2.2.2.2.2.2.1 + 1) (rdO tx T y.2.2.1) spa he) fp_X7_219 (Nat.le_of_ble_eq_true rfl) (Foc.cell 0 rfl rfl (ce rfl (ce rfl (ce rfl (ce rfl (ce rfl (ce rfl (ce rfl (ce rfl (ce rfl rfl)))))))))) dX7_plays_118 (fun H locs hw => ?_)
          refine lv_goto (tgt := 22) hx hb dX7_plays_121 (by decide) ?_
          refine lv_aload_n hx hb dX7_plays_22 rfl (lv_at hl 3 rfl) ?_
          refine r_get X hw (v := .int (nI ((rdR tx T y.2.2.1 y.2.1).2.1))) fl_X7_177 (m_at 0 rfl) rfl dX7_plays_23 ?_
          refine lv_aload_n hx hb dX7_plays_26 rfl (lv_at hl 3 rfl) ?_
          refine r_get X hw (v := .int (nI T)) fl_X7_173 (m_at 0 rfl) rfl dX7_plays_27 ?_
          refine r_geN (tgt := 124) hx hb ((rdR tx T y.2.2.1 y.2.1).2.1) T rfl rfl (by omega) (by omega) dX7_plays_30 (by decide) (fun c3 => ?_) (fun c3 => ?_)
          · skip
            refine lv_aload_n hx hb dX7_plays_124 rfl (lv_at hl 3 rfl) ?_
            refine lv_iconst (v := 0) hx hb dX7_plays_125 (by decide) ?_
            refine r_put X hw (ws' := mW D L y.1.1 pa (nI P) 0 y.1.2.1 y.1.2.2.1 y.1.2.2.2.1 y.1.2.2.2.2 tx (nI T) ((rdR tx T y.2.2.1 y.2.1).2.2) (nI ((rdR tx T y.2.2.1 y.2.1).2.1)) (nI y.2.2.1) 1 (nI (((rdR tx T y.2.2.1 y.2.1).2.1) - y.2.2.1)) (y.2.2.2.2.2.2.1 + 1) (rdO tx T y.2.2.1) spa he) fp_X7_37 rfl rfl (Nat.le_of_ble_eq_true rfl) (Foc.cell 0 rfl rfl (ce rfl (ce rfl (ce rfl (ce rfl (ce rfl (ce rfl (ce rfl (ce rfl (ce rfl rfl)))))))))) dX7_plays_126 (fun H locs hw => ?_)
            refine lv_iload_n hx hb dX7_plays_129 rfl (lv_at hl 0 rfl) ?_
            exact r_ret X hw hk hret rfl (by rw [show f = (f - 1) + 1 from by omega] at hq; unfold plR at hq; rw [if_neg (Nat.not_le.mpr c1)] at hq; unfold plS at hq; rw [if_pos c2] at hq; dsimp only at hq; rw [if_pos rfl] at hq; rw [← hfin, ← hq]) (by rw [show f = (f - 1) + 1 from by omega] at hq; unfold plR at hq; rw [if_neg (Nat.not_le.mpr c1)] at hq; unfold plS at hq; rw [if_pos c2] at hq; dsimp only at hq; rw [if_pos rfl] at hq; rw [← hfin, ← hq]) dX7_plays_130
          · skip
            refine lv_iload_n hx hb dX7_plays_33 rfl (lv_at hl 0 rfl) ?_
            refine lv_if_eq (tgt := 124) hx hb dX7_plays_34 (by decide) (fun _ => ?_) (fun h => absurd (by decide) h)
            refine lv_aload_n hx hb dX7_plays_124 rfl (lv_at hl 3 rfl) ?_
            refine lv_iconst (v := 0) hx hb dX7_plays_125 (by decide) ?_
            refine r_put X hw (ws' := mW D L y.1.1 pa (nI P) 0 y.1.2.1 y.1.2.2.1 y.1.2.2.2.1 y.1.2.2.2.2 tx (nI T) ((rdR tx T y.2.2.1 y.2.1).2.2) (nI ((rdR tx T y.2.2.1 y.2.1).2.1)) (nI y.2.2.1) 1 (nI (((rdR tx T y.2.2.1 y.2.1).2.1) - y.2.2.1)) (y.2.2.2.2.2.2.1 + 1) (rdO tx T y.2.2.1) spa he) fp_X7_37 rfl rfl (Nat.le_of_ble_eq_true rfl) (Foc.cell 0 rfl rfl (ce rfl (ce rfl (ce rfl (ce rfl (ce rfl (ce rfl (ce rfl (ce rfl (ce rfl rfl)))))))))) dX7_plays_126 (fun H locs hw => ?_)
            refine lv_iload_n hx hb dX7_plays_129 rfl (lv_at hl 0 rfl) ?_
            exact r_ret X hw hk hret rfl (by rw [show f = (f - 1) + 1 from by omega] at hq; unfold plR at hq; rw [if_neg (Nat.not_le.mpr c1)] at hq; unfold plS at hq; rw [if_pos c2] at hq; dsimp only at hq; rw [if_pos rfl] at hq; rw [← hfin, ← hq]) (by rw [show f = (f - 1) + 1 from by omega] at hq; unfold plR at hq; rw [if_neg (Nat.not_le.mpr c1)] at hq; unfold plS at hq; rw [if_pos c2] at hq; dsimp only at hq; rw [if_pos rfl] at hq; rw [← hfin, ← hq]) dX7_plays_130
        · skip
          refine lv_aload_n hx hb dX7_plays_54 rfl (lv_at hl 1 rfl) ?_
          refine r_callV X hw (ws' := mW D L ((doR q (rdO tx T y.2.2.1) ((rdR tx T y.2.2.1 y.2.1).2.2) y.1).2.1) pa (nI P) 1 ((doR q (rdO tx T y.2.2.1) ((rdR tx T y.2.2.1 y.2.1).2.2) y.1).2.2.1) ((doR q (rdO tx T y.2.2.1) ((rdR tx T y.2.2.1 y.2.1).2.2) y.1).2.2.2.1) ((doR q (rdO tx T y.2.2.1) ((rdR tx T y.2.2.1 y.2.1).2.2) y.1).2.2.2.2.1) ((doR q (rdO tx T y.2.2.1) ((rdR tx T y.2.2.1 y.2.1).2.2) y.1).2.2.2.2.2) tx (nI T) ((rdR tx T y.2.2.1 y.2.1).2.2) (nI (rdR tx T y.2.2.1 y.2.1).2.1) (nI y.2.2.1) y.2.2.2.2.1 y.2.2.2.2.2.1 y.2.2.2.2.2.2.1 (rdO tx T y.2.2.1) spa he) (As := []) (rest := []) lk_X7_225 (c_X7_does l D _ L y.1.1 pa P y.1.2.1 y.1.2.2.1 y.1.2.2.2.1 y.1.2.2.2.2 tx T ((rdR tx T y.2.2.1 y.2.1).2.2) ((rdR tx T y.2.2.1 y.2.1).2.1) (nI y.2.2.1) y.2.2.2.2.1 y.2.2.2.2.2.1 y.2.2.2.2.2.2.1 (rdO tx T y.2.2.1) spa he (by omega) (by omega) p1 z q (by omega) hok1) Foc.all (m_at 0 rfl) rfl hl.1 (Nat.le_of_ble_eq_true rfl) ⟨Nat.le_of_ble_eq_true rfl, Nat.le_of_ble_eq_true rfl⟩ rfl dX7_plays_55 ⟨Nat.le_refl _, Nat.le_refl _⟩ (fun H locs hw => ?_)
          refine lv_goto (tgt := 62) hx hb dX7_plays_58 (by decide) ?_
          refine lv_istore_n (lv' := [(3, .int ((doR q (rdO tx T y.2.2.1) ((rdR tx T y.2.2.1 y.2.1).2.2) y.1).1)), (2, .int ((rdR tx T y.2.2.1 y.2.1).1)), (0, .ref (L 0)), (1, .int 1)]) hx hb dX7_plays_62 rfl hl (by decide) rfl (fun ls hl => ?_)
          refine lv_iload_n hx hb dX7_plays_63 rfl (lv_at hl 1 rfl) ?_
          refine lv_if_eq (tgt := 75) hx hb dX7_plays_64 (by decide) (fun h => absurd h c2) (fun _ => ?_)
          refine lv_iload_n hx hb dX7_plays_67 rfl (lv_at hl 0 rfl) ?_
          refine lv_if_lt (tgt := 75) hx hb dX7_plays_68 (by decide) (fun c4 => ?_) (fun c4 => ?_)
          · skip
            refine lv_iconst (v := 0) hx hb dX7_plays_75 (by decide) ?_
            refine lv_istore_n (lv' := [(1, .int 0), (3, .int ((doR q (rdO tx T y.2.2.1) ((rdR tx T y.2.2.1 y.2.1).2.2) y.1).1)), (2, .int ((rdR tx T y.2.2.1 y.2.1).1)), (0, .ref (L 0))]) hx hb dX7_plays_76 rfl hl (by decide) rfl (fun ls hl => ?_)
            refine lv_aload_n hx hb dX7_plays_77 rfl (lv_at hl 3 rfl) ?_
            refine lv_iload_n hx hb dX7_plays_78 rfl (lv_at hl 2 rfl) ?_
            refine lv_if_eq (tgt := 86) hx hb dX7_plays_79 (by decide) (fun h => absurd h c2) (fun _ => ?_)
            refine lv_iconst (v := 2) hx hb dX7_plays_82 (by decide) ?_
            refine lv_goto (tgt := 87) hx hb dX7_plays_83 (by decide) ?_
            refine r_puti X hw (ws' := mW D L ((doR q (rdO tx T y.2.2.1) ((rdR tx T y.2.2.1 y.2.1).2.2) y.1).2.1) pa (nI P) 1 ((doR q (rdO tx T y.2.2.1) ((rdR tx T y.2.2.1 y.2.1).2.2) y.1).2.2.1) ((doR q (rdO tx T y.2.2.1) ((rdR tx T y.2.2.1 y.2.1).2.2) y.1).2.2.2.1) ((doR q (rdO tx T y.2.2.1) ((rdR tx T y.2.2.1 y.2.1).2.2) y.1).2.2.2.2.1) ((doR q (rdO tx T y.2.2.1) ((rdR tx T y.2.2.1 y.2.1).2.2) y.1).2.2.2.2.2) tx (nI T) ((rdR tx T y.2.2.1 y.2.1).2.2) (nI ((rdR tx T y.2.2.1 y.2.1).2.1)) (nI y.2.2.1) 2 y.2.2.2.2.2.1 y.2.2.2.2.2.2.1 (rdO tx T y.2.2.1) spa he) fp_X7_228 (Nat.le_of_ble_eq_true rfl) (Foc.cell 0 rfl rfl (ce rfl (ce rfl (ce rfl (ce rfl (ce rfl (ce rfl (ce rfl (ce rfl (ce rfl rfl)))))))))) dX7_plays_87 (fun H locs hw => ?_)
            refine lv_aload_n hx hb dX7_plays_90 rfl (lv_at hl 3 rfl) ?_
            refine lv_iload_n hx hb dX7_plays_91 rfl (lv_at hl 2 rfl) ?_
            refine lv_if_eq (tgt := 99) hx hb dX7_plays_92 (by decide) (fun h => absurd h c2) (fun _ => ?_)
            refine lv_iload_n hx hb dX7_plays_95 rfl (lv_at hl 1 rfl) ?_
            refine lv_goto (tgt := 108) hx hb dX7_plays_96 (by decide) ?_
            refine r_puti X hw (ws' := mW D L ((doR q (rdO tx T y.2.2.1) ((rdR tx T y.2.2.1 y.2.1).2.2) y.1).2.1) pa (nI P) 1 ((doR q (rdO tx T y.2.2.1) ((rdR tx T y.2.2.1 y.2.1).2.2) y.1).2.2.1) ((doR q (rdO tx T y.2.2.1) ((rdR tx T y.2.2.1 y.2.1).2.2) y.1).2.2.2.1) ((doR q (rdO tx T y.2.2.1) ((rdR tx T y.2.2.1 y.2.1).2.2) y.1).2.2.2.2.1) ((doR q (rdO tx T y.2.2.1) ((rdR tx T y.2.2.1 y.2.1).2.2) y.1).2.2.2.2.2) tx (nI T) ((rdR tx T y.2.2.1 y.2.1).2.2) (nI ((rdR tx T y.2.2.1 y.2.1).2.1)) (nI y.2.2.1) 2 ((doR q (rdO tx T y.2.2.1) ((rdR tx T y.2.2.1 y.2.1).2.2) y.1).1) y.2.2.2.2.2.2.1 (rdO tx T y.2.2.1) spa he) fp_X7_231 (Nat.le_of_ble_eq_true rfl) (Foc.cell 0 rfl rfl (ce rfl (ce rfl (ce rfl (ce rfl (ce rfl (ce rfl (ce rfl (ce rfl (ce rfl rfl)))))))))) dX7_plays_108 (fun H locs hw => ?_)
            refine lv_aload_n hx hb dX7_plays_111 rfl (lv_at hl 3 rfl) ?_
            refine lv_dup hx hb dX7_plays_112 rfl ?_
            refine r_get X hw (v := .int y.2.2.2.2.2.2.1) fl_X7_219 (m_at 0 rfl) rfl dX7_plays_113 ?_
            refine lv_iconst (v := 1) hx hb dX7_plays_116 (by decide) ?_
            refine lv_iadd hx hb dX7_plays_117 ?_
            refine r_puti X hw (ws' := mW D L ((doR q (rdO tx T y.2.2.1) ((rdR tx T y.2.2.1 y.2.1).2.2) y.1).2.1) pa (nI P) 1 ((doR q (rdO tx T y.2.2.1) ((rdR tx T y.2.2.1 y.2.1).2.2) y.1).2.2.1) ((doR q (rdO tx T y.2.2.1) ((rdR tx T y.2.2.1 y.2.1).2.2) y.1).2.2.2.1) ((doR q (rdO tx T y.2.2.1) ((rdR tx T y.2.2.1 y.2.1).2.2) y.1).2.2.2.2.1) ((doR q (rdO tx T y.2.2.1) ((rdR tx T y.2.2.1 y.2.1).2.2) y.1).2.2.2.2.2) tx (nI T) ((rdR tx T y.2.2.1 y.2.1).2.2) (nI ((rdR tx T y.2.2.1 y.2.1).2.1)) (nI y.2.2.1) 2 ((doR q (rdO tx T y.2.2.1) ((rdR tx T y.2.2.1 y.2.1).2.2) y.1).1) (y.2.2.2.2.2.2.1 + 1) (rdO tx T y.2.2.1) spa he) fp_X7_219 (Nat.le_of_ble_eq_true rfl) (Foc.cell 0 rfl rfl (ce rfl (ce rfl (ce rfl (ce rfl (ce rfl (ce rfl (ce rfl (ce rfl (ce rfl rfl)))))))))) dX7_plays_118 (fun H locs hw => ?_)
            refine lv_goto (tgt := 22) hx hb dX7_plays_121 (by decide) ?_
            refine lv_aload_n hx hb dX7_plays_22 rfl (lv_at hl 3 rfl) ?_
            refine r_get X hw (v := .int (nI ((rdR tx T y.2.2.1 y.2.1).2.1))) fl_X7_177 (m_at 0 rfl) rfl dX7_plays_23 ?_
            refine lv_aload_n hx hb dX7_plays_26 rfl (lv_at hl 3 rfl) ?_
            refine r_get X hw (v := .int (nI T)) fl_X7_173 (m_at 0 rfl) rfl dX7_plays_27 ?_
            refine r_geN (tgt := 124) hx hb ((rdR tx T y.2.2.1 y.2.1).2.1) T rfl rfl (by omega) (by omega) dX7_plays_30 (by decide) (fun c5 => ?_) (fun c5 => ?_)
            · skip
              refine lv_aload_n hx hb dX7_plays_124 rfl (lv_at hl 3 rfl) ?_
              refine lv_iconst (v := 0) hx hb dX7_plays_125 (by decide) ?_
              refine r_put X hw (ws' := mW D L ((doR q (rdO tx T y.2.2.1) ((rdR tx T y.2.2.1 y.2.1).2.2) y.1).2.1) pa (nI P) 0 ((doR q (rdO tx T y.2.2.1) ((rdR tx T y.2.2.1 y.2.1).2.2) y.1).2.2.1) ((doR q (rdO tx T y.2.2.1) ((rdR tx T y.2.2.1 y.2.1).2.2) y.1).2.2.2.1) ((doR q (rdO tx T y.2.2.1) ((rdR tx T y.2.2.1 y.2.1).2.2) y.1).2.2.2.2.1) ((doR q (rdO tx T y.2.2.1) ((rdR tx T y.2.2.1 y.2.1).2.2) y.1).2.2.2.2.2) tx (nI T) ((rdR tx T y.2.2.1 y.2.1).2.2) (nI ((rdR tx T y.2.2.1 y.2.1).2.1)) (nI y.2.2.1) 2 ((doR q (rdO tx T y.2.2.1) ((rdR tx T y.2.2.1 y.2.1).2.2) y.1).1) (y.2.2.2.2.2.2.1 + 1) (rdO tx T y.2.2.1) spa he) fp_X7_37 rfl rfl (Nat.le_of_ble_eq_true rfl) (Foc.cell 0 rfl rfl (ce rfl (ce rfl (ce rfl (ce rfl (ce rfl (ce rfl (ce rfl (ce rfl (ce rfl rfl)))))))))) dX7_plays_126 (fun H locs hw => ?_)
              refine lv_iload_n hx hb dX7_plays_129 rfl (lv_at hl 0 rfl) ?_
              exact r_ret X hw hk hret rfl (by rw [show f = (f - 1) + 1 from by omega] at hq; unfold plR at hq; rw [if_neg (Nat.not_le.mpr c1)] at hq; unfold plS at hq; rw [if_neg c2] at hq; rw [if_pos c4] at hq; dsimp only at hq; rw [if_pos rfl] at hq; rw [← hfin, ← hq]) (by rw [show f = (f - 1) + 1 from by omega] at hq; unfold plR at hq; rw [if_neg (Nat.not_le.mpr c1)] at hq; unfold plS at hq; rw [if_neg c2] at hq; rw [if_pos c4] at hq; dsimp only at hq; rw [if_pos rfl] at hq; rw [← hfin, ← hq]) dX7_plays_130
            · skip
              refine lv_iload_n hx hb dX7_plays_33 rfl (lv_at hl 0 rfl) ?_
              refine lv_if_eq (tgt := 124) hx hb dX7_plays_34 (by decide) (fun _ => ?_) (fun h => absurd (by decide) h)
              refine lv_aload_n hx hb dX7_plays_124 rfl (lv_at hl 3 rfl) ?_
              refine lv_iconst (v := 0) hx hb dX7_plays_125 (by decide) ?_
              refine r_put X hw (ws' := mW D L ((doR q (rdO tx T y.2.2.1) ((rdR tx T y.2.2.1 y.2.1).2.2) y.1).2.1) pa (nI P) 0 ((doR q (rdO tx T y.2.2.1) ((rdR tx T y.2.2.1 y.2.1).2.2) y.1).2.2.1) ((doR q (rdO tx T y.2.2.1) ((rdR tx T y.2.2.1 y.2.1).2.2) y.1).2.2.2.1) ((doR q (rdO tx T y.2.2.1) ((rdR tx T y.2.2.1 y.2.1).2.2) y.1).2.2.2.2.1) ((doR q (rdO tx T y.2.2.1) ((rdR tx T y.2.2.1 y.2.1).2.2) y.1).2.2.2.2.2) tx (nI T) ((rdR tx T y.2.2.1 y.2.1).2.2) (nI ((rdR tx T y.2.2.1 y.2.1).2.1)) (nI y.2.2.1) 2 ((doR q (rdO tx T y.2.2.1) ((rdR tx T y.2.2.1 y.2.1).2.2) y.1).1) (y.2.2.2.2.2.2.1 + 1) (rdO tx T y.2.2.1) spa he) fp_X7_37 rfl rfl (Nat.le_of_ble_eq_true rfl) (Foc.cell 0 rfl rfl (ce rfl (ce rfl (ce rfl (ce rfl (ce rfl (ce rfl (ce rfl (ce rfl (ce rfl rfl)))))))))) dX7_plays_126 (fun H locs hw => ?_)
              refine lv_iload_n hx hb dX7_plays_129 rfl (lv_at hl 0 rfl) ?_
              exact r_ret X hw hk hret rfl (by rw [show f = (f - 1) + 1 from by omega] at hq; unfold plR at hq; rw [if_neg (Nat.not_le.mpr c1)] at hq; unfold plS at hq; rw [if_neg c2] at hq; rw [if_pos c4] at hq; dsimp only at hq; rw [if_pos rfl] at hq; rw [← hfin, ← hq]) (by rw [show f = (f - 1) + 1 from by omega] at hq; unfold plR at hq; rw [if_neg (Nat.not_le.mpr c1)] at hq; unfold plS at hq; rw [if_neg c2] at hq; rw [if_pos c4] at hq; dsimp only at hq; rw [if_pos rfl] at hq; rw [← hfin, ← hq]) dX7_plays_130
          · skip
            refine lv_iconst (v := 1) hx hb dX7_plays_71 (by decide) ?_
            refine lv_goto (tgt := 76) hx hb dX7_plays_72 (by decide) ?_
            refine lv_istore_n (lv' := [(1, .int 1), (3, .int ((doR q (rdO tx T y.2.2.1) ((rdR tx T y.2.2.1 y.2.1).2.2) y.1).1)), (2, .int ((rdR tx T y.2.2.1 y.2.1).1)), (0, .ref (L 0))]) hx hb dX7_plays_76 rfl hl (by decide) rfl (fun ls hl => ?_)
            refine lv_aload_n hx hb dX7_plays_77 rfl (lv_at hl 3 rfl) ?_
            refine lv_iload_n hx hb dX7_plays_78 rfl (lv_at hl 2 rfl) ?_
            refine lv_if_eq (tgt := 86) hx hb dX7_plays_79 (by decide) (fun h => absurd h c2) (fun _ => ?_)
            refine lv_iconst (v := 2) hx hb dX7_plays_82 (by decide) ?_
            refine lv_goto (tgt := 87) hx hb dX7_plays_83 (by decide) ?_
            refine r_puti X hw (ws' := mW D L ((doR q (rdO tx T y.2.2.1) ((rdR tx T y.2.2.1 y.2.1).2.2) y.1).2.1) pa (nI P) 1 ((doR q (rdO tx T y.2.2.1) ((rdR tx T y.2.2.1 y.2.1).2.2) y.1).2.2.1) ((doR q (rdO tx T y.2.2.1) ((rdR tx T y.2.2.1 y.2.1).2.2) y.1).2.2.2.1) ((doR q (rdO tx T y.2.2.1) ((rdR tx T y.2.2.1 y.2.1).2.2) y.1).2.2.2.2.1) ((doR q (rdO tx T y.2.2.1) ((rdR tx T y.2.2.1 y.2.1).2.2) y.1).2.2.2.2.2) tx (nI T) ((rdR tx T y.2.2.1 y.2.1).2.2) (nI ((rdR tx T y.2.2.1 y.2.1).2.1)) (nI y.2.2.1) 2 y.2.2.2.2.2.1 y.2.2.2.2.2.2.1 (rdO tx T y.2.2.1) spa he) fp_X7_228 (Nat.le_of_ble_eq_true rfl) (Foc.cell 0 rfl rfl (ce rfl (ce rfl (ce rfl (ce rfl (ce rfl (ce rfl (ce rfl (ce rfl (ce rfl rfl)))))))))) dX7_plays_87 (fun H locs hw => ?_)
            refine lv_aload_n hx hb dX7_plays_90 rfl (lv_at hl 3 rfl) ?_
            refine lv_iload_n hx hb dX7_plays_91 rfl (lv_at hl 2 rfl) ?_
            refine lv_if_eq (tgt := 99) hx hb dX7_plays_92 (by decide) (fun h => absurd h c2) (fun _ => ?_)
            refine lv_iload_n hx hb dX7_plays_95 rfl (lv_at hl 1 rfl) ?_
            refine lv_goto (tgt := 108) hx hb dX7_plays_96 (by decide) ?_
            refine r_puti X hw (ws' := mW D L ((doR q (rdO tx T y.2.2.1) ((rdR tx T y.2.2.1 y.2.1).2.2) y.1).2.1) pa (nI P) 1 ((doR q (rdO tx T y.2.2.1) ((rdR tx T y.2.2.1 y.2.1).2.2) y.1).2.2.1) ((doR q (rdO tx T y.2.2.1) ((rdR tx T y.2.2.1 y.2.1).2.2) y.1).2.2.2.1) ((doR q (rdO tx T y.2.2.1) ((rdR tx T y.2.2.1 y.2.1).2.2) y.1).2.2.2.2.1) ((doR q (rdO tx T y.2.2.1) ((rdR tx T y.2.2.1 y.2.1).2.2) y.1).2.2.2.2.2) tx (nI T) ((rdR tx T y.2.2.1 y.2.1).2.2) (nI ((rdR tx T y.2.2.1 y.2.1).2.1)) (nI y.2.2.1) 2 ((doR q (rdO tx T y.2.2.1) ((rdR tx T y.2.2.1 y.2.1).2.2) y.1).1) y.2.2.2.2.2.2.1 (rdO tx T y.2.2.1) spa he) fp_X7_231 (Nat.le_of_ble_eq_true rfl) (Foc.cell 0 rfl rfl (ce rfl (ce rfl (ce rfl (ce rfl (ce rfl (ce rfl (ce rfl (ce rfl (ce rfl rfl)))))))))) dX7_plays_108 (fun H locs hw => ?_)
            refine lv_aload_n hx hb dX7_plays_111 rfl (lv_at hl 3 rfl) ?_
            refine lv_dup hx hb dX7_plays_112 rfl ?_
            refine r_get X hw (v := .int y.2.2.2.2.2.2.1) fl_X7_219 (m_at 0 rfl) rfl dX7_plays_113 ?_
            refine lv_iconst (v := 1) hx hb dX7_plays_116 (by decide) ?_
            refine lv_iadd hx hb dX7_plays_117 ?_
            refine r_puti X hw (ws' := mW D L ((doR q (rdO tx T y.2.2.1) ((rdR tx T y.2.2.1 y.2.1).2.2) y.1).2.1) pa (nI P) 1 ((doR q (rdO tx T y.2.2.1) ((rdR tx T y.2.2.1 y.2.1).2.2) y.1).2.2.1) ((doR q (rdO tx T y.2.2.1) ((rdR tx T y.2.2.1 y.2.1).2.2) y.1).2.2.2.1) ((doR q (rdO tx T y.2.2.1) ((rdR tx T y.2.2.1 y.2.1).2.2) y.1).2.2.2.2.1) ((doR q (rdO tx T y.2.2.1) ((rdR tx T y.2.2.1 y.2.1).2.2) y.1).2.2.2.2.2) tx (nI T) ((rdR tx T y.2.2.1 y.2.1).2.2) (nI ((rdR tx T y.2.2.1 y.2.1).2.1)) (nI y.2.2.1) 2 ((doR q (rdO tx T y.2.2.1) ((rdR tx T y.2.2.1 y.2.1).2.2) y.1).1) (y.2.2.2.2.2.2.1 + 1) (rdO tx T y.2.2.1) spa he) fp_X7_219 (Nat.le_of_ble_eq_true rfl) (Foc.cell 0 rfl rfl (ce rfl (ce rfl (ce rfl (ce rfl (ce rfl (ce rfl (ce rfl (ce rfl (ce rfl rfl)))))))))) dX7_plays_118 (fun H locs hw => ?_)
            refine lv_goto (tgt := 22) hx hb dX7_plays_121 (by decide) ?_
            exact ih22 (f - 1) _ ((doR q (rdO tx T y.2.2.1) (rdR tx T y.2.2.1 y.2.1).2.2 y.1).2, (rdR tx T y.2.2.1 y.2.1).2.2, (rdR tx T y.2.2.1 y.2.1).2.1, nI y.2.2.1, 2, (doR q (rdO tx T y.2.2.1) (rdR tx T y.2.2.1 y.2.1).2.2 y.1).1, y.2.2.2.2.2.2.1 + 1, rdO tx T y.2.2.1) (by omega) (by have hlt7 := hle.2.2 c2; dsimp only; omega) (by dsimp only; omega) hok2 (by rw [show f = (f - 1) + 1 from by omega] at hq; unfold plR at hq; rw [if_neg (Nat.not_le.mpr c1)] at hq; unfold plS at hq; rw [if_neg c2] at hq; rw [if_neg c4] at hq; dsimp only at hq; rw [if_neg (show ¬ (1 : Int32) = 0 from by decide)] at hq; exact hq) _ _ _ hw (lv_sub hl [3, 0] rfl)
  exact key22 62 61 pp ((s, td, ah, sh, n0), nu, 0, 0, re, ca, 0, od) (by omega) (by dsimp only; omega) (by dsimp only; omega) hok hfin.symm _ _ _ hw (lv_sub hl [1, 0] rfl)
