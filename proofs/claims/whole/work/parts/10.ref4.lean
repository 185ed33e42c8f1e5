/-! which numbers of its row the reference leaves as they were -/
theorem puts_ne (s : Row) (r : Nat) (v : Int32) {j : Nat} (h : j ≠ 0 + r) : sp_X7_puts s r v j = s j := by
  unfold sp_X7_puts
  exact upd_ne _ _ h
theorem steps_ne (s : Row) (r : Nat) {j : Nat} (h : j ≠ 0 + r) (h2 : j ≠ 21 + r) : (sp_X7_steps s r).2 j = s j := by
  unfold sp_X7_steps
  split <;> exact (upd_ne _ _ h2).trans (puts_ne _ _ _ h)
theorem tickR_ne (s : Row) {j : Nat} (h : 7 ≤ j) (h2 : j < 21 ∨ 28 ≤ j) (h3 : j ≠ 29) : sp_X7_tickR s j = s j := by
  unfold sp_X7_tickR
  (repeat' split) <;> simp (disch := omega) only [steps_ne, upd_ne]
theorem alStep_ne (s : Row) (a : Nat) {j : Nat} (h : j ≠ 30) (h1 : j ≠ 40 + 9 * a + 7) (h2 : j ≠ 40 + 9 * a + 8) : alStep s a j = s j := by
  unfold alStep
  (repeat' split) <;> simp (disch := omega) only [upd_ne]
theorem alF_ne (s : Row) {j : Nat} (h : j ≠ 30) (h1 : ∀ a, a < 3 → j ≠ 40 + 9 * a + 7 ∧ j ≠ 40 + 9 * a + 8) : ∀ i, i ≤ 3 → alF s i j = s j
  | 0, _ => rfl
  | i + 1, hi => (alStep_ne _ i h (h1 i (by omega)).1 (h1 i (by omega)).2).trans (alF_ne s h h1 i (by omega))
theorem tick_ne (s : Row) {j : Nat} (h : 7 ≤ j) (h2 : j < 21 ∨ 28 ≤ j) (h3 : j ≠ 29) (h4 : j ≠ 30) (h5 : ∀ a, a < 3 → j ≠ 40 + 9 * a + 7 ∧ j ≠ 40 + 9 * a + 8) : sp_X7_tick s j = s j := by
  unfold sp_X7_tick
  rw [alF_ne _ h4 h5 3 (Nat.le_refl 3)]
  exact tickR_ne s h h2 h3
theorem phase_ne (s : Row) {j : Nat} (h : 7 ≤ j) (h2 : j < 21 ∨ 28 ≤ j) (h3 : j ≠ 29) (h4 : j ≠ 30) (h5 : ∀ a, a < 3 → j ≠ 40 + 9 * a + 7 ∧ j ≠ 40 + 9 * a + 8) (h6 : j ≠ 28) (h7 : j ≠ 35) : (sp_X7_phase s).2 j = s j := by
  unfold sp_X7_phase
  split
  · dsimp only
    rw [tick_ne _ h h2 h3 h4 h5]
    simp (disch := omega) only [upd_ne]
  · simp (disch := omega) only [upd_ne]
theorem phase_set (s : Row) {j : Nat} (h : 37 ≤ j) (h2 : j < 40) : (sp_X7_phase s).2 j = s j := phase_ne s (by omega) (by omega) (by omega) (by omega) (fun a ha => by omega) (by omega) (by omega)
theorem phF_set (s : Row) {j : Nat} (h : 37 ≤ j) (h2 : j < 40) : ∀ i, phF s i j = s j
  | 0 => rfl
  | i + 1 => (phase_set _ h h2).trans (phF_set s h h2 i)
/-- the phase of now, before and behind a phase -/
theorem phase_28 {s : Row} {p z : Nat} (hp : s 28 = nI p) (hz : s 39 = nI z) (h : p < z) (h2 : z < 65536) : ((sp_X7_phase s).1 = 0 ∧ (sp_X7_phase s).2 28 = nI (p + 1) ∧ p + 1 < z) ∨ ((sp_X7_phase s).1 = 1 ∧ (sp_X7_phase s).2 28 = nI 0 ∧ p + 1 = z) := by
  have e1 : (upd (upd s 35 (s 35 + 1)) 28 ((upd s 35 (s 35 + 1)) 28 + 1)) 28 = nI (p + 1) := by
    rw [upd_eq, upd_ne _ _ (by decide), hp]
    exact nI_1 p
  have e2 : (upd (upd s 35 (s 35 + 1)) 28 ((upd s 35 (s 35 + 1)) 28 + 1)) 39 = nI z := by
    rw [upd_ne _ _ (by decide), upd_ne _ _ (by decide), hz]
  unfold sp_X7_phase
  by_cases hc : p + 1 = z
  · right
    rw [if_pos (by rw [e1, e2, hc])]
    refine ⟨rfl, ?_, hc⟩
    dsimp only
    rw [tick_ne _ (by decide) (by decide) (by decide) (by decide) (fun a ha => by omega), upd_eq]
    rfl
  · left
    have hn : ¬ (upd (upd s 35 (s 35 + 1)) 28 ((upd s 35 (s 35 + 1)) 28 + 1)) 28 = (upd (upd s 35 (s 35 + 1)) 28 ((upd s 35 (s 35 + 1)) 28 + 1)) 39 := by
      rw [e1, e2]
      exact fun q => hc ((nI_eq (by omega) (by omega)).mp q)
    rw [if_neg hn]
    refine ⟨rfl, ?_, by omega⟩
    dsimp only
    exact e1
theorem in_ok (k N : Nat) (h : k ≤ N) (hN : N < 2147483648) : ¬ sp_X7_in (nI k) 0 (nI N) = 0 := by
  unfold sp_X7_in
  rw [if_neg (nI_pos (by omega)), if_neg (fun q => absurd ((nI_ltI (by omega) (by omega)).mp q) (by omega))]
  decide
theorem in_okL (k l N : Nat) (hl : l ≤ k) (h : k ≤ N) (hN : N < 2147483648) : ¬ sp_X7_in (nI k) (nI l) (nI N) = 0 := by
  unfold sp_X7_in
  rw [if_neg (fun q => absurd ((nI_ltI (by omega) (by omega)).mp q) (by omega)), if_neg (fun q => absurd ((nI_ltI (by omega) (by omega)).mp q) (by omega))]
  decide
theorem in_iff (x : Int32) (N : Nat) (hN : N < 2147483648) : ¬ sp_X7_in x 0 (nI N) = 0 ↔ ∃ k, k < N + 1 ∧ x = nI k := by
  constructor
  · intro h
    unfold sp_X7_in at h
    by_cases h1 : x < 0
    · rw [if_pos h1] at h; exact absurd rfl h
    · rw [if_neg h1] at h
      by_cases h2 : nI N < x
      · rw [if_pos h2] at h; exact absurd rfl h
      · obtain ⟨j, hj, e⟩ := nI_of h1
        subst e
        exact ⟨j, by
          have := (not_congr (nI_ltI hN hj)).mp h2
          omega, rfl⟩
  · rintro ⟨k, hk, rfl⟩
    exact in_ok k N (by omega) hN
theorem isReg_ok {r : Nat} (h : r < 7) : ¬ sp_X7_isRegister (nI r) = 0 := in_ok r 6 (by omega) (by decide)
theorem isAl_ok {a : Nat} (h : a < 3) : ¬ sp_X7_isAlarm (nI a) = 0 := in_ok a 2 (by omega) (by decide)
