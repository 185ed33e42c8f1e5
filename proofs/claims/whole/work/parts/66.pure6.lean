/-! orders of a text compared -/
theorem isAt_iff {tx : Row} {T p : Nat} {a b : Int32} : sp_X7_isAt tx T p a b = 0 ↔ T ≤ p ∨ tx p < a ∨ b < tx p := by
  unfold sp_X7_isAt sp_X7_in
  by_cases c1 : T ≤ p
  · rw [if_pos c1]; exact ⟨fun _ => Or.inl c1, fun _ => rfl⟩
  · rw [if_neg c1]
    by_cases c2 : tx p < a
    · rw [if_pos c2, if_pos rfl]; exact ⟨fun _ => Or.inr (Or.inl c2), fun _ => rfl⟩
    · rw [if_neg c2]
      by_cases c3 : b < tx p
      · rw [if_pos c3, if_pos rfl]; exact ⟨fun _ => Or.inr (Or.inr c3), fun _ => rfl⟩
      · rw [if_neg c3, if_neg (by decide)]
        exact ⟨fun q => absurd q (by decide), fun q => by rcases q with q | q | q <;> contradiction⟩
theorem dgR_eo {tx : Row} {T p : Nat} : ∀ (f d : Nat) (v : Int32), v = nuF tx p d → p + (dgR tx T p f d v).1 = eoF tx T p f (p + d) ∧ (dgR tx T p f d v).2 = nuF tx p (dgR tx T p f d v).1
  | 0, d, v, h => ⟨rfl, h⟩
  | f + 1, d, v, h => by
    by_cases c : sp_X7_isAt tx T (p + d) 48 57 = 0
    · have e1 : dgR tx T p (f + 1) d v = (d, v) := if_pos c
      rw [e1]
      rw [isAt_iff] at c
      rw [eoF_x (by rcases c with c | c | c; exact Or.inl c; exact Or.inr (Or.inr (Or.inl c)); exact Or.inr (Or.inr (Or.inr c)))]
      exact ⟨rfl, h⟩
    · by_cases c2 : 3 ≤ d
      · have e1 : dgR tx T p (f + 1) d v = (d, v) := (if_neg c).trans (if_pos c2)
        rw [e1, eoF_x (Or.inr (Or.inl (by omega)))]
        exact ⟨rfl, h⟩
      · have e1 : dgR tx T p (f + 1) d v = dgR tx T p f (d + 1) (10 * v + tx (p + d) - 48) := (if_neg c).trans (if_neg c2)
        rw [e1]
        have k := fun q => c (isAt_iff.mpr q)
        rw [eoF_s (fun q => k (Or.inl q)) (by omega) (fun q => k (Or.inr (Or.inl q))) (fun q => k (Or.inr (Or.inr q)))]
        exact dgR_eo f (d + 1) _ (by rw [h]; rfl)
theorem dg_eo (tx : Row) (T p : Nat) : p + (dg tx T p).1 = eo tx T p ∧ (dg tx T p).2 = nuF tx p (eo tx T p - p) := by
  obtain ⟨h1, h2⟩ := dgR_eo (tx := tx) (T := T) (p := p) 4 0 0 rfl
  have e1 : p + (dg tx T p).1 = eo tx T p := h1
  refine ⟨e1, ?_⟩
  rw [← e1, show p + (dg tx T p).1 - p = (dg tx T p).1 from by omega]
  exact h2
theorem ps_prs {tx : Row} {T : Nat} : ∀ (r i p : Nat) (nu : Row), ps tx T r i p nu = ((if (prs tx T r i p nu).1 = 0 then 1 else 0), (prs tx T r i p nu).2)
  | 0, i, p, nu => rfl
  | r + 1, i, p, nu => by
    obtain ⟨e1, e2⟩ := dg_eo tx T p
    have eP : prs tx T (r + 1) i p nu = if (dg tx T p).1 = 0 then (0, p + (dg tx T p).1, upd nu i (dg tx T p).2) else (if sp_X7_isAt tx T (p + (dg tx T p).1) (sep r) (sep r) = 0 then (0, p + (dg tx T p).1, upd nu i (dg tx T p).2) else prs tx T r (i + 1) (p + (dg tx T p).1 + 1) (upd nu i (dg tx T p).2)) := rfl
    rw [eP, e1, e2]
    by_cases c1 : (dg tx T p).1 = 0
    · rw [if_pos c1, ps_1 (by omega)]
      rfl
    · have c1' : ¬ eo tx T p = p := by omega
      rw [if_neg c1]
      by_cases c2 : T ≤ eo tx T p
      · rw [ps_2 c1' c2, if_pos (isAt_iff.mpr (Or.inl c2))]
        rfl
      · by_cases c3 : tx (eo tx T p) = sep r
        · have hA : ¬ sp_X7_isAt tx T (eo tx T p) (sep r) (sep r) = 0 := by
            intro q
            rcases isAt_iff.mp q with q | q | q
            · exact c2 q
            · rw [c3] at q; exact Int32.lt_irrefl q
            · rw [c3] at q; exact Int32.lt_irrefl q
          rw [ps_s c1' c2 c3, if_neg hA]
          exact ps_prs r (i + 1) _ _
        · rw [ps_3 c1' c2 c3, if_pos (isAt_iff.mpr (Or.inr ?_))]
          · rfl
          · rcases Int32.lt_or_lt_of_ne c3 with q | q
            · exact Or.inl q
            · exact Or.inr q
theorem nb_same (x : Int32) : nbN x = nbC x := rfl
theorem nb_0 {x : Int32} (h : x < 33 ∨ 126 < x) : nbC x = 0 := by
  have k : sp_X4_numbersBehind x = 0 := by
    unfold sp_X4_numbersBehind
    rcases h with h | h
    · rw [if_neg (fun q => by rw [q] at h; exact absurd h (by decide)), if_neg (fun q => by rw [q] at h; exact absurd h (by decide)), if_neg (fun q => by rw [q] at h; exact absurd h (by decide)), if_neg (fun q => by rw [q] at h; exact absurd h (by decide)), if_neg (fun q => by rw [q] at h; exact absurd h (by decide)), if_neg (fun q => by rw [q] at h; exact absurd h (by decide))]
    · rw [if_neg (fun q => by rw [q] at h; exact absurd h (by decide)), if_neg (fun q => by rw [q] at h; exact absurd h (by decide)), if_neg (fun q => by rw [q] at h; exact absurd h (by decide)), if_neg (fun q => by rw [q] at h; exact absurd h (by decide)), if_neg (fun q => by rw [q] at h; exact absurd h (by decide)), if_neg (fun q => by rw [q] at h; exact absurd h (by decide))]
  unfold nbC
  rw [k]
  rfl
theorem pso_rdR {tx : Row} {T p : Nat} (hp : p < T) (nu : Row) : pso tx T p nu = ((if (rdR tx T p nu).1 = 0 then 1 else 0), (rdR tx T p nu).2) ∧ (¬ (rdR tx T p nu).1 = 0 → rdO tx T p = tx p ∧ ¬ nbC (tx p) = 0) := by
  unfold pso rdR
  by_cases c : sp_X7_isAt tx T p 33 126 = 0
  · have eO : rdO tx T p = 0 := if_pos c
    have e0 : nbC (tx p) = 0 := nb_0 (by rcases isAt_iff.mp c with q | q; omega; exact q)
    rw [eO, if_pos e0, if_pos (show nbN 0 = 0 from by decide)]
    exact ⟨rfl, fun q => absurd rfl q⟩
  · have eO : rdO tx T p = tx p := if_neg c
    rw [eO, nb_same]
    by_cases c2 : nbC (tx p) = 0
    · rw [if_pos c2, if_pos c2]
      exact ⟨rfl, fun q => absurd rfl q⟩
    · rw [if_neg c2, if_neg c2]
      exact ⟨ps_prs _ _ _ _, fun _ => ⟨rfl, c2⟩⟩
/-- a number that was read -/
def okN (x : Int32) : Prop := ∃ k, k < 1000 ∧ x = nI k
theorem nuF_ok {tx : Row} {q : Nat} : ∀ d, d ≤ 3 → (∀ e, e < d → ¬ tx (q + e) < 48 ∧ ¬ 57 < tx (q + e)) → ∃ k, k < 10 ^ d ∧ nuF tx q d = nI k
  | 0, _, _ => ⟨0, by decide, rfl⟩
  | d + 1, hd, h => by
    obtain ⟨k, hk, e⟩ := nuF_ok d (by omega) (fun e he => h e (by omega))
    obtain ⟨h1, h2⟩ := h d (by omega)
    obtain ⟨c, hc, ec⟩ := nI_of (x := tx (q + d)) (fun g => h1 (Int32.lt_trans g (by decide)))
    rw [ec] at h1 h2
    have c1 : 48 ≤ c := by
      apply Nat.le_of_not_lt
      intro g
      exact h1 ((nI_ltI (b := 48) hc (by decide)).mpr g)
    have c2 : c ≤ 57 := by
      apply Nat.le_of_not_lt
      intro g
      exact h2 ((nI_ltI (a := 57) (by decide) hc).mpr g)
    refine ⟨10 * k + (c - 48), ?_, ?_⟩
    · rw [Nat.pow_succ]; omega
    · show 10 * nuF tx q d + tx (q + d) - 48 = _
      rw [e, ec, show (10 : Int32) = nI 10 from rfl, show nI 10 * nI k = nI (10 * k) from (pk_mul 10 k), show nI (10 * k) + nI c = nI (10 * k + c) from nI_add _ _, show (48 : Int32) = nI 48 from rfl, show 10 * k + c = 10 * k + (c - 48) + 48 from by omega, ← nI_add]
      exact Int32.add_sub_cancel _ _
theorem eoF_d {tx : Row} {T q : Nat} : ∀ (f a : Nat), q ≤ a → (∀ e, q ≤ e → e < a → ¬ tx e < 48 ∧ ¬ 57 < tx e) → (a ≤ q + 3) → (∀ e, q ≤ e → e < eoF tx T q f a → ¬ tx e < 48 ∧ ¬ 57 < tx e) ∧ eoF tx T q f a ≤ q + 3
  | 0, a, h1, h2, h3 => ⟨h2, h3⟩
  | f + 1, a, h1, h2, h3 => by
    by_cases c1 : T ≤ a
    · rw [eoF_x (Or.inl c1)]; exact ⟨h2, h3⟩
    · by_cases c2 : q + 3 ≤ a
      · rw [eoF_x (Or.inr (Or.inl c2))]; exact ⟨h2, h3⟩
      · by_cases c3 : tx a < 48
        · rw [eoF_x (Or.inr (Or.inr (Or.inl c3)))]; exact ⟨h2, h3⟩
        · by_cases c4 : 57 < tx a
          · rw [eoF_x (Or.inr (Or.inr (Or.inr c4)))]; exact ⟨h2, h3⟩
          · rw [eoF_s c1 c2 c3 c4]
            refine eoF_d f (a + 1) (by omega) (fun e g1 g2 => ?_) (by omega)
            by_cases ce : e = a
            · subst ce; exact ⟨c3, c4⟩
            · exact h2 e g1 (by omega)
theorem nuF_okN {tx : Row} {T q : Nat} (h : q ≤ T) : okN (nuF tx q (eo tx T q - q)) := by
  obtain ⟨k1, k2⟩ := eoF_d (tx := tx) (T := T) (q := q) 4 q (Nat.le_refl q) (fun e g1 g2 => absurd g2 (by omega)) (by omega)
  have b := eo_b tx h
  obtain ⟨k, hk, e⟩ := nuF_ok (tx := tx) (q := q) (eo tx T q - q) (by have : eo tx T q ≤ q + 3 := k2; omega) (fun e he => k1 (q + e) (by omega) (by show q + e < eo tx T q; omega))
  have hp : 10 ^ (eo tx T q - q) ≤ 10 ^ 3 := Nat.pow_le_pow_right (by decide) (by have : eo tx T q ≤ q + 3 := k2; omega)
  exact ⟨k, Nat.lt_of_lt_of_le hk hp, e⟩
theorem ps_ok {tx : Row} {T : Nat} : ∀ (r i q : Nat) (nu : Row), q ≤ T → (∀ j, j < i → okN (nu j)) → (ps tx T r i q nu).1 = 0 → ∀ j, j < i + r → okN ((ps tx T r i q nu).2.2 j)
  | 0, i, q, nu, _, h, _ => fun j hj => h j hj
  | r + 1, i, q, nu, hq, h, h0 => by
    have b := eo_b tx hq
    by_cases c1 : eo tx T q = q
    · rw [ps_1 c1] at h0; exact absurd (show (1 : Int32) = 0 from h0) (by decide)
    · by_cases c2 : T ≤ eo tx T q
      · rw [ps_2 c1 c2] at h0; exact absurd (show (1 : Int32) = 0 from h0) (by decide)
      · by_cases c3 : tx (eo tx T q) = sep r
        · rw [ps_s c1 c2 c3] at h0 ⊢
          intro j hj
          refine ps_ok r (i + 1) _ _ (by omega) (fun j2 hj2 => ?_) h0 j (by omega)
          by_cases cj : j2 = i
          · subst cj; rw [upd_eq]; exact nuF_okN hq
          · rw [upd_ne _ _ cj]; exact h j2 (by omega)
        · rw [ps_3 c1 c2 c3] at h0; exact absurd (show (1 : Int32) = 0 from h0) (by decide)
/-- what stands in the numbers' row beforehand is no matter -/
theorem ps_ind {tx : Row} {T : Nat} : ∀ (r i q : Nat) (nu nv : Row), (ps tx T r i q nu).1 = (ps tx T r i q nv).1 ∧ (ps tx T r i q nu).2.1 = (ps tx T r i q nv).2.1 ∧ ((ps tx T r i q nu).1 = 0 → (∀ j, j < i → nu j = nv j) → ∀ j, j < i + r → (ps tx T r i q nu).2.2 j = (ps tx T r i q nv).2.2 j)
  | 0, i, q, nu, nv => ⟨rfl, rfl, fun _ h j hj => h j hj⟩
  | r + 1, i, q, nu, nv => by
    by_cases c1 : eo tx T q = q
    · rw [ps_1 c1, ps_1 c1]; exact ⟨rfl, rfl, fun q => absurd (show (1 : Int32) = 0 from q) (by decide)⟩
    · by_cases c2 : T ≤ eo tx T q
      · rw [ps_2 c1 c2, ps_2 c1 c2]; exact ⟨rfl, rfl, fun q => absurd (show (1 : Int32) = 0 from q) (by decide)⟩
      · by_cases c3 : tx (eo tx T q) = sep r
        · rw [ps_s c1 c2 c3, ps_s c1 c2 c3]
          obtain ⟨k1, k2, k3⟩ := ps_ind r (i + 1) (eo tx T q + 1) (upd nu i (nuF tx q (eo tx T q - q))) (upd nv i (nuF tx q (eo tx T q - q)))
          refine ⟨k1, k2, fun h0 h j hj => k3 h0 (fun j2 hj2 => ?_) j (by omega)⟩
          by_cases cj : j2 = i
          · subst cj; rw [upd_eq, upd_eq]
          · rw [upd_ne _ _ cj, upd_ne _ _ cj]; exact h j2 (by omega)
        · rw [ps_3 c1 c2 c3, ps_3 c1 c2 c3]; exact ⟨rfl, rfl, fun q => absurd (show (1 : Int32) = 0 from q) (by decide)⟩
theorem pso_ind {tx : Row} {T p : Nat} (nu nv : Row) : (pso tx T p nu).1 = (pso tx T p nv).1 ∧ (pso tx T p nu).2.1 = (pso tx T p nv).2.1 ∧ ((pso tx T p nu).1 = 0 → ¬ nbC (tx p) = 0 ∧ ∀ j, j < nbC (tx p) → (pso tx T p nu).2.2 j = (pso tx T p nv).2.2 j) := by
  unfold pso
  by_cases c : nbC (tx p) = 0
  · rw [if_pos c, if_pos c]; exact ⟨rfl, rfl, fun q => absurd (show (1 : Int32) = 0 from q) (by decide)⟩
  · rw [if_neg c, if_neg c]
    obtain ⟨k1, k2, k3⟩ := ps_ind (tx := tx) (T := T) (nbC (tx p)) 0 (p + 1) nu nv
    exact ⟨k1, k2, fun h0 => ⟨c, fun j hj => k3 h0 (fun j2 hj2 => absurd hj2 (Nat.not_lt_zero j2)) j (by omega)⟩⟩
theorem pso_okN {tx : Row} {T p : Nat} (hp : p < T) (nu : Row) (h : (pso tx T p nu).1 = 0) : ∀ j, j < nbC (tx p) → okN ((pso tx T p nu).2.2 j) := by
  unfold pso at h ⊢
  by_cases c : nbC (tx p) = 0
  · rw [if_pos c] at h; exact absurd (show (1 : Int32) = 0 from h) (by decide)
  · rw [if_neg c] at h ⊢
    intro j hj
    exact ps_ok (nbC (tx p)) 0 (p + 1) nu (by omega) (fun j2 hj2 => absurd hj2 (Nat.not_lt_zero j2)) h j (by omega)
theorem nb_val {x : Int32} (h : ¬ nbC x = 0) : (x = 97 ∧ nbC x = 3) ∨ (x = 98 ∧ nbC x = 1) ∨ (x = 109 ∧ nbC x = 2) ∨ (x = 112 ∧ nbC x = 1) ∨ (x = 114 ∧ nbC x = 1) ∨ (x = 119 ∧ nbC x = 2) := by
  by_cases c1 : x = 97
  · rw [c1]; exact Or.inl ⟨rfl, by decide⟩
  · by_cases c2 : x = 98
    · rw [c2]; exact Or.inr (Or.inl ⟨rfl, by decide⟩)
    · by_cases c3 : x = 109
      · rw [c3]; exact Or.inr (Or.inr (Or.inl ⟨rfl, by decide⟩))
      · by_cases c4 : x = 112
        · rw [c4]; exact Or.inr (Or.inr (Or.inr (Or.inl ⟨rfl, by decide⟩)))
        · by_cases c5 : x = 114
          · rw [c5]; exact Or.inr (Or.inr (Or.inr (Or.inr (Or.inl ⟨rfl, by decide⟩))))
          · by_cases c6 : x = 119
            · rw [c6]; exact Or.inr (Or.inr (Or.inr (Or.inr (Or.inr ⟨rfl, by decide⟩))))
            · refine absurd ?_ h
              have k : sp_X4_numbersBehind x = 0 := by
                unfold sp_X4_numbersBehind
                rw [if_neg c1, if_neg c2, if_neg c3, if_neg c4, if_neg c5, if_neg c6]
              unfold nbC
              rw [k]
              rfl
theorem may_ind {nu nv : Row} {x : Int32} (h : ¬ nbC x = 0) (e : ∀ j, j < nbC x → nu j = nv j) : sp_X6_mayDo nu x = sp_X6_mayDo nv x := by
  unfold sp_X6_mayDo
  rcases nb_val h with ⟨q, n⟩ | ⟨q, n⟩ | ⟨q, n⟩ | ⟨q, n⟩ | ⟨q, n⟩ | ⟨q, n⟩
  · rw [if_pos q, if_pos q, e 0 (by omega), e 1 (by omega), e 2 (by omega)]
  · rw [e 0 (by omega), if_neg (by rw [q]; decide), if_pos q, if_neg (by rw [q]; decide), if_pos q]
  · rw [e 0 (by omega), e 1 (by omega), if_neg (show ¬ x = 97 from by rw [q]; decide), if_neg (show ¬ x = 97 from by rw [q]; decide)]
  · rw [e 0 (by omega), if_neg (by rw [q]; decide), if_neg (by rw [q]; decide), if_pos q, if_neg (by rw [q]; decide), if_neg (by rw [q]; decide), if_pos q]
  · rw [e 0 (by omega), if_neg (by rw [q]; decide), if_neg (by rw [q]; decide), if_neg (by rw [q]; decide), if_pos q, if_neg (by rw [q]; decide), if_neg (by rw [q]; decide), if_neg (by rw [q]; decide), if_pos q]
  · rw [e 0 (by omega), e 1 (by omega), if_neg (show ¬ x = 97 from by rw [q]; decide), if_neg (show ¬ x = 97 from by rw [q]; decide)]
theorem ff_ind {tx : Row} {T : Nat} : ∀ (f p : Nat) (o o2 : OS), (ffR tx T f p o).1 = (ffR tx T f p o2).1
  | 0, p, o, o2 => rfl
  | f + 1, p, o, o2 => by
    by_cases c1 : T ≤ p
    · rw [ffR_T c1, ffR_T c1]
    · obtain ⟨k1, k2, k3⟩ := pso_ind (tx := tx) (T := T) (p := p) o.1 o2.1
      by_cases c2 : (pso tx T p o.1).1 = 0
      · obtain ⟨n0, n1⟩ := k3 c2
        have m := may_ind n0 n1
        by_cases c3 : sp_X6_mayDo (pso tx T p o.1).2.2 (tx p) = 0
        · rw [ffR_n c1 c2 c3, ffR_n c1 (k1.symm.trans c2) (m.symm.trans c3)]
        · rw [ffR_s c1 c2 c3, ffR_s c1 (k1.symm.trans c2) (fun q => c3 (m.trans q)), k2]
          exact ff_ind f _ _ _
      · rw [ffR_b c1 c2, ffR_b c1 (fun q => c2 (k1.trans q))]
