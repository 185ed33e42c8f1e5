/-! floats: the share of two small numbers, doubled, and as bits -/
abbrev f32 : Jvm.FP.Core.Fmt := Jvm.FP.Core.b32
theorem f32_t : f32.tails = 8388608 := by decide
theorem f32_e : f32.exps = 256 := by decide
theorem f32_q : f32.qmin = -149 := by decide
theorem f32_Q : f32.qmax = 104 := by decide
theorem f32_p : f32.p = 24 := rfl
theorem f32_2p : 2 ^ f32.p = 16777216 := by decide
theorem fl_dec {E T : Nat} (h1 : 1 ≤ E) (h2 : E ≤ 254) (hT : T < 8388608) : Jvm.FP.Core.decode f32 (E * 8388608 + T) = .fin false (8388608 + T) (-149 + ((E : Int) - 1)) := by
  unfold Jvm.FP.Core.decode Jvm.FP.Core.fieldE Jvm.FP.Core.fieldT Jvm.FP.Core.fieldS
  rw [f32_t, f32_e, f32_q]
  rw [show (E * 8388608 + T) / 8388608 = E from by omega, show (E * 8388608 + T) % 8388608 = T from by omega]
  rw [show E % 256 = E from by omega, if_neg (by omega), if_neg (by omega), show E / 256 % 2 = 0 from by omega]
  rfl
theorem fl_enc {c : Nat} {q : Int} (h1 : 8388608 ≤ c) (h2 : -149 ≤ q) : Jvm.FP.Core.encode f32 (.fin false c q) = ((q + 149).toNat + 1) * 8388608 + (c - 8388608) := by
  unfold Jvm.FP.Core.encode Jvm.FP.Core.assemble
  dsimp only
  rw [f32_t, f32_q, f32_e, if_neg (by omega), show (q - -149) = q + 149 from by omega]
  show (0 * 256 + ((q + 149).toNat + 1)) * 8388608 + (c - 8388608) = _
  rw [Nat.zero_mul, Nat.zero_add]
theorem fl_settle {c : Nat} {q : Int} (h1 : 8388608 ≤ c) (h2 : c ≤ 16777216) (h3 : -149 ≤ q) (h4 : q ≤ 103) : Jvm.FP.Core.encode f32 (Jvm.FP.Core.settle f32 false c q) = ((q + 149).toNat + 1) * 8388608 + (c - 8388608) := by
  unfold Jvm.FP.Core.settle Jvm.FP.Core.bound
  rw [f32_2p, f32_Q, f32_t]
  by_cases h : c < 16777216
  · rw [if_pos h, if_pos (by omega), fl_enc h1 h3]
  · rw [if_neg h, if_pos (by omega), fl_enc (by omega) (by omega), show c = 16777216 from by omega, show (q + 1 + 149).toNat = (q + 149).toNat + 1 from by omega]
    omega
theorem fl_near1 (x : Nat) : Jvm.FP.Core.nearest x 1 = x := by
  unfold Jvm.FP.Core.nearest
  rw [Nat.mod_one, Nat.div_one, if_pos (by decide)]
theorem fl_nearM (c B : Nat) (hB : 0 < B) : Jvm.FP.Core.nearest (c * B) B = c := by
  unfold Jvm.FP.Core.nearest
  rw [Nat.mul_mod_left, Nat.mul_div_cancel _ hB, if_pos (by omega)]
theorem fl_nearB {A B M N : Nat} (hB : 0 < B) (h1 : M * B ≤ A) (h2 : A < N * B) : M ≤ Jvm.FP.Core.nearest A B ∧ Jvm.FP.Core.nearest A B ≤ N := by
  have g1 : M ≤ A / B := (Nat.le_div_iff_mul_le hB).mpr h1
  have g2 : A / B < N := (Nat.div_lt_iff_lt_mul hB).mpr h2
  unfold Jvm.FP.Core.nearest
  split
  · omega
  · split
    · omega
    · have : A / B % 2 ≤ 1 := by omega
      omega
theorem fl_lead1 {x k : Nat} (h1 : 2 ^ k ≤ x) (h2 : x < 2 ^ (k + 1)) : Jvm.FP.Core.leading x 1 = (k : Int) := by
  have hx : x ≠ 0 := by have := Nat.two_pow_pos k; omega
  have hl : x.log2 = k := (Nat.log2_eq_iff hx).mpr ⟨h1, h2⟩
  unfold Jvm.FP.Core.leading
  rw [hl, show Nat.log2 1 = 0 from by decide]
  dsimp only
  rw [show ((k : Int) - ((0 : Nat) : Int)).toNat = k from by omega, show (-((k : Int) - ((0 : Nat) : Int))).toNat = 0 from by omega, if_pos (by omega)]
  omega
theorem fl_lead2 {c d : Nat} (c1 : 8388608 ≤ c) (c2 : c < 16777216) (d1 : 8388608 ≤ d) (d2 : d < 16777216) : Jvm.FP.Core.leading c d = if d ≤ c then 0 else -1 := by
  have hc : c.log2 = 23 := (Nat.log2_eq_iff (by omega)).mpr ⟨c1, c2⟩
  have hd : d.log2 = 23 := (Nat.log2_eq_iff (by omega)).mpr ⟨d1, d2⟩
  unfold Jvm.FP.Core.leading
  rw [hc, hd]
  dsimp only
  rw [show (((23 : Nat) : Int) - ((23 : Nat) : Int)).toNat = 0 from by decide, show (-(((23 : Nat) : Int) - ((23 : Nat) : Int))).toNat = 0 from by decide, Nat.pow_zero, Nat.mul_one, Nat.mul_one]
  by_cases h : d ≤ c
  · rw [if_pos h, if_pos h]; rfl
  · rw [if_neg h, if_neg h]; rfl
/-- a float times a power of two -/
theorem fl_mul {E T j : Nat} (hj : j ≤ 127) (h1 : 1 ≤ E) (h2 : E + j ≤ 253) (hT : T < 8388608) : Jvm.FP.Core.mul f32 (E * 8388608 + T) ((127 + j) * 8388608) = (E + j) * 8388608 + T := by
  unfold Jvm.FP.Core.mul
  have e2 := fl_dec (E := 127 + j) (T := 0) (by omega) (by omega) (by decide)
  rw [Nat.add_zero, Nat.add_zero] at e2
  rw [fl_dec h1 (by omega) hT, e2]
  show Jvm.FP.Core.encode f32 (Jvm.FP.Core.roundRatio f32 false ((8388608 + T) * 8388608) 1 _) = _
  unfold Jvm.FP.Core.roundRatio
  rw [if_neg (by omega)]
  unfold Jvm.FP.Core.roundAt Jvm.FP.Core.quantum
  rw [fl_lead1 (k := 46) (by omega) (by omega), f32_q, f32_p]
  rw [show max (-149 : Int) (((46 : Nat) : Int) + (-149 + ((E : Int) - 1) + (-149 + (((127 + j : Nat) : Int) - 1))) - (((24 : Nat) : Int) - 1)) = -149 + ((E : Int) - 1) + (-149 + (((127 + j : Nat) : Int) - 1)) + 23 from by omega]
  generalize hz : -149 + ((E : Int) - 1) + (-149 + (((127 + j : Nat) : Int) - 1)) = z
  unfold Jvm.FP.Core.unitsNum Jvm.FP.Core.unitsDen
  rw [show (z - (z + 23)).toNat = 0 from by omega, show (z + 23 - z).toNat = 23 from by omega, Nat.pow_zero, Nat.mul_one, Nat.one_mul, show 2 ^ 23 = 8388608 from rfl, fl_nearM _ _ (by decide), fl_settle (by omega) (by omega) (by omega) (by omega)]
  rw [show (z + 23 + 149).toNat + 1 = E + j from by omega]
  omega
/-- a small number as a float -/
theorem fl_int {t : Nat} (h1 : 1 ≤ t) (h2 : t < 16777216) : ∃ g c, g ≤ 23 ∧ c = t * 2 ^ (23 - g) ∧ 8388608 ≤ c ∧ c < 16777216 ∧ 2 ^ g ≤ t ∧ t < 2 ^ (g + 1) ∧ Jvm.FP.Core.fromInt f32 (t : Int) = (g + 127) * 8388608 + (c - 8388608) := by
  have a1 : 2 ^ t.log2 ≤ t := Nat.log2_self_le (by omega)
  have a2 : t < 2 ^ (t.log2 + 1) := Nat.lt_log2_self
  generalize hg : t.log2 = g at a1 a2
  have g23 : g ≤ 23 := by
    apply Nat.le_of_not_lt
    intro h
    have : 2 ^ 24 ≤ 2 ^ g := Nat.pow_le_pow_right (by decide) h
    omega
  have c1 : 8388608 ≤ t * 2 ^ (23 - g) := by
    have : 2 ^ g * 2 ^ (23 - g) ≤ t * 2 ^ (23 - g) := Nat.mul_le_mul_right _ a1
    rw [← Nat.pow_add, show g + (23 - g) = 23 from by omega] at this
    exact this
  have c2 : t * 2 ^ (23 - g) < 16777216 := by
    have : t * 2 ^ (23 - g) < 2 ^ (g + 1) * 2 ^ (23 - g) := Nat.mul_lt_mul_of_pos_right a2 (Nat.two_pow_pos _)
    rw [← Nat.pow_add, show g + 1 + (23 - g) = 24 from by omega] at this
    exact this
  refine ⟨g, _, g23, rfl, c1, c2, a1, a2, ?_⟩
  unfold Jvm.FP.Core.fromInt Jvm.FP.Core.ofInt Jvm.FP.Core.round
  rw [show decide ((t : Int) < 0) = false from decide_eq_false (by omega), show (t : Int).natAbs = t from rfl]
  dsimp only
  unfold Jvm.FP.Core.roundRatio
  rw [if_neg (by omega)]
  unfold Jvm.FP.Core.roundAt Jvm.FP.Core.quantum
  rw [fl_lead1 a1 a2, f32_q, f32_p, show max (-149 : Int) ((g : Int) + 0 - (((24 : Nat) : Int) - 1)) = (g : Int) - 23 from by omega]
  unfold Jvm.FP.Core.unitsNum Jvm.FP.Core.unitsDen
  rw [show ((0 : Int) - ((g : Int) - 23)).toNat = 23 - g from by omega, show ((g : Int) - 23 - 0).toNat = 0 from by omega, Nat.pow_zero, Nat.mul_one, fl_near1, fl_settle c1 (by omega) (by omega) (by omega)]
  rw [show ((g : Int) - 23 + 149).toNat + 1 = g + 127 from by omega]
/-- the share of two small numbers, as bits -/
theorem fl_div {t b : Nat} (h1 : 1 ≤ t) (h2 : t ≤ b) (h3 : b < 16777216) : ∃ n, Jvm.FP.Core.div f32 (Jvm.FP.Core.fromInt f32 (t : Int)) (Jvm.FP.Core.fromInt f32 (b : Int)) = n ∧ 8388608 ≤ n ∧ n ≤ 1065353216 := by
  obtain ⟨g, c, hg, hc, c1, c2, a1, a2, e1⟩ := fl_int h1 (Nat.lt_of_le_of_lt h2 h3)
  obtain ⟨k, d, hk, hd, d1, d2, b1, b2, e2⟩ := fl_int (Nat.le_trans h1 h2) h3
  have hgk : g ≤ k := by
    apply Nat.le_of_not_lt
    intro h
    have : 2 ^ (k + 1) ≤ 2 ^ g := Nat.pow_le_pow_right (by decide) h
    omega
  have hcd : g = k → c ≤ d := by
    intro h
    rw [hc, hd, h]
    exact Nat.mul_le_mul_right _ h2
  unfold Jvm.FP.Core.div
  rw [e1, e2, fl_dec (by omega) (by omega) (by omega), fl_dec (by omega) (by omega) (by omega)]
  rw [show 8388608 + (c - 8388608) = c from by omega, show 8388608 + (d - 8388608) = d from by omega]
  unfold Jvm.FP.Core.quotient
  dsimp only
  rw [if_neg (by omega)]
  unfold Jvm.FP.Core.roundRatio
  rw [if_neg (by omega)]
  unfold Jvm.FP.Core.roundAt Jvm.FP.Core.quantum
  rw [fl_lead2 c1 c2 d1 d2, f32_q, f32_p, show (false != false) = false from rfl]
  rw [show -149 + (((g + 127 : Nat) : Int) - 1) - (-149 + (((k + 127 : Nat) : Int) - 1)) = (g : Int) - (k : Int) from by omega]
  by_cases h : d ≤ c
  · rw [if_pos h, show max (-149 : Int) (0 + ((g : Int) - (k : Int)) - (((24 : Nat) : Int) - 1)) = (g : Int) - (k : Int) - 23 from by omega]
    generalize hz : (g : Int) - (k : Int) = z
    unfold Jvm.FP.Core.unitsNum Jvm.FP.Core.unitsDen
    rw [show (z - (z - 23)).toNat = 23 from by omega, show (z - 23 - z).toNat = 0 from by omega, Nat.pow_zero, Nat.mul_one, show 2 ^ 23 = 8388608 from rfl]
    by_cases hq : c = d
    · subst hq
      rw [Nat.mul_comm c 8388608, fl_nearM _ _ (by omega), fl_settle (by omega) (by omega) (by omega) (by omega)]
      exact ⟨_, rfl, by omega, by omega⟩
    · have q := fl_nearB (A := c * 8388608) (B := d) (M := 8388608) (N := 16777216) (by omega) (by omega) (by omega)
      rw [fl_settle q.1 q.2 (by omega) (by omega)]
      exact ⟨_, rfl, by omega, by omega⟩
  · rw [if_neg h, show max (-149 : Int) (-1 + ((g : Int) - (k : Int)) - (((24 : Nat) : Int) - 1)) = (g : Int) - (k : Int) - 24 from by omega]
    generalize hz : (g : Int) - (k : Int) = z
    unfold Jvm.FP.Core.unitsNum Jvm.FP.Core.unitsDen
    rw [show (z - (z - 24)).toNat = 24 from by omega, show (z - 24 - z).toNat = 0 from by omega, Nat.pow_zero, Nat.mul_one, show 2 ^ 24 = 16777216 from rfl]
    have q := fl_nearB (A := c * 16777216) (B := d) (M := 8388608) (N := 16777216) (by omega) (by omega) (by omega)
    rw [fl_settle q.1 q.2 (by omega) (by omega)]
    exact ⟨_, rfl, by omega, by omega⟩
theorem fl_0 {b : Nat} (h1 : 1 ≤ b) (h3 : b < 16777216) : Jvm.FP.Core.div f32 (Jvm.FP.Core.fromInt f32 ((0 : Nat) : Int)) (Jvm.FP.Core.fromInt f32 (b : Int)) = 0 := by
  obtain ⟨k, d, hk, hd, d1, d2, b1, b2, e2⟩ := fl_int h1 h3
  rw [e2, show Jvm.FP.Core.fromInt f32 ((0 : Nat) : Int) = 0 from by decide +kernel]
  unfold Jvm.FP.Core.div
  rw [fl_dec (by omega) (by omega) (by omega), show Jvm.FP.Core.decode f32 0 = .fin false 0 (-149) from by decide +kernel]
  unfold Jvm.FP.Core.quotient
  dsimp only
  rw [if_neg (by omega)]
  unfold Jvm.FP.Core.roundRatio
  rw [if_pos rfl]
  decide +kernel
/-- bits of a share -/
def okQ (n : Nat) : Prop := n = 0 ∨ (8388608 ≤ n ∧ n ≤ 1065353216)
abbrev uN (n : Nat) : UInt32 := UInt32.ofNat n
theorem uN_nat {n : Nat} (h : n < 4294967296) : (uN n).toNat = n := by
  show n % 4294967296 = n
  omega
theorem nI_int {t : Nat} (h : t < 2147483648) : (nI t).toInt = (t : Int) := nI_toInt h
theorem share_q {t b : Nat} (h2 : t ≤ b) (h1 : 1 ≤ b) (h3 : b < 16777216) : ∃ n, Jvm.FP.fdiv (Jvm.FP.i2f (nI t)) (Jvm.FP.i2f (nI b)) = uN n ∧ okQ n := by
  show ∃ n, UInt32.ofNat (Jvm.FP.Core.div f32 (UInt32.ofNat (Jvm.FP.Core.fromInt f32 (nI t).toInt)).toNat (UInt32.ofNat (Jvm.FP.Core.fromInt f32 (nI b).toInt)).toNat) = uN n ∧ okQ n
  rw [nI_int (by omega), nI_int (by omega)]
  obtain ⟨k, d, hk, -, d1, d2, -, -, e2⟩ := fl_int h1 h3
  have q2 : (UInt32.ofNat (Jvm.FP.Core.fromInt f32 (b : Int))).toNat = Jvm.FP.Core.fromInt f32 (b : Int) := uN_nat (by rw [e2]; omega)
  rw [q2]
  by_cases h : t = 0
  · subst h
    rw [show (UInt32.ofNat (Jvm.FP.Core.fromInt f32 ((0 : Nat) : Int))).toNat = Jvm.FP.Core.fromInt f32 ((0 : Nat) : Int) from by decide +kernel, fl_0 h1 h3]
    exact ⟨0, rfl, Or.inl rfl⟩
  · obtain ⟨g, c, hg, -, c1, c2, -, -, e1⟩ := fl_int (t := t) (by omega) (by omega)
    have q1 : (UInt32.ofNat (Jvm.FP.Core.fromInt f32 (t : Int))).toNat = Jvm.FP.Core.fromInt f32 (t : Int) := uN_nat (by rw [e1]; omega)
    rw [q1]
    obtain ⟨n, e, n1, n2⟩ := fl_div (t := t) (b := b) (by omega) h2 h3
    rw [e]
    exact ⟨n, rfl, Or.inr ⟨n1, n2⟩⟩
theorem fl_un {n : Nat} (h1 : 8388608 ≤ n) (h2 : n < 2130706432) : ∃ E T, 1 ≤ E ∧ E ≤ 253 ∧ T < 8388608 ∧ n = E * 8388608 + T := ⟨n / 8388608, n % 8388608, by omega, by omega, by omega, by omega⟩
theorem cmp_lt {a b : Int} (h : a < b) : compare a b = .lt := by
  show compareOfLessAndEq a b = _
  unfold compareOfLessAndEq
  rw [if_pos h]
theorem cmp_gt {a b : Int} (h : b < a) : compare a b = .gt := by
  show compareOfLessAndEq a b = _
  unfold compareOfLessAndEq
  rw [if_neg (by omega), if_neg (by omega)]
theorem cmp0_gt {n : Nat} (h1 : 8388608 ≤ n) (h2 : n < 2130706432) : 0 < Jvm.Op.cmpValue (Jvm.FP.fcmp (uN n) 0) .g := by
  obtain ⟨E, T, e1, e2, e3, e4⟩ := fl_un h1 h2
  have : Jvm.FP.fcmp (uN n) 0 = some .gt := by
    show Jvm.FP.Core.order (Jvm.FP.Core.decode f32 (uN n).toNat) (Jvm.FP.Core.decode f32 0) = some .gt
    rw [uN_nat (by omega), e4, fl_dec e1 (by omega) e3, show Jvm.FP.Core.decode f32 0 = .fin false 0 (-149) from by decide +kernel]
    unfold Jvm.FP.Core.order Jvm.FP.Core.signed Jvm.FP.Core.inUnits
    dsimp only
    rw [if_neg (by decide), if_neg (by decide), Nat.zero_mul]
    have : 0 < (8388608 + T) * 2 ^ (-149 + ((E : Int) - 1) - min (-149 + ((E : Int) - 1)) (-149)).toNat := Nat.mul_pos (by omega) (Nat.two_pow_pos _)
    rw [cmp_gt (by omega)]
  rw [this]
  decide
theorem cmp1 {n : Nat} (h1 : 8388608 ≤ n) (h2 : n < 1073741824) : 0 ≤ Jvm.Op.cmpValue (Jvm.FP.fcmp (uN n) 1065353216) .g ↔ 1065353216 ≤ n := by
  obtain ⟨E, T, e1, e2, e3, e4⟩ := fl_un h1 (by omega)
  have hd : Jvm.FP.Core.decode f32 1065353216 = .fin false 8388608 (-23) := by decide +kernel
  by_cases h : 1065353216 ≤ n
  · have : Jvm.FP.fcmp (uN n) 1065353216 = some .gt ∨ Jvm.FP.fcmp (uN n) 1065353216 = some .eq := by
      show Jvm.FP.Core.order (Jvm.FP.Core.decode f32 (uN n).toNat) (Jvm.FP.Core.decode f32 1065353216) = some .gt ∨ Jvm.FP.Core.order (Jvm.FP.Core.decode f32 (uN n).toNat) (Jvm.FP.Core.decode f32 1065353216) = some .eq
      rw [uN_nat (by omega), e4, fl_dec e1 (by omega) e3, hd, show E = 127 from by omega]
      unfold Jvm.FP.Core.order Jvm.FP.Core.signed Jvm.FP.Core.inUnits
      dsimp only
      rw [if_neg (by decide), if_neg (by decide), show (-149 + (((127 : Nat) : Int) - 1)) = -23 from by decide, show ((-23 : Int) - min (-23) (-23)).toNat = 0 from by decide, Nat.pow_zero, Nat.mul_one, Nat.mul_one]
      by_cases hT : T = 0
      · subst hT
        right
        decide
      · left
        rw [cmp_gt (by omega)]
    rcases this with g | g
    · rw [g]; exact ⟨fun _ => h, fun _ => by decide⟩
    · rw [g]; exact ⟨fun _ => h, fun _ => by decide⟩
  · have : Jvm.FP.fcmp (uN n) 1065353216 = some .lt := by
      show Jvm.FP.Core.order (Jvm.FP.Core.decode f32 (uN n).toNat) (Jvm.FP.Core.decode f32 1065353216) = some .lt
      rw [uN_nat (by omega), e4, fl_dec e1 (by omega) e3, hd]
      unfold Jvm.FP.Core.order Jvm.FP.Core.signed Jvm.FP.Core.inUnits
      dsimp only
      rw [if_neg (by decide), if_neg (by decide), show min (-149 + ((E : Int) - 1)) (-23 : Int) = -149 + ((E : Int) - 1) from by omega, show (-149 + ((E : Int) - 1) - (-149 + ((E : Int) - 1))).toNat = 0 from by omega, Nat.pow_zero, Nat.mul_one]
      obtain ⟨k, hk⟩ : ∃ k, (-23 - (-149 + ((E : Int) - 1))).toNat = k + 1 := ⟨126 - E, by omega⟩
      rw [hk, Nat.pow_succ]
      have := Nat.two_pow_pos k
      rw [cmp_lt (by omega)]
    rw [this]
    exact ⟨fun q => absurd q (by decide), fun q => absurd q h⟩
theorem nan_ok {n : Nat} (h : n < 2130706432) : vf_n32 (uN n) := by
  unfold vf_n32
  rw [UInt32.le_iff_toNat_le, UInt32.toNat_and, uN_nat (by omega), show (0x7fffffff : UInt32).toNat = 2 ^ 31 - 1 from by decide, Nat.and_two_pow_sub_one_eq_mod, show (0x7f800000 : UInt32).toNat = 2139095040 from by decide]
  omega
theorem dbl {n : Nat} (h1 : 8388608 ≤ n) (h2 : n < 1073741824) : Jvm.FP.fmul (uN n) 1073741824 = uN (n + 8388608) := by
  obtain ⟨E, T, e1, e2, e3, e4⟩ := fl_un h1 (by omega)
  show UInt32.ofNat (Jvm.FP.Core.mul f32 (uN n).toNat ((127 + 1) * 8388608)) = _
  rw [uN_nat (by omega), e4, fl_mul (by decide) e1 (by omega) e3, show (E + 1) * 8388608 + T = E * 8388608 + T + 8388608 from by omega]
theorem up23 {n : Nat} (h1 : 8388608 ≤ n) (h2 : n < 1073741824) : Jvm.FP.fmul (uN n) 1258291200 = uN (n + 192937984) := by
  obtain ⟨E, T, e1, e2, e3, e4⟩ := fl_un h1 (by omega)
  show UInt32.ofNat (Jvm.FP.Core.mul f32 (uN n).toNat ((127 + 23) * 8388608)) = _
  rw [uN_nat (by omega), e4, fl_mul (by decide) e1 (by omega) e3, show (E + 23) * 8388608 + T = E * 8388608 + T + 192937984 from by omega]
theorem to_i {n : Nat} (h1 : 1258291200 ≤ n) (h2 : n < 1266679808) : Jvm.FP.f2i (uN n) = nI (n - 1249902592) := by
  obtain ⟨E, T, e1, e2, e3, e4⟩ := fl_un (n := n) (by omega) (by omega)
  show Jvm.FP.Core.toI (Jvm.FP.Core.decode f32 (uN n).toNat) = _
  rw [uN_nat (by omega), e4, fl_dec e1 (by omega) e3, show E = 150 from by omega]
  unfold Jvm.FP.Core.toI Jvm.FP.Core.toInt Jvm.FP.Core.truncate Jvm.FP.Core.signed
  dsimp only
  rw [if_neg (by decide), show (-149 + (((150 : Nat) : Int) - 1)).toNat = 0 from by decide, show (-(-149 + (((150 : Nat) : Int) - 1))).toNat = 0 from by decide, Nat.pow_zero, Nat.mul_one, Nat.div_one]
  obtain ⟨z, hz⟩ : ∃ z, z = 150 * 8388608 + T - 1249902592 := ⟨_, rfl⟩
  rw [show max (-2 ^ 31 : Int) (min (2 ^ 31 - 1) ((8388608 + T : Nat) : Int)) = (z : Int) from by omega, ← hz]
  rfl
/-- the end of the doubling -/
theorem share_end {n x e : Nat} (hx : x + e * 8388608 = n + 1065353216) (h1 : 1065353216 ≤ x) (h2 : x < 1073741824) (he : e ≤ 127) : ((nI e) <<< ((23 : Int32) &&& 31)) + (Jvm.FP.f2i (Jvm.FP.fmul (uN x) 1258291200)) - 8388608 = nI n := by
  rw [up23 (by omega) h2, to_i (by omega) (by omega)]
  have hs : (nI e) <<< ((23 : Int32) &&& 31) = nI (e * 8388608) := (show ∀ e : Fin 128, (nI e.1) <<< ((23 : Int32) &&& 31) = nI (e.1 * 8388608) from by decide +kernel) ⟨e, by omega⟩
  rw [hs, show nI (e * 8388608) + nI (x + 192937984 - 1249902592) = nI (e * 8388608 + (x + 192937984 - 1249902592)) from nI_add _ _, show (8388608 : Int32) = nI 8388608 from rfl]
  rw [show e * 8388608 + (x + 192937984 - 1249902592) = n + 8388608 from by omega]
  rw [← nI_add]
  exact Int32.add_sub_cancel _ _
theorem uN_i {n : Nat} : (uN n).toInt32 = nI n := rfl
